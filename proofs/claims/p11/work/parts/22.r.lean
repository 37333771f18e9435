theorem wd_510 : Cond.fieldLink RX10 218 "BowlShelf$Pile" "ware" "[I" ∈ WALL := wl_in (by decide +kernel) (by decide +kernel)
theorem wd_511 : Cond.code yX4_foot cX4_foot 5 (some .int) ∈ WALL := wl_in (by decide +kernel) (by decide +kernel)
theorem wd_512 : Cond.methodLink RX10 215 yX4_foot ∈ WALL := wl_in (by decide +kernel) (by decide +kernel)
theorem wd_513 : Cond.instanceMethod yX4_foot ∈ WALL := wl_in (by decide +kernel) (by decide +kernel)
theorem wd_514 : Cond.selects RX4 yX4_foot yX4_foot ∈ WALL := wl_in (by decide +kernel) (by decide +kernel)
theorem wd_515 : Cond.code yX10_price cX10_price 4 (some .int) ∈ WALL := wl_in (by decide +kernel) (by decide +kernel)
theorem wd_516 : Cond.methodLink RX10 221 yX10_price ∈ WALL := wl_in (by decide +kernel) (by decide +kernel)
theorem wd_517 : Cond.instanceMethod yX10_price ∈ WALL := wl_in (by decide +kernel) (by decide +kernel)
theorem wd_518 : Cond.selects RX10 yX10_price yX10_price ∈ WALL := wl_in (by decide +kernel) (by decide +kernel)
theorem wd_519 : Cond.fieldLink RX10 47 "BowlShelf" "order" "LBowlShelf$Order;" ∈ WALL := wl_in (by decide +kernel) (by decide +kernel)
theorem wd_520 : Cond.fieldLink RX10 224 "BowlShelf$Order" "above" "[I" ∈ WALL := wl_in (by decide +kernel) (by decide +kernel)
theorem wd_521 : Cond.code yX3_isRound cX3_isRound 2 (some .boolean) ∈ WALL := wl_in (by decide +kernel) (by decide +kernel)
theorem wd_522 : Cond.methodLink RX10 227 yX3_isRound ∈ WALL := wl_in (by decide +kernel) (by decide +kernel)
theorem wd_523 : Cond.instanceMethod yX3_isRound ∈ WALL := wl_in (by decide +kernel) (by decide +kernel)
theorem wd_524 : Cond.selects RX3 yX3_isRound yX3_isRound ∈ WALL := wl_in (by decide +kernel) (by decide +kernel)
theorem wd_525 : Cond.code yX3_settle cX3_settle 1 none ∈ WALL := wl_in (by decide +kernel) (by decide +kernel)
theorem wd_526 : Cond.methodLink RX10 231 yX3_settle ∈ WALL := wl_in (by decide +kernel) (by decide +kernel)
theorem wd_527 : Cond.instanceMethod yX3_settle ∈ WALL := wl_in (by decide +kernel) (by decide +kernel)
theorem wd_528 : Cond.selects RX3 yX3_settle yX3_settle ∈ WALL := wl_in (by decide +kernel) (by decide +kernel)
theorem wd_529 : Cond.fieldLink RX10 234 "BowlShelf$Order" "fewest" "I" ∈ WALL := wl_in (by decide +kernel) (by decide +kernel)
theorem wd_530 : Cond.fieldLink RX10 237 "BowlShelf$Order" "apart" "I" ∈ WALL := wl_in (by decide +kernel) (by decide +kernel)
theorem wd_531 : Cond.fieldLink RX10 240 "BowlShelf$Order" "row" "[I" ∈ WALL := wl_in (by decide +kernel) (by decide +kernel)
theorem wd_532 : Cond.fieldLink RX10 281 "BowlShelf$Standing" "askings" "I" ∈ WALL := wl_in (by decide +kernel) (by decide +kernel)
theorem wd_533 : Cond.fieldLink RX10 284 "BowlShelf$Standing" "asking" "[I" ∈ WALL := wl_in (by decide +kernel) (by decide +kernel)
theorem wd_534 : Cond.fieldLink RX10 246 "BowlShelf$Told" "wares" "I" ∈ WALL := wl_in (by decide +kernel) (by decide +kernel)
theorem wd_535 : Cond.fieldLink RX10 266 "BowlShelf$Told" "shelves" "I" ∈ WALL := wl_in (by decide +kernel) (by decide +kernel)
theorem wd_536 : Cond.fieldLink RX10 322 "BowlShelf$Told" "nests" "I" ∈ WALL := wl_in (by decide +kernel) (by decide +kernel)
theorem wd_537 : Cond.code yX7_outOf cX7_outOf 4 (some .int) ∈ WALL := wl_in (by decide +kernel) (by decide +kernel)
theorem wd_538 : Cond.methodLink RX10 325 yX7_outOf ∈ WALL := wl_in (by decide +kernel) (by decide +kernel)
theorem wd_539 : Cond.instanceMethod yX7_outOf ∈ WALL := wl_in (by decide +kernel) (by decide +kernel)
theorem wd_540 : Cond.selects RX7 yX7_outOf yX7_outOf ∈ WALL := wl_in (by decide +kernel) (by decide +kernel)
theorem wd_541 : Cond.fieldLink RX10 10 "BowlShelf" "reader" "LBowlShelf$Reader;" ∈ WALL := wl_in (by decide +kernel) (by decide +kernel)
theorem wd_542 : Cond.fieldLink RX10 76 "BowlShelf$Reader" "tape" "LBowlShelf$Tape;" ∈ WALL := wl_in (by decide +kernel) (by decide +kernel)
theorem wd_543 : Cond.fieldLink RX10 80 "BowlShelf$Tape" "length" "I" ∈ WALL := wl_in (by decide +kernel) (by decide +kernel)
theorem dX10_at_0 : decode cX10_at 0 = .ok (.aload_n 0, 1) := by decide +kernel
theorem dX10_at_1 : decode cX10_at 1 = .ok (.iload_n 1, 1) := by decide +kernel
theorem dX10_at_2 : decode cX10_at 2 = .ok (.iload_n 2, 1) := by decide +kernel
theorem dX10_at_3 : decode cX10_at 3 = .ok (.invokevirtual 198, 3) := by decide +kernel
theorem dX10_at_6 : decode cX10_at 6 = .ok (.ifCond .ne 5, 3) := by decide +kernel
theorem dX10_at_9 : decode cX10_at 9 = .ok (.iconst (-1), 1) := by decide +kernel
theorem dX10_at_10 : decode cX10_at 10 = .ok (.ireturn, 1) := by decide +kernel
theorem dX10_at_11 : decode cX10_at 11 = .ok (.aload_n 0, 1) := by decide +kernel
theorem dX10_at_12 : decode cX10_at 12 = .ok (.getfield 40, 3) := by decide +kernel
theorem dX10_at_15 : decode cX10_at 15 = .ok (.aload_n 0, 1) := by decide +kernel
theorem dX10_at_16 : decode cX10_at 16 = .ok (.getfield 26, 3) := by decide +kernel
theorem dX10_at_19 : decode cX10_at 19 = .ok (.iload_n 1, 1) := by decide +kernel
theorem dX10_at_20 : decode cX10_at 20 = .ok (.iload_n 2, 1) := by decide +kernel
theorem dX10_at_21 : decode cX10_at 21 = .ok (.invokevirtual 173, 3) := by decide +kernel
theorem dX10_at_24 : decode cX10_at 24 = .ok (.iload_n 3, 1) := by decide +kernel
theorem dX10_at_25 : decode cX10_at 25 = .ok (.ifCond .lt 26, 3) := by decide +kernel
theorem dX10_at_28 : decode cX10_at 28 = .ok (.iload_n 3, 1) := by decide +kernel
theorem dX10_at_29 : decode cX10_at 29 = .ok (.aload_n 0, 1) := by decide +kernel
theorem dX10_at_30 : decode cX10_at 30 = .ok (.getfield 40, 3) := by decide +kernel
theorem dX10_at_33 : decode cX10_at 33 = .ok (.getfield 209, 3) := by decide +kernel
theorem dX10_at_36 : decode cX10_at 36 = .ok (.if_icmp .ge 15, 3) := by decide +kernel
theorem dX10_at_39 : decode cX10_at 39 = .ok (.aload_n 0, 1) := by decide +kernel
theorem dX10_at_40 : decode cX10_at 40 = .ok (.getfield 40, 3) := by decide +kernel
theorem dX10_at_43 : decode cX10_at 43 = .ok (.getfield 218, 3) := by decide +kernel
theorem dX10_at_46 : decode cX10_at 46 = .ok (.iload_n 3, 1) := by decide +kernel
theorem dX10_at_47 : decode cX10_at 47 = .ok (.iaload, 1) := by decide +kernel
theorem dX10_at_48 : decode cX10_at 48 = .ok (.goto 4, 3) := by decide +kernel
theorem dX10_at_51 : decode cX10_at 51 = .ok (.iconst (-1), 1) := by decide +kernel
theorem dX10_at_52 : decode cX10_at 52 = .ok (.ireturn, 1) := by decide +kernel
theorem dX10_stack_0 : decode cX10_stack 0 = .ok (.aload_n 0, 1) := by decide +kernel
theorem dX10_stack_1 : decode cX10_stack 1 = .ok (.iload_n 1, 1) := by decide +kernel
theorem dX10_stack_2 : decode cX10_stack 2 = .ok (.iload_n 2, 1) := by decide +kernel
theorem dX10_stack_3 : decode cX10_stack 3 = .ok (.invokevirtual 198, 3) := by decide +kernel
theorem dX10_stack_6 : decode cX10_stack 6 = .ok (.ifCond .ne 5, 3) := by decide +kernel
theorem dX10_stack_9 : decode cX10_stack 9 = .ok (.iconst (-1), 1) := by decide +kernel
theorem dX10_stack_10 : decode cX10_stack 10 = .ok (.ireturn, 1) := by decide +kernel
theorem dX10_stack_11 : decode cX10_stack 11 = .ok (.aload_n 0, 1) := by decide +kernel
theorem dX10_stack_12 : decode cX10_stack 12 = .ok (.getfield 40, 3) := by decide +kernel
theorem dX10_stack_15 : decode cX10_stack 15 = .ok (.aload_n 0, 1) := by decide +kernel
theorem dX10_stack_16 : decode cX10_stack 16 = .ok (.getfield 26, 3) := by decide +kernel
theorem dX10_stack_19 : decode cX10_stack 19 = .ok (.iload_n 1, 1) := by decide +kernel
theorem dX10_stack_20 : decode cX10_stack 20 = .ok (.iload_n 2, 1) := by decide +kernel
theorem dX10_stack_21 : decode cX10_stack 21 = .ok (.invokevirtual 173, 3) := by decide +kernel
theorem dX10_stack_24 : decode cX10_stack 24 = .ok (.iload_n 3, 1) := by decide +kernel
theorem dX10_stack_25 : decode cX10_stack 25 = .ok (.tableswitch 60 0 2 #[27, 35, 47], 27) := by decide +kernel
theorem dX10_stack_52 : decode cX10_stack 52 = .ok (.aload_n 0, 1) := by decide +kernel
theorem dX10_stack_53 : decode cX10_stack 53 = .ok (.getfield 40, 3) := by decide +kernel
theorem dX10_stack_56 : decode cX10_stack 56 = .ok (.getfield 209, 3) := by decide +kernel
theorem dX10_stack_59 : decode cX10_stack 59 = .ok (.ireturn, 1) := by decide +kernel
theorem dX10_stack_60 : decode cX10_stack 60 = .ok (.aload_n 0, 1) := by decide +kernel
theorem dX10_stack_61 : decode cX10_stack 61 = .ok (.getfield 40, 3) := by decide +kernel
theorem dX10_stack_64 : decode cX10_stack 64 = .ok (.aload_n 0, 1) := by decide +kernel
theorem dX10_stack_65 : decode cX10_stack 65 = .ok (.getfield 19, 3) := by decide +kernel
theorem dX10_stack_68 : decode cX10_stack 68 = .ok (.invokevirtual 202, 3) := by decide +kernel
theorem dX10_stack_71 : decode cX10_stack 71 = .ok (.ireturn, 1) := by decide +kernel
theorem dX10_stack_72 : decode cX10_stack 72 = .ok (.aload_n 0, 1) := by decide +kernel
theorem dX10_stack_73 : decode cX10_stack 73 = .ok (.getfield 40, 3) := by decide +kernel
theorem dX10_stack_76 : decode cX10_stack 76 = .ok (.aload_n 0, 1) := by decide +kernel
theorem dX10_stack_77 : decode cX10_stack 77 = .ok (.getfield 19, 3) := by decide +kernel
theorem dX10_stack_80 : decode cX10_stack 80 = .ok (.iconst 0, 1) := by decide +kernel
theorem dX10_stack_81 : decode cX10_stack 81 = .ok (.invokevirtual 206, 3) := by decide +kernel
theorem dX10_stack_84 : decode cX10_stack 84 = .ok (.ireturn, 1) := by decide +kernel
theorem dX10_stack_85 : decode cX10_stack 85 = .ok (.iconst (-1), 1) := by decide +kernel
theorem dX10_stack_86 : decode cX10_stack 86 = .ok (.ireturn, 1) := by decide +kernel
theorem dX10_where_0 : decode cX10_where 0 = .ok (.aload_n 0, 1) := by decide +kernel
theorem dX10_where_1 : decode cX10_where 1 = .ok (.getfield 19, 3) := by decide +kernel
theorem dX10_where_4 : decode cX10_where 4 = .ok (.iload_n 1, 1) := by decide +kernel
theorem dX10_where_5 : decode cX10_where 5 = .ok (.invokevirtual 112, 3) := by decide +kernel
theorem dX10_where_8 : decode cX10_where 8 = .ok (.ifCond .eq 14, 3) := by decide +kernel
theorem dX10_where_11 : decode cX10_where 11 = .ok (.aload_n 0, 1) := by decide +kernel
theorem dX10_where_12 : decode cX10_where 12 = .ok (.getfield 26, 3) := by decide +kernel
theorem dX10_where_15 : decode cX10_where 15 = .ok (.iload_n 1, 1) := by decide +kernel
theorem dX10_where_16 : decode cX10_where 16 = .ok (.invokevirtual 160, 3) := by decide +kernel
theorem dX10_where_19 : decode cX10_where 19 = .ok (.ifCond .eq 5, 3) := by decide +kernel
theorem dX10_where_22 : decode cX10_where 22 = .ok (.iconst (-1), 1) := by decide +kernel
theorem dX10_where_23 : decode cX10_where 23 = .ok (.ireturn, 1) := by decide +kernel
theorem dX10_where_24 : decode cX10_where 24 = .ok (.aload_n 0, 1) := by decide +kernel
theorem dX10_where_25 : decode cX10_where 25 = .ok (.getfield 26, 3) := by decide +kernel
theorem dX10_where_28 : decode cX10_where 28 = .ok (.getfield 187, 3) := by decide +kernel
theorem dX10_where_31 : decode cX10_where 31 = .ok (.iload_n 1, 1) := by decide +kernel
theorem dX10_where_32 : decode cX10_where 32 = .ok (.iaload, 1) := by decide +kernel
theorem dX10_where_33 : decode cX10_where 33 = .ok (.istore_n 3, 1) := by decide +kernel
theorem dX10_where_34 : decode cX10_where 34 = .ok (.aload_n 0, 1) := by decide +kernel
theorem dX10_where_35 : decode cX10_where 35 = .ok (.getfield 40, 3) := by decide +kernel
theorem dX10_where_38 : decode cX10_where 38 = .ok (.aload_n 0, 1) := by decide +kernel
theorem dX10_where_39 : decode cX10_where 39 = .ok (.getfield 26, 3) := by decide +kernel
theorem dX10_where_42 : decode cX10_where 42 = .ok (.aload_n 0, 1) := by decide +kernel
theorem dX10_where_43 : decode cX10_where 43 = .ok (.getfield 26, 3) := by decide +kernel
theorem dX10_where_46 : decode cX10_where 46 = .ok (.getfield 181, 3) := by decide +kernel
theorem dX10_where_49 : decode cX10_where 49 = .ok (.iload_n 1, 1) := by decide +kernel
theorem dX10_where_50 : decode cX10_where 50 = .ok (.iaload, 1) := by decide +kernel
theorem dX10_where_51 : decode cX10_where 51 = .ok (.aload_n 0, 1) := by decide +kernel
theorem dX10_where_52 : decode cX10_where 52 = .ok (.getfield 26, 3) := by decide +kernel
theorem dX10_where_55 : decode cX10_where 55 = .ok (.getfield 184, 3) := by decide +kernel
theorem dX10_where_58 : decode cX10_where 58 = .ok (.iload_n 1, 1) := by decide +kernel
theorem dX10_where_59 : decode cX10_where 59 = .ok (.iaload, 1) := by decide +kernel
theorem dX10_where_60 : decode cX10_where 60 = .ok (.invokevirtual 173, 3) := by decide +kernel
theorem dX10_where_63 : decode cX10_where 63 = .ok (.iload_n 2, 1) := by decide +kernel
theorem dX10_where_64 : decode cX10_where 64 = .ok (.tableswitch 83 0 4 #[36, 46, 56, 58, 70], 36) := by decide +kernel
theorem dX10_where_100 : decode cX10_where 100 = .ok (.aload_n 0, 1) := by decide +kernel
theorem dX10_where_101 : decode cX10_where 101 = .ok (.getfield 26, 3) := by decide +kernel
theorem dX10_where_104 : decode cX10_where 104 = .ok (.getfield 181, 3) := by decide +kernel
theorem dX10_where_107 : decode cX10_where 107 = .ok (.iload_n 1, 1) := by decide +kernel
theorem dX10_where_108 : decode cX10_where 108 = .ok (.iaload, 1) := by decide +kernel
theorem dX10_where_109 : decode cX10_where 109 = .ok (.ireturn, 1) := by decide +kernel
theorem dX10_where_110 : decode cX10_where 110 = .ok (.aload_n 0, 1) := by decide +kernel
theorem dX10_where_111 : decode cX10_where 111 = .ok (.getfield 26, 3) := by decide +kernel
theorem dX10_where_114 : decode cX10_where 114 = .ok (.getfield 184, 3) := by decide +kernel
theorem dX10_where_117 : decode cX10_where 117 = .ok (.iload_n 1, 1) := by decide +kernel
theorem dX10_where_118 : decode cX10_where 118 = .ok (.iaload, 1) := by decide +kernel
theorem dX10_where_119 : decode cX10_where 119 = .ok (.ireturn, 1) := by decide +kernel
theorem dX10_where_120 : decode cX10_where 120 = .ok (.iload_n 3, 1) := by decide +kernel
theorem dX10_where_121 : decode cX10_where 121 = .ok (.ireturn, 1) := by decide +kernel
theorem dX10_where_122 : decode cX10_where 122 = .ok (.aload_n 0, 1) := by decide +kernel
theorem dX10_where_123 : decode cX10_where 123 = .ok (.getfield 40, 3) := by decide +kernel
theorem dX10_where_126 : decode cX10_where 126 = .ok (.getfield 209, 3) := by decide +kernel
theorem dX10_where_129 : decode cX10_where 129 = .ok (.iconst 1, 1) := by decide +kernel
theorem dX10_where_130 : decode cX10_where 130 = .ok (.isub, 1) := by decide +kernel
theorem dX10_where_131 : decode cX10_where 131 = .ok (.iload_n 3, 1) := by decide +kernel
theorem dX10_where_132 : decode cX10_where 132 = .ok (.isub, 1) := by decide +kernel
theorem dX10_where_133 : decode cX10_where 133 = .ok (.ireturn, 1) := by decide +kernel
theorem dX10_where_134 : decode cX10_where 134 = .ok (.aload_n 0, 1) := by decide +kernel
theorem dX10_where_135 : decode cX10_where 135 = .ok (.getfield 40, 3) := by decide +kernel
theorem dX10_where_138 : decode cX10_where 138 = .ok (.aload_n 0, 1) := by decide +kernel
theorem dX10_where_139 : decode cX10_where 139 = .ok (.getfield 19, 3) := by decide +kernel
theorem dX10_where_142 : decode cX10_where 142 = .ok (.iload_n 3, 1) := by decide +kernel
theorem dX10_where_143 : decode cX10_where 143 = .ok (.invokevirtual 215, 3) := by decide +kernel
theorem dX10_where_146 : decode cX10_where 146 = .ok (.ireturn, 1) := by decide +kernel
theorem dX10_where_147 : decode cX10_where 147 = .ok (.iconst (-1), 1) := by decide +kernel
theorem dX10_where_148 : decode cX10_where 148 = .ok (.ireturn, 1) := by decide +kernel
theorem dX10_lift_0 : decode cX10_lift 0 = .ok (.aload_n 0, 1) := by decide +kernel
theorem dX10_lift_1 : decode cX10_lift 1 = .ok (.getfield 19, 3) := by decide +kernel
theorem dX10_lift_4 : decode cX10_lift 4 = .ok (.iload_n 1, 1) := by decide +kernel
theorem dX10_lift_5 : decode cX10_lift 5 = .ok (.invokevirtual 112, 3) := by decide +kernel
theorem dX10_lift_8 : decode cX10_lift 8 = .ok (.ifCond .eq 26, 3) := by decide +kernel
theorem dX10_lift_11 : decode cX10_lift 11 = .ok (.aload_n 0, 1) := by decide +kernel
theorem dX10_lift_12 : decode cX10_lift 12 = .ok (.getfield 26, 3) := by decide +kernel
theorem dX10_lift_15 : decode cX10_lift 15 = .ok (.iload_n 1, 1) := by decide +kernel
theorem dX10_lift_16 : decode cX10_lift 16 = .ok (.invokevirtual 160, 3) := by decide +kernel
theorem dX10_lift_19 : decode cX10_lift 19 = .ok (.ifCond .ne 15, 3) := by decide +kernel
theorem dX10_lift_22 : decode cX10_lift 22 = .ok (.aload_n 0, 1) := by decide +kernel
theorem dX10_lift_23 : decode cX10_lift 23 = .ok (.aload_n 0, 1) := by decide +kernel
theorem dX10_lift_24 : decode cX10_lift 24 = .ok (.getfield 26, 3) := by decide +kernel
theorem dX10_lift_27 : decode cX10_lift 27 = .ok (.iload_n 1, 1) := by decide +kernel
theorem dX10_lift_28 : decode cX10_lift 28 = .ok (.invokevirtual 221, 3) := by decide +kernel
theorem dX10_lift_31 : decode cX10_lift 31 = .ok (.goto 4, 3) := by decide +kernel
theorem dX10_lift_34 : decode cX10_lift 34 = .ok (.iconst (-1), 1) := by decide +kernel
theorem dX10_lift_35 : decode cX10_lift 35 = .ok (.ireturn, 1) := by decide +kernel
theorem dX10_cost_0 : decode cX10_cost 0 = .ok (.aload_n 0, 1) := by decide +kernel
theorem dX10_cost_1 : decode cX10_cost 1 = .ok (.getfield 26, 3) := by decide +kernel
theorem dX10_cost_4 : decode cX10_cost 4 = .ok (.getfield 167, 3) := by decide +kernel
theorem dX10_cost_7 : decode cX10_cost 7 = .ok (.ireturn, 1) := by decide +kernel
theorem dX10_through_0 : decode cX10_through 0 = .ok (.aload_n 0, 1) := by decide +kernel
theorem dX10_through_1 : decode cX10_through 1 = .ok (.getfield 19, 3) := by decide +kernel
theorem dX10_through_4 : decode cX10_through 4 = .ok (.iload_n 1, 1) := by decide +kernel
theorem dX10_through_5 : decode cX10_through 5 = .ok (.invokevirtual 112, 3) := by decide +kernel
theorem dX10_through_8 : decode cX10_through 8 = .ok (.ifCond .eq 14, 3) := by decide +kernel
theorem dX10_through_11 : decode cX10_through 11 = .ok (.aload_n 0, 1) := by decide +kernel
theorem dX10_through_12 : decode cX10_through 12 = .ok (.getfield 19, 3) := by decide +kernel
theorem dX10_through_15 : decode cX10_through 15 = .ok (.iload_n 2, 1) := by decide +kernel
theorem dX10_through_16 : decode cX10_through 16 = .ok (.invokevirtual 112, 3) := by decide +kernel
theorem dX10_through_19 : decode cX10_through 19 = .ok (.ifCond .ne 5, 3) := by decide +kernel
theorem dX10_through_22 : decode cX10_through 22 = .ok (.iconst (-1), 1) := by decide +kernel
theorem dX10_through_23 : decode cX10_through 23 = .ok (.ireturn, 1) := by decide +kernel
theorem dX10_through_24 : decode cX10_through 24 = .ok (.aload_n 0, 1) := by decide +kernel
theorem dX10_through_25 : decode cX10_through 25 = .ok (.getfield 47, 3) := by decide +kernel
theorem dX10_through_28 : decode cX10_through 28 = .ok (.getfield 224, 3) := by decide +kernel
theorem dX10_through_31 : decode cX10_through 31 = .ok (.iload_n 2, 1) := by decide +kernel
theorem dX10_through_32 : decode cX10_through 32 = .ok (.iaload, 1) := by decide +kernel
theorem dX10_through_33 : decode cX10_through 33 = .ok (.iload_n 1, 1) := by decide +kernel
theorem dX10_through_34 : decode cX10_through 34 = .ok (.iushr, 1) := by decide +kernel
theorem dX10_through_35 : decode cX10_through 35 = .ok (.iconst 1, 1) := by decide +kernel
theorem dX10_through_36 : decode cX10_through 36 = .ok (.iand, 1) := by decide +kernel
theorem dX10_through_37 : decode cX10_through 37 = .ok (.ireturn, 1) := by decide +kernel
theorem dX10_rows_0 : decode cX10_rows 0 = .ok (.aload_n 0, 1) := by decide +kernel
theorem dX10_rows_1 : decode cX10_rows 1 = .ok (.getfield 47, 3) := by decide +kernel
theorem dX10_rows_4 : decode cX10_rows 4 = .ok (.invokevirtual 227, 3) := by decide +kernel
theorem dX10_rows_7 : decode cX10_rows 7 = .ok (.ifCond .eq 5, 3) := by decide +kernel
theorem dX10_rows_10 : decode cX10_rows 10 = .ok (.iconst (-1), 1) := by decide +kernel
theorem dX10_rows_11 : decode cX10_rows 11 = .ok (.ireturn, 1) := by decide +kernel
theorem dX10_rows_12 : decode cX10_rows 12 = .ok (.aload_n 0, 1) := by decide +kernel
theorem dX10_rows_13 : decode cX10_rows 13 = .ok (.getfield 47, 3) := by decide +kernel
theorem dX10_rows_16 : decode cX10_rows 16 = .ok (.invokevirtual 231, 3) := by decide +kernel
theorem dX10_rows_19 : decode cX10_rows 19 = .ok (.iload_n 1, 1) := by decide +kernel
theorem dX10_rows_20 : decode cX10_rows 20 = .ok (.lookupswitch 44 #[(0, 28), (1, 36)], 28) := by decide +kernel
theorem dX10_rows_48 : decode cX10_rows 48 = .ok (.aload_n 0, 1) := by decide +kernel
theorem dX10_rows_49 : decode cX10_rows 49 = .ok (.getfield 47, 3) := by decide +kernel
theorem dX10_rows_52 : decode cX10_rows 52 = .ok (.getfield 234, 3) := by decide +kernel
theorem dX10_rows_55 : decode cX10_rows 55 = .ok (.ireturn, 1) := by decide +kernel
theorem dX10_rows_56 : decode cX10_rows 56 = .ok (.aload_n 0, 1) := by decide +kernel
theorem dX10_rows_57 : decode cX10_rows 57 = .ok (.getfield 47, 3) := by decide +kernel
theorem dX10_rows_60 : decode cX10_rows 60 = .ok (.getfield 237, 3) := by decide +kernel
theorem dX10_rows_63 : decode cX10_rows 63 = .ok (.ireturn, 1) := by decide +kernel
theorem dX10_rows_64 : decode cX10_rows 64 = .ok (.iconst (-1), 1) := by decide +kernel
theorem dX10_rows_65 : decode cX10_rows 65 = .ok (.ireturn, 1) := by decide +kernel
theorem dX10_rowOf_0 : decode cX10_rowOf 0 = .ok (.aload_n 0, 1) := by decide +kernel
theorem dX10_rowOf_1 : decode cX10_rowOf 1 = .ok (.getfield 19, 3) := by decide +kernel
theorem dX10_rowOf_4 : decode cX10_rowOf 4 = .ok (.iload_n 1, 1) := by decide +kernel
theorem dX10_rowOf_5 : decode cX10_rowOf 5 = .ok (.invokevirtual 112, 3) := by decide +kernel
theorem dX10_rowOf_8 : decode cX10_rowOf 8 = .ok (.ifCond .eq 13, 3) := by decide +kernel
theorem dX10_rowOf_11 : decode cX10_rowOf 11 = .ok (.aload_n 0, 1) := by decide +kernel
theorem dX10_rowOf_12 : decode cX10_rowOf 12 = .ok (.getfield 47, 3) := by decide +kernel
theorem dX10_rowOf_15 : decode cX10_rowOf 15 = .ok (.invokevirtual 227, 3) := by decide +kernel
theorem dX10_rowOf_18 : decode cX10_rowOf 18 = .ok (.ifCond .eq 5, 3) := by decide +kernel
theorem dX10_rowOf_21 : decode cX10_rowOf 21 = .ok (.iconst (-1), 1) := by decide +kernel
theorem dX10_rowOf_22 : decode cX10_rowOf 22 = .ok (.ireturn, 1) := by decide +kernel
theorem dX10_rowOf_23 : decode cX10_rowOf 23 = .ok (.aload_n 0, 1) := by decide +kernel
theorem dX10_rowOf_24 : decode cX10_rowOf 24 = .ok (.getfield 47, 3) := by decide +kernel
theorem dX10_rowOf_27 : decode cX10_rowOf 27 = .ok (.invokevirtual 231, 3) := by decide +kernel
theorem dX10_rowOf_30 : decode cX10_rowOf 30 = .ok (.aload_n 0, 1) := by decide +kernel
theorem dX10_rowOf_31 : decode cX10_rowOf 31 = .ok (.getfield 47, 3) := by decide +kernel
theorem dX10_rowOf_34 : decode cX10_rowOf 34 = .ok (.getfield 240, 3) := by decide +kernel
theorem dX10_rowOf_37 : decode cX10_rowOf 37 = .ok (.iload_n 1, 1) := by decide +kernel
theorem dX10_rowOf_38 : decode cX10_rowOf 38 = .ok (.iaload, 1) := by decide +kernel
theorem dX10_rowOf_39 : decode cX10_rowOf 39 = .ok (.ireturn, 1) := by decide +kernel
theorem dX10_ask_0 : decode cX10_ask 0 = .ok (.aload_n 0, 1) := by decide +kernel
theorem dX10_ask_1 : decode cX10_ask 1 = .ok (.getfield 19, 3) := by decide +kernel
theorem dX10_ask_4 : decode cX10_ask 4 = .ok (.iload_n 1, 1) := by decide +kernel
theorem dX10_ask_5 : decode cX10_ask 5 = .ok (.invokevirtual 112, 3) := by decide +kernel
theorem dX10_ask_8 : decode cX10_ask 8 = .ok (.ifCond .eq 15, 3) := by decide +kernel
theorem dX10_ask_11 : decode cX10_ask 11 = .ok (.aload_n 0, 1) := by decide +kernel
theorem dX10_ask_12 : decode cX10_ask 12 = .ok (.getfield 26, 3) := by decide +kernel
theorem dX10_ask_15 : decode cX10_ask 15 = .ok (.getfield 281, 3) := by decide +kernel
theorem dX10_ask_18 : decode cX10_ask 18 = .ok (.bipush 30, 2) := by decide +kernel
theorem dX10_ask_20 : decode cX10_ask 20 = .ok (.if_icmp .lt 5, 3) := by decide +kernel
theorem dX10_ask_23 : decode cX10_ask 23 = .ok (.iconst (-1), 1) := by decide +kernel
theorem dX10_ask_24 : decode cX10_ask 24 = .ok (.ireturn, 1) := by decide +kernel
theorem dX10_ask_25 : decode cX10_ask 25 = .ok (.aload_n 0, 1) := by decide +kernel
theorem dX10_ask_26 : decode cX10_ask 26 = .ok (.getfield 26, 3) := by decide +kernel
theorem dX10_ask_29 : decode cX10_ask 29 = .ok (.getfield 284, 3) := by decide +kernel
theorem dX10_ask_32 : decode cX10_ask 32 = .ok (.aload_n 0, 1) := by decide +kernel
theorem dX10_ask_33 : decode cX10_ask 33 = .ok (.getfield 26, 3) := by decide +kernel
theorem dX10_ask_36 : decode cX10_ask 36 = .ok (.getfield 281, 3) := by decide +kernel
theorem dX10_ask_39 : decode cX10_ask 39 = .ok (.iload_n 1, 1) := by decide +kernel
theorem dX10_ask_40 : decode cX10_ask 40 = .ok (.iastore, 1) := by decide +kernel
theorem dX10_ask_41 : decode cX10_ask 41 = .ok (.aload_n 0, 1) := by decide +kernel
theorem dX10_ask_42 : decode cX10_ask 42 = .ok (.getfield 26, 3) := by decide +kernel
theorem dX10_ask_45 : decode cX10_ask 45 = .ok (.dup, 1) := by decide +kernel
theorem dX10_ask_46 : decode cX10_ask 46 = .ok (.getfield 281, 3) := by decide +kernel
theorem dX10_ask_49 : decode cX10_ask 49 = .ok (.iconst 1, 1) := by decide +kernel
theorem dX10_ask_50 : decode cX10_ask 50 = .ok (.iadd, 1) := by decide +kernel
theorem dX10_ask_51 : decode cX10_ask 51 = .ok (.putfield 281, 3) := by decide +kernel
theorem dX10_ask_54 : decode cX10_ask 54 = .ok (.aload_n 0, 1) := by decide +kernel
theorem dX10_ask_55 : decode cX10_ask 55 = .ok (.getfield 26, 3) := by decide +kernel
theorem dX10_ask_58 : decode cX10_ask 58 = .ok (.getfield 281, 3) := by decide +kernel
theorem dX10_ask_61 : decode cX10_ask 61 = .ok (.ireturn, 1) := by decide +kernel
theorem dX10_clear_0 : decode cX10_clear 0 = .ok (.aload_n 0, 1) := by decide +kernel
theorem dX10_clear_1 : decode cX10_clear 1 = .ok (.getfield 26, 3) := by decide +kernel
theorem dX10_clear_4 : decode cX10_clear 4 = .ok (.iconst 0, 1) := by decide +kernel
theorem dX10_clear_5 : decode cX10_clear 5 = .ok (.putfield 281, 3) := by decide +kernel
theorem dX10_clear_8 : decode cX10_clear 8 = .ok (.iconst 1, 1) := by decide +kernel
theorem dX10_clear_9 : decode cX10_clear 9 = .ok (.ireturn, 1) := by decide +kernel
theorem dX10_asked_0 : decode cX10_asked 0 = .ok (.iconst 0, 1) := by decide +kernel
theorem dX10_asked_1 : decode cX10_asked 1 = .ok (.istore_n 1, 1) := by decide +kernel
theorem dX10_asked_2 : decode cX10_asked 2 = .ok (.iconst 0, 1) := by decide +kernel
theorem dX10_asked_3 : decode cX10_asked 3 = .ok (.istore_n 2, 1) := by decide +kernel
theorem dX10_asked_4 : decode cX10_asked 4 = .ok (.iload_n 2, 1) := by decide +kernel
theorem dX10_asked_5 : decode cX10_asked 5 = .ok (.aload_n 0, 1) := by decide +kernel
theorem dX10_asked_6 : decode cX10_asked 6 = .ok (.getfield 26, 3) := by decide +kernel
theorem dX10_asked_9 : decode cX10_asked 9 = .ok (.getfield 281, 3) := by decide +kernel
theorem dX10_asked_12 : decode cX10_asked 12 = .ok (.if_icmp .ge 42, 3) := by decide +kernel
theorem dX10_asked_15 : decode cX10_asked 15 = .ok (.aload_n 0, 1) := by decide +kernel
theorem dX10_asked_16 : decode cX10_asked 16 = .ok (.getfield 26, 3) := by decide +kernel
theorem dX10_asked_19 : decode cX10_asked 19 = .ok (.getfield 284, 3) := by decide +kernel
theorem dX10_asked_22 : decode cX10_asked 22 = .ok (.iload_n 2, 1) := by decide +kernel
theorem dX10_asked_23 : decode cX10_asked 23 = .ok (.iaload, 1) := by decide +kernel
theorem dX10_asked_24 : decode cX10_asked 24 = .ok (.istore_n 3, 1) := by decide +kernel
theorem dX10_asked_25 : decode cX10_asked 25 = .ok (.aload_n 0, 1) := by decide +kernel
theorem dX10_asked_26 : decode cX10_asked 26 = .ok (.getfield 26, 3) := by decide +kernel
theorem dX10_asked_29 : decode cX10_asked 29 = .ok (.iload_n 3, 1) := by decide +kernel
theorem dX10_asked_30 : decode cX10_asked 30 = .ok (.invokevirtual 160, 3) := by decide +kernel
theorem dX10_asked_33 : decode cX10_asked 33 = .ok (.ifCond .ne 15, 3) := by decide +kernel
theorem dX10_asked_36 : decode cX10_asked 36 = .ok (.iload_n 1, 1) := by decide +kernel
theorem dX10_asked_37 : decode cX10_asked 37 = .ok (.aload_n 0, 1) := by decide +kernel
theorem dX10_asked_38 : decode cX10_asked 38 = .ok (.aload_n 0, 1) := by decide +kernel
theorem dX10_asked_39 : decode cX10_asked 39 = .ok (.getfield 26, 3) := by decide +kernel
theorem dX10_asked_42 : decode cX10_asked 42 = .ok (.iload_n 3, 1) := by decide +kernel
theorem dX10_asked_43 : decode cX10_asked 43 = .ok (.invokevirtual 221, 3) := by decide +kernel
theorem dX10_asked_46 : decode cX10_asked 46 = .ok (.iadd, 1) := by decide +kernel
theorem dX10_asked_47 : decode cX10_asked 47 = .ok (.istore_n 1, 1) := by decide +kernel
theorem dX10_asked_48 : decode cX10_asked 48 = .ok (.iinc 2 1, 3) := by decide +kernel
theorem dX10_asked_51 : decode cX10_asked 51 = .ok (.goto (-47), 3) := by decide +kernel
theorem dX10_asked_54 : decode cX10_asked 54 = .ok (.iload_n 1, 1) := by decide +kernel
theorem dX10_asked_55 : decode cX10_asked 55 = .ok (.ireturn, 1) := by decide +kernel
theorem dX10_count_0 : decode cX10_count 0 = .ok (.iload_n 1, 1) := by decide +kernel
theorem dX10_count_1 : decode cX10_count 1 = .ok (.tableswitch 97 0 5 #[39, 47, 55, 63, 78, 86], 39) := by decide +kernel
theorem dX10_count_40 : decode cX10_count 40 = .ok (.aload_n 0, 1) := by decide +kernel
theorem dX10_count_41 : decode cX10_count 41 = .ok (.getfield 19, 3) := by decide +kernel
theorem dX10_count_44 : decode cX10_count 44 = .ok (.getfield 246, 3) := by decide +kernel
theorem dX10_count_47 : decode cX10_count 47 = .ok (.ireturn, 1) := by decide +kernel
theorem dX10_count_48 : decode cX10_count 48 = .ok (.aload_n 0, 1) := by decide +kernel
theorem dX10_count_49 : decode cX10_count 49 = .ok (.getfield 19, 3) := by decide +kernel
theorem dX10_count_52 : decode cX10_count 52 = .ok (.getfield 266, 3) := by decide +kernel
theorem dX10_count_55 : decode cX10_count 55 = .ok (.ireturn, 1) := by decide +kernel
theorem dX10_count_56 : decode cX10_count 56 = .ok (.aload_n 0, 1) := by decide +kernel
theorem dX10_count_57 : decode cX10_count 57 = .ok (.getfield 19, 3) := by decide +kernel
theorem dX10_count_60 : decode cX10_count 60 = .ok (.getfield 322, 3) := by decide +kernel
theorem dX10_count_63 : decode cX10_count 63 = .ok (.ireturn, 1) := by decide +kernel
theorem dX10_count_64 : decode cX10_count 64 = .ok (.aload_n 0, 1) := by decide +kernel
theorem dX10_count_65 : decode cX10_count 65 = .ok (.getfield 26, 3) := by decide +kernel
theorem dX10_count_68 : decode cX10_count 68 = .ok (.aload_n 0, 1) := by decide +kernel
theorem dX10_count_69 : decode cX10_count 69 = .ok (.getfield 19, 3) := by decide +kernel
theorem dX10_count_72 : decode cX10_count 72 = .ok (.getfield 246, 3) := by decide +kernel
theorem dX10_count_75 : decode cX10_count 75 = .ok (.invokevirtual 325, 3) := by decide +kernel
theorem dX10_count_78 : decode cX10_count 78 = .ok (.ireturn, 1) := by decide +kernel
theorem dX10_count_79 : decode cX10_count 79 = .ok (.aload_n 0, 1) := by decide +kernel
theorem dX10_count_80 : decode cX10_count 80 = .ok (.getfield 26, 3) := by decide +kernel
theorem dX10_count_83 : decode cX10_count 83 = .ok (.getfield 281, 3) := by decide +kernel
theorem dX10_count_86 : decode cX10_count 86 = .ok (.ireturn, 1) := by decide +kernel
theorem dX10_count_87 : decode cX10_count 87 = .ok (.aload_n 0, 1) := by decide +kernel
theorem dX10_count_88 : decode cX10_count 88 = .ok (.getfield 10, 3) := by decide +kernel
theorem dX10_count_91 : decode cX10_count 91 = .ok (.getfield 76, 3) := by decide +kernel
theorem dX10_count_94 : decode cX10_count 94 = .ok (.getfield 80, 3) := by decide +kernel
theorem dX10_count_97 : decode cX10_count 97 = .ok (.ireturn, 1) := by decide +kernel
theorem dX10_count_98 : decode cX10_count 98 = .ok (.iconst (-1), 1) := by decide +kernel
theorem dX10_count_99 : decode cX10_count 99 = .ok (.ireturn, 1) := by decide +kernel
set_option maxHeartbeats 4000000 in
set_option maxRecDepth 100000 in
theorem c_X10_at (l : Launch) (D : DG) (cyC cyI cyJ cyZ cyO : ClassId) (x0 : Nat) (a0 : Nat) (n0 : Nat) (n1 : Nat) (n2 : Nat) (n3 : Nat) (q0 : Nat) (q1 : Nat) (r0 : Nat) (k0 : Nat) (x1 : Nat) (o0 : Nat) (h0 : Nat) (s0 : Nat) (d0 : Nat) (a1 : Nat) (a2 : Nat) (a3 : Nat) (a4 : Nat) (a5 : Nat) (a6 : Nat) (a7 : Nat) (a8 : Nat) (a9 : Nat) (a10 : Nat) (n4 : Nat) (p0 : Int32) (p1 : Int32) (p2 : Int32) (a_wares : Int32) (a_shelves : Int32) (a_nests : Int32) (a_lids : Int32) (a_tops : Int32) (n_askings : Int32) (n_cost : Int32) (n_laid : Int32) (q_size : Int32) (n_shelf : Nat → Int32) (n_stack : Nat → Int32) (n_level : Nat → Int32) (q_ware : Nat → Int32) (h_a_wares : 0 ≤ (a_wares).toInt ∧ (a_wares).toInt ≤ 12) (h_a_shelves : 0 ≤ (a_shelves).toInt ∧ (a_shelves).toInt ≤ 4) (h_a_nests : 0 ≤ (a_nests).toInt ∧ (a_nests).toInt ≤ 4) (h_n_askings : 0 ≤ (n_askings).toInt ∧ (n_askings).toInt ≤ 30) (h_n_laid : 0 ≤ (n_laid).toInt ∧ (n_laid).toInt ≤ 1) (h_q_size : 0 ≤ (q_size).toInt ∧ (q_size).toInt ≤ 12) (h_n_shelf : Iv 12 (-1) (3) n_shelf) (h_n_stack : Iv 12 (0) (7) n_stack) (h_n_level : Iv 12 (0) (11) n_level) (h_q_ware : Iv 12 (0) (11) q_ware) : KK l D (TY cyC cyI cyJ cyZ cyO) yX10_at cX10_at 4 (some .int) ({ frames := 3, cells := 0, slots := 0, locals := 58 } : Room) 0 0 [.ref x0, .int p0, .int p1, .int p2] [(x0, .inr (10, [.ref r0, .ref a0, .ref n0, .ref k0, .ref x1, .ref q0, .ref o0, .ref h0, .ref s0, .ref d0])), (a0, .inr (9, [.int a_wares, .int a_shelves, .int a_nests, .ref a1, .ref a2, .ref a3, .ref a4, .ref a5, .ref a6, .int a_lids, .int a_tops, .ref a7, .ref a8, .ref a9, .ref a10])), (n0, .inr (7, [.ref n1, .ref n2, .ref n3, .ref n4, .int n_askings, .int n_cost, .int n_laid])), (n1, .inl (cyI, 12, .inl n_shelf)), (n2, .inl (cyI, 12, .inl n_stack)), (n3, .inl (cyI, 12, .inl n_level)), (q0, .inr (4, [.ref q1, .int q_size])), (q1, .inl (cyI, 12, .inl q_ware))] (fun u => some (.int (u.2.1 0))) (fun u => (0 ≤ (u.2.1 1).toInt ∧ (u.2.1 1).toInt ≤ 12) ∧ (Iv 12 (0) (11) (u.2.2.1 0)) ∧ (GRD (0 ≤ (p0).toInt ∧ (p0).toInt < (a_shelves).toInt ∧ 0 ≤ (p1).toInt ∧ (p1).toInt < (stF n_shelf n_stack p0 12).toInt) (-1) (fun x => ∀ (r : Nat → Int32) (n : Nat), ROW n_shelf n_stack n_level p0 p1 r n → x = atF p2 r (n : Int)) (u.2.1 0).toInt)) (fun u => [(x0, .inr (10, [.ref r0, .ref a0, .ref n0, .ref k0, .ref x1, .ref q0, .ref o0, .ref h0, .ref s0, .ref d0])), (a0, .inr (9, [.int a_wares, .int a_shelves, .int a_nests, .ref a1, .ref a2, .ref a3, .ref a4, .ref a5, .ref a6, .int a_lids, .int a_tops, .ref a7, .ref a8, .ref a9, .ref a10])), (n0, .inr (7, [.ref n1, .ref n2, .ref n3, .ref n4, .int n_askings, .int n_cost, .int n_laid])), (n1, .inl (cyI, 12, .inl n_shelf)), (n2, .inl (cyI, 12, .inl n_stack)), (n3, .inl (cyI, 12, .inl n_level)), (q0, .inr (4, [.ref q1, .int (u.2.1 1)])), (q1, .inl (cyI, 12, .inl (u.2.2.1 0)))]) := by
  refine KK.of (lv0 := [(0, .ref x0), (1, .int p0), (2, .int p1), (3, .int p2)]) (by decide) rfl (Nat.le_of_ble_eq_true rfl) ?_
  intro p e s m args below meth c A C hr hk hin
  refine j_aload_n (pc := 0) C dX10_at_0 rfl 0 rfl ?_
  refine j_iload_n (pc := 1) C dX10_at_1 rfl 1 rfl ?_
  refine j_iload_n (pc := 2) C dX10_at_2 rfl 2 rfl ?_
  refine j_callV (pc := 3) (As := [.int p0, .int p1]) (rest := []) (wr := [(n3, .inl (cyI, 12, .inl n_level)), (q0, .inr (4, [.ref q1, .int q_size])), (q1, .inl (cyI, 12, .inl q_ware))]) C (c_X10_isStack l D cyC cyI cyJ cyZ cyO x0 a0 n0 n1 n2 r0 k0 x1 q0 o0 h0 s0 d0 a1 a2 a3 a4 a5 a6 a7 a8 a9 a10 n3 n4 p0 p1 a_wares a_shelves a_nests a_lids a_tops n_askings n_cost n_laid n_shelf n_stack h_a_wares h_a_shelves h_a_nests h_n_askings h_n_laid h_n_shelf h_n_stack) wd_499 wd_482 wd_500 wd_501 wd_502 ⟨by decide, by decide, rfl⟩ rfl ⟨rfl, rfl, by decide, by decide⟩ ⟨by decide, by decide⟩ [0, 1, 2, 3, 4] [5, 6, 7] rfl rfl ⟨by decide, by decide, by decide⟩ 0 rfl rfl rfl (Nat.le_of_ble_eq_true rfl) dX10_at_3 (fun u_1 hw_2 => ?_)
  refine j_eq (ws2 := [(n3, .inl (cyI, 12, .inl n_level)), (q0, .inr (4, [.ref q1, .int q_size])), (q1, .inl (cyI, 12, .inl q_ware)), (x0, .inr (10, [.ref r0, .ref a0, .ref n0, .ref k0, .ref x1, .ref q0, .ref o0, .ref h0, .ref s0, .ref d0])), (a0, .inr (9, [.int a_wares, .int a_shelves, .int a_nests, .ref a1, .ref a2, .ref a3, .ref a4, .ref a5, .ref a6, .int a_lids, .int a_tops, .ref a7, .ref a8, .ref a9, .ref a10])), (n0, .inr (7, [.ref n1, .ref n2, .ref n3, .ref n4, .int n_askings, .int n_cost, .int n_laid])), (n1, .inl (cyI, 12, .inl n_shelf)), (n2, .inl (cyI, 12, .inl n_stack))]) (pc2 := 6) (lv2 := [(0, .ref x0), (1, .int p0), (2, .int p1), (3, .int p2)]) (st2 := [.int (u_1.2.1 0)]) rfl rfl rfl rfl ?_
  obtain ⟨hw_2_0, hw_2_1, hw_2_2, hw_2_3⟩ := hw_2
  refine j_if_ne (pc := 6) (tgt := 11) C dX10_at_6 (by decide) (fun c_3 => ?_) (fun c_3 => ?_)
  · skip
    have el_0 : (0 : Int32).toInt = 0 := rfl
    rw [i_eq] at c_3
    have k0c_3 : ((u_1.2.1 0)).toInt = 1 := by omega
    refine j_aload_n (pc := 11) C dX10_at_11 rfl 0 rfl ?_
    refine j_get (pc := 12) (ci := 10) (v := .ref q0) C inw_10 3 rfl rfl 5 (by decide) wd_438 rfl rfl dX10_at_12 ?_
    refine j_aload_n (pc := 15) C dX10_at_15 rfl 0 rfl ?_
    refine j_get (pc := 16) (ci := 10) (v := .ref n0) C inw_10 3 rfl rfl 2 (by decide) wd_466 rfl rfl dX10_at_16 ?_
    refine j_iload_n (pc := 19) C dX10_at_19 rfl 1 rfl ?_
    refine j_iload_n (pc := 20) C dX10_at_20 rfl 2 rfl ?_
    refine j_callV (pc := 21) (As := [.ref n0, .int p0, .int p1]) (rest := []) (wr := [(x0, .inr (10, [.ref r0, .ref a0, .ref n0, .ref k0, .ref x1, .ref q0, .ref o0, .ref h0, .ref s0, .ref d0])), (a0, .inr (9, [.int a_wares, .int a_shelves, .int a_nests, .ref a1, .ref a2, .ref a3, .ref a4, .ref a5, .ref a6, .int a_lids, .int a_tops, .ref a7, .ref a8, .ref a9, .ref a10]))]) C (c_X4_take l D cyC cyI cyJ cyZ cyO q0 q1 n0 n1 n2 n3 n4 p0 p1 q_size n_askings n_cost n_laid q_ware n_shelf n_stack n_level h_q_size h_n_askings h_n_laid h_q_ware h_n_shelf h_n_stack h_n_level) wd_439 wd_40 wd_440 wd_441 wd_442 ⟨by decide, by decide, rfl⟩ rfl ⟨rfl, rfl, by decide, by decide⟩ ⟨by decide, by decide⟩ [1, 2, 5, 6, 7, 0] [3, 4] rfl rfl ⟨by decide, by decide, by decide⟩ 1 rfl rfl rfl (Nat.le_of_ble_eq_true rfl) dX10_at_21 (fun u_4 hw_5 => ?_)
    refine j_eq (ws2 := [(x0, .inr (10, [.ref r0, .ref a0, .ref n0, .ref k0, .ref x1, .ref q0, .ref o0, .ref h0, .ref s0, .ref d0])), (a0, .inr (9, [.int a_wares, .int a_shelves, .int a_nests, .ref a1, .ref a2, .ref a3, .ref a4, .ref a5, .ref a6, .int a_lids, .int a_tops, .ref a7, .ref a8, .ref a9, .ref a10])), (q0, .inr (4, [.ref q1, .int (u_4.2.1 0)])), (q1, .inl (cyI, 12, .inl (u_4.2.2.1 0))), (n0, .inr (7, [.ref n1, .ref n2, .ref n3, .ref n4, .int n_askings, .int n_cost, .int n_laid])), (n1, .inl (cyI, 12, .inl n_shelf)), (n2, .inl (cyI, 12, .inl n_stack)), (n3, .inl (cyI, 12, .inl n_level))]) (pc2 := 24) (lv2 := [(0, .ref x0), (1, .int p0), (2, .int p1), (3, .int p2)]) (st2 := []) rfl rfl rfl rfl ?_
    obtain ⟨hw_5_0, hw_5_1, hw_5_2, hw_5_3⟩ := hw_5
    refine j_iload_n (pc := 24) C dX10_at_24 rfl 3 rfl ?_
    refine j_if_lt (pc := 25) (tgt := 51) C dX10_at_25 (by decide) (fun c_6 => ?_) (fun c_6 => ?_)
    · skip
      have el_0 : (0 : Int32).toInt = 0 := rfl
      rw [i_lt] at c_6
      refine j_iconst (pc := 51) (v := (-1)) C dX10_at_51 (by decide) ?_
      have el_m1 : ((-1) : Int32).toInt = (-1) := rfl
      exact j_iret (pc := 52) C hr hk (fun i => [].getD i 0, fun i => [(-1), (u_4.2.1 0)].getD i 0, fun i => [(u_4.2.2.1 0)].getD i (fun _ => 0), fun i => [].getD i (fun _ => 0)) rfl (show (0 ≤ ((u_4.2.1 0)).toInt ∧ ((u_4.2.1 0)).toInt ≤ 12) ∧ (Iv 12 (0) (11) (u_4.2.2.1 0)) ∧ (GRD (0 ≤ (p0).toInt ∧ (p0).toInt < (a_shelves).toInt ∧ 0 ≤ (p1).toInt ∧ (p1).toInt < (stF n_shelf n_stack p0 12).toInt) (-1) (fun x => ∀ (r : Nat → Int32) (n : Nat), ROW n_shelf n_stack n_level p0 p1 r n → x = atF p2 r (n : Int)) ((-1) : Int32).toInt) from ⟨hw_5_0, hw_5_1, (Or.inr ⟨hw_2_2 (by omega), fun r n hR => by obtain ⟨y1, y2⟩ := hw_5_3 r n hR; unfold atF; rw [if_neg (by omega)]; rfl⟩)⟩) [0, 1, 4, 5, 6, 7, 2, 3] (by decide) rfl (by decide) (by decide) dX10_at_52
    · skip
      have el_0 : (0 : Int32).toInt = 0 := rfl
      rw [i_lt] at c_6
      refine j_iload_n (pc := 28) C dX10_at_28 rfl 3 rfl ?_
      refine j_aload_n (pc := 29) C dX10_at_29 rfl 0 rfl ?_
      refine j_get (pc := 30) (ci := 10) (v := .ref q0) C inw_10 0 rfl rfl 5 (by decide) wd_438 rfl rfl dX10_at_30 ?_
      refine j_get (pc := 33) (ci := 4) (v := .int (u_4.2.1 0)) C inw_4 2 rfl rfl 1 (by decide) wd_505 rfl rfl dX10_at_33 ?_
      refine j_icmp_ge (pc := 36) (tgt := 51) C dX10_at_36 (by decide) (fun c_7 => ?_) (fun c_7 => ?_)
      · skip
        rw [i_le] at c_7
        refine j_iconst (pc := 51) (v := (-1)) C dX10_at_51 (by decide) ?_
        have el_m1 : ((-1) : Int32).toInt = (-1) := rfl
        exact j_iret (pc := 52) C hr hk (fun i => [].getD i 0, fun i => [(-1), (u_4.2.1 0)].getD i 0, fun i => [(u_4.2.2.1 0)].getD i (fun _ => 0), fun i => [].getD i (fun _ => 0)) rfl (show (0 ≤ ((u_4.2.1 0)).toInt ∧ ((u_4.2.1 0)).toInt ≤ 12) ∧ (Iv 12 (0) (11) (u_4.2.2.1 0)) ∧ (GRD (0 ≤ (p0).toInt ∧ (p0).toInt < (a_shelves).toInt ∧ 0 ≤ (p1).toInt ∧ (p1).toInt < (stF n_shelf n_stack p0 12).toInt) (-1) (fun x => ∀ (r : Nat → Int32) (n : Nat), ROW n_shelf n_stack n_level p0 p1 r n → x = atF p2 r (n : Int)) ((-1) : Int32).toInt) from ⟨hw_5_0, hw_5_1, (Or.inr ⟨hw_2_2 (by omega), fun r n hR => by obtain ⟨y1, y2⟩ := hw_5_3 r n hR; unfold atF; rw [if_neg (by omega)]; rfl⟩)⟩) [0, 1, 4, 5, 6, 7, 2, 3] (by decide) rfl (by decide) (by decide) dX10_at_52
      · skip
        rw [i_le] at c_7
        refine j_aload_n (pc := 39) C dX10_at_39 rfl 0 rfl ?_
        refine j_get (pc := 40) (ci := 10) (v := .ref q0) C inw_10 0 rfl rfl 5 (by decide) wd_438 rfl rfl dX10_at_40 ?_
        refine j_get (pc := 43) (ci := 4) (v := .ref q1) C inw_4 2 rfl rfl 0 (by decide) wd_510 rfl rfl dX10_at_43 ?_
        refine j_iload_n (pc := 46) C dX10_at_46 rfl 3 rfl ?_
        obtain ⟨v_8, ev_8⟩ : ∃ z, (u_4.2.2.1 0) (p2).toInt.toNat = z := ⟨_, rfl⟩
        have env_8 : ((u_4.2.2.1 0) (p2).toInt.toNat).toInt = v_8.toInt := by rw [ev_8]
        have hv_8 := hw_5_1 (p2).toInt.toNat (i_lt_n (by omega) (by omega)); rw [ev_8] at hv_8
        refine j_iald (pc := 47) (v := v_8) (k := (p2).toInt.toNat) C 3 1 rfl rfl (i_nn (by omega)) rfl (i_lt_n (by omega) (by omega)) ev_8 dX10_at_47 ?_
        refine j_goto (pc := 48) (tgt := 52) C dX10_at_48 (by decide) ?_
        exact j_iret (pc := 52) C hr hk (fun i => [].getD i 0, fun i => [v_8, (u_4.2.1 0)].getD i 0, fun i => [(u_4.2.2.1 0)].getD i (fun _ => 0), fun i => [].getD i (fun _ => 0)) rfl (show (0 ≤ ((u_4.2.1 0)).toInt ∧ ((u_4.2.1 0)).toInt ≤ 12) ∧ (Iv 12 (0) (11) (u_4.2.2.1 0)) ∧ (GRD (0 ≤ (p0).toInt ∧ (p0).toInt < (a_shelves).toInt ∧ 0 ≤ (p1).toInt ∧ (p1).toInt < (stF n_shelf n_stack p0 12).toInt) (-1) (fun x => ∀ (r : Nat → Int32) (n : Nat), ROW n_shelf n_stack n_level p0 p1 r n → x = atF p2 r (n : Int)) v_8.toInt) from ⟨hw_5_0, hw_5_1, (Or.inr ⟨hw_2_2 (by omega), fun r n hR => by obtain ⟨y1, y2⟩ := hw_5_3 r n hR; unfold atF; rw [if_pos (by omega), ← y2 _ (by omega), ev_8]⟩)⟩) [0, 1, 4, 5, 6, 7, 2, 3] (by decide) rfl (by decide) (by decide) dX10_at_52
  · skip
    have el_0 : (0 : Int32).toInt = 0 := rfl
    rw [i_eq] at c_3
    refine j_iconst (pc := 9) (v := (-1)) C dX10_at_9 (by decide) ?_
    have el_m1 : ((-1) : Int32).toInt = (-1) := rfl
    exact j_iret (pc := 10) C hr hk (fun i => [].getD i 0, fun i => [(-1), q_size].getD i 0, fun i => [q_ware].getD i (fun _ => 0), fun i => [].getD i (fun _ => 0)) rfl (show (0 ≤ (q_size).toInt ∧ (q_size).toInt ≤ 12) ∧ (Iv 12 (0) (11) q_ware) ∧ (GRD (0 ≤ (p0).toInt ∧ (p0).toInt < (a_shelves).toInt ∧ 0 ≤ (p1).toInt ∧ (p1).toInt < (stF n_shelf n_stack p0 12).toInt) (-1) (fun x => ∀ (r : Nat → Int32) (n : Nat), ROW n_shelf n_stack n_level p0 p1 r n → x = atF p2 r (n : Int)) ((-1) : Int32).toInt) from ⟨h_q_size, h_q_ware, (Or.inl ⟨rfl, fun z => hw_2_3 (by omega) z⟩)⟩) [3, 4, 5, 6, 7, 0, 1, 2] (by decide) rfl (by decide) (by decide) dX10_at_10
set_option maxHeartbeats 4000000 in
set_option maxRecDepth 100000 in
theorem c_X10_stack (l : Launch) (D : DG) (cyC cyI cyJ cyZ cyO : ClassId) (x0 : Nat) (a0 : Nat) (a1 : Nat) (a2 : Nat) (a3 : Nat) (n0 : Nat) (n1 : Nat) (n2 : Nat) (n3 : Nat) (q0 : Nat) (q1 : Nat) (r0 : Nat) (k0 : Nat) (x1 : Nat) (o0 : Nat) (h0 : Nat) (s0 : Nat) (d0 : Nat) (a4 : Nat) (a5 : Nat) (a6 : Nat) (a7 : Nat) (a8 : Nat) (a9 : Nat) (a10 : Nat) (n4 : Nat) (p0 : Int32) (p1 : Int32) (p2 : Int32) (a_wares : Int32) (a_shelves : Int32) (a_nests : Int32) (a_lids : Int32) (a_tops : Int32) (n_askings : Int32) (n_cost : Int32) (n_laid : Int32) (q_size : Int32) (a_wide : Nat → Int32) (a_deep : Nat → Int32) (a_weight : Nat → Int32) (n_shelf : Nat → Int32) (n_stack : Nat → Int32) (n_level : Nat → Int32) (q_ware : Nat → Int32) (h_a_wares : 0 ≤ (a_wares).toInt ∧ (a_wares).toInt ≤ 12) (h_a_shelves : 0 ≤ (a_shelves).toInt ∧ (a_shelves).toInt ≤ 4) (h_a_nests : 0 ≤ (a_nests).toInt ∧ (a_nests).toInt ≤ 4) (h_n_askings : 0 ≤ (n_askings).toInt ∧ (n_askings).toInt ≤ 30) (h_n_laid : 0 ≤ (n_laid).toInt ∧ (n_laid).toInt ≤ 1) (h_q_size : 0 ≤ (q_size).toInt ∧ (q_size).toInt ≤ 12) (h_n_shelf : Iv 12 (-1) (3) n_shelf) (h_n_stack : Iv 12 (0) (7) n_stack) (h_n_level : Iv 12 (0) (11) n_level) (h_q_ware : Iv 12 (0) (11) q_ware) : KK l D (TY cyC cyI cyJ cyZ cyO) yX10_stack cX10_stack 4 (some .int) ({ frames := 3, cells := 0, slots := 0, locals := 58 } : Room) 0 0 [.ref x0, .int p0, .int p1, .int p2] [(x0, .inr (10, [.ref r0, .ref a0, .ref n0, .ref k0, .ref x1, .ref q0, .ref o0, .ref h0, .ref s0, .ref d0])), (a0, .inr (9, [.int a_wares, .int a_shelves, .int a_nests, .ref a1, .ref a2, .ref a3, .ref a4, .ref a5, .ref a6, .int a_lids, .int a_tops, .ref a7, .ref a8, .ref a9, .ref a10])), (a1, .inl (cyI, 12, .inl a_wide)), (a2, .inl (cyI, 12, .inl a_deep)), (a3, .inl (cyI, 12, .inl a_weight)), (n0, .inr (7, [.ref n1, .ref n2, .ref n3, .ref n4, .int n_askings, .int n_cost, .int n_laid])), (n1, .inl (cyI, 12, .inl n_shelf)), (n2, .inl (cyI, 12, .inl n_stack)), (n3, .inl (cyI, 12, .inl n_level)), (q0, .inr (4, [.ref q1, .int q_size])), (q1, .inl (cyI, 12, .inl q_ware))] (fun u => some (.int (u.2.1 0))) (fun u => (0 ≤ (u.2.1 1).toInt ∧ (u.2.1 1).toInt ≤ 12) ∧ (Iv 12 (0) (11) (u.2.2.1 0)) ∧ (GRD (0 ≤ (p0).toInt ∧ (p0).toInt < (a_shelves).toInt ∧ 0 ≤ (p1).toInt ∧ (p1).toInt < (stF n_shelf n_stack p0 12).toInt) (-1) (fun x => ∀ (r : Nat → Int32) (n : Nat), ROW n_shelf n_stack n_level p0 p1 r n → x = skF (p2).toInt (n : Int) (hiF (rsC a_wide a_deep a_lids) a_deep r n).toInt (wtF a_weight r 0 n).toInt) (u.2.1 0).toInt)) (fun u => [(x0, .inr (10, [.ref r0, .ref a0, .ref n0, .ref k0, .ref x1, .ref q0, .ref o0, .ref h0, .ref s0, .ref d0])), (a0, .inr (9, [.int a_wares, .int a_shelves, .int a_nests, .ref a1, .ref a2, .ref a3, .ref a4, .ref a5, .ref a6, .int a_lids, .int a_tops, .ref a7, .ref a8, .ref a9, .ref a10])), (a1, .inl (cyI, 12, .inl a_wide)), (a2, .inl (cyI, 12, .inl a_deep)), (a3, .inl (cyI, 12, .inl a_weight)), (n0, .inr (7, [.ref n1, .ref n2, .ref n3, .ref n4, .int n_askings, .int n_cost, .int n_laid])), (n1, .inl (cyI, 12, .inl n_shelf)), (n2, .inl (cyI, 12, .inl n_stack)), (n3, .inl (cyI, 12, .inl n_level)), (q0, .inr (4, [.ref q1, .int (u.2.1 1)])), (q1, .inl (cyI, 12, .inl (u.2.2.1 0)))]) := by
  refine KK.of (lv0 := [(0, .ref x0), (1, .int p0), (2, .int p1), (3, .int p2)]) (by decide) rfl (Nat.le_of_ble_eq_true rfl) ?_
  intro p e s m args below meth c A C hr hk hin
  refine j_aload_n (pc := 0) C dX10_stack_0 rfl 0 rfl ?_
  refine j_iload_n (pc := 1) C dX10_stack_1 rfl 1 rfl ?_
  refine j_iload_n (pc := 2) C dX10_stack_2 rfl 2 rfl ?_
  refine j_callV (pc := 3) (As := [.int p0, .int p1]) (rest := []) (wr := [(a1, .inl (cyI, 12, .inl a_wide)), (a2, .inl (cyI, 12, .inl a_deep)), (a3, .inl (cyI, 12, .inl a_weight)), (n3, .inl (cyI, 12, .inl n_level)), (q0, .inr (4, [.ref q1, .int q_size])), (q1, .inl (cyI, 12, .inl q_ware))]) C (c_X10_isStack l D cyC cyI cyJ cyZ cyO x0 a0 n0 n1 n2 r0 k0 x1 q0 o0 h0 s0 d0 a1 a2 a3 a4 a5 a6 a7 a8 a9 a10 n3 n4 p0 p1 a_wares a_shelves a_nests a_lids a_tops n_askings n_cost n_laid n_shelf n_stack h_a_wares h_a_shelves h_a_nests h_n_askings h_n_laid h_n_shelf h_n_stack) wd_499 wd_482 wd_500 wd_501 wd_502 ⟨by decide, by decide, rfl⟩ rfl ⟨rfl, rfl, by decide, by decide⟩ ⟨by decide, by decide⟩ [0, 1, 5, 6, 7] [2, 3, 4, 8, 9, 10] rfl rfl ⟨by decide, by decide, by decide⟩ 0 rfl rfl rfl (Nat.le_of_ble_eq_true rfl) dX10_stack_3 (fun u_1 hw_2 => ?_)
  refine j_eq (ws2 := [(a1, .inl (cyI, 12, .inl a_wide)), (a2, .inl (cyI, 12, .inl a_deep)), (a3, .inl (cyI, 12, .inl a_weight)), (n3, .inl (cyI, 12, .inl n_level)), (q0, .inr (4, [.ref q1, .int q_size])), (q1, .inl (cyI, 12, .inl q_ware)), (x0, .inr (10, [.ref r0, .ref a0, .ref n0, .ref k0, .ref x1, .ref q0, .ref o0, .ref h0, .ref s0, .ref d0])), (a0, .inr (9, [.int a_wares, .int a_shelves, .int a_nests, .ref a1, .ref a2, .ref a3, .ref a4, .ref a5, .ref a6, .int a_lids, .int a_tops, .ref a7, .ref a8, .ref a9, .ref a10])), (n0, .inr (7, [.ref n1, .ref n2, .ref n3, .ref n4, .int n_askings, .int n_cost, .int n_laid])), (n1, .inl (cyI, 12, .inl n_shelf)), (n2, .inl (cyI, 12, .inl n_stack))]) (pc2 := 6) (lv2 := [(0, .ref x0), (1, .int p0), (2, .int p1), (3, .int p2)]) (st2 := [.int (u_1.2.1 0)]) rfl rfl rfl rfl ?_
  obtain ⟨hw_2_0, hw_2_1, hw_2_2, hw_2_3⟩ := hw_2
  refine j_if_ne (pc := 6) (tgt := 11) C dX10_stack_6 (by decide) (fun c_3 => ?_) (fun c_3 => ?_)
  · skip
    have el_0 : (0 : Int32).toInt = 0 := rfl
    rw [i_eq] at c_3
    have k0c_3 : ((u_1.2.1 0)).toInt = 1 := by omega
    refine j_aload_n (pc := 11) C dX10_stack_11 rfl 0 rfl ?_
    refine j_get (pc := 12) (ci := 10) (v := .ref q0) C inw_10 6 rfl rfl 5 (by decide) wd_438 rfl rfl dX10_stack_12 ?_
    refine j_aload_n (pc := 15) C dX10_stack_15 rfl 0 rfl ?_
    refine j_get (pc := 16) (ci := 10) (v := .ref n0) C inw_10 6 rfl rfl 2 (by decide) wd_466 rfl rfl dX10_stack_16 ?_
    refine j_iload_n (pc := 19) C dX10_stack_19 rfl 1 rfl ?_
    refine j_iload_n (pc := 20) C dX10_stack_20 rfl 2 rfl ?_
    refine j_callV (pc := 21) (As := [.ref n0, .int p0, .int p1]) (rest := []) (wr := [(a1, .inl (cyI, 12, .inl a_wide)), (a2, .inl (cyI, 12, .inl a_deep)), (a3, .inl (cyI, 12, .inl a_weight)), (x0, .inr (10, [.ref r0, .ref a0, .ref n0, .ref k0, .ref x1, .ref q0, .ref o0, .ref h0, .ref s0, .ref d0])), (a0, .inr (9, [.int a_wares, .int a_shelves, .int a_nests, .ref a1, .ref a2, .ref a3, .ref a4, .ref a5, .ref a6, .int a_lids, .int a_tops, .ref a7, .ref a8, .ref a9, .ref a10]))]) C (c_X4_take l D cyC cyI cyJ cyZ cyO q0 q1 n0 n1 n2 n3 n4 p0 p1 q_size n_askings n_cost n_laid q_ware n_shelf n_stack n_level h_q_size h_n_askings h_n_laid h_q_ware h_n_shelf h_n_stack h_n_level) wd_439 wd_40 wd_440 wd_441 wd_442 ⟨by decide, by decide, rfl⟩ rfl ⟨rfl, rfl, by decide, by decide⟩ ⟨by decide, by decide⟩ [4, 5, 8, 9, 10, 3] [0, 1, 2, 6, 7] rfl rfl ⟨by decide, by decide, by decide⟩ 4 rfl rfl rfl (Nat.le_of_ble_eq_true rfl) dX10_stack_21 (fun u_4 hw_5 => ?_)
    refine j_eq (ws2 := [(a1, .inl (cyI, 12, .inl a_wide)), (a2, .inl (cyI, 12, .inl a_deep)), (a3, .inl (cyI, 12, .inl a_weight)), (x0, .inr (10, [.ref r0, .ref a0, .ref n0, .ref k0, .ref x1, .ref q0, .ref o0, .ref h0, .ref s0, .ref d0])), (a0, .inr (9, [.int a_wares, .int a_shelves, .int a_nests, .ref a1, .ref a2, .ref a3, .ref a4, .ref a5, .ref a6, .int a_lids, .int a_tops, .ref a7, .ref a8, .ref a9, .ref a10])), (q0, .inr (4, [.ref q1, .int (u_4.2.1 0)])), (q1, .inl (cyI, 12, .inl (u_4.2.2.1 0))), (n0, .inr (7, [.ref n1, .ref n2, .ref n3, .ref n4, .int n_askings, .int n_cost, .int n_laid])), (n1, .inl (cyI, 12, .inl n_shelf)), (n2, .inl (cyI, 12, .inl n_stack)), (n3, .inl (cyI, 12, .inl n_level))]) (pc2 := 24) (lv2 := [(0, .ref x0), (1, .int p0), (2, .int p1), (3, .int p2)]) (st2 := []) rfl rfl rfl rfl ?_
    obtain ⟨hw_5_0, hw_5_1, hw_5_2, hw_5_3⟩ := hw_5
    refine j_iload_n (pc := 24) C dX10_stack_24 rfl 3 rfl ?_
    rcases (by omega : p2.toInt = 0 ∨ p2.toInt = 1 ∨ p2.toInt = 2 ∨ (¬ p2.toInt = 0 ∧ ¬ p2.toInt = 1 ∧ ¬ p2.toInt = 2)) with sw_6 | sw_6 | sw_6 | sw_6
    · skip
      refine j_tin (pc := 25) (off := 27) (tgt := 52) C dX10_stack_25 (by omega) (by omega) (by rw [sw_6]; decide) (by decide) ?_
      refine j_aload_n (pc := 52) C dX10_stack_52 rfl 0 rfl ?_
      refine j_get (pc := 53) (ci := 10) (v := .ref q0) C inw_10 3 rfl rfl 5 (by decide) wd_438 rfl rfl dX10_stack_53 ?_
      refine j_get (pc := 56) (ci := 4) (v := .int (u_4.2.1 0)) C inw_4 5 rfl rfl 1 (by decide) wd_505 rfl rfl dX10_stack_56 ?_
      exact j_iret (pc := 59) C hr hk (fun i => [].getD i 0, fun i => [(u_4.2.1 0), (u_4.2.1 0)].getD i 0, fun i => [(u_4.2.2.1 0)].getD i (fun _ => 0), fun i => [].getD i (fun _ => 0)) rfl (show (0 ≤ ((u_4.2.1 0)).toInt ∧ ((u_4.2.1 0)).toInt ≤ 12) ∧ (Iv 12 (0) (11) (u_4.2.2.1 0)) ∧ (GRD (0 ≤ (p0).toInt ∧ (p0).toInt < (a_shelves).toInt ∧ 0 ≤ (p1).toInt ∧ (p1).toInt < (stF n_shelf n_stack p0 12).toInt) (-1) (fun x => ∀ (r : Nat → Int32) (n : Nat), ROW n_shelf n_stack n_level p0 p1 r n → x = skF (p2).toInt (n : Int) (hiF (rsC a_wide a_deep a_lids) a_deep r n).toInt (wtF a_weight r 0 n).toInt) (u_4.2.1 0).toInt) from ⟨hw_5_0, hw_5_1, (Or.inr ⟨hw_2_2 (by omega), fun r n hR => by obtain ⟨y1, y2⟩ := hw_5_3 r n hR; unfold skF; rw [if_pos (by omega)]; exact y1⟩)⟩) [3, 4, 0, 1, 2, 7, 8, 9, 10, 5, 6] (by decide) rfl (by decide) (by decide) dX10_stack_59
    · skip
      refine j_tin (pc := 25) (off := 35) (tgt := 60) C dX10_stack_25 (by omega) (by omega) (by rw [sw_6]; decide) (by decide) ?_
      refine j_aload_n (pc := 60) C dX10_stack_60 rfl 0 rfl ?_
      refine j_get (pc := 61) (ci := 10) (v := .ref q0) C inw_10 3 rfl rfl 5 (by decide) wd_438 rfl rfl dX10_stack_61 ?_
      refine j_aload_n (pc := 64) C dX10_stack_64 rfl 0 rfl ?_
      refine j_get (pc := 65) (ci := 10) (v := .ref a0) C inw_10 3 rfl rfl 1 (by decide) wd_447 rfl rfl dX10_stack_65 ?_
      refine j_callV (pc := 68) (As := [.ref a0]) (rest := []) (wr := [(a3, .inl (cyI, 12, .inl a_weight)), (x0, .inr (10, [.ref r0, .ref a0, .ref n0, .ref k0, .ref x1, .ref q0, .ref o0, .ref h0, .ref s0, .ref d0])), (n0, .inr (7, [.ref n1, .ref n2, .ref n3, .ref n4, .int n_askings, .int n_cost, .int n_laid])), (n1, .inl (cyI, 12, .inl n_shelf)), (n2, .inl (cyI, 12, .inl n_stack)), (n3, .inl (cyI, 12, .inl n_level))]) C (c_X4_highestRim l D cyC cyI cyJ cyZ cyO q0 q1 a0 a1 a2 a3 a4 a5 a6 a7 a8 a9 a10 (u_4.2.1 0) a_wares a_shelves a_nests a_lids a_tops (u_4.2.2.1 0) a_wide a_deep hw_5_0 h_a_wares h_a_shelves h_a_nests hw_5_1) wd_44 wd_40 wd_503 wd_46 wd_47 ⟨by decide, by decide, rfl⟩ rfl ⟨rfl, rfl, by decide, by decide⟩ ⟨by decide, by decide⟩ [5, 6, 4, 0, 1] [2, 3, 7, 8, 9, 10] rfl rfl ⟨by decide, by decide, by decide⟩ 5 rfl rfl rfl (Nat.le_of_ble_eq_true rfl) dX10_stack_68 (fun u_7 hw_8 => ?_)
      refine j_eq (ws2 := [(a3, .inl (cyI, 12, .inl a_weight)), (x0, .inr (10, [.ref r0, .ref a0, .ref n0, .ref k0, .ref x1, .ref q0, .ref o0, .ref h0, .ref s0, .ref d0])), (n0, .inr (7, [.ref n1, .ref n2, .ref n3, .ref n4, .int n_askings, .int n_cost, .int n_laid])), (n1, .inl (cyI, 12, .inl n_shelf)), (n2, .inl (cyI, 12, .inl n_stack)), (n3, .inl (cyI, 12, .inl n_level)), (q0, .inr (4, [.ref q1, .int (u_4.2.1 0)])), (q1, .inl (cyI, 12, .inl (u_4.2.2.1 0))), (a0, .inr (9, [.int a_wares, .int a_shelves, .int a_nests, .ref a1, .ref a2, .ref a3, .ref a4, .ref a5, .ref a6, .int a_lids, .int a_tops, .ref a7, .ref a8, .ref a9, .ref a10])), (a1, .inl (cyI, 12, .inl a_wide)), (a2, .inl (cyI, 12, .inl a_deep))]) (pc2 := 71) (lv2 := [(0, .ref x0), (1, .int p0), (2, .int p1), (3, .int p2)]) (st2 := [.int (u_7.2.1 0)]) rfl rfl rfl rfl ?_
      have hw_8_0 : (u_7.2.1 0) = hiF (rsC a_wide a_deep a_lids) a_deep (u_4.2.2.1 0) ((u_4.2.1 0)).toInt.toNat := hw_8
      exact j_iret (pc := 71) C hr hk (fun i => [].getD i 0, fun i => [(u_7.2.1 0), (u_4.2.1 0)].getD i 0, fun i => [(u_4.2.2.1 0)].getD i (fun _ => 0), fun i => [].getD i (fun _ => 0)) rfl (show (0 ≤ ((u_4.2.1 0)).toInt ∧ ((u_4.2.1 0)).toInt ≤ 12) ∧ (Iv 12 (0) (11) (u_4.2.2.1 0)) ∧ (GRD (0 ≤ (p0).toInt ∧ (p0).toInt < (a_shelves).toInt ∧ 0 ≤ (p1).toInt ∧ (p1).toInt < (stF n_shelf n_stack p0 12).toInt) (-1) (fun x => ∀ (r : Nat → Int32) (n : Nat), ROW n_shelf n_stack n_level p0 p1 r n → x = skF (p2).toInt (n : Int) (hiF (rsC a_wide a_deep a_lids) a_deep r n).toInt (wtF a_weight r 0 n).toInt) (u_7.2.1 0).toInt) from ⟨hw_5_0, hw_5_1, (Or.inr ⟨hw_2_2 (by omega), fun r n hR => by obtain ⟨y1, y2⟩ := hw_5_3 r n hR; unfold skF; rw [if_neg (by omega), if_pos (by omega)]; have y3 := hw_8_0; rw [show ((u_4.2.1 0)).toInt.toNat = n from (by omega), hiF_cong (rs := (rsC a_wide a_deep a_lids)) (rs' := (rsC a_wide a_deep a_lids)) (dp := a_deep) (dp' := a_deep) (r' := r) n (fun q hq => by rw [y2 q (by omega), y2 (q + 1) (by omega)]) (fun q hq => by rw [y2 q hq])] at y3; rw [y3]⟩)⟩) [1, 8, 9, 10, 0, 2, 3, 4, 5, 6, 7] (by decide) rfl (by decide) (by decide) dX10_stack_71
    · skip
      refine j_tin (pc := 25) (off := 47) (tgt := 72) C dX10_stack_25 (by omega) (by omega) (by rw [sw_6]; decide) (by decide) ?_
      refine j_aload_n (pc := 72) C dX10_stack_72 rfl 0 rfl ?_
      refine j_get (pc := 73) (ci := 10) (v := .ref q0) C inw_10 3 rfl rfl 5 (by decide) wd_438 rfl rfl dX10_stack_73 ?_
      refine j_aload_n (pc := 76) C dX10_stack_76 rfl 0 rfl ?_
      refine j_get (pc := 77) (ci := 10) (v := .ref a0) C inw_10 3 rfl rfl 1 (by decide) wd_447 rfl rfl dX10_stack_77 ?_
      refine j_iconst (pc := 80) (v := 0) C dX10_stack_80 (by decide) ?_
      refine j_callV (pc := 81) (As := [.ref a0, .int 0]) (rest := []) (wr := [(a1, .inl (cyI, 12, .inl a_wide)), (a2, .inl (cyI, 12, .inl a_deep)), (x0, .inr (10, [.ref r0, .ref a0, .ref n0, .ref k0, .ref x1, .ref q0, .ref o0, .ref h0, .ref s0, .ref d0])), (n0, .inr (7, [.ref n1, .ref n2, .ref n3, .ref n4, .int n_askings, .int n_cost, .int n_laid])), (n1, .inl (cyI, 12, .inl n_shelf)), (n2, .inl (cyI, 12, .inl n_stack)), (n3, .inl (cyI, 12, .inl n_level))]) C (c_X4_weightFrom l D cyC cyI cyJ cyZ cyO q0 q1 a0 a3 a1 a2 a4 a5 a6 a7 a8 a9 a10 0 (u_4.2.1 0) a_wares a_shelves a_nests a_lids a_tops (u_4.2.2.1 0) a_weight hw_5_0 h_a_wares h_a_shelves h_a_nests (by decide) hw_5_1) wd_39 wd_40 wd_504 wd_42 wd_43 ⟨by decide, by decide, rfl⟩ rfl ⟨rfl, rfl, by decide, by decide⟩ ⟨by decide, by decide⟩ [5, 6, 4, 2] [0, 1, 3, 7, 8, 9, 10] rfl rfl ⟨by decide, by decide, by decide⟩ 5 rfl rfl rfl (Nat.le_of_ble_eq_true rfl) dX10_stack_81 (fun u_9 hw_10 => ?_)
      refine j_eq (ws2 := [(a1, .inl (cyI, 12, .inl a_wide)), (a2, .inl (cyI, 12, .inl a_deep)), (x0, .inr (10, [.ref r0, .ref a0, .ref n0, .ref k0, .ref x1, .ref q0, .ref o0, .ref h0, .ref s0, .ref d0])), (n0, .inr (7, [.ref n1, .ref n2, .ref n3, .ref n4, .int n_askings, .int n_cost, .int n_laid])), (n1, .inl (cyI, 12, .inl n_shelf)), (n2, .inl (cyI, 12, .inl n_stack)), (n3, .inl (cyI, 12, .inl n_level)), (q0, .inr (4, [.ref q1, .int (u_4.2.1 0)])), (q1, .inl (cyI, 12, .inl (u_4.2.2.1 0))), (a0, .inr (9, [.int a_wares, .int a_shelves, .int a_nests, .ref a1, .ref a2, .ref a3, .ref a4, .ref a5, .ref a6, .int a_lids, .int a_tops, .ref a7, .ref a8, .ref a9, .ref a10])), (a3, .inl (cyI, 12, .inl a_weight))]) (pc2 := 84) (lv2 := [(0, .ref x0), (1, .int p0), (2, .int p1), (3, .int p2)]) (st2 := [.int (u_9.2.1 0)]) rfl rfl rfl rfl ?_
      have hw_10_0 : (u_9.2.1 0) = wtF a_weight (u_4.2.2.1 0) ((0 : Int32)).toInt.toNat ((u_4.2.1 0)).toInt.toNat := hw_10
      exact j_iret (pc := 84) C hr hk (fun i => [].getD i 0, fun i => [(u_9.2.1 0), (u_4.2.1 0)].getD i 0, fun i => [(u_4.2.2.1 0)].getD i (fun _ => 0), fun i => [].getD i (fun _ => 0)) rfl (show (0 ≤ ((u_4.2.1 0)).toInt ∧ ((u_4.2.1 0)).toInt ≤ 12) ∧ (Iv 12 (0) (11) (u_4.2.2.1 0)) ∧ (GRD (0 ≤ (p0).toInt ∧ (p0).toInt < (a_shelves).toInt ∧ 0 ≤ (p1).toInt ∧ (p1).toInt < (stF n_shelf n_stack p0 12).toInt) (-1) (fun x => ∀ (r : Nat → Int32) (n : Nat), ROW n_shelf n_stack n_level p0 p1 r n → x = skF (p2).toInt (n : Int) (hiF (rsC a_wide a_deep a_lids) a_deep r n).toInt (wtF a_weight r 0 n).toInt) (u_9.2.1 0).toInt) from ⟨hw_5_0, hw_5_1, (Or.inr ⟨hw_2_2 (by omega), fun r n hR => by obtain ⟨y1, y2⟩ := hw_5_3 r n hR; unfold skF; rw [if_neg (by omega), if_neg (by omega), if_pos (by omega)]; have y3 := hw_10_0; rw [show ((u_4.2.1 0)).toInt.toNat = n from (by omega), show ((0 : Int32)).toInt.toNat = 0 from rfl, wtF_cong (wt := a_weight) (wt' := a_weight) (r' := r) n (fun q _ hq => by rw [y2 q hq])] at y3; rw [y3]⟩)⟩) [2, 9, 0, 1, 10, 3, 4, 5, 6, 7, 8] (by decide) rfl (by decide) (by decide) dX10_stack_84
    · skip
      refine j_tout (pc := 25) (tgt := 85) C dX10_stack_25 (by omega) (by decide) ?_
      refine j_iconst (pc := 85) (v := (-1)) C dX10_stack_85 (by decide) ?_
      have el_m1 : ((-1) : Int32).toInt = (-1) := rfl
      exact j_iret (pc := 86) C hr hk (fun i => [].getD i 0, fun i => [(-1), (u_4.2.1 0)].getD i 0, fun i => [(u_4.2.2.1 0)].getD i (fun _ => 0), fun i => [].getD i (fun _ => 0)) rfl (show (0 ≤ ((u_4.2.1 0)).toInt ∧ ((u_4.2.1 0)).toInt ≤ 12) ∧ (Iv 12 (0) (11) (u_4.2.2.1 0)) ∧ (GRD (0 ≤ (p0).toInt ∧ (p0).toInt < (a_shelves).toInt ∧ 0 ≤ (p1).toInt ∧ (p1).toInt < (stF n_shelf n_stack p0 12).toInt) (-1) (fun x => ∀ (r : Nat → Int32) (n : Nat), ROW n_shelf n_stack n_level p0 p1 r n → x = skF (p2).toInt (n : Int) (hiF (rsC a_wide a_deep a_lids) a_deep r n).toInt (wtF a_weight r 0 n).toInt) ((-1) : Int32).toInt) from ⟨hw_5_0, hw_5_1, (Or.inr ⟨hw_2_2 (by omega), fun r n hR => by obtain ⟨y1, y2⟩ := hw_5_3 r n hR; unfold skF; rw [if_neg (by omega), if_neg (by omega), if_neg (by omega)]; rfl⟩)⟩) [3, 4, 0, 1, 2, 7, 8, 9, 10, 5, 6] (by decide) rfl (by decide) (by decide) dX10_stack_86
  · skip
    have el_0 : (0 : Int32).toInt = 0 := rfl
    rw [i_eq] at c_3
    refine j_iconst (pc := 9) (v := (-1)) C dX10_stack_9 (by decide) ?_
    have el_m1 : ((-1) : Int32).toInt = (-1) := rfl
    exact j_iret (pc := 10) C hr hk (fun i => [].getD i 0, fun i => [(-1), q_size].getD i 0, fun i => [q_ware].getD i (fun _ => 0), fun i => [].getD i (fun _ => 0)) rfl (show (0 ≤ (q_size).toInt ∧ (q_size).toInt ≤ 12) ∧ (Iv 12 (0) (11) q_ware) ∧ (GRD (0 ≤ (p0).toInt ∧ (p0).toInt < (a_shelves).toInt ∧ 0 ≤ (p1).toInt ∧ (p1).toInt < (stF n_shelf n_stack p0 12).toInt) (-1) (fun x => ∀ (r : Nat → Int32) (n : Nat), ROW n_shelf n_stack n_level p0 p1 r n → x = skF (p2).toInt (n : Int) (hiF (rsC a_wide a_deep a_lids) a_deep r n).toInt (wtF a_weight r 0 n).toInt) ((-1) : Int32).toInt) from ⟨h_q_size, h_q_ware, (Or.inl ⟨rfl, fun z => hw_2_3 (by omega) z⟩)⟩) [6, 7, 0, 1, 2, 8, 9, 10, 3, 4, 5] (by decide) rfl (by decide) (by decide) dX10_stack_10
set_option maxHeartbeats 4000000 in
set_option maxRecDepth 100000 in
theorem c_X10_where (l : Launch) (D : DG) (cyC cyI cyJ cyZ cyO : ClassId) (x0 : Nat) (a0 : Nat) (a1 : Nat) (a2 : Nat) (n0 : Nat) (n1 : Nat) (n2 : Nat) (n3 : Nat) (q0 : Nat) (q1 : Nat) (r0 : Nat) (k0 : Nat) (x1 : Nat) (o0 : Nat) (h0 : Nat) (s0 : Nat) (d0 : Nat) (a3 : Nat) (a4 : Nat) (a5 : Nat) (a6 : Nat) (a7 : Nat) (a8 : Nat) (a9 : Nat) (a10 : Nat) (n4 : Nat) (p0 : Int32) (p1 : Int32) (a_wares : Int32) (a_shelves : Int32) (a_nests : Int32) (a_lids : Int32) (a_tops : Int32) (n_askings : Int32) (n_cost : Int32) (n_laid : Int32) (q_size : Int32) (a_wide : Nat → Int32) (a_deep : Nat → Int32) (n_shelf : Nat → Int32) (n_stack : Nat → Int32) (n_level : Nat → Int32) (q_ware : Nat → Int32) (h_a_wares : 0 ≤ (a_wares).toInt ∧ (a_wares).toInt ≤ 12) (h_a_shelves : 0 ≤ (a_shelves).toInt ∧ (a_shelves).toInt ≤ 4) (h_a_nests : 0 ≤ (a_nests).toInt ∧ (a_nests).toInt ≤ 4) (h_n_askings : 0 ≤ (n_askings).toInt ∧ (n_askings).toInt ≤ 30) (h_n_laid : 0 ≤ (n_laid).toInt ∧ (n_laid).toInt ≤ 1) (h_q_size : 0 ≤ (q_size).toInt ∧ (q_size).toInt ≤ 12) (h_n_shelf : Iv 12 (-1) (3) n_shelf) (h_n_stack : Iv 12 (0) (7) n_stack) (h_n_level : Iv 12 (0) (11) n_level) (h_q_ware : Iv 12 (0) (11) q_ware) : KK l D (TY cyC cyI cyJ cyZ cyO) yX10_where cX10_where 4 (some .int) ({ frames := 2, cells := 0, slots := 0, locals := 47 } : Room) 0 0 [.ref x0, .int p0, .int p1] [(x0, .inr (10, [.ref r0, .ref a0, .ref n0, .ref k0, .ref x1, .ref q0, .ref o0, .ref h0, .ref s0, .ref d0])), (a0, .inr (9, [.int a_wares, .int a_shelves, .int a_nests, .ref a1, .ref a2, .ref a3, .ref a4, .ref a5, .ref a6, .int a_lids, .int a_tops, .ref a7, .ref a8, .ref a9, .ref a10])), (a1, .inl (cyI, 12, .inl a_wide)), (a2, .inl (cyI, 12, .inl a_deep)), (n0, .inr (7, [.ref n1, .ref n2, .ref n3, .ref n4, .int n_askings, .int n_cost, .int n_laid])), (n1, .inl (cyI, 12, .inl n_shelf)), (n2, .inl (cyI, 12, .inl n_stack)), (n3, .inl (cyI, 12, .inl n_level)), (q0, .inr (4, [.ref q1, .int q_size])), (q1, .inl (cyI, 12, .inl q_ware))] (fun u => some (.int (u.2.1 0))) (fun u => (0 ≤ (u.2.1 1).toInt ∧ (u.2.1 1).toInt ≤ 12) ∧ (Iv 12 (0) (11) (u.2.2.1 0)) ∧ (GRD ((0 ≤ (p0).toInt ∧ (p0).toInt < (a_wares).toInt) ∧ ¬ (n_shelf (p0).toInt.toNat).toInt = -1) (-1) (fun x => ∀ (r : Nat → Int32) (n : Nat), ROW n_shelf n_stack n_level (n_shelf (p0).toInt.toNat) (n_stack (p0).toInt.toNat) r n → x = whF (p1).toInt (n_shelf (p0).toInt.toNat).toInt (n_stack (p0).toInt.toNat).toInt (n_level (p0).toInt.toNat).toInt ((n : Int) - 1 - (n_level (p0).toInt.toNat).toInt) (ftF (rsC a_wide a_deep a_lids) r (n_level (p0).toInt.toNat).toInt.toNat).toInt) (u.2.1 0).toInt)) (fun u => [(x0, .inr (10, [.ref r0, .ref a0, .ref n0, .ref k0, .ref x1, .ref q0, .ref o0, .ref h0, .ref s0, .ref d0])), (a0, .inr (9, [.int a_wares, .int a_shelves, .int a_nests, .ref a1, .ref a2, .ref a3, .ref a4, .ref a5, .ref a6, .int a_lids, .int a_tops, .ref a7, .ref a8, .ref a9, .ref a10])), (a1, .inl (cyI, 12, .inl a_wide)), (a2, .inl (cyI, 12, .inl a_deep)), (n0, .inr (7, [.ref n1, .ref n2, .ref n3, .ref n4, .int n_askings, .int n_cost, .int n_laid])), (n1, .inl (cyI, 12, .inl n_shelf)), (n2, .inl (cyI, 12, .inl n_stack)), (n3, .inl (cyI, 12, .inl n_level)), (q0, .inr (4, [.ref q1, .int (u.2.1 1)])), (q1, .inl (cyI, 12, .inl (u.2.2.1 0)))]) := by
  refine KK.of (lv0 := [(0, .ref x0), (1, .int p0), (2, .int p1)]) (by decide) rfl (Nat.le_of_ble_eq_true rfl) ?_
  intro p e s m args below meth c A C hr hk hin
  refine j_aload_n (pc := 0) C dX10_where_0 rfl 0 rfl ?_
  refine j_get (pc := 1) (ci := 10) (v := .ref a0) C inw_10 0 rfl rfl 1 (by decide) wd_447 rfl rfl dX10_where_1 ?_
  refine j_iload_n (pc := 4) C dX10_where_4 rfl 1 rfl ?_
  refine j_callV (pc := 5) (As := [.int p0]) (rest := []) (wr := [(x0, .inr (10, [.ref r0, .ref a0, .ref n0, .ref k0, .ref x1, .ref q0, .ref o0, .ref h0, .ref s0, .ref d0])), (a1, .inl (cyI, 12, .inl a_wide)), (a2, .inl (cyI, 12, .inl a_deep)), (n0, .inr (7, [.ref n1, .ref n2, .ref n3, .ref n4, .int n_askings, .int n_cost, .int n_laid])), (n1, .inl (cyI, 12, .inl n_shelf)), (n2, .inl (cyI, 12, .inl n_stack)), (n3, .inl (cyI, 12, .inl n_level)), (q0, .inr (4, [.ref q1, .int q_size])), (q1, .inl (cyI, 12, .inl q_ware))]) C (c_X9_isWare l D cyC cyI cyJ cyZ cyO a0 a1 a2 a3 a4 a5 a6 a7 a8 a9 a10 p0 a_wares a_shelves a_nests a_lids a_tops h_a_wares h_a_shelves h_a_nests) wd_467 wd_33 wd_468 wd_469 wd_470 ⟨by decide, by decide, rfl⟩ rfl ⟨rfl, rfl, by decide, by decide⟩ ⟨by decide, by decide⟩ [1] [0, 2, 3, 4, 5, 6, 7, 8, 9] rfl rfl ⟨by decide, by decide, by decide⟩ 1 rfl rfl rfl (Nat.le_of_ble_eq_true rfl) dX10_where_5 (fun u_1 hw_2 => ?_)
  refine j_eq (ws2 := [(x0, .inr (10, [.ref r0, .ref a0, .ref n0, .ref k0, .ref x1, .ref q0, .ref o0, .ref h0, .ref s0, .ref d0])), (a1, .inl (cyI, 12, .inl a_wide)), (a2, .inl (cyI, 12, .inl a_deep)), (n0, .inr (7, [.ref n1, .ref n2, .ref n3, .ref n4, .int n_askings, .int n_cost, .int n_laid])), (n1, .inl (cyI, 12, .inl n_shelf)), (n2, .inl (cyI, 12, .inl n_stack)), (n3, .inl (cyI, 12, .inl n_level)), (q0, .inr (4, [.ref q1, .int q_size])), (q1, .inl (cyI, 12, .inl q_ware)), (a0, .inr (9, [.int a_wares, .int a_shelves, .int a_nests, .ref a1, .ref a2, .ref a3, .ref a4, .ref a5, .ref a6, .int a_lids, .int a_tops, .ref a7, .ref a8, .ref a9, .ref a10]))]) (pc2 := 8) (lv2 := [(0, .ref x0), (1, .int p0), (2, .int p1)]) (st2 := [.int (u_1.2.1 0)]) rfl rfl rfl rfl ?_
  obtain ⟨hw_2_0, hw_2_1, hw_2_2⟩ := hw_2
  refine j_if_eq (pc := 8) (tgt := 22) C dX10_where_8 (by decide) (fun c_3 => ?_) (fun c_3 => ?_)
  · skip
    have el_0 : (0 : Int32).toInt = 0 := rfl
    rw [i_eq] at c_3
    refine j_iconst (pc := 22) (v := (-1)) C dX10_where_22 (by decide) ?_
    have el_m1 : ((-1) : Int32).toInt = (-1) := rfl
    exact j_iret (pc := 23) C hr hk (fun i => [].getD i 0, fun i => [(-1), q_size].getD i 0, fun i => [q_ware].getD i (fun _ => 0), fun i => [].getD i (fun _ => 0)) rfl (show (0 ≤ (q_size).toInt ∧ (q_size).toInt ≤ 12) ∧ (Iv 12 (0) (11) q_ware) ∧ (GRD ((0 ≤ (p0).toInt ∧ (p0).toInt < (a_wares).toInt) ∧ ¬ (n_shelf (p0).toInt.toNat).toInt = -1) (-1) (fun x => ∀ (r : Nat → Int32) (n : Nat), ROW n_shelf n_stack n_level (n_shelf (p0).toInt.toNat) (n_stack (p0).toInt.toNat) r n → x = whF (p1).toInt (n_shelf (p0).toInt.toNat).toInt (n_stack (p0).toInt.toNat).toInt (n_level (p0).toInt.toNat).toInt ((n : Int) - 1 - (n_level (p0).toInt.toNat).toInt) (ftF (rsC a_wide a_deep a_lids) r (n_level (p0).toInt.toNat).toInt.toNat).toInt) ((-1) : Int32).toInt) from ⟨h_q_size, h_q_ware, (Or.inl ⟨rfl, fun z => by have z1 := z.1; omega⟩)⟩) [0, 9, 1, 2, 3, 4, 5, 6, 7, 8] (by decide) rfl (by decide) (by decide) dX10_where_23
  · skip
    have el_0 : (0 : Int32).toInt = 0 := rfl
    rw [i_eq] at c_3
    have k0c_3 : ((u_1.2.1 0)).toInt = 1 := by omega
    refine j_aload_n (pc := 11) C dX10_where_11 rfl 0 rfl ?_
    refine j_get (pc := 12) (ci := 10) (v := .ref n0) C inw_10 0 rfl rfl 2 (by decide) wd_466 rfl rfl dX10_where_12 ?_
    refine j_iload_n (pc := 15) C dX10_where_15 rfl 1 rfl ?_
    refine j_callV (pc := 16) (As := [.int p0]) (rest := []) (wr := [(x0, .inr (10, [.ref r0, .ref a0, .ref n0, .ref k0, .ref x1, .ref q0, .ref o0, .ref h0, .ref s0, .ref d0])), (a1, .inl (cyI, 12, .inl a_wide)), (a2, .inl (cyI, 12, .inl a_deep)), (n2, .inl (cyI, 12, .inl n_stack)), (n3, .inl (cyI, 12, .inl n_level)), (q0, .inr (4, [.ref q1, .int q_size])), (q1, .inl (cyI, 12, .inl q_ware)), (a0, .inr (9, [.int a_wares, .int a_shelves, .int a_nests, .ref a1, .ref a2, .ref a3, .ref a4, .ref a5, .ref a6, .int a_lids, .int a_tops, .ref a7, .ref a8, .ref a9, .ref a10]))]) C (c_X7_isOut l D cyC cyI cyJ cyZ cyO n0 n1 n2 n3 n4 p0 n_askings n_cost n_laid n_shelf h_n_askings h_n_laid (by omega) h_n_shelf) wd_13 wd_9 wd_480 wd_15 wd_16 ⟨by decide, by decide, rfl⟩ rfl ⟨rfl, rfl, by decide, by decide⟩ ⟨by decide, by decide⟩ [3, 4] [0, 1, 2, 5, 6, 7, 8, 9] rfl rfl ⟨by decide, by decide, by decide⟩ 3 rfl rfl rfl (Nat.le_of_ble_eq_true rfl) dX10_where_16 (fun u_4 hw_5 => ?_)
    refine j_eq (ws2 := [(x0, .inr (10, [.ref r0, .ref a0, .ref n0, .ref k0, .ref x1, .ref q0, .ref o0, .ref h0, .ref s0, .ref d0])), (a1, .inl (cyI, 12, .inl a_wide)), (a2, .inl (cyI, 12, .inl a_deep)), (n2, .inl (cyI, 12, .inl n_stack)), (n3, .inl (cyI, 12, .inl n_level)), (q0, .inr (4, [.ref q1, .int q_size])), (q1, .inl (cyI, 12, .inl q_ware)), (a0, .inr (9, [.int a_wares, .int a_shelves, .int a_nests, .ref a1, .ref a2, .ref a3, .ref a4, .ref a5, .ref a6, .int a_lids, .int a_tops, .ref a7, .ref a8, .ref a9, .ref a10])), (n0, .inr (7, [.ref n1, .ref n2, .ref n3, .ref n4, .int n_askings, .int n_cost, .int n_laid])), (n1, .inl (cyI, 12, .inl n_shelf))]) (pc2 := 19) (lv2 := [(0, .ref x0), (1, .int p0), (2, .int p1)]) (st2 := [.int (u_4.2.1 0)]) rfl rfl rfl rfl ?_
    obtain ⟨hw_5_0, hw_5_1, hw_5_2⟩ := hw_5
    refine j_if_eq (pc := 19) (tgt := 24) C dX10_where_19 (by decide) (fun c_6 => ?_) (fun c_6 => ?_)
    · skip
      have el_0 : (0 : Int32).toInt = 0 := rfl
      rw [i_eq] at c_6
      refine j_aload_n (pc := 24) C dX10_where_24 rfl 0 rfl ?_
      refine j_get (pc := 25) (ci := 10) (v := .ref n0) C inw_10 0 rfl rfl 2 (by decide) wd_466 rfl rfl dX10_where_25 ?_
      refine j_get (pc := 28) (ci := 7) (v := .ref n3) C inw_7 8 rfl rfl 2 (by decide) wd_456 rfl rfl dX10_where_28 ?_
      refine j_iload_n (pc := 31) C dX10_where_31 rfl 1 rfl ?_
      obtain ⟨v_7, ev_7⟩ : ∃ z, n_level (p0).toInt.toNat = z := ⟨_, rfl⟩
      have env_7 : (n_level (p0).toInt.toNat).toInt = v_7.toInt := by rw [ev_7]
      have hv_7 := h_n_level (p0).toInt.toNat (i_lt_n (by omega) (by omega)); rw [ev_7] at hv_7
      refine j_iald (pc := 32) (v := v_7) (k := (p0).toInt.toNat) C 4 1 rfl rfl (i_nn (by omega)) rfl (i_lt_n (by omega) (by omega)) ev_7 dX10_where_32 ?_
      refine j_istore_n (pc := 33) (lv' := [(3, .int v_7), (0, .ref x0), (1, .int p0), (2, .int p1)]) C dX10_where_33 rfl (by decide) rfl ?_
      refine j_aload_n (pc := 34) C dX10_where_34 rfl 1 rfl ?_
      refine j_get (pc := 35) (ci := 10) (v := .ref q0) C inw_10 0 rfl rfl 5 (by decide) wd_438 rfl rfl dX10_where_35 ?_
      refine j_aload_n (pc := 38) C dX10_where_38 rfl 1 rfl ?_
      refine j_get (pc := 39) (ci := 10) (v := .ref n0) C inw_10 0 rfl rfl 2 (by decide) wd_466 rfl rfl dX10_where_39 ?_
      refine j_aload_n (pc := 42) C dX10_where_42 rfl 1 rfl ?_
      refine j_get (pc := 43) (ci := 10) (v := .ref n0) C inw_10 0 rfl rfl 2 (by decide) wd_466 rfl rfl dX10_where_43 ?_
      refine j_get (pc := 46) (ci := 7) (v := .ref n1) C inw_7 8 rfl rfl 0 (by decide) wd_454 rfl rfl dX10_where_46 ?_
      refine j_iload_n (pc := 49) C dX10_where_49 rfl 2 rfl ?_
      obtain ⟨v_8, ev_8⟩ : ∃ z, n_shelf (p0).toInt.toNat = z := ⟨_, rfl⟩
      have env_8 : (n_shelf (p0).toInt.toNat).toInt = v_8.toInt := by rw [ev_8]
      have hv_8 := h_n_shelf (p0).toInt.toNat (i_lt_n (by omega) (by omega)); rw [ev_8] at hv_8
      refine j_iald (pc := 50) (v := v_8) (k := (p0).toInt.toNat) C 9 1 rfl rfl (i_nn (by omega)) rfl (i_lt_n (by omega) (by omega)) ev_8 dX10_where_50 ?_
      refine j_aload_n (pc := 51) C dX10_where_51 rfl 1 rfl ?_
      refine j_get (pc := 52) (ci := 10) (v := .ref n0) C inw_10 0 rfl rfl 2 (by decide) wd_466 rfl rfl dX10_where_52 ?_
      refine j_get (pc := 55) (ci := 7) (v := .ref n2) C inw_7 8 rfl rfl 1 (by decide) wd_455 rfl rfl dX10_where_55 ?_
      refine j_iload_n (pc := 58) C dX10_where_58 rfl 2 rfl ?_
      obtain ⟨v_9, ev_9⟩ : ∃ z, n_stack (p0).toInt.toNat = z := ⟨_, rfl⟩
      have env_9 : (n_stack (p0).toInt.toNat).toInt = v_9.toInt := by rw [ev_9]
      have hv_9 := h_n_stack (p0).toInt.toNat (i_lt_n (by omega) (by omega)); rw [ev_9] at hv_9
      refine j_iald (pc := 59) (v := v_9) (k := (p0).toInt.toNat) C 3 1 rfl rfl (i_nn (by omega)) rfl (i_lt_n (by omega) (by omega)) ev_9 dX10_where_59 ?_
      refine j_callV (pc := 60) (As := [.ref n0, .int v_8, .int v_9]) (rest := []) (wr := [(x0, .inr (10, [.ref r0, .ref a0, .ref n0, .ref k0, .ref x1, .ref q0, .ref o0, .ref h0, .ref s0, .ref d0])), (a1, .inl (cyI, 12, .inl a_wide)), (a2, .inl (cyI, 12, .inl a_deep)), (a0, .inr (9, [.int a_wares, .int a_shelves, .int a_nests, .ref a1, .ref a2, .ref a3, .ref a4, .ref a5, .ref a6, .int a_lids, .int a_tops, .ref a7, .ref a8, .ref a9, .ref a10]))]) C (c_X4_take l D cyC cyI cyJ cyZ cyO q0 q1 n0 n1 n2 n3 n4 v_8 v_9 q_size n_askings n_cost n_laid q_ware n_shelf n_stack n_level h_q_size h_n_askings h_n_laid h_q_ware h_n_shelf h_n_stack h_n_level) wd_439 wd_40 wd_440 wd_441 wd_442 ⟨by decide, by decide, rfl⟩ rfl ⟨rfl, rfl, by decide, by decide⟩ ⟨by decide, by decide⟩ [5, 6, 8, 9, 3, 4] [0, 1, 2, 7] rfl rfl ⟨by decide, by decide, by decide⟩ 5 rfl rfl rfl (Nat.le_of_ble_eq_true rfl) dX10_where_60 (fun u_10 hw_11 => ?_)
      refine j_eq (ws2 := [(x0, .inr (10, [.ref r0, .ref a0, .ref n0, .ref k0, .ref x1, .ref q0, .ref o0, .ref h0, .ref s0, .ref d0])), (a1, .inl (cyI, 12, .inl a_wide)), (a2, .inl (cyI, 12, .inl a_deep)), (a0, .inr (9, [.int a_wares, .int a_shelves, .int a_nests, .ref a1, .ref a2, .ref a3, .ref a4, .ref a5, .ref a6, .int a_lids, .int a_tops, .ref a7, .ref a8, .ref a9, .ref a10])), (q0, .inr (4, [.ref q1, .int (u_10.2.1 0)])), (q1, .inl (cyI, 12, .inl (u_10.2.2.1 0))), (n0, .inr (7, [.ref n1, .ref n2, .ref n3, .ref n4, .int n_askings, .int n_cost, .int n_laid])), (n1, .inl (cyI, 12, .inl n_shelf)), (n2, .inl (cyI, 12, .inl n_stack)), (n3, .inl (cyI, 12, .inl n_level))]) (pc2 := 63) (lv2 := [(3, .int v_7), (0, .ref x0), (1, .int p0), (2, .int p1)]) (st2 := []) rfl rfl rfl rfl ?_
      obtain ⟨hw_11_0, hw_11_1, hw_11_2, hw_11_3⟩ := hw_11
      refine j_iload_n (pc := 63) C dX10_where_63 rfl 3 rfl ?_
      rcases (by omega : p1.toInt = 0 ∨ p1.toInt = 1 ∨ p1.toInt = 2 ∨ p1.toInt = 3 ∨ p1.toInt = 4 ∨ (¬ p1.toInt = 0 ∧ ¬ p1.toInt = 1 ∧ ¬ p1.toInt = 2 ∧ ¬ p1.toInt = 3 ∧ ¬ p1.toInt = 4)) with sw_12 | sw_12 | sw_12 | sw_12 | sw_12 | sw_12
      · skip
        refine j_tin (pc := 64) (off := 36) (tgt := 100) C dX10_where_64 (by omega) (by omega) (by rw [sw_12]; decide) (by decide) ?_
        refine j_aload_n (pc := 100) C dX10_where_100 rfl 1 rfl ?_
        refine j_get (pc := 101) (ci := 10) (v := .ref n0) C inw_10 0 rfl rfl 2 (by decide) wd_466 rfl rfl dX10_where_101 ?_
        refine j_get (pc := 104) (ci := 7) (v := .ref n1) C inw_7 6 rfl rfl 0 (by decide) wd_454 rfl rfl dX10_where_104 ?_
        refine j_iload_n (pc := 107) C dX10_where_107 rfl 2 rfl ?_
        refine j_iald (pc := 108) (v := v_8) (k := (p0).toInt.toNat) C 7 1 rfl rfl (i_nn (by omega)) rfl (i_lt_n (by omega) (by omega)) ev_8 dX10_where_108 ?_
        exact j_iret (pc := 109) C hr hk (fun i => [].getD i 0, fun i => [v_8, (u_10.2.1 0)].getD i 0, fun i => [(u_10.2.2.1 0)].getD i (fun _ => 0), fun i => [].getD i (fun _ => 0)) rfl (show (0 ≤ ((u_10.2.1 0)).toInt ∧ ((u_10.2.1 0)).toInt ≤ 12) ∧ (Iv 12 (0) (11) (u_10.2.2.1 0)) ∧ (GRD ((0 ≤ (p0).toInt ∧ (p0).toInt < (a_wares).toInt) ∧ ¬ (n_shelf (p0).toInt.toNat).toInt = -1) (-1) (fun x => ∀ (r : Nat → Int32) (n : Nat), ROW n_shelf n_stack n_level (n_shelf (p0).toInt.toNat) (n_stack (p0).toInt.toNat) r n → x = whF (p1).toInt (n_shelf (p0).toInt.toNat).toInt (n_stack (p0).toInt.toNat).toInt (n_level (p0).toInt.toNat).toInt ((n : Int) - 1 - (n_level (p0).toInt.toNat).toInt) (ftF (rsC a_wide a_deep a_lids) r (n_level (p0).toInt.toNat).toInt.toNat).toInt) v_8.toInt) from ⟨hw_11_0, hw_11_1, (Or.inr ⟨⟨⟨by omega, by omega⟩, by omega⟩, fun r n hR => by rw [ev_8, ev_9] at hR; obtain ⟨y1, y2⟩ := hw_11_3 r n hR; have y5 := hR.at (w := (p0).toInt.toNat) (by omega) ev_8 ev_9; rw [ev_7] at y5; unfold whF; rw [if_pos (by omega)]; rw [ev_8]⟩)⟩) [0, 3, 1, 2, 6, 7, 8, 9, 4, 5] (by decide) rfl (by decide) (by decide) dX10_where_109
      · skip
        refine j_tin (pc := 64) (off := 46) (tgt := 110) C dX10_where_64 (by omega) (by omega) (by rw [sw_12]; decide) (by decide) ?_
        refine j_aload_n (pc := 110) C dX10_where_110 rfl 1 rfl ?_
        refine j_get (pc := 111) (ci := 10) (v := .ref n0) C inw_10 0 rfl rfl 2 (by decide) wd_466 rfl rfl dX10_where_111 ?_
        refine j_get (pc := 114) (ci := 7) (v := .ref n2) C inw_7 6 rfl rfl 1 (by decide) wd_455 rfl rfl dX10_where_114 ?_
        refine j_iload_n (pc := 117) C dX10_where_117 rfl 2 rfl ?_
        refine j_iald (pc := 118) (v := v_9) (k := (p0).toInt.toNat) C 8 1 rfl rfl (i_nn (by omega)) rfl (i_lt_n (by omega) (by omega)) ev_9 dX10_where_118 ?_
        exact j_iret (pc := 119) C hr hk (fun i => [].getD i 0, fun i => [v_9, (u_10.2.1 0)].getD i 0, fun i => [(u_10.2.2.1 0)].getD i (fun _ => 0), fun i => [].getD i (fun _ => 0)) rfl (show (0 ≤ ((u_10.2.1 0)).toInt ∧ ((u_10.2.1 0)).toInt ≤ 12) ∧ (Iv 12 (0) (11) (u_10.2.2.1 0)) ∧ (GRD ((0 ≤ (p0).toInt ∧ (p0).toInt < (a_wares).toInt) ∧ ¬ (n_shelf (p0).toInt.toNat).toInt = -1) (-1) (fun x => ∀ (r : Nat → Int32) (n : Nat), ROW n_shelf n_stack n_level (n_shelf (p0).toInt.toNat) (n_stack (p0).toInt.toNat) r n → x = whF (p1).toInt (n_shelf (p0).toInt.toNat).toInt (n_stack (p0).toInt.toNat).toInt (n_level (p0).toInt.toNat).toInt ((n : Int) - 1 - (n_level (p0).toInt.toNat).toInt) (ftF (rsC a_wide a_deep a_lids) r (n_level (p0).toInt.toNat).toInt.toNat).toInt) v_9.toInt) from ⟨hw_11_0, hw_11_1, (Or.inr ⟨⟨⟨by omega, by omega⟩, by omega⟩, fun r n hR => by rw [ev_8, ev_9] at hR; obtain ⟨y1, y2⟩ := hw_11_3 r n hR; have y5 := hR.at (w := (p0).toInt.toNat) (by omega) ev_8 ev_9; rw [ev_7] at y5; unfold whF; rw [if_neg (by omega), if_pos (by omega)]; rw [ev_9]⟩)⟩) [0, 3, 1, 2, 6, 7, 8, 9, 4, 5] (by decide) rfl (by decide) (by decide) dX10_where_119
      · skip
        refine j_tin (pc := 64) (off := 56) (tgt := 120) C dX10_where_64 (by omega) (by omega) (by rw [sw_12]; decide) (by decide) ?_
        refine j_iload_n (pc := 120) C dX10_where_120 rfl 0 rfl ?_
        exact j_iret (pc := 121) C hr hk (fun i => [].getD i 0, fun i => [v_7, (u_10.2.1 0)].getD i 0, fun i => [(u_10.2.2.1 0)].getD i (fun _ => 0), fun i => [].getD i (fun _ => 0)) rfl (show (0 ≤ ((u_10.2.1 0)).toInt ∧ ((u_10.2.1 0)).toInt ≤ 12) ∧ (Iv 12 (0) (11) (u_10.2.2.1 0)) ∧ (GRD ((0 ≤ (p0).toInt ∧ (p0).toInt < (a_wares).toInt) ∧ ¬ (n_shelf (p0).toInt.toNat).toInt = -1) (-1) (fun x => ∀ (r : Nat → Int32) (n : Nat), ROW n_shelf n_stack n_level (n_shelf (p0).toInt.toNat) (n_stack (p0).toInt.toNat) r n → x = whF (p1).toInt (n_shelf (p0).toInt.toNat).toInt (n_stack (p0).toInt.toNat).toInt (n_level (p0).toInt.toNat).toInt ((n : Int) - 1 - (n_level (p0).toInt.toNat).toInt) (ftF (rsC a_wide a_deep a_lids) r (n_level (p0).toInt.toNat).toInt.toNat).toInt) v_7.toInt) from ⟨hw_11_0, hw_11_1, (Or.inr ⟨⟨⟨by omega, by omega⟩, by omega⟩, fun r n hR => by rw [ev_8, ev_9] at hR; obtain ⟨y1, y2⟩ := hw_11_3 r n hR; have y5 := hR.at (w := (p0).toInt.toNat) (by omega) ev_8 ev_9; rw [ev_7] at y5; unfold whF; rw [if_neg (by omega), if_neg (by omega), if_pos (by omega)]; rw [ev_7]⟩)⟩) [0, 3, 1, 2, 6, 7, 8, 9, 4, 5] (by decide) rfl (by decide) (by decide) dX10_where_121
      · skip
        refine j_tin (pc := 64) (off := 58) (tgt := 122) C dX10_where_64 (by omega) (by omega) (by rw [sw_12]; decide) (by decide) ?_
        refine j_aload_n (pc := 122) C dX10_where_122 rfl 1 rfl ?_
        refine j_get (pc := 123) (ci := 10) (v := .ref q0) C inw_10 0 rfl rfl 5 (by decide) wd_438 rfl rfl dX10_where_123 ?_
        refine j_get (pc := 126) (ci := 4) (v := .int (u_10.2.1 0)) C inw_4 4 rfl rfl 1 (by decide) wd_505 rfl rfl dX10_where_126 ?_
        refine j_iconst (pc := 129) (v := 1) C dX10_where_129 (by decide) ?_
        obtain ⟨v_13, ev_13⟩ : ∃ z : Int32, (u_10.2.1 0) - 1 = z := ⟨_, rfl⟩
        have el_1 : (1 : Int32).toInt = 1 := rfl
        have hv_13 : v_13.toInt = ((u_10.2.1 0)).toInt - (1 : Int32).toInt := by rw [← ev_13]; exact fb_subI (by omega) (by omega)
        refine j_isub (pc := 130) (v := v_13) C dX10_where_130 ev_13 ?_
        refine j_iload_n (pc := 131) C dX10_where_131 rfl 0 rfl ?_
        obtain ⟨v_14, ev_14⟩ : ∃ z : Int32, v_13 - v_7 = z := ⟨_, rfl⟩
        have hv_14 : v_14.toInt = v_13.toInt - v_7.toInt := by rw [← ev_14]; exact fb_subI (by omega) (by omega)
        refine j_isub (pc := 132) (v := v_14) C dX10_where_132 ev_14 ?_
        exact j_iret (pc := 133) C hr hk (fun i => [].getD i 0, fun i => [v_14, (u_10.2.1 0)].getD i 0, fun i => [(u_10.2.2.1 0)].getD i (fun _ => 0), fun i => [].getD i (fun _ => 0)) rfl (show (0 ≤ ((u_10.2.1 0)).toInt ∧ ((u_10.2.1 0)).toInt ≤ 12) ∧ (Iv 12 (0) (11) (u_10.2.2.1 0)) ∧ (GRD ((0 ≤ (p0).toInt ∧ (p0).toInt < (a_wares).toInt) ∧ ¬ (n_shelf (p0).toInt.toNat).toInt = -1) (-1) (fun x => ∀ (r : Nat → Int32) (n : Nat), ROW n_shelf n_stack n_level (n_shelf (p0).toInt.toNat) (n_stack (p0).toInt.toNat) r n → x = whF (p1).toInt (n_shelf (p0).toInt.toNat).toInt (n_stack (p0).toInt.toNat).toInt (n_level (p0).toInt.toNat).toInt ((n : Int) - 1 - (n_level (p0).toInt.toNat).toInt) (ftF (rsC a_wide a_deep a_lids) r (n_level (p0).toInt.toNat).toInt.toNat).toInt) v_14.toInt) from ⟨hw_11_0, hw_11_1, (Or.inr ⟨⟨⟨by omega, by omega⟩, by omega⟩, fun r n hR => by rw [ev_8, ev_9] at hR; obtain ⟨y1, y2⟩ := hw_11_3 r n hR; have y5 := hR.at (w := (p0).toInt.toNat) (by omega) ev_8 ev_9; rw [ev_7] at y5; unfold whF; rw [if_neg (by omega), if_neg (by omega), if_neg (by omega), if_pos (by omega)]; have y6 : (n_level (p0).toInt.toNat).toInt = (v_7).toInt := (by rw [ev_7]); omega⟩)⟩) [0, 3, 1, 2, 6, 7, 8, 9, 4, 5] (by decide) rfl (by decide) (by decide) dX10_where_133
      · skip
        refine j_tin (pc := 64) (off := 70) (tgt := 134) C dX10_where_64 (by omega) (by omega) (by rw [sw_12]; decide) (by decide) ?_
        refine j_aload_n (pc := 134) C dX10_where_134 rfl 1 rfl ?_
        refine j_get (pc := 135) (ci := 10) (v := .ref q0) C inw_10 0 rfl rfl 5 (by decide) wd_438 rfl rfl dX10_where_135 ?_
        refine j_aload_n (pc := 138) C dX10_where_138 rfl 1 rfl ?_
        refine j_get (pc := 139) (ci := 10) (v := .ref a0) C inw_10 0 rfl rfl 1 (by decide) wd_447 rfl rfl dX10_where_139 ?_
        refine j_iload_n (pc := 142) C dX10_where_142 rfl 0 rfl ?_
        refine j_callV (pc := 143) (As := [.ref a0, .int v_7]) (rest := []) (wr := [(x0, .inr (10, [.ref r0, .ref a0, .ref n0, .ref k0, .ref x1, .ref q0, .ref o0, .ref h0, .ref s0, .ref d0])), (n0, .inr (7, [.ref n1, .ref n2, .ref n3, .ref n4, .int n_askings, .int n_cost, .int n_laid])), (n1, .inl (cyI, 12, .inl n_shelf)), (n2, .inl (cyI, 12, .inl n_stack)), (n3, .inl (cyI, 12, .inl n_level))]) C (c_X4_foot l D cyC cyI cyJ cyZ cyO q0 q1 a0 a1 a2 a3 a4 a5 a6 a7 a8 a9 a10 v_7 (u_10.2.1 0) a_wares a_shelves a_nests a_lids a_tops (u_10.2.2.1 0) a_wide a_deep hw_11_0 h_a_wares h_a_shelves h_a_nests hv_7 hw_11_1) wd_511 wd_40 wd_512 wd_513 wd_514 ⟨by decide, by decide, rfl⟩ rfl ⟨rfl, rfl, by decide, by decide⟩ ⟨by decide, by decide⟩ [4, 5, 3, 1, 2] [0, 6, 7, 8, 9] rfl rfl ⟨by decide, by decide, by decide⟩ 4 rfl rfl rfl (Nat.le_of_ble_eq_true rfl) dX10_where_143 (fun u_15 hw_16 => ?_)
        refine j_eq (ws2 := [(x0, .inr (10, [.ref r0, .ref a0, .ref n0, .ref k0, .ref x1, .ref q0, .ref o0, .ref h0, .ref s0, .ref d0])), (n0, .inr (7, [.ref n1, .ref n2, .ref n3, .ref n4, .int n_askings, .int n_cost, .int n_laid])), (n1, .inl (cyI, 12, .inl n_shelf)), (n2, .inl (cyI, 12, .inl n_stack)), (n3, .inl (cyI, 12, .inl n_level)), (q0, .inr (4, [.ref q1, .int (u_10.2.1 0)])), (q1, .inl (cyI, 12, .inl (u_10.2.2.1 0))), (a0, .inr (9, [.int a_wares, .int a_shelves, .int a_nests, .ref a1, .ref a2, .ref a3, .ref a4, .ref a5, .ref a6, .int a_lids, .int a_tops, .ref a7, .ref a8, .ref a9, .ref a10])), (a1, .inl (cyI, 12, .inl a_wide)), (a2, .inl (cyI, 12, .inl a_deep))]) (pc2 := 146) (lv2 := [(3, .int v_7), (0, .ref x0), (1, .int p0), (2, .int p1)]) (st2 := [.int (u_15.2.1 0)]) rfl rfl rfl rfl ?_
        have hw_16_0 : IM ((v_7).toInt < ((u_10.2.1 0)).toInt) ((u_15.2.1 0) = ftF (rsC a_wide a_deep a_lids) (u_10.2.2.1 0) (v_7).toInt.toNat) := hw_16
        exact j_iret (pc := 146) C hr hk (fun i => [].getD i 0, fun i => [(u_15.2.1 0), (u_10.2.1 0)].getD i 0, fun i => [(u_10.2.2.1 0)].getD i (fun _ => 0), fun i => [].getD i (fun _ => 0)) rfl (show (0 ≤ ((u_10.2.1 0)).toInt ∧ ((u_10.2.1 0)).toInt ≤ 12) ∧ (Iv 12 (0) (11) (u_10.2.2.1 0)) ∧ (GRD ((0 ≤ (p0).toInt ∧ (p0).toInt < (a_wares).toInt) ∧ ¬ (n_shelf (p0).toInt.toNat).toInt = -1) (-1) (fun x => ∀ (r : Nat → Int32) (n : Nat), ROW n_shelf n_stack n_level (n_shelf (p0).toInt.toNat) (n_stack (p0).toInt.toNat) r n → x = whF (p1).toInt (n_shelf (p0).toInt.toNat).toInt (n_stack (p0).toInt.toNat).toInt (n_level (p0).toInt.toNat).toInt ((n : Int) - 1 - (n_level (p0).toInt.toNat).toInt) (ftF (rsC a_wide a_deep a_lids) r (n_level (p0).toInt.toNat).toInt.toNat).toInt) (u_15.2.1 0).toInt) from ⟨hw_11_0, hw_11_1, (Or.inr ⟨⟨⟨by omega, by omega⟩, by omega⟩, fun r n hR => by rw [ev_8, ev_9] at hR; obtain ⟨y1, y2⟩ := hw_11_3 r n hR; have y5 := hR.at (w := (p0).toInt.toNat) (by omega) ev_8 ev_9; rw [ev_7] at y5; unfold whF; rw [if_neg (by omega), if_neg (by omega), if_neg (by omega), if_neg (by omega), if_pos (by omega)]; rw [ev_7]; have y3 := hw_16_0 (by omega); rw [ftF_cong (rs := (rsC a_wide a_deep a_lids)) (rs' := (rsC a_wide a_deep a_lids)) (r' := r) _ (fun q hq => by rw [y2 q (by omega), y2 (q + 1) (by omega)])] at y3; rw [y3]⟩)⟩) [0, 7, 8, 9, 1, 2, 3, 4, 5, 6] (by decide) rfl (by decide) (by decide) dX10_where_146
      · skip
        refine j_tout (pc := 64) (tgt := 147) C dX10_where_64 (by omega) (by decide) ?_
        refine j_iconst (pc := 147) (v := (-1)) C dX10_where_147 (by decide) ?_
        have el_m1 : ((-1) : Int32).toInt = (-1) := rfl
        exact j_iret (pc := 148) C hr hk (fun i => [].getD i 0, fun i => [(-1), (u_10.2.1 0)].getD i 0, fun i => [(u_10.2.2.1 0)].getD i (fun _ => 0), fun i => [].getD i (fun _ => 0)) rfl (show (0 ≤ ((u_10.2.1 0)).toInt ∧ ((u_10.2.1 0)).toInt ≤ 12) ∧ (Iv 12 (0) (11) (u_10.2.2.1 0)) ∧ (GRD ((0 ≤ (p0).toInt ∧ (p0).toInt < (a_wares).toInt) ∧ ¬ (n_shelf (p0).toInt.toNat).toInt = -1) (-1) (fun x => ∀ (r : Nat → Int32) (n : Nat), ROW n_shelf n_stack n_level (n_shelf (p0).toInt.toNat) (n_stack (p0).toInt.toNat) r n → x = whF (p1).toInt (n_shelf (p0).toInt.toNat).toInt (n_stack (p0).toInt.toNat).toInt (n_level (p0).toInt.toNat).toInt ((n : Int) - 1 - (n_level (p0).toInt.toNat).toInt) (ftF (rsC a_wide a_deep a_lids) r (n_level (p0).toInt.toNat).toInt.toNat).toInt) ((-1) : Int32).toInt) from ⟨hw_11_0, hw_11_1, (Or.inr ⟨⟨⟨by omega, by omega⟩, by omega⟩, fun r n hR => by rw [ev_8, ev_9] at hR; obtain ⟨y1, y2⟩ := hw_11_3 r n hR; have y5 := hR.at (w := (p0).toInt.toNat) (by omega) ev_8 ev_9; rw [ev_7] at y5; unfold whF; rw [if_neg (by omega), if_neg (by omega), if_neg (by omega), if_neg (by omega), if_neg (by omega)]; rfl⟩)⟩) [0, 3, 1, 2, 6, 7, 8, 9, 4, 5] (by decide) rfl (by decide) (by decide) dX10_where_148
    · skip
      have el_0 : (0 : Int32).toInt = 0 := rfl
      rw [i_eq] at c_6
      have k0c_6 : ((u_4.2.1 0)).toInt = 1 := by omega
      refine j_iconst (pc := 22) (v := (-1)) C dX10_where_22 (by decide) ?_
      have el_m1 : ((-1) : Int32).toInt = (-1) := rfl
      exact j_iret (pc := 23) C hr hk (fun i => [].getD i 0, fun i => [(-1), q_size].getD i 0, fun i => [q_ware].getD i (fun _ => 0), fun i => [].getD i (fun _ => 0)) rfl (show (0 ≤ (q_size).toInt ∧ (q_size).toInt ≤ 12) ∧ (Iv 12 (0) (11) q_ware) ∧ (GRD ((0 ≤ (p0).toInt ∧ (p0).toInt < (a_wares).toInt) ∧ ¬ (n_shelf (p0).toInt.toNat).toInt = -1) (-1) (fun x => ∀ (r : Nat → Int32) (n : Nat), ROW n_shelf n_stack n_level (n_shelf (p0).toInt.toNat) (n_stack (p0).toInt.toNat) r n → x = whF (p1).toInt (n_shelf (p0).toInt.toNat).toInt (n_stack (p0).toInt.toNat).toInt (n_level (p0).toInt.toNat).toInt ((n : Int) - 1 - (n_level (p0).toInt.toNat).toInt) (ftF (rsC a_wide a_deep a_lids) r (n_level (p0).toInt.toNat).toInt.toNat).toInt) ((-1) : Int32).toInt) from ⟨h_q_size, h_q_ware, (Or.inl ⟨rfl, fun z => z.2 (by rcases hw_5_1 with h | h; (exfalso; omega); (rw [h]; rfl))⟩)⟩) [0, 7, 1, 2, 8, 9, 3, 4, 5, 6] (by decide) rfl (by decide) (by decide) dX10_where_23
set_option maxHeartbeats 4000000 in
set_option maxRecDepth 100000 in
theorem c_X10_lift (l : Launch) (D : DG) (cyC cyI cyJ cyZ cyO : ClassId) (x0 : Nat) (a0 : Nat) (a3 : Nat) (a9 : Nat) (n0 : Nat) (n1 : Nat) (n2 : Nat) (n3 : Nat) (q0 : Nat) (q1 : Nat) (r0 : Nat) (k0 : Nat) (x1 : Nat) (o0 : Nat) (h0 : Nat) (s0 : Nat) (d0 : Nat) (a1 : Nat) (a2 : Nat) (a4 : Nat) (a5 : Nat) (a6 : Nat) (a7 : Nat) (a8 : Nat) (a10 : Nat) (n4 : Nat) (p0 : Int32) (a_wares : Int32) (a_shelves : Int32) (a_nests : Int32) (a_lids : Int32) (a_tops : Int32) (n_askings : Int32) (n_cost : Int32) (n_laid : Int32) (q_size : Int32) (a_weight : Nat → Int32) (a_reach : Nat → Int32) (n_shelf : Nat → Int32) (n_stack : Nat → Int32) (n_level : Nat → Int32) (q_ware : Nat → Int32) (h_a_wares : 0 ≤ (a_wares).toInt ∧ (a_wares).toInt ≤ 12) (h_a_shelves : 0 ≤ (a_shelves).toInt ∧ (a_shelves).toInt ≤ 4) (h_a_nests : 0 ≤ (a_nests).toInt ∧ (a_nests).toInt ≤ 4) (h_n_askings : 0 ≤ (n_askings).toInt ∧ (n_askings).toInt ≤ 30) (h_n_laid : 0 ≤ (n_laid).toInt ∧ (n_laid).toInt ≤ 1) (h_q_size : 0 ≤ (q_size).toInt ∧ (q_size).toInt ≤ 12) (h_n_shelf : Iv 12 (-1) (3) n_shelf) (h_n_stack : Iv 12 (0) (7) n_stack) (h_n_level : Iv 12 (0) (11) n_level) (h_q_ware : Iv 12 (0) (11) q_ware) : KK l D (TY cyC cyI cyJ cyZ cyO) yX10_lift cX10_lift 2 (some .int) ({ frames := 3, cells := 0, slots := 0, locals := 71 } : Room) 0 0 [.ref x0, .int p0] [(x0, .inr (10, [.ref r0, .ref a0, .ref n0, .ref k0, .ref x1, .ref q0, .ref o0, .ref h0, .ref s0, .ref d0])), (a0, .inr (9, [.int a_wares, .int a_shelves, .int a_nests, .ref a1, .ref a2, .ref a3, .ref a4, .ref a5, .ref a6, .int a_lids, .int a_tops, .ref a7, .ref a8, .ref a9, .ref a10])), (a3, .inl (cyI, 12, .inl a_weight)), (a9, .inl (cyI, 4, .inl a_reach)), (n0, .inr (7, [.ref n1, .ref n2, .ref n3, .ref n4, .int n_askings, .int n_cost, .int n_laid])), (n1, .inl (cyI, 12, .inl n_shelf)), (n2, .inl (cyI, 12, .inl n_stack)), (n3, .inl (cyI, 12, .inl n_level)), (q0, .inr (4, [.ref q1, .int q_size])), (q1, .inl (cyI, 12, .inl q_ware))] (fun u => some (.int (u.2.1 0))) (fun u => (0 ≤ (u.2.1 1).toInt ∧ (u.2.1 1).toInt ≤ 12) ∧ (Iv 12 (0) (11) (u.2.2.1 0)) ∧ (GRD ((0 ≤ (p0).toInt ∧ (p0).toInt < (a_wares).toInt) ∧ ¬ (n_shelf (p0).toInt.toNat).toInt = -1) (-1) (fun x => ∀ (r : Nat → Int32) (n : Nat), ROW n_shelf n_stack n_level (n_shelf (p0).toInt.toNat) (n_stack (p0).toInt.toNat) r n → x = (prC a_weight r (n_level (p0).toInt.toNat) (nI n) (a_reach (n_shelf (p0).toInt.toNat).toInt.toNat)).toInt) (u.2.1 0).toInt)) (fun u => [(x0, .inr (10, [.ref r0, .ref a0, .ref n0, .ref k0, .ref x1, .ref q0, .ref o0, .ref h0, .ref s0, .ref d0])), (a0, .inr (9, [.int a_wares, .int a_shelves, .int a_nests, .ref a1, .ref a2, .ref a3, .ref a4, .ref a5, .ref a6, .int a_lids, .int a_tops, .ref a7, .ref a8, .ref a9, .ref a10])), (a3, .inl (cyI, 12, .inl a_weight)), (a9, .inl (cyI, 4, .inl a_reach)), (n0, .inr (7, [.ref n1, .ref n2, .ref n3, .ref n4, .int n_askings, .int n_cost, .int n_laid])), (n1, .inl (cyI, 12, .inl n_shelf)), (n2, .inl (cyI, 12, .inl n_stack)), (n3, .inl (cyI, 12, .inl n_level)), (q0, .inr (4, [.ref q1, .int (u.2.1 1)])), (q1, .inl (cyI, 12, .inl (u.2.2.1 0)))]) := by
  refine KK.of (lv0 := [(0, .ref x0), (1, .int p0)]) (by decide) rfl (Nat.le_of_ble_eq_true rfl) ?_
  intro p e s m args below meth c A C hr hk hin
  refine j_aload_n (pc := 0) C dX10_lift_0 rfl 0 rfl ?_
  refine j_get (pc := 1) (ci := 10) (v := .ref a0) C inw_10 0 rfl rfl 1 (by decide) wd_447 rfl rfl dX10_lift_1 ?_
  refine j_iload_n (pc := 4) C dX10_lift_4 rfl 1 rfl ?_
  refine j_callV (pc := 5) (As := [.int p0]) (rest := []) (wr := [(x0, .inr (10, [.ref r0, .ref a0, .ref n0, .ref k0, .ref x1, .ref q0, .ref o0, .ref h0, .ref s0, .ref d0])), (a3, .inl (cyI, 12, .inl a_weight)), (a9, .inl (cyI, 4, .inl a_reach)), (n0, .inr (7, [.ref n1, .ref n2, .ref n3, .ref n4, .int n_askings, .int n_cost, .int n_laid])), (n1, .inl (cyI, 12, .inl n_shelf)), (n2, .inl (cyI, 12, .inl n_stack)), (n3, .inl (cyI, 12, .inl n_level)), (q0, .inr (4, [.ref q1, .int q_size])), (q1, .inl (cyI, 12, .inl q_ware))]) C (c_X9_isWare l D cyC cyI cyJ cyZ cyO a0 a1 a2 a3 a4 a5 a6 a7 a8 a9 a10 p0 a_wares a_shelves a_nests a_lids a_tops h_a_wares h_a_shelves h_a_nests) wd_467 wd_33 wd_468 wd_469 wd_470 ⟨by decide, by decide, rfl⟩ rfl ⟨rfl, rfl, by decide, by decide⟩ ⟨by decide, by decide⟩ [1] [0, 2, 3, 4, 5, 6, 7, 8, 9] rfl rfl ⟨by decide, by decide, by decide⟩ 1 rfl rfl rfl (Nat.le_of_ble_eq_true rfl) dX10_lift_5 (fun u_1 hw_2 => ?_)
  refine j_eq (ws2 := [(x0, .inr (10, [.ref r0, .ref a0, .ref n0, .ref k0, .ref x1, .ref q0, .ref o0, .ref h0, .ref s0, .ref d0])), (a3, .inl (cyI, 12, .inl a_weight)), (a9, .inl (cyI, 4, .inl a_reach)), (n0, .inr (7, [.ref n1, .ref n2, .ref n3, .ref n4, .int n_askings, .int n_cost, .int n_laid])), (n1, .inl (cyI, 12, .inl n_shelf)), (n2, .inl (cyI, 12, .inl n_stack)), (n3, .inl (cyI, 12, .inl n_level)), (q0, .inr (4, [.ref q1, .int q_size])), (q1, .inl (cyI, 12, .inl q_ware)), (a0, .inr (9, [.int a_wares, .int a_shelves, .int a_nests, .ref a1, .ref a2, .ref a3, .ref a4, .ref a5, .ref a6, .int a_lids, .int a_tops, .ref a7, .ref a8, .ref a9, .ref a10]))]) (pc2 := 8) (lv2 := [(0, .ref x0), (1, .int p0)]) (st2 := [.int (u_1.2.1 0)]) rfl rfl rfl rfl ?_
  obtain ⟨hw_2_0, hw_2_1, hw_2_2⟩ := hw_2
  refine j_if_eq (pc := 8) (tgt := 34) C dX10_lift_8 (by decide) (fun c_3 => ?_) (fun c_3 => ?_)
  · skip
    have el_0 : (0 : Int32).toInt = 0 := rfl
    rw [i_eq] at c_3
    refine j_iconst (pc := 34) (v := (-1)) C dX10_lift_34 (by decide) ?_
    have el_m1 : ((-1) : Int32).toInt = (-1) := rfl
    exact j_iret (pc := 35) C hr hk (fun i => [].getD i 0, fun i => [(-1), q_size].getD i 0, fun i => [q_ware].getD i (fun _ => 0), fun i => [].getD i (fun _ => 0)) rfl (show (0 ≤ (q_size).toInt ∧ (q_size).toInt ≤ 12) ∧ (Iv 12 (0) (11) q_ware) ∧ (GRD ((0 ≤ (p0).toInt ∧ (p0).toInt < (a_wares).toInt) ∧ ¬ (n_shelf (p0).toInt.toNat).toInt = -1) (-1) (fun x => ∀ (r : Nat → Int32) (n : Nat), ROW n_shelf n_stack n_level (n_shelf (p0).toInt.toNat) (n_stack (p0).toInt.toNat) r n → x = (prC a_weight r (n_level (p0).toInt.toNat) (nI n) (a_reach (n_shelf (p0).toInt.toNat).toInt.toNat)).toInt) ((-1) : Int32).toInt) from ⟨h_q_size, h_q_ware, (Or.inl ⟨rfl, fun z => by have z1 := z.1; omega⟩)⟩) [0, 9, 1, 2, 3, 4, 5, 6, 7, 8] (by decide) rfl (by decide) (by decide) dX10_lift_35
  · skip
    have el_0 : (0 : Int32).toInt = 0 := rfl
    rw [i_eq] at c_3
    have k0c_3 : ((u_1.2.1 0)).toInt = 1 := by omega
    refine j_aload_n (pc := 11) C dX10_lift_11 rfl 0 rfl ?_
    refine j_get (pc := 12) (ci := 10) (v := .ref n0) C inw_10 0 rfl rfl 2 (by decide) wd_466 rfl rfl dX10_lift_12 ?_
    refine j_iload_n (pc := 15) C dX10_lift_15 rfl 1 rfl ?_
    refine j_callV (pc := 16) (As := [.int p0]) (rest := []) (wr := [(x0, .inr (10, [.ref r0, .ref a0, .ref n0, .ref k0, .ref x1, .ref q0, .ref o0, .ref h0, .ref s0, .ref d0])), (a3, .inl (cyI, 12, .inl a_weight)), (a9, .inl (cyI, 4, .inl a_reach)), (n2, .inl (cyI, 12, .inl n_stack)), (n3, .inl (cyI, 12, .inl n_level)), (q0, .inr (4, [.ref q1, .int q_size])), (q1, .inl (cyI, 12, .inl q_ware)), (a0, .inr (9, [.int a_wares, .int a_shelves, .int a_nests, .ref a1, .ref a2, .ref a3, .ref a4, .ref a5, .ref a6, .int a_lids, .int a_tops, .ref a7, .ref a8, .ref a9, .ref a10]))]) C (c_X7_isOut l D cyC cyI cyJ cyZ cyO n0 n1 n2 n3 n4 p0 n_askings n_cost n_laid n_shelf h_n_askings h_n_laid (by omega) h_n_shelf) wd_13 wd_9 wd_480 wd_15 wd_16 ⟨by decide, by decide, rfl⟩ rfl ⟨rfl, rfl, by decide, by decide⟩ ⟨by decide, by decide⟩ [3, 4] [0, 1, 2, 5, 6, 7, 8, 9] rfl rfl ⟨by decide, by decide, by decide⟩ 3 rfl rfl rfl (Nat.le_of_ble_eq_true rfl) dX10_lift_16 (fun u_4 hw_5 => ?_)
    refine j_eq (ws2 := [(x0, .inr (10, [.ref r0, .ref a0, .ref n0, .ref k0, .ref x1, .ref q0, .ref o0, .ref h0, .ref s0, .ref d0])), (a3, .inl (cyI, 12, .inl a_weight)), (a9, .inl (cyI, 4, .inl a_reach)), (n2, .inl (cyI, 12, .inl n_stack)), (n3, .inl (cyI, 12, .inl n_level)), (q0, .inr (4, [.ref q1, .int q_size])), (q1, .inl (cyI, 12, .inl q_ware)), (a0, .inr (9, [.int a_wares, .int a_shelves, .int a_nests, .ref a1, .ref a2, .ref a3, .ref a4, .ref a5, .ref a6, .int a_lids, .int a_tops, .ref a7, .ref a8, .ref a9, .ref a10])), (n0, .inr (7, [.ref n1, .ref n2, .ref n3, .ref n4, .int n_askings, .int n_cost, .int n_laid])), (n1, .inl (cyI, 12, .inl n_shelf))]) (pc2 := 19) (lv2 := [(0, .ref x0), (1, .int p0)]) (st2 := [.int (u_4.2.1 0)]) rfl rfl rfl rfl ?_
    obtain ⟨hw_5_0, hw_5_1, hw_5_2⟩ := hw_5
    refine j_if_ne (pc := 19) (tgt := 34) C dX10_lift_19 (by decide) (fun c_6 => ?_) (fun c_6 => ?_)
    · skip
      have el_0 : (0 : Int32).toInt = 0 := rfl
      rw [i_eq] at c_6
      have k0c_6 : ((u_4.2.1 0)).toInt = 1 := by omega
      refine j_iconst (pc := 34) (v := (-1)) C dX10_lift_34 (by decide) ?_
      have el_m1 : ((-1) : Int32).toInt = (-1) := rfl
      exact j_iret (pc := 35) C hr hk (fun i => [].getD i 0, fun i => [(-1), q_size].getD i 0, fun i => [q_ware].getD i (fun _ => 0), fun i => [].getD i (fun _ => 0)) rfl (show (0 ≤ (q_size).toInt ∧ (q_size).toInt ≤ 12) ∧ (Iv 12 (0) (11) q_ware) ∧ (GRD ((0 ≤ (p0).toInt ∧ (p0).toInt < (a_wares).toInt) ∧ ¬ (n_shelf (p0).toInt.toNat).toInt = -1) (-1) (fun x => ∀ (r : Nat → Int32) (n : Nat), ROW n_shelf n_stack n_level (n_shelf (p0).toInt.toNat) (n_stack (p0).toInt.toNat) r n → x = (prC a_weight r (n_level (p0).toInt.toNat) (nI n) (a_reach (n_shelf (p0).toInt.toNat).toInt.toNat)).toInt) ((-1) : Int32).toInt) from ⟨h_q_size, h_q_ware, (Or.inl ⟨rfl, fun z => z.2 (by rcases hw_5_1 with h | h; (exfalso; omega); (rw [h]; rfl))⟩)⟩) [0, 7, 1, 2, 8, 9, 3, 4, 5, 6] (by decide) rfl (by decide) (by decide) dX10_lift_35
    · skip
      have el_0 : (0 : Int32).toInt = 0 := rfl
      rw [i_eq] at c_6
      refine j_aload_n (pc := 22) C dX10_lift_22 rfl 0 rfl ?_
      refine j_aload_n (pc := 23) C dX10_lift_23 rfl 0 rfl ?_
      refine j_get (pc := 24) (ci := 10) (v := .ref n0) C inw_10 0 rfl rfl 2 (by decide) wd_466 rfl rfl dX10_lift_24 ?_
      refine j_iload_n (pc := 27) C dX10_lift_27 rfl 1 rfl ?_
      refine j_callV (pc := 28) (As := [.ref n0, .int p0]) (rest := []) (wr := []) C (c_X10_price l D cyC cyI cyJ cyZ cyO x0 a0 a3 a9 q0 q1 n0 n1 n2 n3 r0 n0 k0 x1 o0 h0 s0 d0 a1 a2 a4 a5 a6 a7 a8 a10 n4 p0 a_wares a_shelves a_nests a_lids a_tops q_size n_askings n_cost n_laid a_weight a_reach q_ware n_shelf n_stack n_level h_a_wares h_a_shelves h_a_nests h_q_size h_n_askings h_n_laid (by omega) h_q_ware h_n_shelf h_n_stack h_n_level (by omega)) wd_515 wd_482 wd_516 wd_517 wd_518 ⟨by decide, by decide, rfl⟩ rfl ⟨rfl, rfl, by decide, by decide⟩ ⟨by decide, by decide⟩ [0, 7, 1, 2, 5, 6, 8, 9, 3, 4] [] rfl rfl ⟨by decide, by decide, by decide⟩ 0 rfl rfl rfl (Nat.le_of_ble_eq_true rfl) dX10_lift_28 (fun u_7 hw_8 => ?_)
      refine j_eq (ws2 := [(x0, .inr (10, [.ref r0, .ref a0, .ref n0, .ref k0, .ref x1, .ref q0, .ref o0, .ref h0, .ref s0, .ref d0])), (a0, .inr (9, [.int a_wares, .int a_shelves, .int a_nests, .ref a1, .ref a2, .ref a3, .ref a4, .ref a5, .ref a6, .int a_lids, .int a_tops, .ref a7, .ref a8, .ref a9, .ref a10])), (a3, .inl (cyI, 12, .inl a_weight)), (a9, .inl (cyI, 4, .inl a_reach)), (q0, .inr (4, [.ref q1, .int (u_7.2.1 1)])), (q1, .inl (cyI, 12, .inl (u_7.2.2.1 0))), (n0, .inr (7, [.ref n1, .ref n2, .ref n3, .ref n4, .int n_askings, .int n_cost, .int n_laid])), (n1, .inl (cyI, 12, .inl n_shelf)), (n2, .inl (cyI, 12, .inl n_stack)), (n3, .inl (cyI, 12, .inl n_level))]) (pc2 := 31) (lv2 := [(0, .ref x0), (1, .int p0)]) (st2 := [.int (u_7.2.1 0)]) rfl rfl rfl rfl ?_
      obtain ⟨hw_8_0, hw_8_1, hw_8_2⟩ := hw_8
      refine j_goto (pc := 31) (tgt := 35) C dX10_lift_31 (by decide) ?_
      exact j_iret (pc := 35) C hr hk (fun i => [].getD i 0, fun i => [(u_7.2.1 0), (u_7.2.1 1)].getD i 0, fun i => [(u_7.2.2.1 0)].getD i (fun _ => 0), fun i => [].getD i (fun _ => 0)) rfl (show (0 ≤ ((u_7.2.1 1)).toInt ∧ ((u_7.2.1 1)).toInt ≤ 12) ∧ (Iv 12 (0) (11) (u_7.2.2.1 0)) ∧ (GRD ((0 ≤ (p0).toInt ∧ (p0).toInt < (a_wares).toInt) ∧ ¬ (n_shelf (p0).toInt.toNat).toInt = -1) (-1) (fun x => ∀ (r : Nat → Int32) (n : Nat), ROW n_shelf n_stack n_level (n_shelf (p0).toInt.toNat) (n_stack (p0).toInt.toNat) r n → x = (prC a_weight r (n_level (p0).toInt.toNat) (nI n) (a_reach (n_shelf (p0).toInt.toNat).toInt.toNat)).toInt) (u_7.2.1 0).toInt) from ⟨hw_8_0, hw_8_1, (Or.inr ⟨⟨⟨by omega, by omega⟩, by omega⟩, fun r n hR => by rw [hw_8_2 r n hR]⟩)⟩) [0, 1, 2, 3, 6, 7, 8, 9, 4, 5] (by decide) rfl (by decide) (by decide) dX10_lift_35
set_option maxHeartbeats 4000000 in
set_option maxRecDepth 100000 in
theorem c_X10_cost (l : Launch) (D : DG) (cyC cyI cyJ cyZ cyO : ClassId) (x0 : Nat) (n0 : Nat) (r0 : Nat) (a0 : Nat) (k0 : Nat) (x1 : Nat) (q0 : Nat) (o0 : Nat) (h0 : Nat) (s0 : Nat) (d0 : Nat) (n1 : Nat) (n2 : Nat) (n3 : Nat) (n4 : Nat) (n_askings : Int32) (n_cost : Int32) (n_laid : Int32) (h_n_askings : 0 ≤ (n_askings).toInt ∧ (n_askings).toInt ≤ 30) (h_n_laid : 0 ≤ (n_laid).toInt ∧ (n_laid).toInt ≤ 1) : KK l D (TY cyC cyI cyJ cyZ cyO) yX10_cost cX10_cost 1 (some .int) ({ frames := 0, cells := 0, slots := 0, locals := 0 } : Room) 0 0 [.ref x0] [(x0, .inr (10, [.ref r0, .ref a0, .ref n0, .ref k0, .ref x1, .ref q0, .ref o0, .ref h0, .ref s0, .ref d0])), (n0, .inr (7, [.ref n1, .ref n2, .ref n3, .ref n4, .int n_askings, .int n_cost, .int n_laid]))] (fun u => some (.int (u.2.1 0))) (fun u => True) (fun u => [(x0, .inr (10, [.ref r0, .ref a0, .ref n0, .ref k0, .ref x1, .ref q0, .ref o0, .ref h0, .ref s0, .ref d0])), (n0, .inr (7, [.ref n1, .ref n2, .ref n3, .ref n4, .int n_askings, .int n_cost, .int n_laid]))]) := by
  refine KK.of (lv0 := [(0, .ref x0)]) (by decide) rfl (Nat.le_of_ble_eq_true rfl) ?_
  intro p e s m args below meth c A C hr hk hin
  refine j_aload_n (pc := 0) C dX10_cost_0 rfl 0 rfl ?_
  refine j_get (pc := 1) (ci := 10) (v := .ref n0) C inw_10 0 rfl rfl 2 (by decide) wd_466 rfl rfl dX10_cost_1 ?_
  refine j_get (pc := 4) (ci := 7) (v := .int n_cost) C inw_7 1 rfl rfl 5 (by decide) wd_486 rfl rfl dX10_cost_4 ?_
  exact j_iret (pc := 7) C hr hk (fun i => [].getD i 0, fun i => [n_cost].getD i 0, fun i => [].getD i (fun _ => 0), fun i => [].getD i (fun _ => 0)) rfl trivial [0, 1] (by decide) rfl (by decide) (by decide) dX10_cost_7
set_option maxHeartbeats 4000000 in
set_option maxRecDepth 100000 in
theorem c_X10_through (l : Launch) (D : DG) (cyC cyI cyJ cyZ cyO : ClassId) (x0 : Nat) (a0 : Nat) (o0 : Nat) (o1 : Nat) (r0 : Nat) (n0 : Nat) (k0 : Nat) (x1 : Nat) (q0 : Nat) (h0 : Nat) (s0 : Nat) (d0 : Nat) (a1 : Nat) (a2 : Nat) (a3 : Nat) (a4 : Nat) (a5 : Nat) (a6 : Nat) (a7 : Nat) (a8 : Nat) (a9 : Nat) (a10 : Nat) (o2 : Nat) (o3 : Nat) (o4 : Nat) (p0 : Int32) (p1 : Int32) (a_wares : Int32) (a_shelves : Int32) (a_nests : Int32) (a_lids : Int32) (a_tops : Int32) (o_wares : Int32) (o_known : Int32) (o_fewest : Int32) (o_apart : Int32) (o_above : Nat → Int32) (h_a_wares : 0 ≤ (a_wares).toInt ∧ (a_wares).toInt ≤ 12) (h_a_shelves : 0 ≤ (a_shelves).toInt ∧ (a_shelves).toInt ≤ 4) (h_a_nests : 0 ≤ (a_nests).toInt ∧ (a_nests).toInt ≤ 4) (h_o_wares : 0 ≤ (o_wares).toInt ∧ (o_wares).toInt ≤ 12) (h_o_known : 0 ≤ (o_known).toInt ∧ (o_known).toInt ≤ 1) : KK l D (TY cyC cyI cyJ cyZ cyO) yX10_through cX10_through 3 (some .int) ({ frames := 1, cells := 0, slots := 0, locals := 21 } : Room) 0 0 [.ref x0, .int p0, .int p1] [(x0, .inr (10, [.ref r0, .ref a0, .ref n0, .ref k0, .ref x1, .ref q0, .ref o0, .ref h0, .ref s0, .ref d0])), (a0, .inr (9, [.int a_wares, .int a_shelves, .int a_nests, .ref a1, .ref a2, .ref a3, .ref a4, .ref a5, .ref a6, .int a_lids, .int a_tops, .ref a7, .ref a8, .ref a9, .ref a10])), (o0, .inr (3, [.int o_wares, .ref o1, .ref o2, .int o_known, .int o_fewest, .int o_apart, .ref o3, .ref o4])), (o1, .inl (cyI, 12, .inl o_above))] (fun u => some (.int (u.2.1 0))) (fun u => True) (fun u => [(x0, .inr (10, [.ref r0, .ref a0, .ref n0, .ref k0, .ref x1, .ref q0, .ref o0, .ref h0, .ref s0, .ref d0])), (a0, .inr (9, [.int a_wares, .int a_shelves, .int a_nests, .ref a1, .ref a2, .ref a3, .ref a4, .ref a5, .ref a6, .int a_lids, .int a_tops, .ref a7, .ref a8, .ref a9, .ref a10])), (o0, .inr (3, [.int o_wares, .ref o1, .ref o2, .int o_known, .int o_fewest, .int o_apart, .ref o3, .ref o4])), (o1, .inl (cyI, 12, .inl o_above))]) := by
  refine KK.of (lv0 := [(0, .ref x0), (1, .int p0), (2, .int p1)]) (by decide) rfl (Nat.le_of_ble_eq_true rfl) ?_
  intro p e s m args below meth c A C hr hk hin
  refine j_aload_n (pc := 0) C dX10_through_0 rfl 0 rfl ?_
  refine j_get (pc := 1) (ci := 10) (v := .ref a0) C inw_10 0 rfl rfl 1 (by decide) wd_447 rfl rfl dX10_through_1 ?_
  refine j_iload_n (pc := 4) C dX10_through_4 rfl 1 rfl ?_
  refine j_callV (pc := 5) (As := [.int p0]) (rest := []) (wr := [(x0, .inr (10, [.ref r0, .ref a0, .ref n0, .ref k0, .ref x1, .ref q0, .ref o0, .ref h0, .ref s0, .ref d0])), (o0, .inr (3, [.int o_wares, .ref o1, .ref o2, .int o_known, .int o_fewest, .int o_apart, .ref o3, .ref o4])), (o1, .inl (cyI, 12, .inl o_above))]) C (c_X9_isWare l D cyC cyI cyJ cyZ cyO a0 a1 a2 a3 a4 a5 a6 a7 a8 a9 a10 p0 a_wares a_shelves a_nests a_lids a_tops h_a_wares h_a_shelves h_a_nests) wd_467 wd_33 wd_468 wd_469 wd_470 ⟨by decide, by decide, rfl⟩ rfl ⟨rfl, rfl, by decide, by decide⟩ ⟨by decide, by decide⟩ [1] [0, 2, 3] rfl rfl ⟨by decide, by decide, by decide⟩ 1 rfl rfl rfl (Nat.le_of_ble_eq_true rfl) dX10_through_5 (fun u_1 hw_2 => ?_)
  refine j_eq (ws2 := [(x0, .inr (10, [.ref r0, .ref a0, .ref n0, .ref k0, .ref x1, .ref q0, .ref o0, .ref h0, .ref s0, .ref d0])), (o0, .inr (3, [.int o_wares, .ref o1, .ref o2, .int o_known, .int o_fewest, .int o_apart, .ref o3, .ref o4])), (o1, .inl (cyI, 12, .inl o_above)), (a0, .inr (9, [.int a_wares, .int a_shelves, .int a_nests, .ref a1, .ref a2, .ref a3, .ref a4, .ref a5, .ref a6, .int a_lids, .int a_tops, .ref a7, .ref a8, .ref a9, .ref a10]))]) (pc2 := 8) (lv2 := [(0, .ref x0), (1, .int p0), (2, .int p1)]) (st2 := [.int (u_1.2.1 0)]) rfl rfl rfl rfl ?_
  obtain ⟨hw_2_0, hw_2_1, hw_2_2⟩ := hw_2
  refine j_if_eq (pc := 8) (tgt := 22) C dX10_through_8 (by decide) (fun c_3 => ?_) (fun c_3 => ?_)
  · skip
    have el_0 : (0 : Int32).toInt = 0 := rfl
    rw [i_eq] at c_3
    refine j_iconst (pc := 22) (v := (-1)) C dX10_through_22 (by decide) ?_
    exact j_iret (pc := 23) C hr hk (fun i => [].getD i 0, fun i => [(-1)].getD i 0, fun i => [].getD i (fun _ => 0), fun i => [].getD i (fun _ => 0)) rfl trivial [0, 3, 1, 2] (by decide) rfl (by decide) (by decide) dX10_through_23
  · skip
    have el_0 : (0 : Int32).toInt = 0 := rfl
    rw [i_eq] at c_3
    have k0c_3 : ((u_1.2.1 0)).toInt = 1 := by omega
    refine j_aload_n (pc := 11) C dX10_through_11 rfl 0 rfl ?_
    refine j_get (pc := 12) (ci := 10) (v := .ref a0) C inw_10 0 rfl rfl 1 (by decide) wd_447 rfl rfl dX10_through_12 ?_
    refine j_iload_n (pc := 15) C dX10_through_15 rfl 2 rfl ?_
    refine j_callV (pc := 16) (As := [.int p1]) (rest := []) (wr := [(x0, .inr (10, [.ref r0, .ref a0, .ref n0, .ref k0, .ref x1, .ref q0, .ref o0, .ref h0, .ref s0, .ref d0])), (o0, .inr (3, [.int o_wares, .ref o1, .ref o2, .int o_known, .int o_fewest, .int o_apart, .ref o3, .ref o4])), (o1, .inl (cyI, 12, .inl o_above))]) C (c_X9_isWare l D cyC cyI cyJ cyZ cyO a0 a1 a2 a3 a4 a5 a6 a7 a8 a9 a10 p1 a_wares a_shelves a_nests a_lids a_tops h_a_wares h_a_shelves h_a_nests) wd_467 wd_33 wd_468 wd_469 wd_470 ⟨by decide, by decide, rfl⟩ rfl ⟨rfl, rfl, by decide, by decide⟩ ⟨by decide, by decide⟩ [3] [0, 1, 2] rfl rfl ⟨by decide, by decide, by decide⟩ 3 rfl rfl rfl (Nat.le_of_ble_eq_true rfl) dX10_through_16 (fun u_4 hw_5 => ?_)
    refine j_eq (ws2 := [(x0, .inr (10, [.ref r0, .ref a0, .ref n0, .ref k0, .ref x1, .ref q0, .ref o0, .ref h0, .ref s0, .ref d0])), (o0, .inr (3, [.int o_wares, .ref o1, .ref o2, .int o_known, .int o_fewest, .int o_apart, .ref o3, .ref o4])), (o1, .inl (cyI, 12, .inl o_above)), (a0, .inr (9, [.int a_wares, .int a_shelves, .int a_nests, .ref a1, .ref a2, .ref a3, .ref a4, .ref a5, .ref a6, .int a_lids, .int a_tops, .ref a7, .ref a8, .ref a9, .ref a10]))]) (pc2 := 19) (lv2 := [(0, .ref x0), (1, .int p0), (2, .int p1)]) (st2 := [.int (u_4.2.1 0)]) rfl rfl rfl rfl ?_
    obtain ⟨hw_5_0, hw_5_1, hw_5_2⟩ := hw_5
    refine j_if_ne (pc := 19) (tgt := 24) C dX10_through_19 (by decide) (fun c_6 => ?_) (fun c_6 => ?_)
    · skip
      have el_0 : (0 : Int32).toInt = 0 := rfl
      rw [i_eq] at c_6
      have k0c_6 : ((u_4.2.1 0)).toInt = 1 := by omega
      refine j_aload_n (pc := 24) C dX10_through_24 rfl 0 rfl ?_
      refine j_get (pc := 25) (ci := 10) (v := .ref o0) C inw_10 0 rfl rfl 6 (by decide) wd_519 rfl rfl dX10_through_25 ?_
      refine j_get (pc := 28) (ci := 3) (v := .ref o1) C inw_3 1 rfl rfl 1 (by decide) wd_520 rfl rfl dX10_through_28 ?_
      refine j_iload_n (pc := 31) C dX10_through_31 rfl 2 rfl ?_
      obtain ⟨v_7, ev_7⟩ : ∃ z, o_above (p1).toInt.toNat = z := ⟨_, rfl⟩
      have env_7 : (o_above (p1).toInt.toNat).toInt = v_7.toInt := by rw [ev_7]
      refine j_iald (pc := 32) (v := v_7) (k := (p1).toInt.toNat) C 2 1 rfl rfl (i_nn (by omega)) rfl (i_lt_n (by omega) (by omega)) ev_7 dX10_through_32 ?_
      refine j_iload_n (pc := 33) C dX10_through_33 rfl 1 rfl ?_
      obtain ⟨v_8, ev_8⟩ : ∃ z : Int32, ((v_7 : Int32).toUInt32 >>> ((p0 : Int32).toUInt32 &&& Int32.toUInt32 31)).toInt32 = z := ⟨_, rfl⟩
      refine j_iushr (pc := 34) (v := v_8) C dX10_through_34 ev_8 ?_
      refine j_iconst (pc := 35) (v := 1) C dX10_through_35 (by decide) ?_
      obtain ⟨v_9, ev_9⟩ : ∃ z : Int32, v_8 &&& 1 = z := ⟨_, rfl⟩
      have el_1 : (1 : Int32).toInt = 1 := rfl
      have hv_9 : 0 ≤ v_9.toInt ∧ v_9.toInt ≤ 1 := by rw [← ev_9]; exact and1_r _
      refine j_iand (pc := 36) (v := v_9) C dX10_through_36 ev_9 ?_
      exact j_iret (pc := 37) C hr hk (fun i => [].getD i 0, fun i => [v_9].getD i 0, fun i => [].getD i (fun _ => 0), fun i => [].getD i (fun _ => 0)) rfl trivial [0, 3, 1, 2] (by decide) rfl (by decide) (by decide) dX10_through_37
    · skip
      have el_0 : (0 : Int32).toInt = 0 := rfl
      rw [i_eq] at c_6
      refine j_iconst (pc := 22) (v := (-1)) C dX10_through_22 (by decide) ?_
      exact j_iret (pc := 23) C hr hk (fun i => [].getD i 0, fun i => [(-1)].getD i 0, fun i => [].getD i (fun _ => 0), fun i => [].getD i (fun _ => 0)) rfl trivial [0, 3, 1, 2] (by decide) rfl (by decide) (by decide) dX10_through_23
set_option maxHeartbeats 4000000 in
set_option maxRecDepth 100000 in
theorem c_X10_rows (l : Launch) (D : DG) (cyC cyI cyJ cyZ cyO : ClassId) (x0 : Nat) (o0 : Nat) (o1 : Nat) (o2 : Nat) (o3 : Nat) (o4 : Nat) (r0 : Nat) (a0 : Nat) (n0 : Nat) (k0 : Nat) (x1 : Nat) (q0 : Nat) (h0 : Nat) (s0 : Nat) (d0 : Nat) (p0 : Int32) (o_wares : Int32) (o_known : Int32) (o_fewest : Int32) (o_apart : Int32) (o_above : Nat → Int32) (o_kin : Nat → Int32) (o_row : Nat → Int32) (o_members : Nat → Int32) (h_o_wares : 0 ≤ (o_wares).toInt ∧ (o_wares).toInt ≤ 12) (h_o_known : 0 ≤ (o_known).toInt ∧ (o_known).toInt ≤ 1) : KK l D (TY cyC cyI cyJ cyZ cyO) yX10_rows cX10_rows 2 (some .int) ({ frames := 14, cells := 0, slots := 0, locals := 319 } : Room) 0 0 [.ref x0, .int p0] [(x0, .inr (10, [.ref r0, .ref a0, .ref n0, .ref k0, .ref x1, .ref q0, .ref o0, .ref h0, .ref s0, .ref d0])), (o0, .inr (3, [.int o_wares, .ref o1, .ref o2, .int o_known, .int o_fewest, .int o_apart, .ref o3, .ref o4])), (o1, .inl (cyI, 12, .inl o_above)), (o2, .inl (cyI, 12, .inl o_kin)), (o3, .inl (cyI, 12, .inl o_row)), (o4, .inl (cyI, 12, .inl o_members))] (fun u => some (.int (u.2.1 0))) (fun u => (0 ≤ (u.2.1 1).toInt ∧ (u.2.1 1).toInt ≤ 1)) (fun u => [(x0, .inr (10, [.ref r0, .ref a0, .ref n0, .ref k0, .ref x1, .ref q0, .ref o0, .ref h0, .ref s0, .ref d0])), (o0, .inr (3, [.int o_wares, .ref o1, .ref o2, .int (u.2.1 1), .int (u.2.1 2), .int (u.2.1 3), .ref o3, .ref o4])), (o1, .inl (cyI, 12, .inl o_above)), (o2, .inl (cyI, 12, .inl (u.2.2.1 0))), (o3, .inl (cyI, 12, .inl (u.2.2.1 1))), (o4, .inl (cyI, 12, .inl (u.2.2.1 2)))]) := by
  refine KK.of (lv0 := [(0, .ref x0), (1, .int p0)]) (by decide) rfl (Nat.le_of_ble_eq_true rfl) ?_
  intro p e s m args below meth c A C hr hk hin
  refine j_aload_n (pc := 0) C dX10_rows_0 rfl 0 rfl ?_
  refine j_get (pc := 1) (ci := 10) (v := .ref o0) C inw_10 0 rfl rfl 6 (by decide) wd_519 rfl rfl dX10_rows_1 ?_
  refine j_callV (pc := 4) (As := []) (rest := []) (wr := [(x0, .inr (10, [.ref r0, .ref a0, .ref n0, .ref k0, .ref x1, .ref q0, .ref o0, .ref h0, .ref s0, .ref d0])), (o2, .inl (cyI, 12, .inl o_kin)), (o3, .inl (cyI, 12, .inl o_row)), (o4, .inl (cyI, 12, .inl o_members))]) C (c_X3_isRound l D cyC cyI cyJ cyZ cyO o0 o1 o2 o3 o4 o_wares o_known o_fewest o_apart o_above h_o_wares h_o_known) wd_521 wd_89 wd_522 wd_523 wd_524 ⟨by decide, by decide, rfl⟩ rfl ⟨rfl, rfl, by decide, by decide⟩ ⟨by decide, by decide⟩ [1, 2] [0, 3, 4, 5] rfl rfl ⟨by decide, by decide, by decide⟩ 1 rfl rfl rfl (Nat.le_of_ble_eq_true rfl) dX10_rows_4 (fun u_1 hw_2 => ?_)
  refine j_eq (ws2 := [(x0, .inr (10, [.ref r0, .ref a0, .ref n0, .ref k0, .ref x1, .ref q0, .ref o0, .ref h0, .ref s0, .ref d0])), (o2, .inl (cyI, 12, .inl o_kin)), (o3, .inl (cyI, 12, .inl o_row)), (o4, .inl (cyI, 12, .inl o_members)), (o0, .inr (3, [.int o_wares, .ref o1, .ref o2, .int o_known, .int o_fewest, .int o_apart, .ref o3, .ref o4])), (o1, .inl (cyI, 12, .inl o_above))]) (pc2 := 7) (lv2 := [(0, .ref x0), (1, .int p0)]) (st2 := [.int (u_1.2.1 0)]) rfl rfl rfl rfl ?_
  have hw_2_0 : 0 ≤ (u_1.2.1 0).toInt ∧ (u_1.2.1 0).toInt ≤ 1 := hw_2
  refine j_if_eq (pc := 7) (tgt := 12) C dX10_rows_7 (by decide) (fun c_3 => ?_) (fun c_3 => ?_)
  · skip
    have el_0 : (0 : Int32).toInt = 0 := rfl
    rw [i_eq] at c_3
    refine j_aload_n (pc := 12) C dX10_rows_12 rfl 0 rfl ?_
    refine j_get (pc := 13) (ci := 10) (v := .ref o0) C inw_10 0 rfl rfl 6 (by decide) wd_519 rfl rfl dX10_rows_13 ?_
    refine j_callV (pc := 16) (As := []) (rest := []) (wr := [(x0, .inr (10, [.ref r0, .ref a0, .ref n0, .ref k0, .ref x1, .ref q0, .ref o0, .ref h0, .ref s0, .ref d0]))]) C (c_X3_settle l D cyC cyI cyJ cyZ cyO o0 o1 o2 o3 o4 o_wares o_known o_fewest o_apart o_above o_kin o_row o_members h_o_wares h_o_known) wd_525 wd_89 wd_526 wd_527 wd_528 ⟨by decide, by decide, rfl⟩ rfl ⟨rfl, rfl, by decide, by decide⟩ ⟨by decide, by decide⟩ [4, 5, 1, 2, 3] [0] rfl rfl ⟨by decide, by decide, by decide⟩ 4 rfl rfl rfl (Nat.le_of_ble_eq_true rfl) dX10_rows_16 (fun u_4 hw_5 => ?_)
    refine j_eq (ws2 := [(x0, .inr (10, [.ref r0, .ref a0, .ref n0, .ref k0, .ref x1, .ref q0, .ref o0, .ref h0, .ref s0, .ref d0])), (o0, .inr (3, [.int o_wares, .ref o1, .ref o2, .int (u_4.2.1 0), .int (u_4.2.1 1), .int (u_4.2.1 2), .ref o3, .ref o4])), (o1, .inl (cyI, 12, .inl o_above)), (o2, .inl (cyI, 12, .inl (u_4.2.2.1 0))), (o3, .inl (cyI, 12, .inl (u_4.2.2.1 1))), (o4, .inl (cyI, 12, .inl (u_4.2.2.1 2)))]) (pc2 := 19) (lv2 := [(0, .ref x0), (1, .int p0)]) (st2 := []) rfl rfl rfl rfl ?_
    have hw_5_0 : 0 ≤ (u_4.2.1 0).toInt ∧ (u_4.2.1 0).toInt ≤ 1 := hw_5
    refine j_iload_n (pc := 19) C dX10_rows_19 rfl 1 rfl ?_
    rcases (by omega : p0.toInt = 0 ∨ p0.toInt = 1 ∨ (¬ p0.toInt = 0 ∧ ¬ p0.toInt = 1)) with sw_6 | sw_6 | sw_6
    · skip
      refine j_lk (pc := 20) (off := 28) (tgt := 48) C dX10_rows_20 (by decide) (by rw [sw_6]; decide) (by decide) ?_
      refine j_aload_n (pc := 48) C dX10_rows_48 rfl 0 rfl ?_
      refine j_get (pc := 49) (ci := 10) (v := .ref o0) C inw_10 0 rfl rfl 6 (by decide) wd_519 rfl rfl dX10_rows_49 ?_
      refine j_get (pc := 52) (ci := 3) (v := .int (u_4.2.1 1)) C inw_3 1 rfl rfl 4 (by decide) wd_529 rfl rfl dX10_rows_52 ?_
      exact j_iret (pc := 55) C hr hk (fun i => [].getD i 0, fun i => [(u_4.2.1 1), (u_4.2.1 0), (u_4.2.1 1), (u_4.2.1 2)].getD i 0, fun i => [(u_4.2.2.1 0), (u_4.2.2.1 1), (u_4.2.2.1 2)].getD i (fun _ => 0), fun i => [].getD i (fun _ => 0)) rfl (show (0 ≤ ((u_4.2.1 0)).toInt ∧ ((u_4.2.1 0)).toInt ≤ 1) from (hw_5_0)) [0, 1, 2, 3, 4, 5] (by decide) rfl (by decide) (by decide) dX10_rows_55
    · skip
      refine j_lk (pc := 20) (off := 36) (tgt := 56) C dX10_rows_20 (by decide) (by rw [sw_6]; decide) (by decide) ?_
      refine j_aload_n (pc := 56) C dX10_rows_56 rfl 0 rfl ?_
      refine j_get (pc := 57) (ci := 10) (v := .ref o0) C inw_10 0 rfl rfl 6 (by decide) wd_519 rfl rfl dX10_rows_57 ?_
      refine j_get (pc := 60) (ci := 3) (v := .int (u_4.2.1 2)) C inw_3 1 rfl rfl 5 (by decide) wd_530 rfl rfl dX10_rows_60 ?_
      exact j_iret (pc := 63) C hr hk (fun i => [].getD i 0, fun i => [(u_4.2.1 2), (u_4.2.1 0), (u_4.2.1 1), (u_4.2.1 2)].getD i 0, fun i => [(u_4.2.2.1 0), (u_4.2.2.1 1), (u_4.2.2.1 2)].getD i (fun _ => 0), fun i => [].getD i (fun _ => 0)) rfl (show (0 ≤ ((u_4.2.1 0)).toInt ∧ ((u_4.2.1 0)).toInt ≤ 1) from (hw_5_0)) [0, 1, 2, 3, 4, 5] (by decide) rfl (by decide) (by decide) dX10_rows_63
    · skip
      refine j_lk (pc := 20) (off := 44) (tgt := 64) C dX10_rows_20 (by decide) (by show Op.lookupswitch.offset [(0, 28), (1, 36)] 44 _ = 44; rw [Op.lookupswitch.offset_cons, if_neg (by omega), Op.lookupswitch.offset_cons, if_neg (by omega), Op.lookupswitch.offset_nil]) (by decide) ?_
      refine j_iconst (pc := 64) (v := (-1)) C dX10_rows_64 (by decide) ?_
      exact j_iret (pc := 65) C hr hk (fun i => [].getD i 0, fun i => [(-1), (u_4.2.1 0), (u_4.2.1 1), (u_4.2.1 2)].getD i 0, fun i => [(u_4.2.2.1 0), (u_4.2.2.1 1), (u_4.2.2.1 2)].getD i (fun _ => 0), fun i => [].getD i (fun _ => 0)) rfl (show (0 ≤ ((u_4.2.1 0)).toInt ∧ ((u_4.2.1 0)).toInt ≤ 1) from (hw_5_0)) [0, 1, 2, 3, 4, 5] (by decide) rfl (by decide) (by decide) dX10_rows_65
  · skip
    have el_0 : (0 : Int32).toInt = 0 := rfl
    rw [i_eq] at c_3
    have k0c_3 : ((u_1.2.1 0)).toInt = 1 := by omega
    refine j_iconst (pc := 10) (v := (-1)) C dX10_rows_10 (by decide) ?_
    exact j_iret (pc := 11) C hr hk (fun i => [].getD i 0, fun i => [(-1), o_known, o_fewest, o_apart].getD i 0, fun i => [o_kin, o_row, o_members].getD i (fun _ => 0), fun i => [].getD i (fun _ => 0)) rfl (show (0 ≤ (o_known).toInt ∧ (o_known).toInt ≤ 1) from (h_o_known)) [0, 4, 5, 1, 2, 3] (by decide) rfl (by decide) (by decide) dX10_rows_11
set_option maxHeartbeats 4000000 in
set_option maxRecDepth 100000 in
theorem c_X10_rowOf (l : Launch) (D : DG) (cyC cyI cyJ cyZ cyO : ClassId) (x0 : Nat) (a0 : Nat) (o0 : Nat) (o1 : Nat) (o2 : Nat) (o3 : Nat) (o4 : Nat) (r0 : Nat) (n0 : Nat) (k0 : Nat) (x1 : Nat) (q0 : Nat) (h0 : Nat) (s0 : Nat) (d0 : Nat) (a1 : Nat) (a2 : Nat) (a3 : Nat) (a4 : Nat) (a5 : Nat) (a6 : Nat) (a7 : Nat) (a8 : Nat) (a9 : Nat) (a10 : Nat) (p0 : Int32) (a_wares : Int32) (a_shelves : Int32) (a_nests : Int32) (a_lids : Int32) (a_tops : Int32) (o_wares : Int32) (o_known : Int32) (o_fewest : Int32) (o_apart : Int32) (o_above : Nat → Int32) (o_kin : Nat → Int32) (o_row : Nat → Int32) (o_members : Nat → Int32) (h_a_wares : 0 ≤ (a_wares).toInt ∧ (a_wares).toInt ≤ 12) (h_a_shelves : 0 ≤ (a_shelves).toInt ∧ (a_shelves).toInt ≤ 4) (h_a_nests : 0 ≤ (a_nests).toInt ∧ (a_nests).toInt ≤ 4) (h_o_wares : 0 ≤ (o_wares).toInt ∧ (o_wares).toInt ≤ 12) (h_o_known : 0 ≤ (o_known).toInt ∧ (o_known).toInt ≤ 1) : KK l D (TY cyC cyI cyJ cyZ cyO) yX10_rowOf cX10_rowOf 2 (some .int) ({ frames := 14, cells := 0, slots := 0, locals := 319 } : Room) 0 0 [.ref x0, .int p0] [(x0, .inr (10, [.ref r0, .ref a0, .ref n0, .ref k0, .ref x1, .ref q0, .ref o0, .ref h0, .ref s0, .ref d0])), (a0, .inr (9, [.int a_wares, .int a_shelves, .int a_nests, .ref a1, .ref a2, .ref a3, .ref a4, .ref a5, .ref a6, .int a_lids, .int a_tops, .ref a7, .ref a8, .ref a9, .ref a10])), (o0, .inr (3, [.int o_wares, .ref o1, .ref o2, .int o_known, .int o_fewest, .int o_apart, .ref o3, .ref o4])), (o1, .inl (cyI, 12, .inl o_above)), (o2, .inl (cyI, 12, .inl o_kin)), (o3, .inl (cyI, 12, .inl o_row)), (o4, .inl (cyI, 12, .inl o_members))] (fun u => some (.int (u.2.1 0))) (fun u => (0 ≤ (u.2.1 1).toInt ∧ (u.2.1 1).toInt ≤ 1)) (fun u => [(x0, .inr (10, [.ref r0, .ref a0, .ref n0, .ref k0, .ref x1, .ref q0, .ref o0, .ref h0, .ref s0, .ref d0])), (a0, .inr (9, [.int a_wares, .int a_shelves, .int a_nests, .ref a1, .ref a2, .ref a3, .ref a4, .ref a5, .ref a6, .int a_lids, .int a_tops, .ref a7, .ref a8, .ref a9, .ref a10])), (o0, .inr (3, [.int o_wares, .ref o1, .ref o2, .int (u.2.1 1), .int (u.2.1 2), .int (u.2.1 3), .ref o3, .ref o4])), (o1, .inl (cyI, 12, .inl o_above)), (o2, .inl (cyI, 12, .inl (u.2.2.1 0))), (o3, .inl (cyI, 12, .inl (u.2.2.1 1))), (o4, .inl (cyI, 12, .inl (u.2.2.1 2)))]) := by
  refine KK.of (lv0 := [(0, .ref x0), (1, .int p0)]) (by decide) rfl (Nat.le_of_ble_eq_true rfl) ?_
  intro p e s m args below meth c A C hr hk hin
  refine j_aload_n (pc := 0) C dX10_rowOf_0 rfl 0 rfl ?_
  refine j_get (pc := 1) (ci := 10) (v := .ref a0) C inw_10 0 rfl rfl 1 (by decide) wd_447 rfl rfl dX10_rowOf_1 ?_
  refine j_iload_n (pc := 4) C dX10_rowOf_4 rfl 1 rfl ?_
  refine j_callV (pc := 5) (As := [.int p0]) (rest := []) (wr := [(x0, .inr (10, [.ref r0, .ref a0, .ref n0, .ref k0, .ref x1, .ref q0, .ref o0, .ref h0, .ref s0, .ref d0])), (o0, .inr (3, [.int o_wares, .ref o1, .ref o2, .int o_known, .int o_fewest, .int o_apart, .ref o3, .ref o4])), (o1, .inl (cyI, 12, .inl o_above)), (o2, .inl (cyI, 12, .inl o_kin)), (o3, .inl (cyI, 12, .inl o_row)), (o4, .inl (cyI, 12, .inl o_members))]) C (c_X9_isWare l D cyC cyI cyJ cyZ cyO a0 a1 a2 a3 a4 a5 a6 a7 a8 a9 a10 p0 a_wares a_shelves a_nests a_lids a_tops h_a_wares h_a_shelves h_a_nests) wd_467 wd_33 wd_468 wd_469 wd_470 ⟨by decide, by decide, rfl⟩ rfl ⟨rfl, rfl, by decide, by decide⟩ ⟨by decide, by decide⟩ [1] [0, 2, 3, 4, 5, 6] rfl rfl ⟨by decide, by decide, by decide⟩ 1 rfl rfl rfl (Nat.le_of_ble_eq_true rfl) dX10_rowOf_5 (fun u_1 hw_2 => ?_)
  refine j_eq (ws2 := [(x0, .inr (10, [.ref r0, .ref a0, .ref n0, .ref k0, .ref x1, .ref q0, .ref o0, .ref h0, .ref s0, .ref d0])), (o0, .inr (3, [.int o_wares, .ref o1, .ref o2, .int o_known, .int o_fewest, .int o_apart, .ref o3, .ref o4])), (o1, .inl (cyI, 12, .inl o_above)), (o2, .inl (cyI, 12, .inl o_kin)), (o3, .inl (cyI, 12, .inl o_row)), (o4, .inl (cyI, 12, .inl o_members)), (a0, .inr (9, [.int a_wares, .int a_shelves, .int a_nests, .ref a1, .ref a2, .ref a3, .ref a4, .ref a5, .ref a6, .int a_lids, .int a_tops, .ref a7, .ref a8, .ref a9, .ref a10]))]) (pc2 := 8) (lv2 := [(0, .ref x0), (1, .int p0)]) (st2 := [.int (u_1.2.1 0)]) rfl rfl rfl rfl ?_
  obtain ⟨hw_2_0, hw_2_1, hw_2_2⟩ := hw_2
  refine j_if_eq (pc := 8) (tgt := 21) C dX10_rowOf_8 (by decide) (fun c_3 => ?_) (fun c_3 => ?_)
  · skip
    have el_0 : (0 : Int32).toInt = 0 := rfl
    rw [i_eq] at c_3
    refine j_iconst (pc := 21) (v := (-1)) C dX10_rowOf_21 (by decide) ?_
    exact j_iret (pc := 22) C hr hk (fun i => [].getD i 0, fun i => [(-1), o_known, o_fewest, o_apart].getD i 0, fun i => [o_kin, o_row, o_members].getD i (fun _ => 0), fun i => [].getD i (fun _ => 0)) rfl (show (0 ≤ (o_known).toInt ∧ (o_known).toInt ≤ 1) from (h_o_known)) [0, 6, 1, 2, 3, 4, 5] (by decide) rfl (by decide) (by decide) dX10_rowOf_22
  · skip
    have el_0 : (0 : Int32).toInt = 0 := rfl
    rw [i_eq] at c_3
    have k0c_3 : ((u_1.2.1 0)).toInt = 1 := by omega
    refine j_aload_n (pc := 11) C dX10_rowOf_11 rfl 0 rfl ?_
    refine j_get (pc := 12) (ci := 10) (v := .ref o0) C inw_10 0 rfl rfl 6 (by decide) wd_519 rfl rfl dX10_rowOf_12 ?_
    refine j_callV (pc := 15) (As := []) (rest := []) (wr := [(x0, .inr (10, [.ref r0, .ref a0, .ref n0, .ref k0, .ref x1, .ref q0, .ref o0, .ref h0, .ref s0, .ref d0])), (o2, .inl (cyI, 12, .inl o_kin)), (o3, .inl (cyI, 12, .inl o_row)), (o4, .inl (cyI, 12, .inl o_members)), (a0, .inr (9, [.int a_wares, .int a_shelves, .int a_nests, .ref a1, .ref a2, .ref a3, .ref a4, .ref a5, .ref a6, .int a_lids, .int a_tops, .ref a7, .ref a8, .ref a9, .ref a10]))]) C (c_X3_isRound l D cyC cyI cyJ cyZ cyO o0 o1 o2 o3 o4 o_wares o_known o_fewest o_apart o_above h_o_wares h_o_known) wd_521 wd_89 wd_522 wd_523 wd_524 ⟨by decide, by decide, rfl⟩ rfl ⟨rfl, rfl, by decide, by decide⟩ ⟨by decide, by decide⟩ [1, 2] [0, 3, 4, 5, 6] rfl rfl ⟨by decide, by decide, by decide⟩ 1 rfl rfl rfl (Nat.le_of_ble_eq_true rfl) dX10_rowOf_15 (fun u_4 hw_5 => ?_)
    refine j_eq (ws2 := [(x0, .inr (10, [.ref r0, .ref a0, .ref n0, .ref k0, .ref x1, .ref q0, .ref o0, .ref h0, .ref s0, .ref d0])), (o2, .inl (cyI, 12, .inl o_kin)), (o3, .inl (cyI, 12, .inl o_row)), (o4, .inl (cyI, 12, .inl o_members)), (a0, .inr (9, [.int a_wares, .int a_shelves, .int a_nests, .ref a1, .ref a2, .ref a3, .ref a4, .ref a5, .ref a6, .int a_lids, .int a_tops, .ref a7, .ref a8, .ref a9, .ref a10])), (o0, .inr (3, [.int o_wares, .ref o1, .ref o2, .int o_known, .int o_fewest, .int o_apart, .ref o3, .ref o4])), (o1, .inl (cyI, 12, .inl o_above))]) (pc2 := 18) (lv2 := [(0, .ref x0), (1, .int p0)]) (st2 := [.int (u_4.2.1 0)]) rfl rfl rfl rfl ?_
    have hw_5_0 : 0 ≤ (u_4.2.1 0).toInt ∧ (u_4.2.1 0).toInt ≤ 1 := hw_5
    refine j_if_eq (pc := 18) (tgt := 23) C dX10_rowOf_18 (by decide) (fun c_6 => ?_) (fun c_6 => ?_)
    · skip
      have el_0 : (0 : Int32).toInt = 0 := rfl
      rw [i_eq] at c_6
      refine j_aload_n (pc := 23) C dX10_rowOf_23 rfl 0 rfl ?_
      refine j_get (pc := 24) (ci := 10) (v := .ref o0) C inw_10 0 rfl rfl 6 (by decide) wd_519 rfl rfl dX10_rowOf_24 ?_
      refine j_callV (pc := 27) (As := []) (rest := []) (wr := [(x0, .inr (10, [.ref r0, .ref a0, .ref n0, .ref k0, .ref x1, .ref q0, .ref o0, .ref h0, .ref s0, .ref d0])), (a0, .inr (9, [.int a_wares, .int a_shelves, .int a_nests, .ref a1, .ref a2, .ref a3, .ref a4, .ref a5, .ref a6, .int a_lids, .int a_tops, .ref a7, .ref a8, .ref a9, .ref a10]))]) C (c_X3_settle l D cyC cyI cyJ cyZ cyO o0 o1 o2 o3 o4 o_wares o_known o_fewest o_apart o_above o_kin o_row o_members h_o_wares h_o_known) wd_525 wd_89 wd_526 wd_527 wd_528 ⟨by decide, by decide, rfl⟩ rfl ⟨rfl, rfl, by decide, by decide⟩ ⟨by decide, by decide⟩ [5, 6, 1, 2, 3] [0, 4] rfl rfl ⟨by decide, by decide, by decide⟩ 5 rfl rfl rfl (Nat.le_of_ble_eq_true rfl) dX10_rowOf_27 (fun u_7 hw_8 => ?_)
      refine j_eq (ws2 := [(x0, .inr (10, [.ref r0, .ref a0, .ref n0, .ref k0, .ref x1, .ref q0, .ref o0, .ref h0, .ref s0, .ref d0])), (a0, .inr (9, [.int a_wares, .int a_shelves, .int a_nests, .ref a1, .ref a2, .ref a3, .ref a4, .ref a5, .ref a6, .int a_lids, .int a_tops, .ref a7, .ref a8, .ref a9, .ref a10])), (o0, .inr (3, [.int o_wares, .ref o1, .ref o2, .int (u_7.2.1 0), .int (u_7.2.1 1), .int (u_7.2.1 2), .ref o3, .ref o4])), (o1, .inl (cyI, 12, .inl o_above)), (o2, .inl (cyI, 12, .inl (u_7.2.2.1 0))), (o3, .inl (cyI, 12, .inl (u_7.2.2.1 1))), (o4, .inl (cyI, 12, .inl (u_7.2.2.1 2)))]) (pc2 := 30) (lv2 := [(0, .ref x0), (1, .int p0)]) (st2 := []) rfl rfl rfl rfl ?_
      have hw_8_0 : 0 ≤ (u_7.2.1 0).toInt ∧ (u_7.2.1 0).toInt ≤ 1 := hw_8
      refine j_aload_n (pc := 30) C dX10_rowOf_30 rfl 0 rfl ?_
      refine j_get (pc := 31) (ci := 10) (v := .ref o0) C inw_10 0 rfl rfl 6 (by decide) wd_519 rfl rfl dX10_rowOf_31 ?_
      refine j_get (pc := 34) (ci := 3) (v := .ref o3) C inw_3 2 rfl rfl 6 (by decide) wd_531 rfl rfl dX10_rowOf_34 ?_
      refine j_iload_n (pc := 37) C dX10_rowOf_37 rfl 1 rfl ?_
      obtain ⟨v_9, ev_9⟩ : ∃ z, (u_7.2.2.1 1) (p0).toInt.toNat = z := ⟨_, rfl⟩
      have env_9 : ((u_7.2.2.1 1) (p0).toInt.toNat).toInt = v_9.toInt := by rw [ev_9]
      refine j_iald (pc := 38) (v := v_9) (k := (p0).toInt.toNat) C 5 1 rfl rfl (i_nn (by omega)) rfl (i_lt_n (by omega) (by omega)) ev_9 dX10_rowOf_38 ?_
      exact j_iret (pc := 39) C hr hk (fun i => [].getD i 0, fun i => [v_9, (u_7.2.1 0), (u_7.2.1 1), (u_7.2.1 2)].getD i 0, fun i => [(u_7.2.2.1 0), (u_7.2.2.1 1), (u_7.2.2.1 2)].getD i (fun _ => 0), fun i => [].getD i (fun _ => 0)) rfl (show (0 ≤ ((u_7.2.1 0)).toInt ∧ ((u_7.2.1 0)).toInt ≤ 1) from (hw_8_0)) [0, 1, 2, 3, 4, 5, 6] (by decide) rfl (by decide) (by decide) dX10_rowOf_39
    · skip
      have el_0 : (0 : Int32).toInt = 0 := rfl
      rw [i_eq] at c_6
      have k0c_6 : ((u_4.2.1 0)).toInt = 1 := by omega
      refine j_iconst (pc := 21) (v := (-1)) C dX10_rowOf_21 (by decide) ?_
      exact j_iret (pc := 22) C hr hk (fun i => [].getD i 0, fun i => [(-1), o_known, o_fewest, o_apart].getD i 0, fun i => [o_kin, o_row, o_members].getD i (fun _ => 0), fun i => [].getD i (fun _ => 0)) rfl (show (0 ≤ (o_known).toInt ∧ (o_known).toInt ≤ 1) from (h_o_known)) [0, 4, 5, 6, 1, 2, 3] (by decide) rfl (by decide) (by decide) dX10_rowOf_22
/-- an asking: what is answered, how many there are then -/
def akA (p w n : Int) : Int := if 0 ≤ p ∧ p < w ∧ n < 30 then n + 1 else -1
def akN (p w n : Int) : Int := if 0 ≤ p ∧ p < w ∧ n < 30 then n + 1 else n
/-- the askings' row behind one more -/
def akQ (p w n : Int) (v : Int32) (as : Nat → Int32) (j : Nat) : Int32 := if (0 ≤ p ∧ p < w ∧ n < 30) ∧ (j : Int) = n then v else as j
set_option maxHeartbeats 4000000 in
set_option maxRecDepth 100000 in
theorem c_X10_ask (l : Launch) (D : DG) (cyC cyI cyJ cyZ cyO : ClassId) (x0 : Nat) (a0 : Nat) (n0 : Nat) (n4 : Nat) (r0 : Nat) (k0 : Nat) (x1 : Nat) (q0 : Nat) (o0 : Nat) (h0 : Nat) (s0 : Nat) (d0 : Nat) (a1 : Nat) (a2 : Nat) (a3 : Nat) (a4 : Nat) (a5 : Nat) (a6 : Nat) (a7 : Nat) (a8 : Nat) (a9 : Nat) (a10 : Nat) (n1 : Nat) (n2 : Nat) (n3 : Nat) (p0 : Int32) (a_wares : Int32) (a_shelves : Int32) (a_nests : Int32) (a_lids : Int32) (a_tops : Int32) (n_askings : Int32) (n_cost : Int32) (n_laid : Int32) (n_asking : Nat → Int32) (h_a_wares : 0 ≤ (a_wares).toInt ∧ (a_wares).toInt ≤ 12) (h_a_shelves : 0 ≤ (a_shelves).toInt ∧ (a_shelves).toInt ≤ 4) (h_a_nests : 0 ≤ (a_nests).toInt ∧ (a_nests).toInt ≤ 4) (h_n_askings : 0 ≤ (n_askings).toInt ∧ (n_askings).toInt ≤ 30) (h_n_laid : 0 ≤ (n_laid).toInt ∧ (n_laid).toInt ≤ 1) (h_n_asking : Iv 30 (0) (11) n_asking) : KK l D (TY cyC cyI cyJ cyZ cyO) yX10_ask cX10_ask 2 (some .int) ({ frames := 1, cells := 0, slots := 0, locals := 21 } : Room) 0 0 [.ref x0, .int p0] [(x0, .inr (10, [.ref r0, .ref a0, .ref n0, .ref k0, .ref x1, .ref q0, .ref o0, .ref h0, .ref s0, .ref d0])), (a0, .inr (9, [.int a_wares, .int a_shelves, .int a_nests, .ref a1, .ref a2, .ref a3, .ref a4, .ref a5, .ref a6, .int a_lids, .int a_tops, .ref a7, .ref a8, .ref a9, .ref a10])), (n0, .inr (7, [.ref n1, .ref n2, .ref n3, .ref n4, .int n_askings, .int n_cost, .int n_laid])), (n4, .inl (cyI, 30, .inl n_asking))] (fun u => some (.int (u.2.1 0))) (fun u => (0 ≤ (u.2.1 1).toInt ∧ (u.2.1 1).toInt ≤ 30) ∧ (Iv 30 (0) (11) (u.2.2.1 0)) ∧ ((u.2.1 0).toInt = akA (p0).toInt (a_wares).toInt (n_askings).toInt) ∧ (((u.2.1 1)).toInt = akN (p0).toInt (a_wares).toInt (n_askings).toInt) ∧ (∀ j : Nat, j < 30 → (u.2.2.1 0) j = akQ (p0).toInt (a_wares).toInt (n_askings).toInt p0 n_asking j)) (fun u => [(x0, .inr (10, [.ref r0, .ref a0, .ref n0, .ref k0, .ref x1, .ref q0, .ref o0, .ref h0, .ref s0, .ref d0])), (a0, .inr (9, [.int a_wares, .int a_shelves, .int a_nests, .ref a1, .ref a2, .ref a3, .ref a4, .ref a5, .ref a6, .int a_lids, .int a_tops, .ref a7, .ref a8, .ref a9, .ref a10])), (n0, .inr (7, [.ref n1, .ref n2, .ref n3, .ref n4, .int (u.2.1 1), .int n_cost, .int n_laid])), (n4, .inl (cyI, 30, .inl (u.2.2.1 0)))]) := by
  refine KK.of (lv0 := [(0, .ref x0), (1, .int p0)]) (by decide) rfl (Nat.le_of_ble_eq_true rfl) ?_
  intro p e s m args below meth c A C hr hk hin
  refine j_aload_n (pc := 0) C dX10_ask_0 rfl 0 rfl ?_
  refine j_get (pc := 1) (ci := 10) (v := .ref a0) C inw_10 0 rfl rfl 1 (by decide) wd_447 rfl rfl dX10_ask_1 ?_
  refine j_iload_n (pc := 4) C dX10_ask_4 rfl 1 rfl ?_
  refine j_callV (pc := 5) (As := [.int p0]) (rest := []) (wr := [(x0, .inr (10, [.ref r0, .ref a0, .ref n0, .ref k0, .ref x1, .ref q0, .ref o0, .ref h0, .ref s0, .ref d0])), (n0, .inr (7, [.ref n1, .ref n2, .ref n3, .ref n4, .int n_askings, .int n_cost, .int n_laid])), (n4, .inl (cyI, 30, .inl n_asking))]) C (c_X9_isWare l D cyC cyI cyJ cyZ cyO a0 a1 a2 a3 a4 a5 a6 a7 a8 a9 a10 p0 a_wares a_shelves a_nests a_lids a_tops h_a_wares h_a_shelves h_a_nests) wd_467 wd_33 wd_468 wd_469 wd_470 ⟨by decide, by decide, rfl⟩ rfl ⟨rfl, rfl, by decide, by decide⟩ ⟨by decide, by decide⟩ [1] [0, 2, 3] rfl rfl ⟨by decide, by decide, by decide⟩ 1 rfl rfl rfl (Nat.le_of_ble_eq_true rfl) dX10_ask_5 (fun u_1 hw_2 => ?_)
  refine j_eq (ws2 := [(x0, .inr (10, [.ref r0, .ref a0, .ref n0, .ref k0, .ref x1, .ref q0, .ref o0, .ref h0, .ref s0, .ref d0])), (n0, .inr (7, [.ref n1, .ref n2, .ref n3, .ref n4, .int n_askings, .int n_cost, .int n_laid])), (n4, .inl (cyI, 30, .inl n_asking)), (a0, .inr (9, [.int a_wares, .int a_shelves, .int a_nests, .ref a1, .ref a2, .ref a3, .ref a4, .ref a5, .ref a6, .int a_lids, .int a_tops, .ref a7, .ref a8, .ref a9, .ref a10]))]) (pc2 := 8) (lv2 := [(0, .ref x0), (1, .int p0)]) (st2 := [.int (u_1.2.1 0)]) rfl rfl rfl rfl ?_
  obtain ⟨hw_2_0, hw_2_1, hw_2_2⟩ := hw_2
  refine j_if_eq (pc := 8) (tgt := 23) C dX10_ask_8 (by decide) (fun c_3 => ?_) (fun c_3 => ?_)
  · skip
    have el_0 : (0 : Int32).toInt = 0 := rfl
    rw [i_eq] at c_3
    refine j_iconst (pc := 23) (v := (-1)) C dX10_ask_23 (by decide) ?_
    have el_m1 : ((-1) : Int32).toInt = (-1) := rfl
    have el_m1 : ((-1) : Int32).toInt = (-1) := rfl
    have el_m1 : ((-1) : Int32).toInt = (-1) := rfl
    exact j_iret (pc := 24) C hr hk (fun i => [].getD i 0, fun i => [(-1), n_askings].getD i 0, fun i => [n_asking].getD i (fun _ => 0), fun i => [].getD i (fun _ => 0)) rfl (show (0 ≤ (n_askings).toInt ∧ (n_askings).toInt ≤ 30) ∧ (Iv 30 (0) (11) n_asking) ∧ (((-1) : Int32).toInt = akA (p0).toInt (a_wares).toInt (n_askings).toInt) ∧ ((n_askings).toInt = akN (p0).toInt (a_wares).toInt (n_askings).toInt) ∧ (∀ j : Nat, j < 30 → n_asking j = akQ (p0).toInt (a_wares).toInt (n_askings).toInt p0 n_asking j) from ⟨h_n_askings, h_n_asking, (by have z9 : akA (p0).toInt (a_wares).toInt (n_askings).toInt = -1 := if_neg (by omega); omega), (by have z9 : akN (p0).toInt (a_wares).toInt (n_askings).toInt = (n_askings).toInt := if_neg (by omega); omega), (fun j hj => (if_neg (fun z => by have z1 := z.1; omega)).symm)⟩) [0, 3, 1, 2] (by decide) rfl (by decide) (by decide) dX10_ask_24
  · skip
    have el_0 : (0 : Int32).toInt = 0 := rfl
    rw [i_eq] at c_3
    have k0c_3 : ((u_1.2.1 0)).toInt = 1 := by omega
    refine j_aload_n (pc := 11) C dX10_ask_11 rfl 0 rfl ?_
    refine j_get (pc := 12) (ci := 10) (v := .ref n0) C inw_10 0 rfl rfl 2 (by decide) wd_466 rfl rfl dX10_ask_12 ?_
    refine j_get (pc := 15) (ci := 7) (v := .int n_askings) C inw_7 1 rfl rfl 4 (by decide) wd_532 rfl rfl dX10_ask_15 ?_
    refine j_bipush (pc := 18) (v := 30) C dX10_ask_18 (by decide) ?_
    refine j_icmp_lt (pc := 20) (tgt := 25) C dX10_ask_20 (by decide) (fun c_4 => ?_) (fun c_4 => ?_)
    · skip
      have el_30 : (30 : Int32).toInt = 30 := rfl
      rw [i_lt] at c_4
      refine j_aload_n (pc := 25) C dX10_ask_25 rfl 0 rfl ?_
      refine j_get (pc := 26) (ci := 10) (v := .ref n0) C inw_10 0 rfl rfl 2 (by decide) wd_466 rfl rfl dX10_ask_26 ?_
      refine j_get (pc := 29) (ci := 7) (v := .ref n4) C inw_7 1 rfl rfl 3 (by decide) wd_533 rfl rfl dX10_ask_29 ?_
      refine j_aload_n (pc := 32) C dX10_ask_32 rfl 0 rfl ?_
      refine j_get (pc := 33) (ci := 10) (v := .ref n0) C inw_10 0 rfl rfl 2 (by decide) wd_466 rfl rfl dX10_ask_33 ?_
      refine j_get (pc := 36) (ci := 7) (v := .int n_askings) C inw_7 1 rfl rfl 4 (by decide) wd_532 rfl rfl dX10_ask_36 ?_
      refine j_iload_n (pc := 39) C dX10_ask_39 rfl 1 rfl ?_
      obtain ⟨f_5, ef_5⟩ : ∃ z, z = upd n_asking (n_askings).toInt.toNat p0 := ⟨_, rfl⟩
      have hf_5 : Iv 30 (0) (11) f_5 := by rw [ef_5]; exact Iv.upd h_n_asking (by omega) (by omega)
      refine j_iast (pc := 40) (k := (n_askings).toInt.toNat) (ws' := [(x0, .inr (10, [.ref r0, .ref a0, .ref n0, .ref k0, .ref x1, .ref q0, .ref o0, .ref h0, .ref s0, .ref d0])), (n0, .inr (7, [.ref n1, .ref n2, .ref n3, .ref n4, .int n_askings, .int n_cost, .int n_laid])), (n4, .inl (cyI, 30, .inl f_5)), (a0, .inr (9, [.int a_wares, .int a_shelves, .int a_nests, .ref a1, .ref a2, .ref a3, .ref a4, .ref a5, .ref a6, .int a_lids, .int a_tops, .ref a7, .ref a8, .ref a9, .ref a10]))]) C 2 1 rfl rfl (i_nn h_n_askings.1) rfl (i_lt_n h_n_askings.1 (by omega)) dX10_ask_40 (by rw [ef_5]; rfl) ?_
      refine j_aload_n (pc := 41) C dX10_ask_41 rfl 0 rfl ?_
      refine j_get (pc := 42) (ci := 10) (v := .ref n0) C inw_10 0 rfl rfl 2 (by decide) wd_466 rfl rfl dX10_ask_42 ?_
      refine j_dup (pc := 45) C dX10_ask_45 rfl ?_
      refine j_get (pc := 46) (ci := 7) (v := .int n_askings) C inw_7 1 rfl rfl 4 (by decide) wd_532 rfl rfl dX10_ask_46 ?_
      refine j_iconst (pc := 49) (v := 1) C dX10_ask_49 (by decide) ?_
      obtain ⟨v_6, ev_6⟩ : ∃ z : Int32, n_askings + 1 = z := ⟨_, rfl⟩
      have el_1 : (1 : Int32).toInt = 1 := rfl
      have hv_6 : v_6.toInt = n_askings.toInt + (1 : Int32).toInt := by rw [← ev_6]; exact fb_addI (by omega) (by omega)
      refine j_iadd (pc := 50) (v := v_6) C dX10_ask_50 ev_6 ?_
      refine j_put (pc := 51) (ci := 7) (v := .int v_6) (ws' := [(x0, .inr (10, [.ref r0, .ref a0, .ref n0, .ref k0, .ref x1, .ref q0, .ref o0, .ref h0, .ref s0, .ref d0])), (n0, .inr (7, [.ref n1, .ref n2, .ref n3, .ref n4, .int v_6, .int n_cost, .int n_laid])), (n4, .inl (cyI, 30, .inl f_5)), (a0, .inr (9, [.int a_wares, .int a_shelves, .int a_nests, .ref a1, .ref a2, .ref a3, .ref a4, .ref a5, .ref a6, .int a_lids, .int a_tops, .ref a7, .ref a8, .ref a9, .ref a10]))]) C inw_7 1 rfl rfl 4 (by decide) wd_532 rfl tyX7_ok nmX7 rfl (tyX7_ok 4 (by decide)) rfl rfl (Nat.le_of_ble_eq_true rfl) dX10_ask_51 rfl ?_
      refine j_aload_n (pc := 54) C dX10_ask_54 rfl 0 rfl ?_
      refine j_get (pc := 55) (ci := 10) (v := .ref n0) C inw_10 0 rfl rfl 2 (by decide) wd_466 rfl rfl dX10_ask_55 ?_
      refine j_get (pc := 58) (ci := 7) (v := .int v_6) C inw_7 1 rfl rfl 4 (by decide) wd_532 rfl rfl dX10_ask_58 ?_
      exact j_iret (pc := 61) C hr hk (fun i => [].getD i 0, fun i => [v_6, v_6].getD i 0, fun i => [f_5].getD i (fun _ => 0), fun i => [].getD i (fun _ => 0)) rfl (show (0 ≤ (v_6).toInt ∧ (v_6).toInt ≤ 30) ∧ (Iv 30 (0) (11) f_5) ∧ (v_6.toInt = akA (p0).toInt (a_wares).toInt (n_askings).toInt) ∧ ((v_6).toInt = akN (p0).toInt (a_wares).toInt (n_askings).toInt) ∧ (∀ j : Nat, j < 30 → f_5 j = akQ (p0).toInt (a_wares).toInt (n_askings).toInt p0 n_asking j) from ⟨by omega, hf_5, (by have z9 : akA (p0).toInt (a_wares).toInt (n_askings).toInt = (n_askings).toInt + 1 := if_pos (by omega); omega), (by have z9 : akN (p0).toInt (a_wares).toInt (n_askings).toInt = (n_askings).toInt + 1 := if_pos (by omega); omega), (fun j hj => by rw [ef_5]; by_cases q : (j : Int) = (n_askings).toInt; (rw [show j = (n_askings).toInt.toNat from (by omega), pk_us]; exact (if_pos ⟨⟨by omega, by omega, by omega⟩, by omega⟩).symm); (rw [pk_un (show ¬ j = (n_askings).toInt.toNat from (by omega))]; exact (if_neg (fun z => q z.2)).symm))⟩) [0, 3, 1, 2] (by decide) rfl (by decide) (by decide) dX10_ask_61
    · skip
      have el_30 : (30 : Int32).toInt = 30 := rfl
      rw [i_lt] at c_4
      have k0c_4 : n_askings.toInt = 30 := by omega
      refine j_iconst (pc := 23) (v := (-1)) C dX10_ask_23 (by decide) ?_
      have el_m1 : ((-1) : Int32).toInt = (-1) := rfl
      have el_m1 : ((-1) : Int32).toInt = (-1) := rfl
      have el_m1 : ((-1) : Int32).toInt = (-1) := rfl
      exact j_iret (pc := 24) C hr hk (fun i => [].getD i 0, fun i => [(-1), n_askings].getD i 0, fun i => [n_asking].getD i (fun _ => 0), fun i => [].getD i (fun _ => 0)) rfl (show (0 ≤ (n_askings).toInt ∧ (n_askings).toInt ≤ 30) ∧ (Iv 30 (0) (11) n_asking) ∧ (((-1) : Int32).toInt = akA (p0).toInt (a_wares).toInt (n_askings).toInt) ∧ ((n_askings).toInt = akN (p0).toInt (a_wares).toInt (n_askings).toInt) ∧ (∀ j : Nat, j < 30 → n_asking j = akQ (p0).toInt (a_wares).toInt (n_askings).toInt p0 n_asking j) from ⟨h_n_askings, h_n_asking, (by have z9 : akA (p0).toInt (a_wares).toInt (n_askings).toInt = -1 := if_neg (by omega); omega), (by have z9 : akN (p0).toInt (a_wares).toInt (n_askings).toInt = (n_askings).toInt := if_neg (by omega); omega), (fun j hj => (if_neg (fun z => by have z1 := z.1; omega)).symm)⟩) [0, 3, 1, 2] (by decide) rfl (by decide) (by decide) dX10_ask_24
set_option maxHeartbeats 4000000 in
set_option maxRecDepth 100000 in
theorem c_X10_clear (l : Launch) (D : DG) (cyC cyI cyJ cyZ cyO : ClassId) (x0 : Nat) (n0 : Nat) (r0 : Nat) (a0 : Nat) (k0 : Nat) (x1 : Nat) (q0 : Nat) (o0 : Nat) (h0 : Nat) (s0 : Nat) (d0 : Nat) (n1 : Nat) (n2 : Nat) (n3 : Nat) (n4 : Nat) (n_askings : Int32) (n_cost : Int32) (n_laid : Int32) (h_n_askings : 0 ≤ (n_askings).toInt ∧ (n_askings).toInt ≤ 30) (h_n_laid : 0 ≤ (n_laid).toInt ∧ (n_laid).toInt ≤ 1) : KK l D (TY cyC cyI cyJ cyZ cyO) yX10_clear cX10_clear 1 (some .boolean) ({ frames := 0, cells := 0, slots := 0, locals := 0 } : Room) 0 0 [.ref x0] [(x0, .inr (10, [.ref r0, .ref a0, .ref n0, .ref k0, .ref x1, .ref q0, .ref o0, .ref h0, .ref s0, .ref d0])), (n0, .inr (7, [.ref n1, .ref n2, .ref n3, .ref n4, .int n_askings, .int n_cost, .int n_laid]))] (fun u => some (.int 1)) (fun u => True) (fun u => [(x0, .inr (10, [.ref r0, .ref a0, .ref n0, .ref k0, .ref x1, .ref q0, .ref o0, .ref h0, .ref s0, .ref d0])), (n0, .inr (7, [.ref n1, .ref n2, .ref n3, .ref n4, .int 0, .int n_cost, .int n_laid]))]) := by
  refine KK.of (lv0 := [(0, .ref x0)]) (by decide) rfl (Nat.le_of_ble_eq_true rfl) ?_
  intro p e s m args below meth c A C hr hk hin
  refine j_aload_n (pc := 0) C dX10_clear_0 rfl 0 rfl ?_
  refine j_get (pc := 1) (ci := 10) (v := .ref n0) C inw_10 0 rfl rfl 2 (by decide) wd_466 rfl rfl dX10_clear_1 ?_
  refine j_iconst (pc := 4) (v := 0) C dX10_clear_4 (by decide) ?_
  refine j_put (pc := 5) (ci := 7) (v := .int 0) (ws' := [(x0, .inr (10, [.ref r0, .ref a0, .ref n0, .ref k0, .ref x1, .ref q0, .ref o0, .ref h0, .ref s0, .ref d0])), (n0, .inr (7, [.ref n1, .ref n2, .ref n3, .ref n4, .int 0, .int n_cost, .int n_laid]))]) C inw_7 1 rfl rfl 4 (by decide) wd_532 rfl tyX7_ok nmX7 rfl (tyX7_ok 4 (by decide)) rfl rfl (Nat.le_of_ble_eq_true rfl) dX10_clear_5 rfl ?_
  refine j_iconst (pc := 8) (v := 1) C dX10_clear_8 (by decide) ?_
  exact j_zret (pc := 9) C hr rfl hk (fun i => [].getD i 0, fun i => [].getD i 0, fun i => [].getD i (fun _ => 0), fun i => [].getD i (fun _ => 0)) rfl trivial [0, 1] (by decide) rfl (by decide) (by decide) dX10_clear_9
set_option maxHeartbeats 4000000 in
set_option maxRecDepth 100000 in
theorem c_X10_asked (l : Launch) (D : DG) (cyC cyI cyJ cyZ cyO : ClassId) (x0 : Nat) (a0 : Nat) (a3 : Nat) (a9 : Nat) (n0 : Nat) (n1 : Nat) (n2 : Nat) (n3 : Nat) (n4 : Nat) (q0 : Nat) (q1 : Nat) (r0 : Nat) (k0 : Nat) (x1 : Nat) (o0 : Nat) (h0 : Nat) (s0 : Nat) (d0 : Nat) (a1 : Nat) (a2 : Nat) (a4 : Nat) (a5 : Nat) (a6 : Nat) (a7 : Nat) (a8 : Nat) (a10 : Nat) (a_wares : Int32) (a_shelves : Int32) (a_nests : Int32) (a_lids : Int32) (a_tops : Int32) (n_askings : Int32) (n_cost : Int32) (n_laid : Int32) (q_size : Int32) (a_weight : Nat → Int32) (a_reach : Nat → Int32) (n_shelf : Nat → Int32) (n_stack : Nat → Int32) (n_level : Nat → Int32) (n_asking : Nat → Int32) (q_ware : Nat → Int32) (h_a_wares : 0 ≤ (a_wares).toInt ∧ (a_wares).toInt ≤ 12) (h_a_shelves : 0 ≤ (a_shelves).toInt ∧ (a_shelves).toInt ≤ 4) (h_a_nests : 0 ≤ (a_nests).toInt ∧ (a_nests).toInt ≤ 4) (h_n_askings : 0 ≤ (n_askings).toInt ∧ (n_askings).toInt ≤ 30) (h_n_laid : 0 ≤ (n_laid).toInt ∧ (n_laid).toInt ≤ 1) (h_q_size : 0 ≤ (q_size).toInt ∧ (q_size).toInt ≤ 12) (h_n_shelf : Iv 12 (-1) (3) n_shelf) (h_n_stack : Iv 12 (0) (7) n_stack) (h_n_level : Iv 12 (0) (11) n_level) (h_n_asking : Iv 30 (0) (11) n_asking) (h_q_ware : Iv 12 (0) (11) q_ware) : KK l D (TY cyC cyI cyJ cyZ cyO) yX10_asked cX10_asked 4 (some .int) ({ frames := 3, cells := 0, slots := 0, locals := 71 } : Room) 0 0 [.ref x0] [(x0, .inr (10, [.ref r0, .ref a0, .ref n0, .ref k0, .ref x1, .ref q0, .ref o0, .ref h0, .ref s0, .ref d0])), (a0, .inr (9, [.int a_wares, .int a_shelves, .int a_nests, .ref a1, .ref a2, .ref a3, .ref a4, .ref a5, .ref a6, .int a_lids, .int a_tops, .ref a7, .ref a8, .ref a9, .ref a10])), (a3, .inl (cyI, 12, .inl a_weight)), (a9, .inl (cyI, 4, .inl a_reach)), (n0, .inr (7, [.ref n1, .ref n2, .ref n3, .ref n4, .int n_askings, .int n_cost, .int n_laid])), (n1, .inl (cyI, 12, .inl n_shelf)), (n2, .inl (cyI, 12, .inl n_stack)), (n3, .inl (cyI, 12, .inl n_level)), (n4, .inl (cyI, 30, .inl n_asking)), (q0, .inr (4, [.ref q1, .int q_size])), (q1, .inl (cyI, 12, .inl q_ware))] (fun u => some (.int (u.2.1 0))) (fun u => (0 ≤ (u.2.1 1).toInt ∧ (u.2.1 1).toInt ≤ 12) ∧ (Iv 12 (0) (11) (u.2.2.1 0)) ∧ (SR (pAA a_weight a_reach n_shelf n_stack n_level n_asking) (n_askings).toInt.toNat (u.2.1 0))) (fun u => [(x0, .inr (10, [.ref r0, .ref a0, .ref n0, .ref k0, .ref x1, .ref q0, .ref o0, .ref h0, .ref s0, .ref d0])), (a0, .inr (9, [.int a_wares, .int a_shelves, .int a_nests, .ref a1, .ref a2, .ref a3, .ref a4, .ref a5, .ref a6, .int a_lids, .int a_tops, .ref a7, .ref a8, .ref a9, .ref a10])), (a3, .inl (cyI, 12, .inl a_weight)), (a9, .inl (cyI, 4, .inl a_reach)), (n0, .inr (7, [.ref n1, .ref n2, .ref n3, .ref n4, .int n_askings, .int n_cost, .int n_laid])), (n1, .inl (cyI, 12, .inl n_shelf)), (n2, .inl (cyI, 12, .inl n_stack)), (n3, .inl (cyI, 12, .inl n_level)), (n4, .inl (cyI, 30, .inl n_asking)), (q0, .inr (4, [.ref q1, .int (u.2.1 1)])), (q1, .inl (cyI, 12, .inl (u.2.2.1 0)))]) := by
  refine KK.of (lv0 := [(0, .ref x0)]) (by decide) rfl (Nat.le_of_ble_eq_true rfl) ?_
  intro p e s m args below meth c A C hr hk hin
  refine j_iconst (pc := 0) (v := 0) C dX10_asked_0 (by decide) ?_
  refine j_istore_n (pc := 1) (lv' := [(1, .int 0), (0, .ref x0)]) C dX10_asked_1 rfl (by decide) rfl ?_
  refine j_iconst (pc := 2) (v := 0) C dX10_asked_2 (by decide) ?_
  refine j_istore_n (pc := 3) (lv' := [(2, .int 0), (1, .int 0), (0, .ref x0)]) C dX10_asked_3 rfl (by decide) rfl ?_
  have loop_1 : ∀ (k_1 : Nat) (x1_2 : Int32) (x1_1 : Int32) (y1_q0_1 : Int32) (g1_q1 : Nat → Int32), (0 ≤ (x1_2).toInt ∧ (x1_2).toInt ≤ 30) → (0 ≤ (y1_q0_1).toInt ∧ (y1_q0_1).toInt ≤ 12) → (Iv 12 (0) (11) g1_q1) → (x1_2.toInt ≤ (n_askings).toInt) → (SR (pAA a_weight a_reach n_shelf n_stack n_level n_asking) (x1_2.toInt).toNat x1_1) → (30 - x1_2.toInt).toNat < k_1 → J p l e ({ frames := 3, cells := 0, slots := 0, locals := 71 } : Room) s m args below meth c D A 4 0 0 (QX below D (TY cyC cyI cyJ cyZ cyO) A (fun u => some (.int (u.2.1 0))) (fun u => (0 ≤ (u.2.1 1).toInt ∧ (u.2.1 1).toInt ≤ 12) ∧ (Iv 12 (0) (11) (u.2.2.1 0)) ∧ (SR (pAA a_weight a_reach n_shelf n_stack n_level n_asking) (n_askings).toInt.toNat (u.2.1 0))) (fun u => [(x0, .inr (10, [.ref r0, .ref a0, .ref n0, .ref k0, .ref x1, .ref q0, .ref o0, .ref h0, .ref s0, .ref d0])), (a0, .inr (9, [.int a_wares, .int a_shelves, .int a_nests, .ref a1, .ref a2, .ref a3, .ref a4, .ref a5, .ref a6, .int a_lids, .int a_tops, .ref a7, .ref a8, .ref a9, .ref a10])), (a3, .inl (cyI, 12, .inl a_weight)), (a9, .inl (cyI, 4, .inl a_reach)), (n0, .inr (7, [.ref n1, .ref n2, .ref n3, .ref n4, .int n_askings, .int n_cost, .int n_laid])), (n1, .inl (cyI, 12, .inl n_shelf)), (n2, .inl (cyI, 12, .inl n_stack)), (n3, .inl (cyI, 12, .inl n_level)), (n4, .inl (cyI, 30, .inl n_asking)), (q0, .inr (4, [.ref q1, .int (u.2.1 1)])), (q1, .inl (cyI, 12, .inl (u.2.2.1 0)))]) args s 0 0) [(x0, .inr (10, [.ref r0, .ref a0, .ref n0, .ref k0, .ref x1, .ref q0, .ref o0, .ref h0, .ref s0, .ref d0])), (a0, .inr (9, [.int a_wares, .int a_shelves, .int a_nests, .ref a1, .ref a2, .ref a3, .ref a4, .ref a5, .ref a6, .int a_lids, .int a_tops, .ref a7, .ref a8, .ref a9, .ref a10])), (a3, .inl (cyI, 12, .inl a_weight)), (a9, .inl (cyI, 4, .inl a_reach)), (n0, .inr (7, [.ref n1, .ref n2, .ref n3, .ref n4, .int n_askings, .int n_cost, .int n_laid])), (n1, .inl (cyI, 12, .inl n_shelf)), (n2, .inl (cyI, 12, .inl n_stack)), (n3, .inl (cyI, 12, .inl n_level)), (n4, .inl (cyI, 30, .inl n_asking)), (q0, .inr (4, [.ref q1, .int y1_q0_1])), (q1, .inl (cyI, 12, .inl g1_q1))] 4 [(2, .int x1_2), (1, .int x1_1), (0, .ref x0)] [] := by
    intro k_1
    induction k_1 with
    | zero =>
      intro x1_2 x1_1 y1_q0_1 g1_q1 hi_1_0 hi_1_2 hi_1_3 hr_1 hq_1_0 hm_1
      exact absurd hm_1 (Nat.not_lt_zero _)
    | succ k_1 ih_1 =>
      intro x1_2 x1_1 y1_q0_1 g1_q1 hi_1_0 hi_1_2 hi_1_3 hr_1 hq_1_0 hm_1
      refine j_iload_n (pc := 4) C dX10_asked_4 rfl 0 rfl ?_
      refine j_aload_n (pc := 5) C dX10_asked_5 rfl 2 rfl ?_
      refine j_get (pc := 6) (ci := 10) (v := .ref n0) C inw_10 0 rfl rfl 2 (by decide) wd_466 rfl rfl dX10_asked_6 ?_
      refine j_get (pc := 9) (ci := 7) (v := .int n_askings) C inw_7 4 rfl rfl 4 (by decide) wd_532 rfl rfl dX10_asked_9 ?_
      refine j_icmp_ge (pc := 12) (tgt := 54) C dX10_asked_12 (by decide) (fun c_2 => ?_) (fun c_2 => ?_)
      · skip
        rw [i_le] at c_2
        refine j_iload_n (pc := 54) C dX10_asked_54 rfl 1 rfl ?_
        exact j_iret (pc := 55) C hr hk (fun i => [].getD i 0, fun i => [x1_1, y1_q0_1].getD i 0, fun i => [g1_q1].getD i (fun _ => 0), fun i => [].getD i (fun _ => 0)) rfl (show (0 ≤ (y1_q0_1).toInt ∧ (y1_q0_1).toInt ≤ 12) ∧ (Iv 12 (0) (11) g1_q1) ∧ (SR (pAA a_weight a_reach n_shelf n_stack n_level n_asking) (n_askings).toInt.toNat x1_1) from ⟨hi_1_2, hi_1_3, (by rw [show (n_askings).toInt.toNat = (x1_2).toInt.toNat from (by omega)]; exact hq_1_0)⟩) [0, 1, 2, 3, 4, 5, 6, 7, 8, 9, 10] (by decide) rfl (by decide) (by decide) dX10_asked_55
      · skip
        rw [i_le] at c_2
        refine j_aload_n (pc := 15) C dX10_asked_15 rfl 2 rfl ?_
        refine j_get (pc := 16) (ci := 10) (v := .ref n0) C inw_10 0 rfl rfl 2 (by decide) wd_466 rfl rfl dX10_asked_16 ?_
        refine j_get (pc := 19) (ci := 7) (v := .ref n4) C inw_7 4 rfl rfl 3 (by decide) wd_533 rfl rfl dX10_asked_19 ?_
        refine j_iload_n (pc := 22) C dX10_asked_22 rfl 0 rfl ?_
        obtain ⟨v_3, ev_3⟩ : ∃ z, n_asking (x1_2).toInt.toNat = z := ⟨_, rfl⟩
        have env_3 : (n_asking (x1_2).toInt.toNat).toInt = v_3.toInt := by rw [ev_3]
        have hv_3 := h_n_asking (x1_2).toInt.toNat (i_lt_n hi_1_0.1 (by omega)); rw [ev_3] at hv_3
        refine j_iald (pc := 23) (v := v_3) (k := (x1_2).toInt.toNat) C 8 1 rfl rfl (i_nn hi_1_0.1) rfl (i_lt_n hi_1_0.1 (by omega)) ev_3 dX10_asked_23 ?_
        refine j_istore_n (pc := 24) (lv' := [(3, .int v_3), (2, .int x1_2), (1, .int x1_1), (0, .ref x0)]) C dX10_asked_24 rfl (by decide) rfl ?_
        refine j_aload_n (pc := 25) C dX10_asked_25 rfl 3 rfl ?_
        refine j_get (pc := 26) (ci := 10) (v := .ref n0) C inw_10 0 rfl rfl 2 (by decide) wd_466 rfl rfl dX10_asked_26 ?_
        refine j_iload_n (pc := 29) C dX10_asked_29 rfl 0 rfl ?_
        refine j_callV (pc := 30) (As := [.int v_3]) (rest := []) (wr := [(x0, .inr (10, [.ref r0, .ref a0, .ref n0, .ref k0, .ref x1, .ref q0, .ref o0, .ref h0, .ref s0, .ref d0])), (a0, .inr (9, [.int a_wares, .int a_shelves, .int a_nests, .ref a1, .ref a2, .ref a3, .ref a4, .ref a5, .ref a6, .int a_lids, .int a_tops, .ref a7, .ref a8, .ref a9, .ref a10])), (a3, .inl (cyI, 12, .inl a_weight)), (a9, .inl (cyI, 4, .inl a_reach)), (n2, .inl (cyI, 12, .inl n_stack)), (n3, .inl (cyI, 12, .inl n_level)), (n4, .inl (cyI, 30, .inl n_asking)), (q0, .inr (4, [.ref q1, .int y1_q0_1])), (q1, .inl (cyI, 12, .inl g1_q1))]) C (c_X7_isOut l D cyC cyI cyJ cyZ cyO n0 n1 n2 n3 n4 v_3 n_askings n_cost n_laid n_shelf h_n_askings h_n_laid hv_3 h_n_shelf) wd_13 wd_9 wd_480 wd_15 wd_16 ⟨by decide, by decide, rfl⟩ rfl ⟨rfl, rfl, by decide, by decide⟩ ⟨by decide, by decide⟩ [4, 5] [0, 1, 2, 3, 6, 7, 8, 9, 10] rfl rfl ⟨by decide, by decide, by decide⟩ 4 rfl rfl rfl (Nat.le_of_ble_eq_true rfl) dX10_asked_30 (fun u_4 hw_5 => ?_)
        refine j_eq (ws2 := [(x0, .inr (10, [.ref r0, .ref a0, .ref n0, .ref k0, .ref x1, .ref q0, .ref o0, .ref h0, .ref s0, .ref d0])), (a0, .inr (9, [.int a_wares, .int a_shelves, .int a_nests, .ref a1, .ref a2, .ref a3, .ref a4, .ref a5, .ref a6, .int a_lids, .int a_tops, .ref a7, .ref a8, .ref a9, .ref a10])), (a3, .inl (cyI, 12, .inl a_weight)), (a9, .inl (cyI, 4, .inl a_reach)), (n2, .inl (cyI, 12, .inl n_stack)), (n3, .inl (cyI, 12, .inl n_level)), (n4, .inl (cyI, 30, .inl n_asking)), (q0, .inr (4, [.ref q1, .int y1_q0_1])), (q1, .inl (cyI, 12, .inl g1_q1)), (n0, .inr (7, [.ref n1, .ref n2, .ref n3, .ref n4, .int n_askings, .int n_cost, .int n_laid])), (n1, .inl (cyI, 12, .inl n_shelf))]) (pc2 := 33) (lv2 := [(3, .int v_3), (2, .int x1_2), (1, .int x1_1), (0, .ref x0)]) (st2 := [.int (u_4.2.1 0)]) rfl rfl rfl rfl ?_
        obtain ⟨hw_5_0, hw_5_1, hw_5_2⟩ := hw_5
        refine j_if_ne (pc := 33) (tgt := 48) C dX10_asked_33 (by decide) (fun c_6 => ?_) (fun c_6 => ?_)
        · skip
          have el_0 : (0 : Int32).toInt = 0 := rfl
          rw [i_eq] at c_6
          have k0c_6 : ((u_4.2.1 0)).toInt = 1 := by omega
          obtain ⟨v_7, ev_7⟩ : ∃ z : Int32, x1_2 + 1 = z := ⟨_, rfl⟩
          have el_1 : (1 : Int32).toInt = 1 := rfl
          have hv_7 : v_7.toInt = x1_2.toInt + (1 : Int32).toInt := by rw [← ev_7]; exact fb_addI (by omega) (by omega)
          refine j_iinc (pc := 48) (v := v_7) (lv' := [(2, .int v_7), (3, .int v_3), (1, .int x1_1), (0, .ref x0)]) C dX10_asked_48 1 rfl ev_7 (by decide) rfl ?_
          refine j_goto (pc := 51) (tgt := 4) C dX10_asked_51 (by decide) ?_
          refine j_subG (ws' := [(x0, .inr (10, [.ref r0, .ref a0, .ref n0, .ref k0, .ref x1, .ref q0, .ref o0, .ref h0, .ref s0, .ref d0])), (a0, .inr (9, [.int a_wares, .int a_shelves, .int a_nests, .ref a1, .ref a2, .ref a3, .ref a4, .ref a5, .ref a6, .int a_lids, .int a_tops, .ref a7, .ref a8, .ref a9, .ref a10])), (a3, .inl (cyI, 12, .inl a_weight)), (a9, .inl (cyI, 4, .inl a_reach)), (n0, .inr (7, [.ref n1, .ref n2, .ref n3, .ref n4, .int n_askings, .int n_cost, .int n_laid])), (n1, .inl (cyI, 12, .inl n_shelf)), (n2, .inl (cyI, 12, .inl n_stack)), (n3, .inl (cyI, 12, .inl n_level)), (n4, .inl (cyI, 30, .inl n_asking)), (q0, .inr (4, [.ref q1, .int y1_q0_1])), (q1, .inl (cyI, 12, .inl g1_q1))]) [0, 1, 2, 3, 9, 10, 4, 5, 6, 7, 8] (by decide) rfl ?_
          exact j_lv [0, 2, 3] rfl (ih_1 v_7 x1_1 y1_q0_1 g1_q1 (by omega) hi_1_2 hi_1_3 (by omega) (SR.skip hq_1_0 (by omega) (by show pAC a_weight a_reach n_shelf n_stack n_level (n_asking (x1_2).toInt.toNat).toInt.toNat 0; rw [ev_3]; exact Or.inl ⟨(by rcases hw_5_1 with h | h; (exfalso; omega); (rw [h]; rfl)), rfl⟩)) (by omega))
        · skip
          have el_0 : (0 : Int32).toInt = 0 := rfl
          rw [i_eq] at c_6
          refine j_iload_n (pc := 36) C dX10_asked_36 rfl 2 rfl ?_
          refine j_aload_n (pc := 37) C dX10_asked_37 rfl 3 rfl ?_
          refine j_aload_n (pc := 38) C dX10_asked_38 rfl 3 rfl ?_
          refine j_get (pc := 39) (ci := 10) (v := .ref n0) C inw_10 0 rfl rfl 2 (by decide) wd_466 rfl rfl dX10_asked_39 ?_
          refine j_iload_n (pc := 42) C dX10_asked_42 rfl 0 rfl ?_
          refine j_callV (pc := 43) (As := [.ref n0, .int v_3]) (rest := [.int x1_1]) (wr := [(n4, .inl (cyI, 30, .inl n_asking))]) C (c_X10_price l D cyC cyI cyJ cyZ cyO x0 a0 a3 a9 q0 q1 n0 n1 n2 n3 r0 n0 k0 x1 o0 h0 s0 d0 a1 a2 a4 a5 a6 a7 a8 a10 n4 v_3 a_wares a_shelves a_nests a_lids a_tops y1_q0_1 n_askings n_cost n_laid a_weight a_reach g1_q1 n_shelf n_stack n_level h_a_wares h_a_shelves h_a_nests hi_1_2 h_n_askings h_n_laid hv_3 hi_1_3 h_n_shelf h_n_stack h_n_level (by omega)) wd_515 wd_482 wd_516 wd_517 wd_518 ⟨by decide, by decide, rfl⟩ rfl ⟨rfl, rfl, by decide, by decide⟩ ⟨by decide, by decide⟩ [0, 1, 2, 3, 7, 8, 9, 10, 4, 5] [6] rfl rfl ⟨by decide, by decide, by decide⟩ 0 rfl rfl rfl (Nat.le_of_ble_eq_true rfl) dX10_asked_43 (fun u_8 hw_9 => ?_)
          refine j_eq (ws2 := [(n4, .inl (cyI, 30, .inl n_asking)), (x0, .inr (10, [.ref r0, .ref a0, .ref n0, .ref k0, .ref x1, .ref q0, .ref o0, .ref h0, .ref s0, .ref d0])), (a0, .inr (9, [.int a_wares, .int a_shelves, .int a_nests, .ref a1, .ref a2, .ref a3, .ref a4, .ref a5, .ref a6, .int a_lids, .int a_tops, .ref a7, .ref a8, .ref a9, .ref a10])), (a3, .inl (cyI, 12, .inl a_weight)), (a9, .inl (cyI, 4, .inl a_reach)), (q0, .inr (4, [.ref q1, .int (u_8.2.1 1)])), (q1, .inl (cyI, 12, .inl (u_8.2.2.1 0))), (n0, .inr (7, [.ref n1, .ref n2, .ref n3, .ref n4, .int n_askings, .int n_cost, .int n_laid])), (n1, .inl (cyI, 12, .inl n_shelf)), (n2, .inl (cyI, 12, .inl n_stack)), (n3, .inl (cyI, 12, .inl n_level))]) (pc2 := 46) (lv2 := [(3, .int v_3), (2, .int x1_2), (1, .int x1_1), (0, .ref x0)]) (st2 := [.int (u_8.2.1 0), .int x1_1]) rfl rfl rfl rfl ?_
          obtain ⟨hw_9_0, hw_9_1, hw_9_2⟩ := hw_9
          obtain ⟨v_10, ev_10⟩ : ∃ z : Int32, x1_1 + (u_8.2.1 0) = z := ⟨_, rfl⟩
          refine j_iadd (pc := 46) (v := v_10) C dX10_asked_46 ev_10 ?_
          refine j_istore_n (pc := 47) (lv' := [(1, .int v_10), (3, .int v_3), (2, .int x1_2), (0, .ref x0)]) C dX10_asked_47 rfl (by decide) rfl ?_
          obtain ⟨v_11, ev_11⟩ : ∃ z : Int32, x1_2 + 1 = z := ⟨_, rfl⟩
          have el_1 : (1 : Int32).toInt = 1 := rfl
          have hv_11 : v_11.toInt = x1_2.toInt + (1 : Int32).toInt := by rw [← ev_11]; exact fb_addI (by omega) (by omega)
          refine j_iinc (pc := 48) (v := v_11) (lv' := [(2, .int v_11), (1, .int v_10), (3, .int v_3), (0, .ref x0)]) C dX10_asked_48 2 rfl ev_11 (by decide) rfl ?_
          refine j_goto (pc := 51) (tgt := 4) C dX10_asked_51 (by decide) ?_
          refine j_subG (ws' := [(x0, .inr (10, [.ref r0, .ref a0, .ref n0, .ref k0, .ref x1, .ref q0, .ref o0, .ref h0, .ref s0, .ref d0])), (a0, .inr (9, [.int a_wares, .int a_shelves, .int a_nests, .ref a1, .ref a2, .ref a3, .ref a4, .ref a5, .ref a6, .int a_lids, .int a_tops, .ref a7, .ref a8, .ref a9, .ref a10])), (a3, .inl (cyI, 12, .inl a_weight)), (a9, .inl (cyI, 4, .inl a_reach)), (n0, .inr (7, [.ref n1, .ref n2, .ref n3, .ref n4, .int n_askings, .int n_cost, .int n_laid])), (n1, .inl (cyI, 12, .inl n_shelf)), (n2, .inl (cyI, 12, .inl n_stack)), (n3, .inl (cyI, 12, .inl n_level)), (n4, .inl (cyI, 30, .inl n_asking)), (q0, .inr (4, [.ref q1, .int (u_8.2.1 1)])), (q1, .inl (cyI, 12, .inl (u_8.2.2.1 0)))]) [1, 2, 3, 4, 7, 8, 9, 10, 0, 5, 6] (by decide) rfl ?_
          exact j_lv [0, 1, 3] rfl (ih_1 v_11 v_10 (u_8.2.1 1) (u_8.2.2.1 0) (by omega) hw_9_0 hw_9_1 (by omega) (SR.step hq_1_0 (by omega) (by show pAC a_weight a_reach n_shelf n_stack n_level (n_asking (x1_2).toInt.toNat).toInt.toNat (u_8.2.1 0); rw [ev_3]; exact Or.inr ⟨by omega, hw_9_2⟩) ev_10.symm) (by omega))
  have el_0 : (0 : Int32).toInt = 0 := rfl
  have el_0 : (0 : Int32).toInt = 0 := rfl
  exact j_lv [0, 1, 2] rfl (loop_1 4096 0 0 q_size q_ware (by decide) h_q_size h_q_ware (by omega) (SR.zero rfl rfl) (by omega))
set_option maxHeartbeats 4000000 in
set_option maxRecDepth 100000 in
theorem c_X10_count (l : Launch) (D : DG) (cyC cyI cyJ cyZ cyO : ClassId) (x0 : Nat) (a0 : Nat) (n0 : Nat) (n1 : Nat) (r0 : Nat) (t0 : Nat) (k0 : Nat) (x1 : Nat) (q0 : Nat) (o0 : Nat) (h0 : Nat) (s0 : Nat) (d0 : Nat) (a1 : Nat) (a2 : Nat) (a3 : Nat) (a4 : Nat) (a5 : Nat) (a6 : Nat) (a7 : Nat) (a8 : Nat) (a9 : Nat) (a10 : Nat) (n2 : Nat) (n3 : Nat) (n4 : Nat) (e0 : Nat) (r1 : Nat) (r2 : Nat) (b0 : Nat) (t1 : Nat) (p0 : Int32) (a_wares : Int32) (a_shelves : Int32) (a_nests : Int32) (a_lids : Int32) (a_tops : Int32) (n_askings : Int32) (n_cost : Int32) (n_laid : Int32) (r_habits : Int32) (r_fault : Int32) (t_length : Int32) (t_next : Int32) (t_kind : Int32) (t_place : Int32) (t_number : Int32) (n_shelf : Nat → Int32) (h_a_wares : 0 ≤ (a_wares).toInt ∧ (a_wares).toInt ≤ 12) (h_a_shelves : 0 ≤ (a_shelves).toInt ∧ (a_shelves).toInt ≤ 4) (h_a_nests : 0 ≤ (a_nests).toInt ∧ (a_nests).toInt ≤ 4) (h_n_askings : 0 ≤ (n_askings).toInt ∧ (n_askings).toInt ≤ 30) (h_n_laid : 0 ≤ (n_laid).toInt ∧ (n_laid).toInt ≤ 1) (h_t_length : 0 ≤ (t_length).toInt ∧ (t_length).toInt ≤ 1000) (h_t_next : 0 ≤ (t_next).toInt ∧ (t_next).toInt ≤ 1000) (h_t_kind : 0 ≤ (t_kind).toInt ∧ (t_kind).toInt ≤ 4) (h_t_place : 0 ≤ (t_place).toInt ∧ (t_place).toInt ≤ 1000) (h_n_shelf : Iv 12 (-1) (3) n_shelf) : KK l D (TY cyC cyI cyJ cyZ cyO) yX10_count cX10_count 2 (some .int) ({ frames := 2, cells := 0, slots := 0, locals := 44 } : Room) 0 0 [.ref x0, .int p0] [(x0, .inr (10, [.ref r0, .ref a0, .ref n0, .ref k0, .ref x1, .ref q0, .ref o0, .ref h0, .ref s0, .ref d0])), (a0, .inr (9, [.int a_wares, .int a_shelves, .int a_nests, .ref a1, .ref a2, .ref a3, .ref a4, .ref a5, .ref a6, .int a_lids, .int a_tops, .ref a7, .ref a8, .ref a9, .ref a10])), (n0, .inr (7, [.ref n1, .ref n2, .ref n3, .ref n4, .int n_askings, .int n_cost, .int n_laid])), (n1, .inl (cyI, 12, .inl n_shelf)), (r0, .inr (5, [.ref t0, .ref e0, .ref r1, .ref r2, .ref b0, .int r_habits, .int r_fault])), (t0, .inr (8, [.ref t1, .int t_length, .int t_next, .int t_kind, .int t_place, .int t_number]))] (fun u => some (.int (u.2.1 0))) (fun u => ((u.2.1 0).toInt = coF (p0).toInt (a_wares).toInt (a_shelves).toInt (a_nests).toInt ((cnB (oT n_shelf) (a_wares).toInt.toNat : Nat) : Int) (n_askings).toInt (t_length).toInt)) (fun u => [(x0, .inr (10, [.ref r0, .ref a0, .ref n0, .ref k0, .ref x1, .ref q0, .ref o0, .ref h0, .ref s0, .ref d0])), (a0, .inr (9, [.int a_wares, .int a_shelves, .int a_nests, .ref a1, .ref a2, .ref a3, .ref a4, .ref a5, .ref a6, .int a_lids, .int a_tops, .ref a7, .ref a8, .ref a9, .ref a10])), (n0, .inr (7, [.ref n1, .ref n2, .ref n3, .ref n4, .int n_askings, .int n_cost, .int n_laid])), (n1, .inl (cyI, 12, .inl n_shelf)), (r0, .inr (5, [.ref t0, .ref e0, .ref r1, .ref r2, .ref b0, .int r_habits, .int r_fault])), (t0, .inr (8, [.ref t1, .int t_length, .int t_next, .int t_kind, .int t_place, .int t_number]))]) := by
  refine KK.of (lv0 := [(0, .ref x0), (1, .int p0)]) (by decide) rfl (Nat.le_of_ble_eq_true rfl) ?_
  intro p e s m args below meth c A C hr hk hin
  refine j_iload_n (pc := 0) C dX10_count_0 rfl 1 rfl ?_
  rcases (by omega : p0.toInt = 0 ∨ p0.toInt = 1 ∨ p0.toInt = 2 ∨ p0.toInt = 3 ∨ p0.toInt = 4 ∨ p0.toInt = 5 ∨ (¬ p0.toInt = 0 ∧ ¬ p0.toInt = 1 ∧ ¬ p0.toInt = 2 ∧ ¬ p0.toInt = 3 ∧ ¬ p0.toInt = 4 ∧ ¬ p0.toInt = 5)) with sw_1 | sw_1 | sw_1 | sw_1 | sw_1 | sw_1 | sw_1
  · skip
    refine j_tin (pc := 1) (off := 39) (tgt := 40) C dX10_count_1 (by omega) (by omega) (by rw [sw_1]; decide) (by decide) ?_
    refine j_aload_n (pc := 40) C dX10_count_40 rfl 0 rfl ?_
    refine j_get (pc := 41) (ci := 10) (v := .ref a0) C inw_10 0 rfl rfl 1 (by decide) wd_447 rfl rfl dX10_count_41 ?_
    refine j_get (pc := 44) (ci := 9) (v := .int a_wares) C inw_9 1 rfl rfl 0 (by decide) wd_534 rfl rfl dX10_count_44 ?_
    exact j_iret (pc := 47) C hr hk (fun i => [].getD i 0, fun i => [a_wares].getD i 0, fun i => [].getD i (fun _ => 0), fun i => [].getD i (fun _ => 0)) rfl (show (a_wares.toInt = coF (p0).toInt (a_wares).toInt (a_shelves).toInt (a_nests).toInt ((cnB (oT n_shelf) (a_wares).toInt.toNat : Nat) : Int) (n_askings).toInt (t_length).toInt) from ((by unfold coF; rw [if_pos (by omega)]))) [0, 1, 2, 3, 4, 5] (by decide) rfl (by decide) (by decide) dX10_count_47
  · skip
    refine j_tin (pc := 1) (off := 47) (tgt := 48) C dX10_count_1 (by omega) (by omega) (by rw [sw_1]; decide) (by decide) ?_
    refine j_aload_n (pc := 48) C dX10_count_48 rfl 0 rfl ?_
    refine j_get (pc := 49) (ci := 10) (v := .ref a0) C inw_10 0 rfl rfl 1 (by decide) wd_447 rfl rfl dX10_count_49 ?_
    refine j_get (pc := 52) (ci := 9) (v := .int a_shelves) C inw_9 1 rfl rfl 1 (by decide) wd_535 rfl rfl dX10_count_52 ?_
    exact j_iret (pc := 55) C hr hk (fun i => [].getD i 0, fun i => [a_shelves].getD i 0, fun i => [].getD i (fun _ => 0), fun i => [].getD i (fun _ => 0)) rfl (show (a_shelves.toInt = coF (p0).toInt (a_wares).toInt (a_shelves).toInt (a_nests).toInt ((cnB (oT n_shelf) (a_wares).toInt.toNat : Nat) : Int) (n_askings).toInt (t_length).toInt) from ((by unfold coF; rw [if_neg (by omega), if_pos (by omega)]))) [0, 1, 2, 3, 4, 5] (by decide) rfl (by decide) (by decide) dX10_count_55
  · skip
    refine j_tin (pc := 1) (off := 55) (tgt := 56) C dX10_count_1 (by omega) (by omega) (by rw [sw_1]; decide) (by decide) ?_
    refine j_aload_n (pc := 56) C dX10_count_56 rfl 0 rfl ?_
    refine j_get (pc := 57) (ci := 10) (v := .ref a0) C inw_10 0 rfl rfl 1 (by decide) wd_447 rfl rfl dX10_count_57 ?_
    refine j_get (pc := 60) (ci := 9) (v := .int a_nests) C inw_9 1 rfl rfl 2 (by decide) wd_536 rfl rfl dX10_count_60 ?_
    exact j_iret (pc := 63) C hr hk (fun i => [].getD i 0, fun i => [a_nests].getD i 0, fun i => [].getD i (fun _ => 0), fun i => [].getD i (fun _ => 0)) rfl (show (a_nests.toInt = coF (p0).toInt (a_wares).toInt (a_shelves).toInt (a_nests).toInt ((cnB (oT n_shelf) (a_wares).toInt.toNat : Nat) : Int) (n_askings).toInt (t_length).toInt) from ((by unfold coF; rw [if_neg (by omega), if_neg (by omega), if_pos (by omega)]))) [0, 1, 2, 3, 4, 5] (by decide) rfl (by decide) (by decide) dX10_count_63
  · skip
    refine j_tin (pc := 1) (off := 63) (tgt := 64) C dX10_count_1 (by omega) (by omega) (by rw [sw_1]; decide) (by decide) ?_
    refine j_aload_n (pc := 64) C dX10_count_64 rfl 0 rfl ?_
    refine j_get (pc := 65) (ci := 10) (v := .ref n0) C inw_10 0 rfl rfl 2 (by decide) wd_466 rfl rfl dX10_count_65 ?_
    refine j_aload_n (pc := 68) C dX10_count_68 rfl 0 rfl ?_
    refine j_get (pc := 69) (ci := 10) (v := .ref a0) C inw_10 0 rfl rfl 1 (by decide) wd_447 rfl rfl dX10_count_69 ?_
    refine j_get (pc := 72) (ci := 9) (v := .int a_wares) C inw_9 1 rfl rfl 0 (by decide) wd_534 rfl rfl dX10_count_72 ?_
    refine j_callV (pc := 75) (As := [.int a_wares]) (rest := []) (wr := [(x0, .inr (10, [.ref r0, .ref a0, .ref n0, .ref k0, .ref x1, .ref q0, .ref o0, .ref h0, .ref s0, .ref d0])), (a0, .inr (9, [.int a_wares, .int a_shelves, .int a_nests, .ref a1, .ref a2, .ref a3, .ref a4, .ref a5, .ref a6, .int a_lids, .int a_tops, .ref a7, .ref a8, .ref a9, .ref a10])), (r0, .inr (5, [.ref t0, .ref e0, .ref r1, .ref r2, .ref b0, .int r_habits, .int r_fault])), (t0, .inr (8, [.ref t1, .int t_length, .int t_next, .int t_kind, .int t_place, .int t_number]))]) C (c_X7_outOf l D cyC cyI cyJ cyZ cyO n0 n1 n2 n3 n4 a_wares n_askings n_cost n_laid n_shelf h_n_askings h_n_laid h_a_wares h_n_shelf) wd_537 wd_9 wd_538 wd_539 wd_540 ⟨by decide, by decide, rfl⟩ rfl ⟨rfl, rfl, by decide, by decide⟩ ⟨by decide, by decide⟩ [2, 3] [0, 1, 4, 5] rfl rfl ⟨by decide, by decide, by decide⟩ 2 rfl rfl rfl (Nat.le_of_ble_eq_true rfl) dX10_count_75 (fun u_2 hw_3 => ?_)
    refine j_eq (ws2 := [(x0, .inr (10, [.ref r0, .ref a0, .ref n0, .ref k0, .ref x1, .ref q0, .ref o0, .ref h0, .ref s0, .ref d0])), (a0, .inr (9, [.int a_wares, .int a_shelves, .int a_nests, .ref a1, .ref a2, .ref a3, .ref a4, .ref a5, .ref a6, .int a_lids, .int a_tops, .ref a7, .ref a8, .ref a9, .ref a10])), (r0, .inr (5, [.ref t0, .ref e0, .ref r1, .ref r2, .ref b0, .int r_habits, .int r_fault])), (t0, .inr (8, [.ref t1, .int t_length, .int t_next, .int t_kind, .int t_place, .int t_number])), (n0, .inr (7, [.ref n1, .ref n2, .ref n3, .ref n4, .int n_askings, .int n_cost, .int n_laid])), (n1, .inl (cyI, 12, .inl n_shelf))]) (pc2 := 78) (lv2 := [(0, .ref x0), (1, .int p0)]) (st2 := [.int (u_2.2.1 0)]) rfl rfl rfl rfl ?_
    obtain ⟨hw_3_0, hw_3_1⟩ := hw_3
    exact j_iret (pc := 78) C hr hk (fun i => [].getD i 0, fun i => [(u_2.2.1 0)].getD i 0, fun i => [].getD i (fun _ => 0), fun i => [].getD i (fun _ => 0)) rfl (show ((u_2.2.1 0).toInt = coF (p0).toInt (a_wares).toInt (a_shelves).toInt (a_nests).toInt ((cnB (oT n_shelf) (a_wares).toInt.toNat : Nat) : Int) (n_askings).toInt (t_length).toInt) from ((by unfold coF; rw [if_neg (by omega), if_neg (by omega), if_neg (by omega), if_pos (by omega)]; exact hw_3_1))) [0, 1, 4, 5, 2, 3] (by decide) rfl (by decide) (by decide) dX10_count_78
  · skip
    refine j_tin (pc := 1) (off := 78) (tgt := 79) C dX10_count_1 (by omega) (by omega) (by rw [sw_1]; decide) (by decide) ?_
    refine j_aload_n (pc := 79) C dX10_count_79 rfl 0 rfl ?_
    refine j_get (pc := 80) (ci := 10) (v := .ref n0) C inw_10 0 rfl rfl 2 (by decide) wd_466 rfl rfl dX10_count_80 ?_
    refine j_get (pc := 83) (ci := 7) (v := .int n_askings) C inw_7 2 rfl rfl 4 (by decide) wd_532 rfl rfl dX10_count_83 ?_
    exact j_iret (pc := 86) C hr hk (fun i => [].getD i 0, fun i => [n_askings].getD i 0, fun i => [].getD i (fun _ => 0), fun i => [].getD i (fun _ => 0)) rfl (show (n_askings.toInt = coF (p0).toInt (a_wares).toInt (a_shelves).toInt (a_nests).toInt ((cnB (oT n_shelf) (a_wares).toInt.toNat : Nat) : Int) (n_askings).toInt (t_length).toInt) from ((by unfold coF; rw [if_neg (by omega), if_neg (by omega), if_neg (by omega), if_neg (by omega), if_pos (by omega)]))) [0, 1, 2, 3, 4, 5] (by decide) rfl (by decide) (by decide) dX10_count_86
  · skip
    refine j_tin (pc := 1) (off := 86) (tgt := 87) C dX10_count_1 (by omega) (by omega) (by rw [sw_1]; decide) (by decide) ?_
    refine j_aload_n (pc := 87) C dX10_count_87 rfl 0 rfl ?_
    refine j_get (pc := 88) (ci := 10) (v := .ref r0) C inw_10 0 rfl rfl 0 (by decide) wd_541 rfl rfl dX10_count_88 ?_
    refine j_get (pc := 91) (ci := 5) (v := .ref t0) C inw_5 4 rfl rfl 0 (by decide) wd_542 rfl rfl dX10_count_91 ?_
    refine j_get (pc := 94) (ci := 8) (v := .int t_length) C inw_8 5 rfl rfl 1 (by decide) wd_543 rfl rfl dX10_count_94 ?_
    exact j_iret (pc := 97) C hr hk (fun i => [].getD i 0, fun i => [t_length].getD i 0, fun i => [].getD i (fun _ => 0), fun i => [].getD i (fun _ => 0)) rfl (show (t_length.toInt = coF (p0).toInt (a_wares).toInt (a_shelves).toInt (a_nests).toInt ((cnB (oT n_shelf) (a_wares).toInt.toNat : Nat) : Int) (n_askings).toInt (t_length).toInt) from ((by unfold coF; rw [if_neg (by omega), if_neg (by omega), if_neg (by omega), if_neg (by omega), if_neg (by omega), if_pos (by omega)]))) [0, 1, 2, 3, 4, 5] (by decide) rfl (by decide) (by decide) dX10_count_97
  · skip
    refine j_tout (pc := 1) (tgt := 98) C dX10_count_1 (by omega) (by decide) ?_
    refine j_iconst (pc := 98) (v := (-1)) C dX10_count_98 (by decide) ?_
    have el_m1 : ((-1) : Int32).toInt = (-1) := rfl
    exact j_iret (pc := 99) C hr hk (fun i => [].getD i 0, fun i => [(-1)].getD i 0, fun i => [].getD i (fun _ => 0), fun i => [].getD i (fun _ => 0)) rfl (show (((-1) : Int32).toInt = coF (p0).toInt (a_wares).toInt (a_shelves).toInt (a_nests).toInt ((cnB (oT n_shelf) (a_wares).toInt.toNat : Nat) : Int) (n_askings).toInt (t_length).toInt) from ((by unfold coF; rw [if_neg (by omega), if_neg (by omega), if_neg (by omega), if_neg (by omega), if_neg (by omega), if_neg (by omega)]; rfl))) [0, 1, 2, 3, 4, 5] (by decide) rfl (by decide) (by decide) dX10_count_99
