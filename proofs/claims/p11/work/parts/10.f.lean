theorem wd_72 : Cond.constant RJ6 265 (1431655765) ∈ WALL := wl_in (by decide +kernel) (by decide +kernel)
theorem wd_73 : Cond.constant RJ6 266 (858993459) ∈ WALL := wl_in (by decide +kernel) (by decide +kernel)
theorem wd_74 : Cond.constant RJ6 267 (252645135) ∈ WALL := wl_in (by decide +kernel) (by decide +kernel)
theorem wd_75 : Cond.fieldLink RX3 24 "BowlShelf$Told" "wares" "I" ∈ WALL := wl_in (by decide +kernel) (by decide +kernel)
theorem wd_76 : Cond.fieldLink RX3 30 "BowlShelf$Order" "wares" "I" ∈ WALL := wl_in (by decide +kernel) (by decide +kernel)
theorem wd_77 : Cond.fieldLink RX3 31 "BowlShelf$Order" "known" "Z" ∈ WALL := wl_in (by decide +kernel) (by decide +kernel)
theorem wd_78 : Cond.fieldLink RX3 35 "BowlShelf$Told" "mayOn" "[I" ∈ WALL := wl_in (by decide +kernel) (by decide +kernel)
theorem wd_79 : Cond.fieldLink RX3 9 "BowlShelf$Order" "above" "[I" ∈ WALL := wl_in (by decide +kernel) (by decide +kernel)
theorem wd_80 : Cond.methodLink RX3 38 arraycopyName ∈ WALL := wl_in (by decide +kernel) (by decide +kernel)
theorem wd_81 : Cond.fieldLink RX3 15 "BowlShelf$Order" "kin" "[I" ∈ WALL := wl_in (by decide +kernel) (by decide +kernel)
theorem wd_82 : Cond.fieldLink RX3 60 "BowlShelf$Order" "fewest" "I" ∈ WALL := wl_in (by decide +kernel) (by decide +kernel)
theorem wd_83 : Cond.fieldLink RX3 63 "BowlShelf$Order" "apart" "I" ∈ WALL := wl_in (by decide +kernel) (by decide +kernel)
theorem wd_84 : Cond.code yJ6_bitCount_0f7a4 cJ6_bitCount_0f7a4 1 (some .int) ∈ WALL := wl_in (by decide +kernel) (by decide +kernel)
theorem wd_85 : Cond.initialized RJ6 ∈ WALL := wl_in (by decide +kernel) (by decide +kernel)
theorem wd_86 : Cond.methodLink RX3 66 yJ6_bitCount_0f7a4 ∈ WALL := wl_in (by decide +kernel) (by decide +kernel)
theorem wd_87 : Cond.static yJ6_bitCount_0f7a4 ∈ WALL := wl_in (by decide +kernel) (by decide +kernel)
theorem wd_88 : Cond.code yX3_isApart cX3_isApart 3 (some .boolean) ∈ WALL := wl_in (by decide +kernel) (by decide +kernel)
theorem wd_89 : Cond.initialized RX3 ∈ WALL := wl_in (by decide +kernel) (by decide +kernel)
theorem wd_90 : Cond.methodLink RX3 72 yX3_isApart ∈ WALL := wl_in (by decide +kernel) (by decide +kernel)
theorem wd_91 : Cond.instanceMethod yX3_isApart ∈ WALL := wl_in (by decide +kernel) (by decide +kernel)
theorem wd_92 : Cond.selects RX3 yX3_isApart yX3_isApart ∈ WALL := wl_in (by decide +kernel) (by decide +kernel)
theorem wd_93 : Cond.fieldLink RX3 21 "BowlShelf$Order" "members" "[I" ∈ WALL := wl_in (by decide +kernel) (by decide +kernel)
theorem wd_94 : Cond.fieldLink RX3 18 "BowlShelf$Order" "row" "[I" ∈ WALL := wl_in (by decide +kernel) (by decide +kernel)
theorem wd_95 : Cond.methodLink RX3 76 Lib.Math.max.name ∈ WALL := wl_in (by decide +kernel) (by decide +kernel)
theorem wd_96 : Cond.code yX3_give cX3_give 4 (some .boolean) ∈ WALL := wl_in (by decide +kernel) (by decide +kernel)
theorem wd_97 : Cond.methodLink RX3 56 yX3_give ∈ WALL := wl_in (by decide +kernel) (by decide +kernel)
theorem wd_98 : Cond.instanceMethod yX3_give ∈ WALL := wl_in (by decide +kernel) (by decide +kernel)
theorem wd_99 : Cond.selects RX3 yX3_give yX3_give ∈ WALL := wl_in (by decide +kernel) (by decide +kernel)
theorem wd_100 : Cond.code yX3_findKin cX3_findKin 3 none ∈ WALL := wl_in (by decide +kernel) (by decide +kernel)
theorem wd_101 : Cond.methodLink RX3 44 yX3_findKin ∈ WALL := wl_in (by decide +kernel) (by decide +kernel)
theorem wd_102 : Cond.instanceMethod yX3_findKin ∈ WALL := wl_in (by decide +kernel) (by decide +kernel)
theorem wd_103 : Cond.selects RX3 yX3_findKin yX3_findKin ∈ WALL := wl_in (by decide +kernel) (by decide +kernel)
theorem wd_104 : Cond.code yX3_findApart cX3_findApart 3 none ∈ WALL := wl_in (by decide +kernel) (by decide +kernel)
theorem wd_105 : Cond.methodLink RX3 47 yX3_findApart ∈ WALL := wl_in (by decide +kernel) (by decide +kernel)
theorem wd_106 : Cond.instanceMethod yX3_findApart ∈ WALL := wl_in (by decide +kernel) (by decide +kernel)
theorem wd_107 : Cond.selects RX3 yX3_findApart yX3_findApart ∈ WALL := wl_in (by decide +kernel) (by decide +kernel)
theorem wd_108 : Cond.methodLink RX3 50 yJ7_fill_53178 ∈ WALL := wl_in (by decide +kernel) (by decide +kernel)
theorem dJ6_bitCount_0f7a4_0 : decode cJ6_bitCount_0f7a4 0 = .ok (.iload_n 0, 1) := by decide +kernel
theorem dJ6_bitCount_0f7a4_1 : decode cJ6_bitCount_0f7a4 1 = .ok (.iload_n 0, 1) := by decide +kernel
theorem dJ6_bitCount_0f7a4_2 : decode cJ6_bitCount_0f7a4 2 = .ok (.iconst 1, 1) := by decide +kernel
theorem dJ6_bitCount_0f7a4_3 : decode cJ6_bitCount_0f7a4 3 = .ok (.iushr, 1) := by decide +kernel
theorem dJ6_bitCount_0f7a4_4 : decode cJ6_bitCount_0f7a4 4 = .ok (.ldc_w 265, 3) := by decide +kernel
theorem dJ6_bitCount_0f7a4_7 : decode cJ6_bitCount_0f7a4 7 = .ok (.iand, 1) := by decide +kernel
theorem dJ6_bitCount_0f7a4_8 : decode cJ6_bitCount_0f7a4 8 = .ok (.isub, 1) := by decide +kernel
theorem dJ6_bitCount_0f7a4_9 : decode cJ6_bitCount_0f7a4 9 = .ok (.istore_n 0, 1) := by decide +kernel
theorem dJ6_bitCount_0f7a4_10 : decode cJ6_bitCount_0f7a4 10 = .ok (.iload_n 0, 1) := by decide +kernel
theorem dJ6_bitCount_0f7a4_11 : decode cJ6_bitCount_0f7a4 11 = .ok (.ldc_w 266, 3) := by decide +kernel
theorem dJ6_bitCount_0f7a4_14 : decode cJ6_bitCount_0f7a4 14 = .ok (.iand, 1) := by decide +kernel
theorem dJ6_bitCount_0f7a4_15 : decode cJ6_bitCount_0f7a4 15 = .ok (.iload_n 0, 1) := by decide +kernel
theorem dJ6_bitCount_0f7a4_16 : decode cJ6_bitCount_0f7a4 16 = .ok (.iconst 2, 1) := by decide +kernel
theorem dJ6_bitCount_0f7a4_17 : decode cJ6_bitCount_0f7a4 17 = .ok (.iushr, 1) := by decide +kernel
theorem dJ6_bitCount_0f7a4_18 : decode cJ6_bitCount_0f7a4 18 = .ok (.ldc_w 266, 3) := by decide +kernel
theorem dJ6_bitCount_0f7a4_21 : decode cJ6_bitCount_0f7a4 21 = .ok (.iand, 1) := by decide +kernel
theorem dJ6_bitCount_0f7a4_22 : decode cJ6_bitCount_0f7a4 22 = .ok (.iadd, 1) := by decide +kernel
theorem dJ6_bitCount_0f7a4_23 : decode cJ6_bitCount_0f7a4 23 = .ok (.istore_n 0, 1) := by decide +kernel
theorem dJ6_bitCount_0f7a4_24 : decode cJ6_bitCount_0f7a4 24 = .ok (.iload_n 0, 1) := by decide +kernel
theorem dJ6_bitCount_0f7a4_25 : decode cJ6_bitCount_0f7a4 25 = .ok (.iload_n 0, 1) := by decide +kernel
theorem dJ6_bitCount_0f7a4_26 : decode cJ6_bitCount_0f7a4 26 = .ok (.iconst 4, 1) := by decide +kernel
theorem dJ6_bitCount_0f7a4_27 : decode cJ6_bitCount_0f7a4 27 = .ok (.iushr, 1) := by decide +kernel
theorem dJ6_bitCount_0f7a4_28 : decode cJ6_bitCount_0f7a4 28 = .ok (.iadd, 1) := by decide +kernel
theorem dJ6_bitCount_0f7a4_29 : decode cJ6_bitCount_0f7a4 29 = .ok (.ldc_w 267, 3) := by decide +kernel
theorem dJ6_bitCount_0f7a4_32 : decode cJ6_bitCount_0f7a4 32 = .ok (.iand, 1) := by decide +kernel
theorem dJ6_bitCount_0f7a4_33 : decode cJ6_bitCount_0f7a4 33 = .ok (.istore_n 0, 1) := by decide +kernel
theorem dJ6_bitCount_0f7a4_34 : decode cJ6_bitCount_0f7a4 34 = .ok (.iload_n 0, 1) := by decide +kernel
theorem dJ6_bitCount_0f7a4_35 : decode cJ6_bitCount_0f7a4 35 = .ok (.iload_n 0, 1) := by decide +kernel
theorem dJ6_bitCount_0f7a4_36 : decode cJ6_bitCount_0f7a4 36 = .ok (.bipush 8, 2) := by decide +kernel
theorem dJ6_bitCount_0f7a4_38 : decode cJ6_bitCount_0f7a4 38 = .ok (.iushr, 1) := by decide +kernel
theorem dJ6_bitCount_0f7a4_39 : decode cJ6_bitCount_0f7a4 39 = .ok (.iadd, 1) := by decide +kernel
theorem dJ6_bitCount_0f7a4_40 : decode cJ6_bitCount_0f7a4 40 = .ok (.istore_n 0, 1) := by decide +kernel
theorem dJ6_bitCount_0f7a4_41 : decode cJ6_bitCount_0f7a4 41 = .ok (.iload_n 0, 1) := by decide +kernel
theorem dJ6_bitCount_0f7a4_42 : decode cJ6_bitCount_0f7a4 42 = .ok (.iload_n 0, 1) := by decide +kernel
theorem dJ6_bitCount_0f7a4_43 : decode cJ6_bitCount_0f7a4 43 = .ok (.bipush 16, 2) := by decide +kernel
theorem dJ6_bitCount_0f7a4_45 : decode cJ6_bitCount_0f7a4 45 = .ok (.iushr, 1) := by decide +kernel
theorem dJ6_bitCount_0f7a4_46 : decode cJ6_bitCount_0f7a4 46 = .ok (.iadd, 1) := by decide +kernel
theorem dJ6_bitCount_0f7a4_47 : decode cJ6_bitCount_0f7a4 47 = .ok (.istore_n 0, 1) := by decide +kernel
theorem dJ6_bitCount_0f7a4_48 : decode cJ6_bitCount_0f7a4 48 = .ok (.iload_n 0, 1) := by decide +kernel
theorem dJ6_bitCount_0f7a4_49 : decode cJ6_bitCount_0f7a4 49 = .ok (.bipush 63, 2) := by decide +kernel
theorem dJ6_bitCount_0f7a4_51 : decode cJ6_bitCount_0f7a4 51 = .ok (.iand, 1) := by decide +kernel
theorem dJ6_bitCount_0f7a4_52 : decode cJ6_bitCount_0f7a4 52 = .ok (.ireturn, 1) := by decide +kernel
theorem dX3_chain_0 : decode cX3_chain 0 = .ok (.aload_n 0, 1) := by decide +kernel
theorem dX3_chain_1 : decode cX3_chain 1 = .ok (.aload_n 1, 1) := by decide +kernel
theorem dX3_chain_2 : decode cX3_chain 2 = .ok (.getfield 24, 3) := by decide +kernel
theorem dX3_chain_5 : decode cX3_chain 5 = .ok (.putfield 30, 3) := by decide +kernel
theorem dX3_chain_8 : decode cX3_chain 8 = .ok (.aload_n 0, 1) := by decide +kernel
theorem dX3_chain_9 : decode cX3_chain 9 = .ok (.iconst 0, 1) := by decide +kernel
theorem dX3_chain_10 : decode cX3_chain 10 = .ok (.putfield 31, 3) := by decide +kernel
theorem dX3_chain_13 : decode cX3_chain 13 = .ok (.aload_n 1, 1) := by decide +kernel
theorem dX3_chain_14 : decode cX3_chain 14 = .ok (.getfield 35, 3) := by decide +kernel
theorem dX3_chain_17 : decode cX3_chain 17 = .ok (.iconst 0, 1) := by decide +kernel
theorem dX3_chain_18 : decode cX3_chain 18 = .ok (.aload_n 0, 1) := by decide +kernel
theorem dX3_chain_19 : decode cX3_chain 19 = .ok (.getfield 9, 3) := by decide +kernel
theorem dX3_chain_22 : decode cX3_chain 22 = .ok (.iconst 0, 1) := by decide +kernel
theorem dX3_chain_23 : decode cX3_chain 23 = .ok (.bipush 12, 2) := by decide +kernel
theorem dX3_chain_25 : decode cX3_chain 25 = .ok (.invokestatic 38, 3) := by decide +kernel
theorem dX3_chain_28 : decode cX3_chain 28 = .ok (.iconst 0, 1) := by decide +kernel
theorem dX3_chain_29 : decode cX3_chain 29 = .ok (.istore_n 2, 1) := by decide +kernel
theorem dX3_chain_30 : decode cX3_chain 30 = .ok (.iload_n 2, 1) := by decide +kernel
theorem dX3_chain_31 : decode cX3_chain 31 = .ok (.aload_n 0, 1) := by decide +kernel
theorem dX3_chain_32 : decode cX3_chain 32 = .ok (.getfield 30, 3) := by decide +kernel
theorem dX3_chain_35 : decode cX3_chain 35 = .ok (.if_icmp .ge 54, 3) := by decide +kernel
theorem dX3_chain_38 : decode cX3_chain 38 = .ok (.iconst 0, 1) := by decide +kernel
theorem dX3_chain_39 : decode cX3_chain 39 = .ok (.istore_n 3, 1) := by decide +kernel
theorem dX3_chain_40 : decode cX3_chain 40 = .ok (.iload_n 3, 1) := by decide +kernel
theorem dX3_chain_41 : decode cX3_chain 41 = .ok (.aload_n 0, 1) := by decide +kernel
theorem dX3_chain_42 : decode cX3_chain 42 = .ok (.getfield 30, 3) := by decide +kernel
theorem dX3_chain_45 : decode cX3_chain 45 = .ok (.if_icmp .ge 38, 3) := by decide +kernel
theorem dX3_chain_48 : decode cX3_chain 48 = .ok (.aload_n 0, 1) := by decide +kernel
theorem dX3_chain_49 : decode cX3_chain 49 = .ok (.getfield 9, 3) := by decide +kernel
theorem dX3_chain_52 : decode cX3_chain 52 = .ok (.iload_n 3, 1) := by decide +kernel
theorem dX3_chain_53 : decode cX3_chain 53 = .ok (.iaload, 1) := by decide +kernel
theorem dX3_chain_54 : decode cX3_chain 54 = .ok (.iload_n 2, 1) := by decide +kernel
theorem dX3_chain_55 : decode cX3_chain 55 = .ok (.iushr, 1) := by decide +kernel
theorem dX3_chain_56 : decode cX3_chain 56 = .ok (.iconst 1, 1) := by decide +kernel
theorem dX3_chain_57 : decode cX3_chain 57 = .ok (.iand, 1) := by decide +kernel
theorem dX3_chain_58 : decode cX3_chain 58 = .ok (.iconst 1, 1) := by decide +kernel
theorem dX3_chain_59 : decode cX3_chain 59 = .ok (.if_icmp .ne 18, 3) := by decide +kernel
theorem dX3_chain_62 : decode cX3_chain 62 = .ok (.aload_n 0, 1) := by decide +kernel
theorem dX3_chain_63 : decode cX3_chain 63 = .ok (.getfield 9, 3) := by decide +kernel
theorem dX3_chain_66 : decode cX3_chain 66 = .ok (.iload_n 3, 1) := by decide +kernel
theorem dX3_chain_67 : decode cX3_chain 67 = .ok (.dup2, 1) := by decide +kernel
theorem dX3_chain_68 : decode cX3_chain 68 = .ok (.iaload, 1) := by decide +kernel
theorem dX3_chain_69 : decode cX3_chain 69 = .ok (.aload_n 0, 1) := by decide +kernel
theorem dX3_chain_70 : decode cX3_chain 70 = .ok (.getfield 9, 3) := by decide +kernel
theorem dX3_chain_73 : decode cX3_chain 73 = .ok (.iload_n 2, 1) := by decide +kernel
theorem dX3_chain_74 : decode cX3_chain 74 = .ok (.iaload, 1) := by decide +kernel
theorem dX3_chain_75 : decode cX3_chain 75 = .ok (.ior, 1) := by decide +kernel
theorem dX3_chain_76 : decode cX3_chain 76 = .ok (.iastore, 1) := by decide +kernel
theorem dX3_chain_77 : decode cX3_chain 77 = .ok (.iinc 3 1, 3) := by decide +kernel
theorem dX3_chain_80 : decode cX3_chain 80 = .ok (.goto (-40), 3) := by decide +kernel
theorem dX3_chain_83 : decode cX3_chain 83 = .ok (.iinc 2 1, 3) := by decide +kernel
theorem dX3_chain_86 : decode cX3_chain 86 = .ok (.goto (-56), 3) := by decide +kernel
theorem dX3_chain_89 : decode cX3_chain 89 = .ok (.return_, 1) := by decide +kernel
theorem dX3_isRound_0 : decode cX3_isRound 0 = .ok (.iconst 0, 1) := by decide +kernel
theorem dX3_isRound_1 : decode cX3_isRound 1 = .ok (.istore_n 1, 1) := by decide +kernel
theorem dX3_isRound_2 : decode cX3_isRound 2 = .ok (.iload_n 1, 1) := by decide +kernel
theorem dX3_isRound_3 : decode cX3_isRound 3 = .ok (.aload_n 0, 1) := by decide +kernel
theorem dX3_isRound_4 : decode cX3_isRound 4 = .ok (.getfield 30, 3) := by decide +kernel
theorem dX3_isRound_7 : decode cX3_isRound 7 = .ok (.if_icmp .ge 25, 3) := by decide +kernel
theorem dX3_isRound_10 : decode cX3_isRound 10 = .ok (.aload_n 0, 1) := by decide +kernel
theorem dX3_isRound_11 : decode cX3_isRound 11 = .ok (.getfield 9, 3) := by decide +kernel
theorem dX3_isRound_14 : decode cX3_isRound 14 = .ok (.iload_n 1, 1) := by decide +kernel
theorem dX3_isRound_15 : decode cX3_isRound 15 = .ok (.iaload, 1) := by decide +kernel
theorem dX3_isRound_16 : decode cX3_isRound 16 = .ok (.iload_n 1, 1) := by decide +kernel
theorem dX3_isRound_17 : decode cX3_isRound 17 = .ok (.iushr, 1) := by decide +kernel
theorem dX3_isRound_18 : decode cX3_isRound 18 = .ok (.iconst 1, 1) := by decide +kernel
theorem dX3_isRound_19 : decode cX3_isRound 19 = .ok (.iand, 1) := by decide +kernel
theorem dX3_isRound_20 : decode cX3_isRound 20 = .ok (.iconst 1, 1) := by decide +kernel
theorem dX3_isRound_21 : decode cX3_isRound 21 = .ok (.if_icmp .ne 5, 3) := by decide +kernel
theorem dX3_isRound_24 : decode cX3_isRound 24 = .ok (.iconst 1, 1) := by decide +kernel
theorem dX3_isRound_25 : decode cX3_isRound 25 = .ok (.ireturn, 1) := by decide +kernel
theorem dX3_isRound_26 : decode cX3_isRound 26 = .ok (.iinc 1 1, 3) := by decide +kernel
theorem dX3_isRound_29 : decode cX3_isRound 29 = .ok (.goto (-27), 3) := by decide +kernel
theorem dX3_isRound_32 : decode cX3_isRound 32 = .ok (.iconst 0, 1) := by decide +kernel
theorem dX3_isRound_33 : decode cX3_isRound 33 = .ok (.ireturn, 1) := by decide +kernel
theorem dX3_findKin_0 : decode cX3_findKin 0 = .ok (.aload_n 0, 1) := by decide +kernel
theorem dX3_findKin_1 : decode cX3_findKin 1 = .ok (.getfield 9, 3) := by decide +kernel
theorem dX3_findKin_4 : decode cX3_findKin 4 = .ok (.iconst 0, 1) := by decide +kernel
theorem dX3_findKin_5 : decode cX3_findKin 5 = .ok (.aload_n 0, 1) := by decide +kernel
theorem dX3_findKin_6 : decode cX3_findKin 6 = .ok (.getfield 15, 3) := by decide +kernel
theorem dX3_findKin_9 : decode cX3_findKin 9 = .ok (.iconst 0, 1) := by decide +kernel
theorem dX3_findKin_10 : decode cX3_findKin 10 = .ok (.bipush 12, 2) := by decide +kernel
theorem dX3_findKin_12 : decode cX3_findKin 12 = .ok (.invokestatic 38, 3) := by decide +kernel
theorem dX3_findKin_15 : decode cX3_findKin 15 = .ok (.iconst 0, 1) := by decide +kernel
theorem dX3_findKin_16 : decode cX3_findKin 16 = .ok (.istore_n 1, 1) := by decide +kernel
theorem dX3_findKin_17 : decode cX3_findKin 17 = .ok (.iload_n 1, 1) := by decide +kernel
theorem dX3_findKin_18 : decode cX3_findKin 18 = .ok (.aload_n 0, 1) := by decide +kernel
theorem dX3_findKin_19 : decode cX3_findKin 19 = .ok (.getfield 30, 3) := by decide +kernel
theorem dX3_findKin_22 : decode cX3_findKin 22 = .ok (.if_icmp .ge 46, 3) := by decide +kernel
theorem dX3_findKin_25 : decode cX3_findKin 25 = .ok (.iconst 0, 1) := by decide +kernel
theorem dX3_findKin_26 : decode cX3_findKin 26 = .ok (.istore_n 2, 1) := by decide +kernel
theorem dX3_findKin_27 : decode cX3_findKin 27 = .ok (.iload_n 2, 1) := by decide +kernel
theorem dX3_findKin_28 : decode cX3_findKin 28 = .ok (.aload_n 0, 1) := by decide +kernel
theorem dX3_findKin_29 : decode cX3_findKin 29 = .ok (.getfield 30, 3) := by decide +kernel
theorem dX3_findKin_32 : decode cX3_findKin 32 = .ok (.if_icmp .ge 30, 3) := by decide +kernel
theorem dX3_findKin_35 : decode cX3_findKin 35 = .ok (.aload_n 0, 1) := by decide +kernel
theorem dX3_findKin_36 : decode cX3_findKin 36 = .ok (.getfield 15, 3) := by decide +kernel
theorem dX3_findKin_39 : decode cX3_findKin 39 = .ok (.iload_n 2, 1) := by decide +kernel
theorem dX3_findKin_40 : decode cX3_findKin 40 = .ok (.dup2, 1) := by decide +kernel
theorem dX3_findKin_41 : decode cX3_findKin 41 = .ok (.iaload, 1) := by decide +kernel
theorem dX3_findKin_42 : decode cX3_findKin 42 = .ok (.aload_n 0, 1) := by decide +kernel
theorem dX3_findKin_43 : decode cX3_findKin 43 = .ok (.getfield 9, 3) := by decide +kernel
theorem dX3_findKin_46 : decode cX3_findKin 46 = .ok (.iload_n 1, 1) := by decide +kernel
theorem dX3_findKin_47 : decode cX3_findKin 47 = .ok (.iaload, 1) := by decide +kernel
theorem dX3_findKin_48 : decode cX3_findKin 48 = .ok (.iload_n 2, 1) := by decide +kernel
theorem dX3_findKin_49 : decode cX3_findKin 49 = .ok (.iushr, 1) := by decide +kernel
theorem dX3_findKin_50 : decode cX3_findKin 50 = .ok (.iconst 1, 1) := by decide +kernel
theorem dX3_findKin_51 : decode cX3_findKin 51 = .ok (.iand, 1) := by decide +kernel
theorem dX3_findKin_52 : decode cX3_findKin 52 = .ok (.iload_n 1, 1) := by decide +kernel
theorem dX3_findKin_53 : decode cX3_findKin 53 = .ok (.ishl, 1) := by decide +kernel
theorem dX3_findKin_54 : decode cX3_findKin 54 = .ok (.ior, 1) := by decide +kernel
theorem dX3_findKin_55 : decode cX3_findKin 55 = .ok (.iastore, 1) := by decide +kernel
theorem dX3_findKin_56 : decode cX3_findKin 56 = .ok (.iinc 2 1, 3) := by decide +kernel
theorem dX3_findKin_59 : decode cX3_findKin 59 = .ok (.goto (-32), 3) := by decide +kernel
theorem dX3_findKin_62 : decode cX3_findKin 62 = .ok (.iinc 1 1, 3) := by decide +kernel
theorem dX3_findKin_65 : decode cX3_findKin 65 = .ok (.goto (-48), 3) := by decide +kernel
theorem dX3_findKin_68 : decode cX3_findKin 68 = .ok (.return_, 1) := by decide +kernel
theorem dX3_isApart_0 : decode cX3_isApart 0 = .ok (.iconst 0, 1) := by decide +kernel
theorem dX3_isApart_1 : decode cX3_isApart 1 = .ok (.istore_n 2, 1) := by decide +kernel
theorem dX3_isApart_2 : decode cX3_isApart 2 = .ok (.iload_n 2, 1) := by decide +kernel
theorem dX3_isApart_3 : decode cX3_isApart 3 = .ok (.aload_n 0, 1) := by decide +kernel
theorem dX3_isApart_4 : decode cX3_isApart 4 = .ok (.getfield 30, 3) := by decide +kernel
theorem dX3_isApart_7 : decode cX3_isApart 7 = .ok (.if_icmp .ge 31, 3) := by decide +kernel
theorem dX3_isApart_10 : decode cX3_isApart 10 = .ok (.iload_n 1, 1) := by decide +kernel
theorem dX3_isApart_11 : decode cX3_isApart 11 = .ok (.iload_n 2, 1) := by decide +kernel
theorem dX3_isApart_12 : decode cX3_isApart 12 = .ok (.iushr, 1) := by decide +kernel
theorem dX3_isApart_13 : decode cX3_isApart 13 = .ok (.iconst 1, 1) := by decide +kernel
theorem dX3_isApart_14 : decode cX3_isApart 14 = .ok (.iand, 1) := by decide +kernel
theorem dX3_isApart_15 : decode cX3_isApart 15 = .ok (.iconst 1, 1) := by decide +kernel
theorem dX3_isApart_16 : decode cX3_isApart 16 = .ok (.if_icmp .ne 16, 3) := by decide +kernel
theorem dX3_isApart_19 : decode cX3_isApart 19 = .ok (.aload_n 0, 1) := by decide +kernel
theorem dX3_isApart_20 : decode cX3_isApart 20 = .ok (.getfield 15, 3) := by decide +kernel
theorem dX3_isApart_23 : decode cX3_isApart 23 = .ok (.iload_n 2, 1) := by decide +kernel
theorem dX3_isApart_24 : decode cX3_isApart 24 = .ok (.iaload, 1) := by decide +kernel
theorem dX3_isApart_25 : decode cX3_isApart 25 = .ok (.iload_n 1, 1) := by decide +kernel
theorem dX3_isApart_26 : decode cX3_isApart 26 = .ok (.iand, 1) := by decide +kernel
theorem dX3_isApart_27 : decode cX3_isApart 27 = .ok (.ifCond .eq 5, 3) := by decide +kernel
theorem dX3_isApart_30 : decode cX3_isApart 30 = .ok (.iconst 0, 1) := by decide +kernel
theorem dX3_isApart_31 : decode cX3_isApart 31 = .ok (.ireturn, 1) := by decide +kernel
theorem dX3_isApart_32 : decode cX3_isApart 32 = .ok (.iinc 2 1, 3) := by decide +kernel
theorem dX3_isApart_35 : decode cX3_isApart 35 = .ok (.goto (-33), 3) := by decide +kernel
theorem dX3_isApart_38 : decode cX3_isApart 38 = .ok (.iconst 1, 1) := by decide +kernel
theorem dX3_isApart_39 : decode cX3_isApart 39 = .ok (.ireturn, 1) := by decide +kernel
theorem dX3_findApart_0 : decode cX3_findApart 0 = .ok (.aload_n 0, 1) := by decide +kernel
theorem dX3_findApart_1 : decode cX3_findApart 1 = .ok (.iconst 0, 1) := by decide +kernel
theorem dX3_findApart_2 : decode cX3_findApart 2 = .ok (.putfield 60, 3) := by decide +kernel
theorem dX3_findApart_5 : decode cX3_findApart 5 = .ok (.aload_n 0, 1) := by decide +kernel
theorem dX3_findApart_6 : decode cX3_findApart 6 = .ok (.iconst 0, 1) := by decide +kernel
theorem dX3_findApart_7 : decode cX3_findApart 7 = .ok (.putfield 63, 3) := by decide +kernel
theorem dX3_findApart_10 : decode cX3_findApart 10 = .ok (.iconst 1, 1) := by decide +kernel
theorem dX3_findApart_11 : decode cX3_findApart 11 = .ok (.istore_n 1, 1) := by decide +kernel
theorem dX3_findApart_12 : decode cX3_findApart 12 = .ok (.iload_n 1, 1) := by decide +kernel
theorem dX3_findApart_13 : decode cX3_findApart 13 = .ok (.iconst 1, 1) := by decide +kernel
theorem dX3_findApart_14 : decode cX3_findApart 14 = .ok (.aload_n 0, 1) := by decide +kernel
theorem dX3_findApart_15 : decode cX3_findApart 15 = .ok (.getfield 30, 3) := by decide +kernel
theorem dX3_findApart_18 : decode cX3_findApart 18 = .ok (.ishl, 1) := by decide +kernel
theorem dX3_findApart_19 : decode cX3_findApart 19 = .ok (.if_icmp .ge 40, 3) := by decide +kernel
theorem dX3_findApart_22 : decode cX3_findApart 22 = .ok (.iload_n 1, 1) := by decide +kernel
theorem dX3_findApart_23 : decode cX3_findApart 23 = .ok (.invokestatic 66, 3) := by decide +kernel
theorem dX3_findApart_26 : decode cX3_findApart 26 = .ok (.istore_n 2, 1) := by decide +kernel
theorem dX3_findApart_27 : decode cX3_findApart 27 = .ok (.iload_n 2, 1) := by decide +kernel
theorem dX3_findApart_28 : decode cX3_findApart 28 = .ok (.aload_n 0, 1) := by decide +kernel
theorem dX3_findApart_29 : decode cX3_findApart 29 = .ok (.getfield 60, 3) := by decide +kernel
theorem dX3_findApart_32 : decode cX3_findApart 32 = .ok (.if_icmp .le 21, 3) := by decide +kernel
theorem dX3_findApart_35 : decode cX3_findApart 35 = .ok (.aload_n 0, 1) := by decide +kernel
theorem dX3_findApart_36 : decode cX3_findApart 36 = .ok (.iload_n 1, 1) := by decide +kernel
theorem dX3_findApart_37 : decode cX3_findApart 37 = .ok (.invokevirtual 72, 3) := by decide +kernel
theorem dX3_findApart_40 : decode cX3_findApart 40 = .ok (.ifCond .eq 13, 3) := by decide +kernel
theorem dX3_findApart_43 : decode cX3_findApart 43 = .ok (.aload_n 0, 1) := by decide +kernel
theorem dX3_findApart_44 : decode cX3_findApart 44 = .ok (.iload_n 2, 1) := by decide +kernel
theorem dX3_findApart_45 : decode cX3_findApart 45 = .ok (.putfield 60, 3) := by decide +kernel
theorem dX3_findApart_48 : decode cX3_findApart 48 = .ok (.aload_n 0, 1) := by decide +kernel
theorem dX3_findApart_49 : decode cX3_findApart 49 = .ok (.iload_n 1, 1) := by decide +kernel
theorem dX3_findApart_50 : decode cX3_findApart 50 = .ok (.putfield 63, 3) := by decide +kernel
theorem dX3_findApart_53 : decode cX3_findApart 53 = .ok (.iinc 1 1, 3) := by decide +kernel
theorem dX3_findApart_56 : decode cX3_findApart 56 = .ok (.goto (-44), 3) := by decide +kernel
theorem dX3_findApart_59 : decode cX3_findApart 59 = .ok (.return_, 1) := by decide +kernel
theorem dX3_give_0 : decode cX3_give 0 = .ok (.iload_n 1, 1) := by decide +kernel
theorem dX3_give_1 : decode cX3_give 1 = .ok (.aload_n 0, 1) := by decide +kernel
theorem dX3_give_2 : decode cX3_give 2 = .ok (.getfield 30, 3) := by decide +kernel
theorem dX3_give_5 : decode cX3_give 5 = .ok (.if_icmp .lt 5, 3) := by decide +kernel
theorem dX3_give_8 : decode cX3_give 8 = .ok (.iconst 1, 1) := by decide +kernel
theorem dX3_give_9 : decode cX3_give 9 = .ok (.ireturn, 1) := by decide +kernel
theorem dX3_give_10 : decode cX3_give 10 = .ok (.iconst 0, 1) := by decide +kernel
theorem dX3_give_11 : decode cX3_give 11 = .ok (.istore_n 3, 1) := by decide +kernel
theorem dX3_give_12 : decode cX3_give 12 = .ok (.iload_n 3, 1) := by decide +kernel
theorem dX3_give_13 : decode cX3_give 13 = .ok (.iload_n 2, 1) := by decide +kernel
theorem dX3_give_14 : decode cX3_give 14 = .ok (.if_icmp .gt 85, 3) := by decide +kernel
theorem dX3_give_17 : decode cX3_give 17 = .ok (.iload_n 3, 1) := by decide +kernel
theorem dX3_give_18 : decode cX3_give 18 = .ok (.aload_n 0, 1) := by decide +kernel
theorem dX3_give_19 : decode cX3_give 19 = .ok (.getfield 60, 3) := by decide +kernel
theorem dX3_give_22 : decode cX3_give 22 = .ok (.if_icmp .ge 77, 3) := by decide +kernel
theorem dX3_give_25 : decode cX3_give 25 = .ok (.aload_n 0, 1) := by decide +kernel
theorem dX3_give_26 : decode cX3_give 26 = .ok (.getfield 21, 3) := by decide +kernel
theorem dX3_give_29 : decode cX3_give 29 = .ok (.iload_n 3, 1) := by decide +kernel
theorem dX3_give_30 : decode cX3_give 30 = .ok (.iaload, 1) := by decide +kernel
theorem dX3_give_31 : decode cX3_give 31 = .ok (.aload_n 0, 1) := by decide +kernel
theorem dX3_give_32 : decode cX3_give 32 = .ok (.getfield 15, 3) := by decide +kernel
theorem dX3_give_35 : decode cX3_give 35 = .ok (.iload_n 1, 1) := by decide +kernel
theorem dX3_give_36 : decode cX3_give 36 = .ok (.iaload, 1) := by decide +kernel
theorem dX3_give_37 : decode cX3_give 37 = .ok (.iconst (-1), 1) := by decide +kernel
theorem dX3_give_38 : decode cX3_give 38 = .ok (.ixor, 1) := by decide +kernel
theorem dX3_give_39 : decode cX3_give 39 = .ok (.iand, 1) := by decide +kernel
theorem dX3_give_40 : decode cX3_give 40 = .ok (.ifCond .ne 53, 3) := by decide +kernel
theorem dX3_give_43 : decode cX3_give 43 = .ok (.aload_n 0, 1) := by decide +kernel
theorem dX3_give_44 : decode cX3_give 44 = .ok (.getfield 21, 3) := by decide +kernel
theorem dX3_give_47 : decode cX3_give 47 = .ok (.iload_n 3, 1) := by decide +kernel
theorem dX3_give_48 : decode cX3_give 48 = .ok (.dup2, 1) := by decide +kernel
theorem dX3_give_49 : decode cX3_give 49 = .ok (.iaload, 1) := by decide +kernel
theorem dX3_give_50 : decode cX3_give 50 = .ok (.iconst 1, 1) := by decide +kernel
theorem dX3_give_51 : decode cX3_give 51 = .ok (.iload_n 1, 1) := by decide +kernel
theorem dX3_give_52 : decode cX3_give 52 = .ok (.ishl, 1) := by decide +kernel
theorem dX3_give_53 : decode cX3_give 53 = .ok (.ior, 1) := by decide +kernel
theorem dX3_give_54 : decode cX3_give 54 = .ok (.iastore, 1) := by decide +kernel
theorem dX3_give_55 : decode cX3_give 55 = .ok (.aload_n 0, 1) := by decide +kernel
theorem dX3_give_56 : decode cX3_give 56 = .ok (.getfield 18, 3) := by decide +kernel
theorem dX3_give_59 : decode cX3_give 59 = .ok (.iload_n 1, 1) := by decide +kernel
theorem dX3_give_60 : decode cX3_give 60 = .ok (.iload_n 3, 1) := by decide +kernel
theorem dX3_give_61 : decode cX3_give 61 = .ok (.iastore, 1) := by decide +kernel
theorem dX3_give_62 : decode cX3_give 62 = .ok (.aload_n 0, 1) := by decide +kernel
theorem dX3_give_63 : decode cX3_give 63 = .ok (.iload_n 1, 1) := by decide +kernel
theorem dX3_give_64 : decode cX3_give 64 = .ok (.iconst 1, 1) := by decide +kernel
theorem dX3_give_65 : decode cX3_give 65 = .ok (.iadd, 1) := by decide +kernel
theorem dX3_give_66 : decode cX3_give 66 = .ok (.iload_n 2, 1) := by decide +kernel
theorem dX3_give_67 : decode cX3_give 67 = .ok (.iload_n 3, 1) := by decide +kernel
theorem dX3_give_68 : decode cX3_give 68 = .ok (.iconst 1, 1) := by decide +kernel
theorem dX3_give_69 : decode cX3_give 69 = .ok (.iadd, 1) := by decide +kernel
theorem dX3_give_70 : decode cX3_give 70 = .ok (.invokestatic 76, 3) := by decide +kernel
theorem dX3_give_73 : decode cX3_give 73 = .ok (.invokevirtual 56, 3) := by decide +kernel
theorem dX3_give_76 : decode cX3_give 76 = .ok (.ifCond .eq 5, 3) := by decide +kernel
theorem dX3_give_79 : decode cX3_give 79 = .ok (.iconst 1, 1) := by decide +kernel
theorem dX3_give_80 : decode cX3_give 80 = .ok (.ireturn, 1) := by decide +kernel
theorem dX3_give_81 : decode cX3_give 81 = .ok (.aload_n 0, 1) := by decide +kernel
theorem dX3_give_82 : decode cX3_give 82 = .ok (.getfield 21, 3) := by decide +kernel
theorem dX3_give_85 : decode cX3_give 85 = .ok (.iload_n 3, 1) := by decide +kernel
theorem dX3_give_86 : decode cX3_give 86 = .ok (.dup2, 1) := by decide +kernel
theorem dX3_give_87 : decode cX3_give 87 = .ok (.iaload, 1) := by decide +kernel
theorem dX3_give_88 : decode cX3_give 88 = .ok (.iconst 1, 1) := by decide +kernel
theorem dX3_give_89 : decode cX3_give 89 = .ok (.iload_n 1, 1) := by decide +kernel
theorem dX3_give_90 : decode cX3_give 90 = .ok (.ishl, 1) := by decide +kernel
theorem dX3_give_91 : decode cX3_give 91 = .ok (.ixor, 1) := by decide +kernel
theorem dX3_give_92 : decode cX3_give 92 = .ok (.iastore, 1) := by decide +kernel
theorem dX3_give_93 : decode cX3_give 93 = .ok (.iinc 3 1, 3) := by decide +kernel
theorem dX3_give_96 : decode cX3_give 96 = .ok (.goto (-84), 3) := by decide +kernel
theorem dX3_give_99 : decode cX3_give 99 = .ok (.iconst 0, 1) := by decide +kernel
theorem dX3_give_100 : decode cX3_give 100 = .ok (.ireturn, 1) := by decide +kernel
theorem dX3_settle_0 : decode cX3_settle 0 = .ok (.aload_n 0, 1) := by decide +kernel
theorem dX3_settle_1 : decode cX3_settle 1 = .ok (.getfield 31, 3) := by decide +kernel
theorem dX3_settle_4 : decode cX3_settle 4 = .ok (.ifCond .eq 4, 3) := by decide +kernel
theorem dX3_settle_7 : decode cX3_settle 7 = .ok (.return_, 1) := by decide +kernel
theorem dX3_settle_8 : decode cX3_settle 8 = .ok (.aload_n 0, 1) := by decide +kernel
theorem dX3_settle_9 : decode cX3_settle 9 = .ok (.iconst 1, 1) := by decide +kernel
theorem dX3_settle_10 : decode cX3_settle 10 = .ok (.putfield 31, 3) := by decide +kernel
theorem dX3_settle_13 : decode cX3_settle 13 = .ok (.aload_n 0, 1) := by decide +kernel
theorem dX3_settle_14 : decode cX3_settle 14 = .ok (.invokevirtual 44, 3) := by decide +kernel
theorem dX3_settle_17 : decode cX3_settle 17 = .ok (.aload_n 0, 1) := by decide +kernel
theorem dX3_settle_18 : decode cX3_settle 18 = .ok (.invokevirtual 47, 3) := by decide +kernel
theorem dX3_settle_21 : decode cX3_settle 21 = .ok (.aload_n 0, 1) := by decide +kernel
theorem dX3_settle_22 : decode cX3_settle 22 = .ok (.getfield 21, 3) := by decide +kernel
theorem dX3_settle_25 : decode cX3_settle 25 = .ok (.iconst 0, 1) := by decide +kernel
theorem dX3_settle_26 : decode cX3_settle 26 = .ok (.invokestatic 50, 3) := by decide +kernel
theorem dX3_settle_29 : decode cX3_settle 29 = .ok (.aload_n 0, 1) := by decide +kernel
theorem dX3_settle_30 : decode cX3_settle 30 = .ok (.iconst 0, 1) := by decide +kernel
theorem dX3_settle_31 : decode cX3_settle 31 = .ok (.iconst 0, 1) := by decide +kernel
theorem dX3_settle_32 : decode cX3_settle 32 = .ok (.invokevirtual 56, 3) := by decide +kernel
theorem dX3_settle_35 : decode cX3_settle 35 = .ok (.pop, 1) := by decide +kernel
theorem dX3_settle_36 : decode cX3_settle 36 = .ok (.return_, 1) := by decide +kernel
set_option maxHeartbeats 4000000 in
set_option maxRecDepth 100000 in
theorem c_J6_bitCount_0f7a4 (l : Launch) (D : DG) (cyC cyI cyJ cyZ cyO : ClassId) (p0 : Int32) : KK l D (TY cyC cyI cyJ cyZ cyO) yJ6_bitCount_0f7a4 cJ6_bitCount_0f7a4 1 (some .int) ({ frames := 0, cells := 0, slots := 0, locals := 0 } : Room) 0 0 [.int p0] [] (fun u => some (.int (u.2.1 0))) (fun u => (0 ≤ (u.2.1 0).toInt ∧ (u.2.1 0).toInt ≤ 63)) (fun u => []) := by
  refine KK.of (lv0 := [(0, .int p0)]) (by decide) rfl (Nat.le_of_ble_eq_true rfl) ?_
  intro p e s m args below meth c A C hr hk hin
  refine j_iload_n (pc := 0) C dJ6_bitCount_0f7a4_0 rfl 0 rfl ?_
  refine j_iload_n (pc := 1) C dJ6_bitCount_0f7a4_1 rfl 0 rfl ?_
  refine j_iconst (pc := 2) (v := 1) C dJ6_bitCount_0f7a4_2 (by decide) ?_
  obtain ⟨v_1, ev_1⟩ : ∃ z : Int32, ((p0 : Int32).toUInt32 >>> ((1 : Int32).toUInt32 &&& Int32.toUInt32 31)).toInt32 = z := ⟨_, rfl⟩
  have el_1 : (1 : Int32).toInt = 1 := rfl
  refine j_iushr (pc := 3) (v := v_1) C dJ6_bitCount_0f7a4_3 ev_1 ?_
  refine j_ldcw (pc := 4) C wd_72 dJ6_bitCount_0f7a4_4 ?_
  obtain ⟨v_2, ev_2⟩ : ∃ z : Int32, v_1 &&& 1431655765 = z := ⟨_, rfl⟩
  have el_1431655765 : (1431655765 : Int32).toInt = 1431655765 := rfl
  have hv_2 : 0 ≤ v_2.toInt ∧ v_2.toInt ≤ (1431655765 : Int32).toInt := by rw [← ev_2]; exact andb_r (by omega)
  refine j_iand (pc := 7) (v := v_2) C dJ6_bitCount_0f7a4_7 ev_2 ?_
  obtain ⟨v_3, ev_3⟩ : ∃ z : Int32, p0 - v_2 = z := ⟨_, rfl⟩
  refine j_isub (pc := 8) (v := v_3) C dJ6_bitCount_0f7a4_8 ev_3 ?_
  refine j_istore_n (pc := 9) (lv' := [(0, .int v_3)]) C dJ6_bitCount_0f7a4_9 rfl (by decide) rfl ?_
  refine j_iload_n (pc := 10) C dJ6_bitCount_0f7a4_10 rfl 0 rfl ?_
  refine j_ldcw (pc := 11) C wd_73 dJ6_bitCount_0f7a4_11 ?_
  obtain ⟨v_4, ev_4⟩ : ∃ z : Int32, v_3 &&& 858993459 = z := ⟨_, rfl⟩
  have el_858993459 : (858993459 : Int32).toInt = 858993459 := rfl
  have hv_4 : 0 ≤ v_4.toInt ∧ v_4.toInt ≤ (858993459 : Int32).toInt := by rw [← ev_4]; exact andb_r (by omega)
  refine j_iand (pc := 14) (v := v_4) C dJ6_bitCount_0f7a4_14 ev_4 ?_
  refine j_iload_n (pc := 15) C dJ6_bitCount_0f7a4_15 rfl 0 rfl ?_
  refine j_iconst (pc := 16) (v := 2) C dJ6_bitCount_0f7a4_16 (by decide) ?_
  obtain ⟨v_5, ev_5⟩ : ∃ z : Int32, ((v_3 : Int32).toUInt32 >>> ((2 : Int32).toUInt32 &&& Int32.toUInt32 31)).toInt32 = z := ⟨_, rfl⟩
  have el_2 : (2 : Int32).toInt = 2 := rfl
  refine j_iushr (pc := 17) (v := v_5) C dJ6_bitCount_0f7a4_17 ev_5 ?_
  refine j_ldcw (pc := 18) C wd_73 dJ6_bitCount_0f7a4_18 ?_
  obtain ⟨v_6, ev_6⟩ : ∃ z : Int32, v_5 &&& 858993459 = z := ⟨_, rfl⟩
  have el_858993459 : (858993459 : Int32).toInt = 858993459 := rfl
  have hv_6 : 0 ≤ v_6.toInt ∧ v_6.toInt ≤ (858993459 : Int32).toInt := by rw [← ev_6]; exact andb_r (by omega)
  refine j_iand (pc := 21) (v := v_6) C dJ6_bitCount_0f7a4_21 ev_6 ?_
  obtain ⟨v_7, ev_7⟩ : ∃ z : Int32, v_4 + v_6 = z := ⟨_, rfl⟩
  have hv_7 : v_7.toInt = v_4.toInt + v_6.toInt := by rw [← ev_7]; exact fb_addI (by omega) (by omega)
  refine j_iadd (pc := 22) (v := v_7) C dJ6_bitCount_0f7a4_22 ev_7 ?_
  refine j_istore_n (pc := 23) (lv' := [(0, .int v_7)]) C dJ6_bitCount_0f7a4_23 rfl (by decide) rfl ?_
  refine j_iload_n (pc := 24) C dJ6_bitCount_0f7a4_24 rfl 0 rfl ?_
  refine j_iload_n (pc := 25) C dJ6_bitCount_0f7a4_25 rfl 0 rfl ?_
  refine j_iconst (pc := 26) (v := 4) C dJ6_bitCount_0f7a4_26 (by decide) ?_
  obtain ⟨v_8, ev_8⟩ : ∃ z : Int32, ((v_7 : Int32).toUInt32 >>> ((4 : Int32).toUInt32 &&& Int32.toUInt32 31)).toInt32 = z := ⟨_, rfl⟩
  have el_4 : (4 : Int32).toInt = 4 := rfl
  refine j_iushr (pc := 27) (v := v_8) C dJ6_bitCount_0f7a4_27 ev_8 ?_
  obtain ⟨v_9, ev_9⟩ : ∃ z : Int32, v_7 + v_8 = z := ⟨_, rfl⟩
  refine j_iadd (pc := 28) (v := v_9) C dJ6_bitCount_0f7a4_28 ev_9 ?_
  refine j_ldcw (pc := 29) C wd_74 dJ6_bitCount_0f7a4_29 ?_
  obtain ⟨v_10, ev_10⟩ : ∃ z : Int32, v_9 &&& 252645135 = z := ⟨_, rfl⟩
  have el_252645135 : (252645135 : Int32).toInt = 252645135 := rfl
  have hv_10 : 0 ≤ v_10.toInt ∧ v_10.toInt ≤ (252645135 : Int32).toInt := by rw [← ev_10]; exact andb_r (by omega)
  refine j_iand (pc := 32) (v := v_10) C dJ6_bitCount_0f7a4_32 ev_10 ?_
  refine j_istore_n (pc := 33) (lv' := [(0, .int v_10)]) C dJ6_bitCount_0f7a4_33 rfl (by decide) rfl ?_
  refine j_iload_n (pc := 34) C dJ6_bitCount_0f7a4_34 rfl 0 rfl ?_
  refine j_iload_n (pc := 35) C dJ6_bitCount_0f7a4_35 rfl 0 rfl ?_
  refine j_bipush (pc := 36) (v := 8) C dJ6_bitCount_0f7a4_36 (by decide) ?_
  obtain ⟨v_11, ev_11⟩ : ∃ z : Int32, ((v_10 : Int32).toUInt32 >>> ((8 : Int32).toUInt32 &&& Int32.toUInt32 31)).toInt32 = z := ⟨_, rfl⟩
  have el_8 : (8 : Int32).toInt = 8 := rfl
  refine j_iushr (pc := 38) (v := v_11) C dJ6_bitCount_0f7a4_38 ev_11 ?_
  obtain ⟨v_12, ev_12⟩ : ∃ z : Int32, v_10 + v_11 = z := ⟨_, rfl⟩
  refine j_iadd (pc := 39) (v := v_12) C dJ6_bitCount_0f7a4_39 ev_12 ?_
  refine j_istore_n (pc := 40) (lv' := [(0, .int v_12)]) C dJ6_bitCount_0f7a4_40 rfl (by decide) rfl ?_
  refine j_iload_n (pc := 41) C dJ6_bitCount_0f7a4_41 rfl 0 rfl ?_
  refine j_iload_n (pc := 42) C dJ6_bitCount_0f7a4_42 rfl 0 rfl ?_
  refine j_bipush (pc := 43) (v := 16) C dJ6_bitCount_0f7a4_43 (by decide) ?_
  obtain ⟨v_13, ev_13⟩ : ∃ z : Int32, ((v_12 : Int32).toUInt32 >>> ((16 : Int32).toUInt32 &&& Int32.toUInt32 31)).toInt32 = z := ⟨_, rfl⟩
  have el_16 : (16 : Int32).toInt = 16 := rfl
  refine j_iushr (pc := 45) (v := v_13) C dJ6_bitCount_0f7a4_45 ev_13 ?_
  obtain ⟨v_14, ev_14⟩ : ∃ z : Int32, v_12 + v_13 = z := ⟨_, rfl⟩
  refine j_iadd (pc := 46) (v := v_14) C dJ6_bitCount_0f7a4_46 ev_14 ?_
  refine j_istore_n (pc := 47) (lv' := [(0, .int v_14)]) C dJ6_bitCount_0f7a4_47 rfl (by decide) rfl ?_
  refine j_iload_n (pc := 48) C dJ6_bitCount_0f7a4_48 rfl 0 rfl ?_
  refine j_bipush (pc := 49) (v := 63) C dJ6_bitCount_0f7a4_49 (by decide) ?_
  obtain ⟨v_15, ev_15⟩ : ∃ z : Int32, v_14 &&& 63 = z := ⟨_, rfl⟩
  have el_63 : (63 : Int32).toInt = 63 := rfl
  have hv_15 : 0 ≤ v_15.toInt ∧ v_15.toInt ≤ 63 := by rw [← ev_15]; exact andm_r _ 6 (by decide) (by decide)
  refine j_iand (pc := 51) (v := v_15) C dJ6_bitCount_0f7a4_51 ev_15 ?_
  exact j_iret (pc := 52) C hr hk (fun i => [].getD i 0, fun i => [v_15].getD i 0, fun i => [].getD i (fun _ => 0), fun i => [].getD i (fun _ => 0)) rfl (show (0 ≤ (v_15).toInt ∧ (v_15).toInt ≤ 63) from (by omega)) [] (by decide) rfl (by decide) (by decide) dJ6_bitCount_0f7a4_52
set_option maxHeartbeats 4000000 in
set_option maxRecDepth 100000 in
theorem c_X3_chain (l : Launch) (D : DG) (cyC cyI cyJ cyZ cyO : ClassId) (o0 : Nat) (o1 : Nat) (a0 : Nat) (a7 : Nat) (o2 : Nat) (o3 : Nat) (o4 : Nat) (a1 : Nat) (a2 : Nat) (a3 : Nat) (a4 : Nat) (a5 : Nat) (a6 : Nat) (a8 : Nat) (a9 : Nat) (a10 : Nat) (o_wares : Int32) (o_known : Int32) (o_fewest : Int32) (o_apart : Int32) (a_wares : Int32) (a_shelves : Int32) (a_nests : Int32) (a_lids : Int32) (a_tops : Int32) (o_above : Nat → Int32) (a_mayOn : Nat → Int32) (h_o_wares : 0 ≤ (o_wares).toInt ∧ (o_wares).toInt ≤ 12) (h_o_known : 0 ≤ (o_known).toInt ∧ (o_known).toInt ≤ 1) (h_a_wares : 0 ≤ (a_wares).toInt ∧ (a_wares).toInt ≤ 12) (h_a_shelves : 0 ≤ (a_shelves).toInt ∧ (a_shelves).toInt ≤ 4) (h_a_nests : 0 ≤ (a_nests).toInt ∧ (a_nests).toInt ≤ 4) : KK l D (TY cyC cyI cyJ cyZ cyO) yX3_chain cX3_chain 4 none ({ frames := 1, cells := 0, slots := 0, locals := 18 } : Room) 0 0 [.ref o0, .ref a0] [(o0, .inr (3, [.int o_wares, .ref o1, .ref o2, .int o_known, .int o_fewest, .int o_apart, .ref o3, .ref o4])), (o1, .inl (cyI, 12, .inl o_above)), (a0, .inr (9, [.int a_wares, .int a_shelves, .int a_nests, .ref a1, .ref a2, .ref a3, .ref a4, .ref a5, .ref a6, .int a_lids, .int a_tops, .ref a7, .ref a8, .ref a9, .ref a10])), (a7, .inl (cyI, 12, .inl a_mayOn))] (fun u => none) (fun u => True) (fun u => [(o0, .inr (3, [.int a_wares, .ref o1, .ref o2, .int 0, .int o_fewest, .int o_apart, .ref o3, .ref o4])), (o1, .inl (cyI, 12, .inl (u.2.2.1 0))), (a0, .inr (9, [.int a_wares, .int a_shelves, .int a_nests, .ref a1, .ref a2, .ref a3, .ref a4, .ref a5, .ref a6, .int a_lids, .int a_tops, .ref a7, .ref a8, .ref a9, .ref a10])), (a7, .inl (cyI, 12, .inl a_mayOn))]) := by
  refine KK.of (lv0 := [(0, .ref o0), (1, .ref a0)]) (by decide) rfl (Nat.le_of_ble_eq_true rfl) ?_
  intro p e s m args below meth c A C hr hk hin
  refine j_aload_n (pc := 0) C dX3_chain_0 rfl 0 rfl ?_
  refine j_aload_n (pc := 1) C dX3_chain_1 rfl 1 rfl ?_
  refine j_get (pc := 2) (ci := 9) (v := .int a_wares) C inw_9 2 rfl rfl 0 (by decide) wd_75 rfl rfl dX3_chain_2 ?_
  refine j_put (pc := 5) (ci := 3) (v := .int a_wares) (ws' := [(o0, .inr (3, [.int a_wares, .ref o1, .ref o2, .int o_known, .int o_fewest, .int o_apart, .ref o3, .ref o4])), (o1, .inl (cyI, 12, .inl o_above)), (a0, .inr (9, [.int a_wares, .int a_shelves, .int a_nests, .ref a1, .ref a2, .ref a3, .ref a4, .ref a5, .ref a6, .int a_lids, .int a_tops, .ref a7, .ref a8, .ref a9, .ref a10])), (a7, .inl (cyI, 12, .inl a_mayOn))]) C inw_3 0 rfl rfl 0 (by decide) wd_76 rfl tyX3_ok nmX3 rfl (tyX3_ok 0 (by decide)) rfl rfl (Nat.le_of_ble_eq_true rfl) dX3_chain_5 rfl ?_
  refine j_aload_n (pc := 8) C dX3_chain_8 rfl 0 rfl ?_
  refine j_iconst (pc := 9) (v := 0) C dX3_chain_9 (by decide) ?_
  refine j_put (pc := 10) (ci := 3) (v := .int 0) (ws' := [(o0, .inr (3, [.int a_wares, .ref o1, .ref o2, .int 0, .int o_fewest, .int o_apart, .ref o3, .ref o4])), (o1, .inl (cyI, 12, .inl o_above)), (a0, .inr (9, [.int a_wares, .int a_shelves, .int a_nests, .ref a1, .ref a2, .ref a3, .ref a4, .ref a5, .ref a6, .int a_lids, .int a_tops, .ref a7, .ref a8, .ref a9, .ref a10])), (a7, .inl (cyI, 12, .inl a_mayOn))]) C inw_3 0 rfl rfl 3 (by decide) wd_77 rfl tyX3_ok nmX3 rfl (tyX3_ok 3 (by decide)) rfl rfl (Nat.le_of_ble_eq_true rfl) dX3_chain_10 rfl ?_
  refine j_aload_n (pc := 13) C dX3_chain_13 rfl 1 rfl ?_
  refine j_get (pc := 14) (ci := 9) (v := .ref a7) C inw_9 2 rfl rfl 11 (by decide) wd_78 rfl rfl dX3_chain_14 ?_
  refine j_iconst (pc := 17) (v := 0) C dX3_chain_17 (by decide) ?_
  refine j_aload_n (pc := 18) C dX3_chain_18 rfl 0 rfl ?_
  refine j_get (pc := 19) (ci := 3) (v := .ref o1) C inw_3 0 rfl rfl 1 (by decide) wd_79 rfl rfl dX3_chain_19 ?_
  refine j_iconst (pc := 22) (v := 0) C dX3_chain_22 (by decide) ?_
  refine j_bipush (pc := 23) (v := 12) C dX3_chain_23 (by decide) ?_
  obtain ⟨f_1, ef_1⟩ : ∃ z, z = va_cpy a_mayOn o_above 0 0 12 := ⟨_, rfl⟩
  refine j_acpy (pc := 25) (ks := 0) (kd := 0) (kn := 12) (ws' := [(o0, .inr (3, [.int a_wares, .ref o1, .ref o2, .int 0, .int o_fewest, .int o_apart, .ref o3, .ref o4])), (o1, .inl (cyI, 12, .inl f_1)), (a0, .inr (9, [.int a_wares, .int a_shelves, .int a_nests, .ref a1, .ref a2, .ref a3, .ref a4, .ref a5, .ref a6, .int a_lids, .int a_tops, .ref a7, .ref a8, .ref a9, .ref a10])), (a7, .inl (cyI, 12, .inl a_mayOn))]) C wd_80 wd_25 wd_26 wd_27 3 1 1 rfl rfl rfl (by decide) (by decide) (by decide) (by decide) (by decide) (by decide) (by decide) (by decide) (by decide) (Nat.le_of_ble_eq_true rfl) dX3_chain_25 (by rw [ef_1]; rfl) ?_
  refine j_arrc (q0 := 1) (g := a_mayOn) (ws' := [(o0, .inr (3, [.int a_wares, .ref o1, .ref o2, .int 0, .int o_fewest, .int o_apart, .ref o3, .ref o4])), (o1, .inl (cyI, 12, .inl a_mayOn)), (a0, .inr (9, [.int a_wares, .int a_shelves, .int a_nests, .ref a1, .ref a2, .ref a3, .ref a4, .ref a5, .ref a6, .int a_lids, .int a_tops, .ref a7, .ref a8, .ref a9, .ref a10])), (a7, .inl (cyI, 12, .inl a_mayOn))]) rfl (fun j hj => by rw [ef_1]; exact cpy_full hj) rfl ?_
  refine j_iconst (pc := 28) (v := 0) C dX3_chain_28 (by decide) ?_
  refine j_istore_n (pc := 29) (lv' := [(2, .int 0), (0, .ref o0), (1, .ref a0)]) C dX3_chain_29 rfl (by decide) rfl ?_
  have loop_2 : ∀ (k_2 : Nat) (x2_2 : Int32) (g2_o1 : Nat → Int32), (0 ≤ (x2_2).toInt ∧ (x2_2).toInt ≤ 12) → (12 - x2_2.toInt).toNat < k_2 → J p l e ({ frames := 1, cells := 0, slots := 0, locals := 18 } : Room) s m args below meth c D A 4 0 0 (QX below D (TY cyC cyI cyJ cyZ cyO) A (fun u => none) (fun u => True) (fun u => [(o0, .inr (3, [.int a_wares, .ref o1, .ref o2, .int 0, .int o_fewest, .int o_apart, .ref o3, .ref o4])), (o1, .inl (cyI, 12, .inl (u.2.2.1 0))), (a0, .inr (9, [.int a_wares, .int a_shelves, .int a_nests, .ref a1, .ref a2, .ref a3, .ref a4, .ref a5, .ref a6, .int a_lids, .int a_tops, .ref a7, .ref a8, .ref a9, .ref a10])), (a7, .inl (cyI, 12, .inl a_mayOn))]) args s 0 0) [(o0, .inr (3, [.int a_wares, .ref o1, .ref o2, .int 0, .int o_fewest, .int o_apart, .ref o3, .ref o4])), (o1, .inl (cyI, 12, .inl g2_o1)), (a0, .inr (9, [.int a_wares, .int a_shelves, .int a_nests, .ref a1, .ref a2, .ref a3, .ref a4, .ref a5, .ref a6, .int a_lids, .int a_tops, .ref a7, .ref a8, .ref a9, .ref a10])), (a7, .inl (cyI, 12, .inl a_mayOn))] 30 [(2, .int x2_2), (0, .ref o0), (1, .ref a0)] [] := by
    intro k_2
    induction k_2 with
    | zero =>
      intro x2_2 g2_o1 hi_2_0 hm_2
      exact absurd hm_2 (Nat.not_lt_zero _)
    | succ k_2 ih_2 =>
      intro x2_2 g2_o1 hi_2_0 hm_2
      refine j_iload_n (pc := 30) C dX3_chain_30 rfl 0 rfl ?_
      refine j_aload_n (pc := 31) C dX3_chain_31 rfl 1 rfl ?_
      refine j_get (pc := 32) (ci := 3) (v := .int a_wares) C inw_3 0 rfl rfl 0 (by decide) wd_76 rfl rfl dX3_chain_32 ?_
      refine j_icmp_ge (pc := 35) (tgt := 89) C dX3_chain_35 (by decide) (fun c_3 => ?_) (fun c_3 => ?_)
      · skip
        rw [i_le] at c_3
        exact j_vret (pc := 89) C hr hk (fun i => [].getD i 0, fun i => [].getD i 0, fun i => [g2_o1].getD i (fun _ => 0), fun i => [].getD i (fun _ => 0)) rfl trivial [0, 1, 2, 3] (by decide) rfl (by decide) (by decide) dX3_chain_89
      · skip
        rw [i_le] at c_3
        refine j_iconst (pc := 38) (v := 0) C dX3_chain_38 (by decide) ?_
        refine j_istore_n (pc := 39) (lv' := [(3, .int 0), (2, .int x2_2), (0, .ref o0), (1, .ref a0)]) C dX3_chain_39 rfl (by decide) rfl ?_
        have loop_4 : ∀ (k_4 : Nat) (x4_3 : Int32) (g4_o1 : Nat → Int32), (0 ≤ (x4_3).toInt ∧ (x4_3).toInt ≤ 12) → (12 - x4_3.toInt).toNat < k_4 → J p l e ({ frames := 1, cells := 0, slots := 0, locals := 18 } : Room) s m args below meth c D A 4 0 0 (QX below D (TY cyC cyI cyJ cyZ cyO) A (fun u => none) (fun u => True) (fun u => [(o0, .inr (3, [.int a_wares, .ref o1, .ref o2, .int 0, .int o_fewest, .int o_apart, .ref o3, .ref o4])), (o1, .inl (cyI, 12, .inl (u.2.2.1 0))), (a0, .inr (9, [.int a_wares, .int a_shelves, .int a_nests, .ref a1, .ref a2, .ref a3, .ref a4, .ref a5, .ref a6, .int a_lids, .int a_tops, .ref a7, .ref a8, .ref a9, .ref a10])), (a7, .inl (cyI, 12, .inl a_mayOn))]) args s 0 0) [(o0, .inr (3, [.int a_wares, .ref o1, .ref o2, .int 0, .int o_fewest, .int o_apart, .ref o3, .ref o4])), (o1, .inl (cyI, 12, .inl g4_o1)), (a0, .inr (9, [.int a_wares, .int a_shelves, .int a_nests, .ref a1, .ref a2, .ref a3, .ref a4, .ref a5, .ref a6, .int a_lids, .int a_tops, .ref a7, .ref a8, .ref a9, .ref a10])), (a7, .inl (cyI, 12, .inl a_mayOn))] 40 [(3, .int x4_3), (2, .int x2_2), (0, .ref o0), (1, .ref a0)] [] := by
          intro k_4
          induction k_4 with
          | zero =>
            intro x4_3 g4_o1 hi_4_0 hm_4
            exact absurd hm_4 (Nat.not_lt_zero _)
          | succ k_4 ih_4 =>
            intro x4_3 g4_o1 hi_4_0 hm_4
            refine j_iload_n (pc := 40) C dX3_chain_40 rfl 0 rfl ?_
            refine j_aload_n (pc := 41) C dX3_chain_41 rfl 2 rfl ?_
            refine j_get (pc := 42) (ci := 3) (v := .int a_wares) C inw_3 0 rfl rfl 0 (by decide) wd_76 rfl rfl dX3_chain_42 ?_
            refine j_icmp_ge (pc := 45) (tgt := 83) C dX3_chain_45 (by decide) (fun c_5 => ?_) (fun c_5 => ?_)
            · skip
              rw [i_le] at c_5
              obtain ⟨v_6, ev_6⟩ : ∃ z : Int32, x2_2 + 1 = z := ⟨_, rfl⟩
              have el_1 : (1 : Int32).toInt = 1 := rfl
              have hv_6 : v_6.toInt = x2_2.toInt + (1 : Int32).toInt := by rw [← ev_6]; exact fb_addI (by omega) (by omega)
              refine j_iinc (pc := 83) (v := v_6) (lv' := [(2, .int v_6), (3, .int x4_3), (0, .ref o0), (1, .ref a0)]) C dX3_chain_83 1 rfl ev_6 (by decide) rfl ?_
              refine j_goto (pc := 86) (tgt := 30) C dX3_chain_86 (by decide) ?_
              exact j_lv [0, 2, 3] rfl (ih_2 v_6 g4_o1 (by omega) (by omega))
            · skip
              rw [i_le] at c_5
              refine j_aload_n (pc := 48) C dX3_chain_48 rfl 2 rfl ?_
              refine j_get (pc := 49) (ci := 3) (v := .ref o1) C inw_3 0 rfl rfl 1 (by decide) wd_79 rfl rfl dX3_chain_49 ?_
              refine j_iload_n (pc := 52) C dX3_chain_52 rfl 0 rfl ?_
              obtain ⟨v_7, ev_7⟩ : ∃ z, g4_o1 (x4_3).toInt.toNat = z := ⟨_, rfl⟩
              have env_7 : (g4_o1 (x4_3).toInt.toNat).toInt = v_7.toInt := by rw [ev_7]
              refine j_iald (pc := 53) (v := v_7) (k := (x4_3).toInt.toNat) C 1 1 rfl rfl (i_nn hi_4_0.1) rfl (i_lt_n hi_4_0.1 (by omega)) ev_7 dX3_chain_53 ?_
              refine j_iload_n (pc := 54) C dX3_chain_54 rfl 1 rfl ?_
              obtain ⟨v_8, ev_8⟩ : ∃ z : Int32, ((v_7 : Int32).toUInt32 >>> ((x2_2 : Int32).toUInt32 &&& Int32.toUInt32 31)).toInt32 = z := ⟨_, rfl⟩
              refine j_iushr (pc := 55) (v := v_8) C dX3_chain_55 ev_8 ?_
              refine j_iconst (pc := 56) (v := 1) C dX3_chain_56 (by decide) ?_
              obtain ⟨v_9, ev_9⟩ : ∃ z : Int32, v_8 &&& 1 = z := ⟨_, rfl⟩
              have el_1 : (1 : Int32).toInt = 1 := rfl
              have hv_9 : 0 ≤ v_9.toInt ∧ v_9.toInt ≤ 1 := by rw [← ev_9]; exact and1_r _
              refine j_iand (pc := 57) (v := v_9) C dX3_chain_57 ev_9 ?_
              refine j_iconst (pc := 58) (v := 1) C dX3_chain_58 (by decide) ?_
              refine j_icmp_ne (pc := 59) (tgt := 77) C dX3_chain_59 (by decide) (fun c_10 => ?_) (fun c_10 => ?_)
              · skip
                have el_1 : (1 : Int32).toInt = 1 := rfl
                rw [i_eq] at c_10
                have k0c_10 : v_9.toInt = 0 := by omega
                obtain ⟨v_11, ev_11⟩ : ∃ z : Int32, x4_3 + 1 = z := ⟨_, rfl⟩
                have el_1 : (1 : Int32).toInt = 1 := rfl
                have hv_11 : v_11.toInt = x4_3.toInt + (1 : Int32).toInt := by rw [← ev_11]; exact fb_addI (by omega) (by omega)
                refine j_iinc (pc := 77) (v := v_11) (lv' := [(3, .int v_11), (2, .int x2_2), (0, .ref o0), (1, .ref a0)]) C dX3_chain_77 0 rfl ev_11 (by decide) rfl ?_
                refine j_goto (pc := 80) (tgt := 40) C dX3_chain_80 (by decide) ?_
                exact j_lv [0, 1, 2, 3] rfl (ih_4 v_11 g4_o1 (by omega) (by omega))
              · skip
                have el_1 : (1 : Int32).toInt = 1 := rfl
                rw [i_eq] at c_10
                refine j_aload_n (pc := 62) C dX3_chain_62 rfl 2 rfl ?_
                refine j_get (pc := 63) (ci := 3) (v := .ref o1) C inw_3 0 rfl rfl 1 (by decide) wd_79 rfl rfl dX3_chain_63 ?_
                refine j_iload_n (pc := 66) C dX3_chain_66 rfl 0 rfl ?_
                refine j_dup2 (pc := 67) C dX3_chain_67 rfl rfl ?_
                refine j_iald (pc := 68) (v := v_7) (k := (x4_3).toInt.toNat) C 1 1 rfl rfl (i_nn hi_4_0.1) rfl (i_lt_n hi_4_0.1 (by omega)) ev_7 dX3_chain_68 ?_
                refine j_aload_n (pc := 69) C dX3_chain_69 rfl 2 rfl ?_
                refine j_get (pc := 70) (ci := 3) (v := .ref o1) C inw_3 0 rfl rfl 1 (by decide) wd_79 rfl rfl dX3_chain_70 ?_
                refine j_iload_n (pc := 73) C dX3_chain_73 rfl 1 rfl ?_
                obtain ⟨v_12, ev_12⟩ : ∃ z, g4_o1 (x2_2).toInt.toNat = z := ⟨_, rfl⟩
                have env_12 : (g4_o1 (x2_2).toInt.toNat).toInt = v_12.toInt := by rw [ev_12]
                refine j_iald (pc := 74) (v := v_12) (k := (x2_2).toInt.toNat) C 1 1 rfl rfl (i_nn hi_2_0.1) rfl (i_lt_n hi_2_0.1 (by omega)) ev_12 dX3_chain_74 ?_
                obtain ⟨v_13, ev_13⟩ : ∃ z : Int32, v_7 ||| v_12 = z := ⟨_, rfl⟩
                refine j_ior (pc := 75) (v := v_13) C dX3_chain_75 ev_13 ?_
                obtain ⟨f_14, ef_14⟩ : ∃ z, z = upd g4_o1 (x4_3).toInt.toNat v_13 := ⟨_, rfl⟩
                refine j_iast (pc := 76) (k := (x4_3).toInt.toNat) (ws' := [(o0, .inr (3, [.int a_wares, .ref o1, .ref o2, .int 0, .int o_fewest, .int o_apart, .ref o3, .ref o4])), (o1, .inl (cyI, 12, .inl f_14)), (a0, .inr (9, [.int a_wares, .int a_shelves, .int a_nests, .ref a1, .ref a2, .ref a3, .ref a4, .ref a5, .ref a6, .int a_lids, .int a_tops, .ref a7, .ref a8, .ref a9, .ref a10])), (a7, .inl (cyI, 12, .inl a_mayOn))]) C 1 1 rfl rfl (i_nn hi_4_0.1) rfl (i_lt_n hi_4_0.1 (by omega)) dX3_chain_76 (by rw [ef_14]; rfl) ?_
                obtain ⟨v_15, ev_15⟩ : ∃ z : Int32, x4_3 + 1 = z := ⟨_, rfl⟩
                have el_1 : (1 : Int32).toInt = 1 := rfl
                have hv_15 : v_15.toInt = x4_3.toInt + (1 : Int32).toInt := by rw [← ev_15]; exact fb_addI (by omega) (by omega)
                refine j_iinc (pc := 77) (v := v_15) (lv' := [(3, .int v_15), (2, .int x2_2), (0, .ref o0), (1, .ref a0)]) C dX3_chain_77 0 rfl ev_15 (by decide) rfl ?_
                refine j_goto (pc := 80) (tgt := 40) C dX3_chain_80 (by decide) ?_
                exact j_lv [0, 1, 2, 3] rfl (ih_4 v_15 f_14 (by omega) (by omega))
        have el_0 : (0 : Int32).toInt = 0 := rfl
        exact j_lv [0, 1, 2, 3] rfl (loop_4 4096 0 g2_o1 (by decide) (by omega))
  have el_0 : (0 : Int32).toInt = 0 := rfl
  exact j_lv [0, 1, 2] rfl (loop_2 4096 0 a_mayOn (by decide) (by omega))
set_option maxHeartbeats 4000000 in
set_option maxRecDepth 100000 in
theorem c_X3_isRound (l : Launch) (D : DG) (cyC cyI cyJ cyZ cyO : ClassId) (o0 : Nat) (o1 : Nat) (o2 : Nat) (o3 : Nat) (o4 : Nat) (o_wares : Int32) (o_known : Int32) (o_fewest : Int32) (o_apart : Int32) (o_above : Nat → Int32) (h_o_wares : 0 ≤ (o_wares).toInt ∧ (o_wares).toInt ≤ 12) (h_o_known : 0 ≤ (o_known).toInt ∧ (o_known).toInt ≤ 1) : KK l D (TY cyC cyI cyJ cyZ cyO) yX3_isRound cX3_isRound 2 (some .boolean) ({ frames := 0, cells := 0, slots := 0, locals := 0 } : Room) 0 0 [.ref o0] [(o0, .inr (3, [.int o_wares, .ref o1, .ref o2, .int o_known, .int o_fewest, .int o_apart, .ref o3, .ref o4])), (o1, .inl (cyI, 12, .inl o_above))] (fun u => some (.int (u.2.1 0))) (fun u => (0 ≤ (u.2.1 0).toInt ∧ (u.2.1 0).toInt ≤ 1)) (fun u => [(o0, .inr (3, [.int o_wares, .ref o1, .ref o2, .int o_known, .int o_fewest, .int o_apart, .ref o3, .ref o4])), (o1, .inl (cyI, 12, .inl o_above))]) := by
  refine KK.of (lv0 := [(0, .ref o0)]) (by decide) rfl (Nat.le_of_ble_eq_true rfl) ?_
  intro p e s m args below meth c A C hr hk hin
  refine j_iconst (pc := 0) (v := 0) C dX3_isRound_0 (by decide) ?_
  refine j_istore_n (pc := 1) (lv' := [(1, .int 0), (0, .ref o0)]) C dX3_isRound_1 rfl (by decide) rfl ?_
  have loop_1 : ∀ (k_1 : Nat) (x1_1 : Int32), (0 ≤ (x1_1).toInt ∧ (x1_1).toInt ≤ 12) → (12 - x1_1.toInt).toNat < k_1 → J p l e ({ frames := 0, cells := 0, slots := 0, locals := 0 } : Room) s m args below meth c D A 2 0 0 (QX below D (TY cyC cyI cyJ cyZ cyO) A (fun u => some (.int (u.2.1 0))) (fun u => (0 ≤ (u.2.1 0).toInt ∧ (u.2.1 0).toInt ≤ 1)) (fun u => [(o0, .inr (3, [.int o_wares, .ref o1, .ref o2, .int o_known, .int o_fewest, .int o_apart, .ref o3, .ref o4])), (o1, .inl (cyI, 12, .inl o_above))]) args s 0 0) [(o0, .inr (3, [.int o_wares, .ref o1, .ref o2, .int o_known, .int o_fewest, .int o_apart, .ref o3, .ref o4])), (o1, .inl (cyI, 12, .inl o_above))] 2 [(1, .int x1_1), (0, .ref o0)] [] := by
    intro k_1
    induction k_1 with
    | zero =>
      intro x1_1 hi_1_0 hm_1
      exact absurd hm_1 (Nat.not_lt_zero _)
    | succ k_1 ih_1 =>
      intro x1_1 hi_1_0 hm_1
      refine j_iload_n (pc := 2) C dX3_isRound_2 rfl 0 rfl ?_
      refine j_aload_n (pc := 3) C dX3_isRound_3 rfl 1 rfl ?_
      refine j_get (pc := 4) (ci := 3) (v := .int o_wares) C inw_3 0 rfl rfl 0 (by decide) wd_76 rfl rfl dX3_isRound_4 ?_
      refine j_icmp_ge (pc := 7) (tgt := 32) C dX3_isRound_7 (by decide) (fun c_2 => ?_) (fun c_2 => ?_)
      · skip
        rw [i_le] at c_2
        refine j_iconst (pc := 32) (v := 0) C dX3_isRound_32 (by decide) ?_
        have el_0 : (0 : Int32).toInt = 0 := rfl
        exact j_zret (pc := 33) C hr rfl hk (fun i => [].getD i 0, fun i => [0].getD i 0, fun i => [].getD i (fun _ => 0), fun i => [].getD i (fun _ => 0)) rfl (show (0 ≤ ((0 : Int32)).toInt ∧ ((0 : Int32)).toInt ≤ 1) from (by omega)) [0, 1] (by decide) rfl (by decide) (by decide) dX3_isRound_33
      · skip
        rw [i_le] at c_2
        refine j_aload_n (pc := 10) C dX3_isRound_10 rfl 1 rfl ?_
        refine j_get (pc := 11) (ci := 3) (v := .ref o1) C inw_3 0 rfl rfl 1 (by decide) wd_79 rfl rfl dX3_isRound_11 ?_
        refine j_iload_n (pc := 14) C dX3_isRound_14 rfl 0 rfl ?_
        obtain ⟨v_3, ev_3⟩ : ∃ z, o_above (x1_1).toInt.toNat = z := ⟨_, rfl⟩
        have env_3 : (o_above (x1_1).toInt.toNat).toInt = v_3.toInt := by rw [ev_3]
        refine j_iald (pc := 15) (v := v_3) (k := (x1_1).toInt.toNat) C 1 1 rfl rfl (i_nn hi_1_0.1) rfl (i_lt_n hi_1_0.1 (by omega)) ev_3 dX3_isRound_15 ?_
        refine j_iload_n (pc := 16) C dX3_isRound_16 rfl 0 rfl ?_
        obtain ⟨v_4, ev_4⟩ : ∃ z : Int32, ((v_3 : Int32).toUInt32 >>> ((x1_1 : Int32).toUInt32 &&& Int32.toUInt32 31)).toInt32 = z := ⟨_, rfl⟩
        refine j_iushr (pc := 17) (v := v_4) C dX3_isRound_17 ev_4 ?_
        refine j_iconst (pc := 18) (v := 1) C dX3_isRound_18 (by decide) ?_
        obtain ⟨v_5, ev_5⟩ : ∃ z : Int32, v_4 &&& 1 = z := ⟨_, rfl⟩
        have el_1 : (1 : Int32).toInt = 1 := rfl
        have hv_5 : 0 ≤ v_5.toInt ∧ v_5.toInt ≤ 1 := by rw [← ev_5]; exact and1_r _
        refine j_iand (pc := 19) (v := v_5) C dX3_isRound_19 ev_5 ?_
        refine j_iconst (pc := 20) (v := 1) C dX3_isRound_20 (by decide) ?_
        refine j_icmp_ne (pc := 21) (tgt := 26) C dX3_isRound_21 (by decide) (fun c_6 => ?_) (fun c_6 => ?_)
        · skip
          have el_1 : (1 : Int32).toInt = 1 := rfl
          rw [i_eq] at c_6
          have k0c_6 : v_5.toInt = 0 := by omega
          obtain ⟨v_7, ev_7⟩ : ∃ z : Int32, x1_1 + 1 = z := ⟨_, rfl⟩
          have el_1 : (1 : Int32).toInt = 1 := rfl
          have hv_7 : v_7.toInt = x1_1.toInt + (1 : Int32).toInt := by rw [← ev_7]; exact fb_addI (by omega) (by omega)
          refine j_iinc (pc := 26) (v := v_7) (lv' := [(1, .int v_7), (0, .ref o0)]) C dX3_isRound_26 0 rfl ev_7 (by decide) rfl ?_
          refine j_goto (pc := 29) (tgt := 2) C dX3_isRound_29 (by decide) ?_
          exact j_lv [0, 1] rfl (ih_1 v_7 (by omega) (by omega))
        · skip
          have el_1 : (1 : Int32).toInt = 1 := rfl
          rw [i_eq] at c_6
          refine j_iconst (pc := 24) (v := 1) C dX3_isRound_24 (by decide) ?_
          have el_1 : (1 : Int32).toInt = 1 := rfl
          exact j_zret (pc := 25) C hr rfl hk (fun i => [].getD i 0, fun i => [1].getD i 0, fun i => [].getD i (fun _ => 0), fun i => [].getD i (fun _ => 0)) rfl (show (0 ≤ ((1 : Int32)).toInt ∧ ((1 : Int32)).toInt ≤ 1) from (by omega)) [0, 1] (by decide) rfl (by decide) (by decide) dX3_isRound_25
  have el_0 : (0 : Int32).toInt = 0 := rfl
  exact j_lv [0, 1] rfl (loop_1 4096 0 (by decide) (by omega))
set_option maxHeartbeats 4000000 in
set_option maxRecDepth 100000 in
theorem c_X3_findKin (l : Launch) (D : DG) (cyC cyI cyJ cyZ cyO : ClassId) (o0 : Nat) (o1 : Nat) (o2 : Nat) (o3 : Nat) (o4 : Nat) (o_wares : Int32) (o_known : Int32) (o_fewest : Int32) (o_apart : Int32) (o_above : Nat → Int32) (o_kin : Nat → Int32) (h_o_wares : 0 ≤ (o_wares).toInt ∧ (o_wares).toInt ≤ 12) (h_o_known : 0 ≤ (o_known).toInt ∧ (o_known).toInt ≤ 1) : KK l D (TY cyC cyI cyJ cyZ cyO) yX3_findKin cX3_findKin 3 none ({ frames := 1, cells := 0, slots := 0, locals := 18 } : Room) 0 0 [.ref o0] [(o0, .inr (3, [.int o_wares, .ref o1, .ref o2, .int o_known, .int o_fewest, .int o_apart, .ref o3, .ref o4])), (o1, .inl (cyI, 12, .inl o_above)), (o2, .inl (cyI, 12, .inl o_kin))] (fun u => none) (fun u => True) (fun u => [(o0, .inr (3, [.int o_wares, .ref o1, .ref o2, .int o_known, .int o_fewest, .int o_apart, .ref o3, .ref o4])), (o1, .inl (cyI, 12, .inl o_above)), (o2, .inl (cyI, 12, .inl (u.2.2.1 0)))]) := by
  refine KK.of (lv0 := [(0, .ref o0)]) (by decide) rfl (Nat.le_of_ble_eq_true rfl) ?_
  intro p e s m args below meth c A C hr hk hin
  refine j_aload_n (pc := 0) C dX3_findKin_0 rfl 0 rfl ?_
  refine j_get (pc := 1) (ci := 3) (v := .ref o1) C inw_3 0 rfl rfl 1 (by decide) wd_79 rfl rfl dX3_findKin_1 ?_
  refine j_iconst (pc := 4) (v := 0) C dX3_findKin_4 (by decide) ?_
  refine j_aload_n (pc := 5) C dX3_findKin_5 rfl 0 rfl ?_
  refine j_get (pc := 6) (ci := 3) (v := .ref o2) C inw_3 0 rfl rfl 2 (by decide) wd_81 rfl rfl dX3_findKin_6 ?_
  refine j_iconst (pc := 9) (v := 0) C dX3_findKin_9 (by decide) ?_
  refine j_bipush (pc := 10) (v := 12) C dX3_findKin_10 (by decide) ?_
  obtain ⟨f_1, ef_1⟩ : ∃ z, z = va_cpy o_above o_kin 0 0 12 := ⟨_, rfl⟩
  refine j_acpy (pc := 12) (ks := 0) (kd := 0) (kn := 12) (ws' := [(o0, .inr (3, [.int o_wares, .ref o1, .ref o2, .int o_known, .int o_fewest, .int o_apart, .ref o3, .ref o4])), (o1, .inl (cyI, 12, .inl o_above)), (o2, .inl (cyI, 12, .inl f_1))]) C wd_80 wd_25 wd_26 wd_27 1 2 1 rfl rfl rfl (by decide) (by decide) (by decide) (by decide) (by decide) (by decide) (by decide) (by decide) (by decide) (Nat.le_of_ble_eq_true rfl) dX3_findKin_12 (by rw [ef_1]; rfl) ?_
  refine j_arrc (q0 := 2) (g := o_above) (ws' := [(o0, .inr (3, [.int o_wares, .ref o1, .ref o2, .int o_known, .int o_fewest, .int o_apart, .ref o3, .ref o4])), (o1, .inl (cyI, 12, .inl o_above)), (o2, .inl (cyI, 12, .inl o_above))]) rfl (fun j hj => by rw [ef_1]; exact cpy_full hj) rfl ?_
  refine j_iconst (pc := 15) (v := 0) C dX3_findKin_15 (by decide) ?_
  refine j_istore_n (pc := 16) (lv' := [(1, .int 0), (0, .ref o0)]) C dX3_findKin_16 rfl (by decide) rfl ?_
  have loop_2 : ∀ (k_2 : Nat) (x2_1 : Int32) (g2_o2 : Nat → Int32), (0 ≤ (x2_1).toInt ∧ (x2_1).toInt ≤ 12) → (12 - x2_1.toInt).toNat < k_2 → J p l e ({ frames := 1, cells := 0, slots := 0, locals := 18 } : Room) s m args below meth c D A 3 0 0 (QX below D (TY cyC cyI cyJ cyZ cyO) A (fun u => none) (fun u => True) (fun u => [(o0, .inr (3, [.int o_wares, .ref o1, .ref o2, .int o_known, .int o_fewest, .int o_apart, .ref o3, .ref o4])), (o1, .inl (cyI, 12, .inl o_above)), (o2, .inl (cyI, 12, .inl (u.2.2.1 0)))]) args s 0 0) [(o0, .inr (3, [.int o_wares, .ref o1, .ref o2, .int o_known, .int o_fewest, .int o_apart, .ref o3, .ref o4])), (o1, .inl (cyI, 12, .inl o_above)), (o2, .inl (cyI, 12, .inl g2_o2))] 17 [(1, .int x2_1), (0, .ref o0)] [] := by
    intro k_2
    induction k_2 with
    | zero =>
      intro x2_1 g2_o2 hi_2_0 hm_2
      exact absurd hm_2 (Nat.not_lt_zero _)
    | succ k_2 ih_2 =>
      intro x2_1 g2_o2 hi_2_0 hm_2
      refine j_iload_n (pc := 17) C dX3_findKin_17 rfl 0 rfl ?_
      refine j_aload_n (pc := 18) C dX3_findKin_18 rfl 1 rfl ?_
      refine j_get (pc := 19) (ci := 3) (v := .int o_wares) C inw_3 0 rfl rfl 0 (by decide) wd_76 rfl rfl dX3_findKin_19 ?_
      refine j_icmp_ge (pc := 22) (tgt := 68) C dX3_findKin_22 (by decide) (fun c_3 => ?_) (fun c_3 => ?_)
      · skip
        rw [i_le] at c_3
        exact j_vret (pc := 68) C hr hk (fun i => [].getD i 0, fun i => [].getD i 0, fun i => [g2_o2].getD i (fun _ => 0), fun i => [].getD i (fun _ => 0)) rfl trivial [0, 1, 2] (by decide) rfl (by decide) (by decide) dX3_findKin_68
      · skip
        rw [i_le] at c_3
        refine j_iconst (pc := 25) (v := 0) C dX3_findKin_25 (by decide) ?_
        refine j_istore_n (pc := 26) (lv' := [(2, .int 0), (1, .int x2_1), (0, .ref o0)]) C dX3_findKin_26 rfl (by decide) rfl ?_
        have loop_4 : ∀ (k_4 : Nat) (x4_2 : Int32) (g4_o2 : Nat → Int32), (0 ≤ (x4_2).toInt ∧ (x4_2).toInt ≤ 12) → (12 - x4_2.toInt).toNat < k_4 → J p l e ({ frames := 1, cells := 0, slots := 0, locals := 18 } : Room) s m args below meth c D A 3 0 0 (QX below D (TY cyC cyI cyJ cyZ cyO) A (fun u => none) (fun u => True) (fun u => [(o0, .inr (3, [.int o_wares, .ref o1, .ref o2, .int o_known, .int o_fewest, .int o_apart, .ref o3, .ref o4])), (o1, .inl (cyI, 12, .inl o_above)), (o2, .inl (cyI, 12, .inl (u.2.2.1 0)))]) args s 0 0) [(o0, .inr (3, [.int o_wares, .ref o1, .ref o2, .int o_known, .int o_fewest, .int o_apart, .ref o3, .ref o4])), (o1, .inl (cyI, 12, .inl o_above)), (o2, .inl (cyI, 12, .inl g4_o2))] 27 [(2, .int x4_2), (1, .int x2_1), (0, .ref o0)] [] := by
          intro k_4
          induction k_4 with
          | zero =>
            intro x4_2 g4_o2 hi_4_0 hm_4
            exact absurd hm_4 (Nat.not_lt_zero _)
          | succ k_4 ih_4 =>
            intro x4_2 g4_o2 hi_4_0 hm_4
            refine j_iload_n (pc := 27) C dX3_findKin_27 rfl 0 rfl ?_
            refine j_aload_n (pc := 28) C dX3_findKin_28 rfl 2 rfl ?_
            refine j_get (pc := 29) (ci := 3) (v := .int o_wares) C inw_3 0 rfl rfl 0 (by decide) wd_76 rfl rfl dX3_findKin_29 ?_
            refine j_icmp_ge (pc := 32) (tgt := 62) C dX3_findKin_32 (by decide) (fun c_5 => ?_) (fun c_5 => ?_)
            · skip
              rw [i_le] at c_5
              obtain ⟨v_6, ev_6⟩ : ∃ z : Int32, x2_1 + 1 = z := ⟨_, rfl⟩
              have el_1 : (1 : Int32).toInt = 1 := rfl
              have hv_6 : v_6.toInt = x2_1.toInt + (1 : Int32).toInt := by rw [← ev_6]; exact fb_addI (by omega) (by omega)
              refine j_iinc (pc := 62) (v := v_6) (lv' := [(1, .int v_6), (2, .int x4_2), (0, .ref o0)]) C dX3_findKin_62 1 rfl ev_6 (by decide) rfl ?_
              refine j_goto (pc := 65) (tgt := 17) C dX3_findKin_65 (by decide) ?_
              exact j_lv [0, 2] rfl (ih_2 v_6 g4_o2 (by omega) (by omega))
            · skip
              rw [i_le] at c_5
              refine j_aload_n (pc := 35) C dX3_findKin_35 rfl 2 rfl ?_
              refine j_get (pc := 36) (ci := 3) (v := .ref o2) C inw_3 0 rfl rfl 2 (by decide) wd_81 rfl rfl dX3_findKin_36 ?_
              refine j_iload_n (pc := 39) C dX3_findKin_39 rfl 0 rfl ?_
              refine j_dup2 (pc := 40) C dX3_findKin_40 rfl rfl ?_
              obtain ⟨v_7, ev_7⟩ : ∃ z, g4_o2 (x4_2).toInt.toNat = z := ⟨_, rfl⟩
              have env_7 : (g4_o2 (x4_2).toInt.toNat).toInt = v_7.toInt := by rw [ev_7]
              refine j_iald (pc := 41) (v := v_7) (k := (x4_2).toInt.toNat) C 2 1 rfl rfl (i_nn hi_4_0.1) rfl (i_lt_n hi_4_0.1 (by omega)) ev_7 dX3_findKin_41 ?_
              refine j_aload_n (pc := 42) C dX3_findKin_42 rfl 2 rfl ?_
              refine j_get (pc := 43) (ci := 3) (v := .ref o1) C inw_3 0 rfl rfl 1 (by decide) wd_79 rfl rfl dX3_findKin_43 ?_
              refine j_iload_n (pc := 46) C dX3_findKin_46 rfl 1 rfl ?_
              obtain ⟨v_8, ev_8⟩ : ∃ z, o_above (x2_1).toInt.toNat = z := ⟨_, rfl⟩
              have env_8 : (o_above (x2_1).toInt.toNat).toInt = v_8.toInt := by rw [ev_8]
              refine j_iald (pc := 47) (v := v_8) (k := (x2_1).toInt.toNat) C 1 1 rfl rfl (i_nn hi_2_0.1) rfl (i_lt_n hi_2_0.1 (by omega)) ev_8 dX3_findKin_47 ?_
              refine j_iload_n (pc := 48) C dX3_findKin_48 rfl 0 rfl ?_
              obtain ⟨v_9, ev_9⟩ : ∃ z : Int32, ((v_8 : Int32).toUInt32 >>> ((x4_2 : Int32).toUInt32 &&& Int32.toUInt32 31)).toInt32 = z := ⟨_, rfl⟩
              refine j_iushr (pc := 49) (v := v_9) C dX3_findKin_49 ev_9 ?_
              refine j_iconst (pc := 50) (v := 1) C dX3_findKin_50 (by decide) ?_
              obtain ⟨v_10, ev_10⟩ : ∃ z : Int32, v_9 &&& 1 = z := ⟨_, rfl⟩
              have el_1 : (1 : Int32).toInt = 1 := rfl
              have hv_10 : 0 ≤ v_10.toInt ∧ v_10.toInt ≤ 1 := by rw [← ev_10]; exact and1_r _
              refine j_iand (pc := 51) (v := v_10) C dX3_findKin_51 ev_10 ?_
              refine j_iload_n (pc := 52) C dX3_findKin_52 rfl 1 rfl ?_
              obtain ⟨v_11, ev_11⟩ : ∃ z : Int32, v_10 <<< (x2_1 &&& 31) = z := ⟨_, rfl⟩
              have hv_11 := i_bd v_11
              refine j_ishl (pc := 53) (v := v_11) C dX3_findKin_53 ev_11 ?_
              obtain ⟨v_12, ev_12⟩ : ∃ z : Int32, v_7 ||| v_11 = z := ⟨_, rfl⟩
              refine j_ior (pc := 54) (v := v_12) C dX3_findKin_54 ev_12 ?_
              obtain ⟨f_13, ef_13⟩ : ∃ z, z = upd g4_o2 (x4_2).toInt.toNat v_12 := ⟨_, rfl⟩
              refine j_iast (pc := 55) (k := (x4_2).toInt.toNat) (ws' := [(o0, .inr (3, [.int o_wares, .ref o1, .ref o2, .int o_known, .int o_fewest, .int o_apart, .ref o3, .ref o4])), (o1, .inl (cyI, 12, .inl o_above)), (o2, .inl (cyI, 12, .inl f_13))]) C 2 1 rfl rfl (i_nn hi_4_0.1) rfl (i_lt_n hi_4_0.1 (by omega)) dX3_findKin_55 (by rw [ef_13]; rfl) ?_
              obtain ⟨v_14, ev_14⟩ : ∃ z : Int32, x4_2 + 1 = z := ⟨_, rfl⟩
              have el_1 : (1 : Int32).toInt = 1 := rfl
              have hv_14 : v_14.toInt = x4_2.toInt + (1 : Int32).toInt := by rw [← ev_14]; exact fb_addI (by omega) (by omega)
              refine j_iinc (pc := 56) (v := v_14) (lv' := [(2, .int v_14), (1, .int x2_1), (0, .ref o0)]) C dX3_findKin_56 0 rfl ev_14 (by decide) rfl ?_
              refine j_goto (pc := 59) (tgt := 27) C dX3_findKin_59 (by decide) ?_
              exact j_lv [0, 1, 2] rfl (ih_4 v_14 f_13 (by omega) (by omega))
        have el_0 : (0 : Int32).toInt = 0 := rfl
        exact j_lv [0, 1, 2] rfl (loop_4 4096 0 g2_o2 (by decide) (by omega))
  have el_0 : (0 : Int32).toInt = 0 := rfl
  exact j_lv [0, 1] rfl (loop_2 4096 0 o_above (by decide) (by omega))
set_option maxHeartbeats 4000000 in
set_option maxRecDepth 100000 in
theorem c_X3_isApart (l : Launch) (D : DG) (cyC cyI cyJ cyZ cyO : ClassId) (o0 : Nat) (o2 : Nat) (o1 : Nat) (o3 : Nat) (o4 : Nat) (p0 : Int32) (o_wares : Int32) (o_known : Int32) (o_fewest : Int32) (o_apart : Int32) (o_kin : Nat → Int32) (h_o_wares : 0 ≤ (o_wares).toInt ∧ (o_wares).toInt ≤ 12) (h_o_known : 0 ≤ (o_known).toInt ∧ (o_known).toInt ≤ 1) : KK l D (TY cyC cyI cyJ cyZ cyO) yX3_isApart cX3_isApart 3 (some .boolean) ({ frames := 0, cells := 0, slots := 0, locals := 0 } : Room) 0 0 [.ref o0, .int p0] [(o0, .inr (3, [.int o_wares, .ref o1, .ref o2, .int o_known, .int o_fewest, .int o_apart, .ref o3, .ref o4])), (o2, .inl (cyI, 12, .inl o_kin))] (fun u => some (.int (u.2.1 0))) (fun u => (0 ≤ (u.2.1 0).toInt ∧ (u.2.1 0).toInt ≤ 1)) (fun u => [(o0, .inr (3, [.int o_wares, .ref o1, .ref o2, .int o_known, .int o_fewest, .int o_apart, .ref o3, .ref o4])), (o2, .inl (cyI, 12, .inl o_kin))]) := by
  refine KK.of (lv0 := [(0, .ref o0), (1, .int p0)]) (by decide) rfl (Nat.le_of_ble_eq_true rfl) ?_
  intro p e s m args below meth c A C hr hk hin
  refine j_iconst (pc := 0) (v := 0) C dX3_isApart_0 (by decide) ?_
  refine j_istore_n (pc := 1) (lv' := [(2, .int 0), (0, .ref o0), (1, .int p0)]) C dX3_isApart_1 rfl (by decide) rfl ?_
  have loop_1 : ∀ (k_1 : Nat) (x1_2 : Int32), (0 ≤ (x1_2).toInt ∧ (x1_2).toInt ≤ 12) → (12 - x1_2.toInt).toNat < k_1 → J p l e ({ frames := 0, cells := 0, slots := 0, locals := 0 } : Room) s m args below meth c D A 3 0 0 (QX below D (TY cyC cyI cyJ cyZ cyO) A (fun u => some (.int (u.2.1 0))) (fun u => (0 ≤ (u.2.1 0).toInt ∧ (u.2.1 0).toInt ≤ 1)) (fun u => [(o0, .inr (3, [.int o_wares, .ref o1, .ref o2, .int o_known, .int o_fewest, .int o_apart, .ref o3, .ref o4])), (o2, .inl (cyI, 12, .inl o_kin))]) args s 0 0) [(o0, .inr (3, [.int o_wares, .ref o1, .ref o2, .int o_known, .int o_fewest, .int o_apart, .ref o3, .ref o4])), (o2, .inl (cyI, 12, .inl o_kin))] 2 [(2, .int x1_2), (0, .ref o0), (1, .int p0)] [] := by
    intro k_1
    induction k_1 with
    | zero =>
      intro x1_2 hi_1_0 hm_1
      exact absurd hm_1 (Nat.not_lt_zero _)
    | succ k_1 ih_1 =>
      intro x1_2 hi_1_0 hm_1
      refine j_iload_n (pc := 2) C dX3_isApart_2 rfl 0 rfl ?_
      refine j_aload_n (pc := 3) C dX3_isApart_3 rfl 1 rfl ?_
      refine j_get (pc := 4) (ci := 3) (v := .int o_wares) C inw_3 0 rfl rfl 0 (by decide) wd_76 rfl rfl dX3_isApart_4 ?_
      refine j_icmp_ge (pc := 7) (tgt := 38) C dX3_isApart_7 (by decide) (fun c_2 => ?_) (fun c_2 => ?_)
      · skip
        rw [i_le] at c_2
        refine j_iconst (pc := 38) (v := 1) C dX3_isApart_38 (by decide) ?_
        have el_1 : (1 : Int32).toInt = 1 := rfl
        exact j_zret (pc := 39) C hr rfl hk (fun i => [].getD i 0, fun i => [1].getD i 0, fun i => [].getD i (fun _ => 0), fun i => [].getD i (fun _ => 0)) rfl (show (0 ≤ ((1 : Int32)).toInt ∧ ((1 : Int32)).toInt ≤ 1) from (by omega)) [0, 1] (by decide) rfl (by decide) (by decide) dX3_isApart_39
      · skip
        rw [i_le] at c_2
        refine j_iload_n (pc := 10) C dX3_isApart_10 rfl 2 rfl ?_
        refine j_iload_n (pc := 11) C dX3_isApart_11 rfl 0 rfl ?_
        obtain ⟨v_3, ev_3⟩ : ∃ z : Int32, ((p0 : Int32).toUInt32 >>> ((x1_2 : Int32).toUInt32 &&& Int32.toUInt32 31)).toInt32 = z := ⟨_, rfl⟩
        refine j_iushr (pc := 12) (v := v_3) C dX3_isApart_12 ev_3 ?_
        refine j_iconst (pc := 13) (v := 1) C dX3_isApart_13 (by decide) ?_
        obtain ⟨v_4, ev_4⟩ : ∃ z : Int32, v_3 &&& 1 = z := ⟨_, rfl⟩
        have el_1 : (1 : Int32).toInt = 1 := rfl
        have hv_4 : 0 ≤ v_4.toInt ∧ v_4.toInt ≤ 1 := by rw [← ev_4]; exact and1_r _
        refine j_iand (pc := 14) (v := v_4) C dX3_isApart_14 ev_4 ?_
        refine j_iconst (pc := 15) (v := 1) C dX3_isApart_15 (by decide) ?_
        refine j_icmp_ne (pc := 16) (tgt := 32) C dX3_isApart_16 (by decide) (fun c_5 => ?_) (fun c_5 => ?_)
        · skip
          have el_1 : (1 : Int32).toInt = 1 := rfl
          rw [i_eq] at c_5
          have k0c_5 : v_4.toInt = 0 := by omega
          obtain ⟨v_6, ev_6⟩ : ∃ z : Int32, x1_2 + 1 = z := ⟨_, rfl⟩
          have el_1 : (1 : Int32).toInt = 1 := rfl
          have hv_6 : v_6.toInt = x1_2.toInt + (1 : Int32).toInt := by rw [← ev_6]; exact fb_addI (by omega) (by omega)
          refine j_iinc (pc := 32) (v := v_6) (lv' := [(2, .int v_6), (0, .ref o0), (1, .int p0)]) C dX3_isApart_32 0 rfl ev_6 (by decide) rfl ?_
          refine j_goto (pc := 35) (tgt := 2) C dX3_isApart_35 (by decide) ?_
          exact j_lv [0, 1, 2] rfl (ih_1 v_6 (by omega) (by omega))
        · skip
          have el_1 : (1 : Int32).toInt = 1 := rfl
          rw [i_eq] at c_5
          refine j_aload_n (pc := 19) C dX3_isApart_19 rfl 1 rfl ?_
          refine j_get (pc := 20) (ci := 3) (v := .ref o2) C inw_3 0 rfl rfl 2 (by decide) wd_81 rfl rfl dX3_isApart_20 ?_
          refine j_iload_n (pc := 23) C dX3_isApart_23 rfl 0 rfl ?_
          obtain ⟨v_7, ev_7⟩ : ∃ z, o_kin (x1_2).toInt.toNat = z := ⟨_, rfl⟩
          have env_7 : (o_kin (x1_2).toInt.toNat).toInt = v_7.toInt := by rw [ev_7]
          refine j_iald (pc := 24) (v := v_7) (k := (x1_2).toInt.toNat) C 1 1 rfl rfl (i_nn hi_1_0.1) rfl (i_lt_n hi_1_0.1 (by omega)) ev_7 dX3_isApart_24 ?_
          refine j_iload_n (pc := 25) C dX3_isApart_25 rfl 2 rfl ?_
          obtain ⟨v_8, ev_8⟩ : ∃ z : Int32, v_7 &&& p0 = z := ⟨_, rfl⟩
          refine j_iand (pc := 26) (v := v_8) C dX3_isApart_26 ev_8 ?_
          refine j_if_eq (pc := 27) (tgt := 32) C dX3_isApart_27 (by decide) (fun c_9 => ?_) (fun c_9 => ?_)
          · skip
            have el_0 : (0 : Int32).toInt = 0 := rfl
            rw [i_eq] at c_9
            obtain ⟨v_10, ev_10⟩ : ∃ z : Int32, x1_2 + 1 = z := ⟨_, rfl⟩
            have el_1 : (1 : Int32).toInt = 1 := rfl
            have hv_10 : v_10.toInt = x1_2.toInt + (1 : Int32).toInt := by rw [← ev_10]; exact fb_addI (by omega) (by omega)
            refine j_iinc (pc := 32) (v := v_10) (lv' := [(2, .int v_10), (0, .ref o0), (1, .int p0)]) C dX3_isApart_32 0 rfl ev_10 (by decide) rfl ?_
            refine j_goto (pc := 35) (tgt := 2) C dX3_isApart_35 (by decide) ?_
            exact j_lv [0, 1, 2] rfl (ih_1 v_10 (by omega) (by omega))
          · skip
            have el_0 : (0 : Int32).toInt = 0 := rfl
            rw [i_eq] at c_9
            refine j_iconst (pc := 30) (v := 0) C dX3_isApart_30 (by decide) ?_
            have el_0 : (0 : Int32).toInt = 0 := rfl
            exact j_zret (pc := 31) C hr rfl hk (fun i => [].getD i 0, fun i => [0].getD i 0, fun i => [].getD i (fun _ => 0), fun i => [].getD i (fun _ => 0)) rfl (show (0 ≤ ((0 : Int32)).toInt ∧ ((0 : Int32)).toInt ≤ 1) from (by omega)) [0, 1] (by decide) rfl (by decide) (by decide) dX3_isApart_31
  have el_0 : (0 : Int32).toInt = 0 := rfl
  exact j_lv [0, 1, 2] rfl (loop_1 4096 0 (by decide) (by omega))
set_option maxHeartbeats 4000000 in
set_option maxRecDepth 100000 in
theorem c_X3_findApart (l : Launch) (D : DG) (cyC cyI cyJ cyZ cyO : ClassId) (o0 : Nat) (o2 : Nat) (o1 : Nat) (o3 : Nat) (o4 : Nat) (o_wares : Int32) (o_known : Int32) (o_fewest : Int32) (o_apart : Int32) (o_kin : Nat → Int32) (h_o_wares : 0 ≤ (o_wares).toInt ∧ (o_wares).toInt ≤ 12) (h_o_known : 0 ≤ (o_known).toInt ∧ (o_known).toInt ≤ 1) : KK l D (TY cyC cyI cyJ cyZ cyO) yX3_findApart cX3_findApart 3 none ({ frames := 1, cells := 0, slots := 0, locals := 22 } : Room) 0 0 [.ref o0] [(o0, .inr (3, [.int o_wares, .ref o1, .ref o2, .int o_known, .int o_fewest, .int o_apart, .ref o3, .ref o4])), (o2, .inl (cyI, 12, .inl o_kin))] (fun u => none) (fun u => True) (fun u => [(o0, .inr (3, [.int o_wares, .ref o1, .ref o2, .int o_known, .int (u.2.1 0), .int (u.2.1 1), .ref o3, .ref o4])), (o2, .inl (cyI, 12, .inl o_kin))]) := by
  refine KK.of (lv0 := [(0, .ref o0)]) (by decide) rfl (Nat.le_of_ble_eq_true rfl) ?_
  intro p e s m args below meth c A C hr hk hin
  refine j_aload_n (pc := 0) C dX3_findApart_0 rfl 0 rfl ?_
  refine j_iconst (pc := 1) (v := 0) C dX3_findApart_1 (by decide) ?_
  refine j_put (pc := 2) (ci := 3) (v := .int 0) (ws' := [(o0, .inr (3, [.int o_wares, .ref o1, .ref o2, .int o_known, .int 0, .int o_apart, .ref o3, .ref o4])), (o2, .inl (cyI, 12, .inl o_kin))]) C inw_3 0 rfl rfl 4 (by decide) wd_82 rfl tyX3_ok nmX3 rfl (tyX3_ok 4 (by decide)) rfl rfl (Nat.le_of_ble_eq_true rfl) dX3_findApart_2 rfl ?_
  refine j_aload_n (pc := 5) C dX3_findApart_5 rfl 0 rfl ?_
  refine j_iconst (pc := 6) (v := 0) C dX3_findApart_6 (by decide) ?_
  refine j_put (pc := 7) (ci := 3) (v := .int 0) (ws' := [(o0, .inr (3, [.int o_wares, .ref o1, .ref o2, .int o_known, .int 0, .int 0, .ref o3, .ref o4])), (o2, .inl (cyI, 12, .inl o_kin))]) C inw_3 0 rfl rfl 5 (by decide) wd_83 rfl tyX3_ok nmX3 rfl (tyX3_ok 5 (by decide)) rfl rfl (Nat.le_of_ble_eq_true rfl) dX3_findApart_7 rfl ?_
  refine j_iconst (pc := 10) (v := 1) C dX3_findApart_10 (by decide) ?_
  refine j_istore_n (pc := 11) (lv' := [(1, .int 1), (0, .ref o0)]) C dX3_findApart_11 rfl (by decide) rfl ?_
  have loop_1 : ∀ (k_1 : Nat) (x1_1 : Int32) (y1_o0_4 : Int32) (y1_o0_5 : Int32), (1 ≤ (x1_1).toInt ∧ (x1_1).toInt ≤ 4096) → (4096 - x1_1.toInt).toNat < k_1 → J p l e ({ frames := 1, cells := 0, slots := 0, locals := 22 } : Room) s m args below meth c D A 3 0 0 (QX below D (TY cyC cyI cyJ cyZ cyO) A (fun u => none) (fun u => True) (fun u => [(o0, .inr (3, [.int o_wares, .ref o1, .ref o2, .int o_known, .int (u.2.1 0), .int (u.2.1 1), .ref o3, .ref o4])), (o2, .inl (cyI, 12, .inl o_kin))]) args s 0 0) [(o0, .inr (3, [.int o_wares, .ref o1, .ref o2, .int o_known, .int y1_o0_4, .int y1_o0_5, .ref o3, .ref o4])), (o2, .inl (cyI, 12, .inl o_kin))] 12 [(1, .int x1_1), (0, .ref o0)] [] := by
    intro k_1
    induction k_1 with
    | zero =>
      intro x1_1 y1_o0_4 y1_o0_5 hi_1_0 hm_1
      exact absurd hm_1 (Nat.not_lt_zero _)
    | succ k_1 ih_1 =>
      intro x1_1 y1_o0_4 y1_o0_5 hi_1_0 hm_1
      refine j_iload_n (pc := 12) C dX3_findApart_12 rfl 0 rfl ?_
      refine j_iconst (pc := 13) (v := 1) C dX3_findApart_13 (by decide) ?_
      refine j_aload_n (pc := 14) C dX3_findApart_14 rfl 1 rfl ?_
      refine j_get (pc := 15) (ci := 3) (v := .int o_wares) C inw_3 0 rfl rfl 0 (by decide) wd_76 rfl rfl dX3_findApart_15 ?_
      obtain ⟨v_2, ev_2⟩ : ∃ z : Int32, 1 <<< (o_wares &&& 31) = z := ⟨_, rfl⟩
      have el_1 : (1 : Int32).toInt = 1 := rfl
      have hv_2 : 1 ≤ v_2.toInt ∧ v_2.toInt ≤ 4096 := by rw [← ev_2]; exact shl1_iv 0 12 (by omega) (by omega) (by omega)
      refine j_ishl (pc := 18) (v := v_2) C dX3_findApart_18 ev_2 ?_
      refine j_icmp_ge (pc := 19) (tgt := 59) C dX3_findApart_19 (by decide) (fun c_3 => ?_) (fun c_3 => ?_)
      · skip
        rw [i_le] at c_3
        exact j_vret (pc := 59) C hr hk (fun i => [].getD i 0, fun i => [y1_o0_4, y1_o0_5].getD i 0, fun i => [].getD i (fun _ => 0), fun i => [].getD i (fun _ => 0)) rfl trivial [0, 1] (by decide) rfl (by decide) (by decide) dX3_findApart_59
      · skip
        rw [i_le] at c_3
        refine j_iload_n (pc := 22) C dX3_findApart_22 rfl 0 rfl ?_
        refine j_callS (pc := 23) (As := [.int x1_1]) (rest := []) (wr := [(o0, .inr (3, [.int o_wares, .ref o1, .ref o2, .int o_known, .int y1_o0_4, .int y1_o0_5, .ref o3, .ref o4])), (o2, .inl (cyI, 12, .inl o_kin))]) C (c_J6_bitCount_0f7a4 l D cyC cyI cyJ cyZ cyO x1_1) wd_84 wd_85 wd_86 wd_87 ⟨by decide, by decide, rfl⟩ rfl ⟨rfl, rfl, by decide, by decide⟩ ⟨by decide, by decide⟩ [] [0, 1] rfl rfl ⟨by decide, by decide, by decide⟩ rfl (Nat.le_of_ble_eq_true rfl) dX3_findApart_23 (fun u_4 hw_5 => ?_)
        refine j_eq (ws2 := [(o0, .inr (3, [.int o_wares, .ref o1, .ref o2, .int o_known, .int y1_o0_4, .int y1_o0_5, .ref o3, .ref o4])), (o2, .inl (cyI, 12, .inl o_kin))]) (pc2 := 26) (lv2 := [(1, .int x1_1), (0, .ref o0)]) (st2 := [.int (u_4.2.1 0)]) rfl rfl rfl rfl ?_
        have hw_5_0 : 0 ≤ (u_4.2.1 0).toInt ∧ (u_4.2.1 0).toInt ≤ 63 := hw_5
        refine j_istore_n (pc := 26) (lv' := [(2, .int (u_4.2.1 0)), (1, .int x1_1), (0, .ref o0)]) C dX3_findApart_26 rfl (by decide) rfl ?_
        refine j_iload_n (pc := 27) C dX3_findApart_27 rfl 0 rfl ?_
        refine j_aload_n (pc := 28) C dX3_findApart_28 rfl 2 rfl ?_
        refine j_get (pc := 29) (ci := 3) (v := .int y1_o0_4) C inw_3 0 rfl rfl 4 (by decide) wd_82 rfl rfl dX3_findApart_29 ?_
        refine j_icmp_le (pc := 32) (tgt := 53) C dX3_findApart_32 (by decide) (fun c_6 => ?_) (fun c_6 => ?_)
        · skip
          rw [i_le] at c_6
          obtain ⟨v_7, ev_7⟩ : ∃ z : Int32, x1_1 + 1 = z := ⟨_, rfl⟩
          have el_1 : (1 : Int32).toInt = 1 := rfl
          have hv_7 : v_7.toInt = x1_1.toInt + (1 : Int32).toInt := by rw [← ev_7]; exact fb_addI (by omega) (by omega)
          refine j_iinc (pc := 53) (v := v_7) (lv' := [(1, .int v_7), (2, .int (u_4.2.1 0)), (0, .ref o0)]) C dX3_findApart_53 1 rfl ev_7 (by decide) rfl ?_
          refine j_goto (pc := 56) (tgt := 12) C dX3_findApart_56 (by decide) ?_
          exact j_lv [0, 2] rfl (ih_1 v_7 y1_o0_4 y1_o0_5 (by omega) (by omega))
        · skip
          rw [i_le] at c_6
          refine j_aload_n (pc := 35) C dX3_findApart_35 rfl 2 rfl ?_
          refine j_iload_n (pc := 36) C dX3_findApart_36 rfl 1 rfl ?_
          refine j_callV (pc := 37) (As := [.int x1_1]) (rest := []) (wr := []) C (c_X3_isApart l D cyC cyI cyJ cyZ cyO o0 o2 o1 o3 o4 x1_1 o_wares o_known y1_o0_4 y1_o0_5 o_kin h_o_wares h_o_known) wd_88 wd_89 wd_90 wd_91 wd_92 ⟨by decide, by decide, rfl⟩ rfl ⟨rfl, rfl, by decide, by decide⟩ ⟨by decide, by decide⟩ [0, 1] [] rfl rfl ⟨by decide, by decide, by decide⟩ 0 rfl rfl rfl (Nat.le_of_ble_eq_true rfl) dX3_findApart_37 (fun u_8 hw_9 => ?_)
          refine j_eq (ws2 := [(o0, .inr (3, [.int o_wares, .ref o1, .ref o2, .int o_known, .int y1_o0_4, .int y1_o0_5, .ref o3, .ref o4])), (o2, .inl (cyI, 12, .inl o_kin))]) (pc2 := 40) (lv2 := [(2, .int (u_4.2.1 0)), (1, .int x1_1), (0, .ref o0)]) (st2 := [.int (u_8.2.1 0)]) rfl rfl rfl rfl ?_
          have hw_9_0 : 0 ≤ (u_8.2.1 0).toInt ∧ (u_8.2.1 0).toInt ≤ 1 := hw_9
          refine j_if_eq (pc := 40) (tgt := 53) C dX3_findApart_40 (by decide) (fun c_10 => ?_) (fun c_10 => ?_)
          · skip
            have el_0 : (0 : Int32).toInt = 0 := rfl
            rw [i_eq] at c_10
            obtain ⟨v_11, ev_11⟩ : ∃ z : Int32, x1_1 + 1 = z := ⟨_, rfl⟩
            have el_1 : (1 : Int32).toInt = 1 := rfl
            have hv_11 : v_11.toInt = x1_1.toInt + (1 : Int32).toInt := by rw [← ev_11]; exact fb_addI (by omega) (by omega)
            refine j_iinc (pc := 53) (v := v_11) (lv' := [(1, .int v_11), (2, .int (u_4.2.1 0)), (0, .ref o0)]) C dX3_findApart_53 1 rfl ev_11 (by decide) rfl ?_
            refine j_goto (pc := 56) (tgt := 12) C dX3_findApart_56 (by decide) ?_
            exact j_lv [0, 2] rfl (ih_1 v_11 y1_o0_4 y1_o0_5 (by omega) (by omega))
          · skip
            have el_0 : (0 : Int32).toInt = 0 := rfl
            rw [i_eq] at c_10
            have k0c_10 : ((u_8.2.1 0)).toInt = 1 := by omega
            refine j_aload_n (pc := 43) C dX3_findApart_43 rfl 2 rfl ?_
            refine j_iload_n (pc := 44) C dX3_findApart_44 rfl 0 rfl ?_
            refine j_put (pc := 45) (ci := 3) (v := .int (u_4.2.1 0)) (ws' := [(o0, .inr (3, [.int o_wares, .ref o1, .ref o2, .int o_known, .int (u_4.2.1 0), .int y1_o0_5, .ref o3, .ref o4])), (o2, .inl (cyI, 12, .inl o_kin))]) C inw_3 0 rfl rfl 4 (by decide) wd_82 rfl tyX3_ok nmX3 rfl (tyX3_ok 4 (by decide)) rfl rfl (Nat.le_of_ble_eq_true rfl) dX3_findApart_45 rfl ?_
            refine j_aload_n (pc := 48) C dX3_findApart_48 rfl 2 rfl ?_
            refine j_iload_n (pc := 49) C dX3_findApart_49 rfl 1 rfl ?_
            refine j_put (pc := 50) (ci := 3) (v := .int x1_1) (ws' := [(o0, .inr (3, [.int o_wares, .ref o1, .ref o2, .int o_known, .int (u_4.2.1 0), .int x1_1, .ref o3, .ref o4])), (o2, .inl (cyI, 12, .inl o_kin))]) C inw_3 0 rfl rfl 5 (by decide) wd_83 rfl tyX3_ok nmX3 rfl (tyX3_ok 5 (by decide)) rfl rfl (Nat.le_of_ble_eq_true rfl) dX3_findApart_50 rfl ?_
            obtain ⟨v_12, ev_12⟩ : ∃ z : Int32, x1_1 + 1 = z := ⟨_, rfl⟩
            have el_1 : (1 : Int32).toInt = 1 := rfl
            have hv_12 : v_12.toInt = x1_1.toInt + (1 : Int32).toInt := by rw [← ev_12]; exact fb_addI (by omega) (by omega)
            refine j_iinc (pc := 53) (v := v_12) (lv' := [(1, .int v_12), (2, .int (u_4.2.1 0)), (0, .ref o0)]) C dX3_findApart_53 1 rfl ev_12 (by decide) rfl ?_
            refine j_goto (pc := 56) (tgt := 12) C dX3_findApart_56 (by decide) ?_
            exact j_lv [0, 2] rfl (ih_1 v_12 (u_4.2.1 0) x1_1 (by omega) (by omega))
  have el_1 : (1 : Int32).toInt = 1 := rfl
  have el_0 : (0 : Int32).toInt = 0 := rfl
  have el_0 : (0 : Int32).toInt = 0 := rfl
  exact j_lv [0, 1] rfl (loop_1 5000 1 0 0 (by decide) (by omega))
set_option maxHeartbeats 4000000 in
set_option maxRecDepth 100000 in
theorem c_X3_give_z (l : Launch) (D : DG) (cyC cyI cyJ cyZ cyO : ClassId) (o0 : Nat) (o2 : Nat) (o3 : Nat) (o4 : Nat) (o1 : Nat) (p0 : Int32) (p1 : Int32) (o_wares : Int32) (o_known : Int32) (o_fewest : Int32) (o_apart : Int32) (o_kin : Nat → Int32) (o_row : Nat → Int32) (o_members : Nat → Int32) (h_o_wares : 0 ≤ (o_wares).toInt ∧ (o_wares).toInt ≤ 12) (h_o_known : 0 ≤ (o_known).toInt ∧ (o_known).toInt ≤ 1) (h_p1 : 0 ≤ (p1).toInt ∧ (p1).toInt ≤ 12) (hu9 : (p1).toInt ≤ (p0).toInt) (hdp9 : (p0).toInt = 12 - ((0 : Nat) : Int)) : KK l D (TY cyC cyI cyJ cyZ cyO) yX3_give cX3_give 4 (some .boolean) ({ frames := 0, cells := 0, slots := 0, locals := 0 } : Room) 0 0 [.ref o0, .int p0, .int p1] [(o0, .inr (3, [.int o_wares, .ref o1, .ref o2, .int o_known, .int o_fewest, .int o_apart, .ref o3, .ref o4])), (o2, .inl (cyI, 12, .inl o_kin)), (o3, .inl (cyI, 12, .inl o_row)), (o4, .inl (cyI, 12, .inl o_members))] (fun u => some (.int (u.2.1 0))) (fun u => (0 ≤ (u.2.1 0).toInt ∧ (u.2.1 0).toInt ≤ 1)) (fun u => [(o0, .inr (3, [.int o_wares, .ref o1, .ref o2, .int o_known, .int o_fewest, .int o_apart, .ref o3, .ref o4])), (o2, .inl (cyI, 12, .inl o_kin)), (o3, .inl (cyI, 12, .inl (u.2.2.1 0))), (o4, .inl (cyI, 12, .inl (u.2.2.1 1)))]) := by
  refine KK.of (lv0 := [(0, .ref o0), (1, .int p0), (2, .int p1)]) (by decide) rfl (Nat.le_of_ble_eq_true rfl) ?_
  intro p e s m args below meth c A C hr hk hin
  refine j_iload_n (pc := 0) C dX3_give_0 rfl 1 rfl ?_
  refine j_aload_n (pc := 1) C dX3_give_1 rfl 0 rfl ?_
  refine j_get (pc := 2) (ci := 3) (v := .int o_wares) C inw_3 0 rfl rfl 0 (by decide) wd_76 rfl rfl dX3_give_2 ?_
  refine j_icmp_lt_f (pc := 5) (tgt := 10) C dX3_give_5 (by decide) (by rw [i_lt]; omega) ?_
  refine j_iconst (pc := 8) (v := 1) C dX3_give_8 (by decide) ?_
  have el_1 : (1 : Int32).toInt = 1 := rfl
  exact j_zret (pc := 9) C hr rfl hk (fun i => [].getD i 0, fun i => [1].getD i 0, fun i => [o_row, o_members].getD i (fun _ => 0), fun i => [].getD i (fun _ => 0)) rfl (show (0 ≤ ((1 : Int32)).toInt ∧ ((1 : Int32)).toInt ≤ 1) from (by omega)) [0, 1, 2, 3] (by decide) rfl (by decide) (by decide) dX3_give_9
set_option maxHeartbeats 4000000 in
set_option maxRecDepth 100000 in
def S_c_X3_give (n9 : Nat) : Prop := ∀ (l : Launch) (D : DG) (cyC cyI cyJ cyZ cyO : ClassId) (o0 : Nat) (o2 : Nat) (o3 : Nat) (o4 : Nat) (o1 : Nat) (p0 : Int32) (p1 : Int32) (o_wares : Int32) (o_known : Int32) (o_fewest : Int32) (o_apart : Int32) (o_kin : Nat → Int32) (o_row : Nat → Int32) (o_members : Nat → Int32) (h_o_wares : 0 ≤ (o_wares).toInt ∧ (o_wares).toInt ≤ 12) (h_o_known : 0 ≤ (o_known).toInt ∧ (o_known).toInt ≤ 1) (h_p1 : 0 ≤ (p1).toInt ∧ (p1).toInt ≤ 12) (hu9 : (p1).toInt ≤ (p0).toInt) (hdp9 : (p0).toInt = 12 - ((n9 : Nat) : Int)), KK l D (TY cyC cyI cyJ cyZ cyO) yX3_give cX3_give 4 (some .boolean) ({ frames := 0 + 1 * n9, cells := 0, slots := 0, locals := 0 + 23 * n9 } : Room) 0 0 [.ref o0, .int p0, .int p1] [(o0, .inr (3, [.int o_wares, .ref o1, .ref o2, .int o_known, .int o_fewest, .int o_apart, .ref o3, .ref o4])), (o2, .inl (cyI, 12, .inl o_kin)), (o3, .inl (cyI, 12, .inl o_row)), (o4, .inl (cyI, 12, .inl o_members))] (fun u => some (.int (u.2.1 0))) (fun u => (0 ≤ (u.2.1 0).toInt ∧ (u.2.1 0).toInt ≤ 1)) (fun u => [(o0, .inr (3, [.int o_wares, .ref o1, .ref o2, .int o_known, .int o_fewest, .int o_apart, .ref o3, .ref o4])), (o2, .inl (cyI, 12, .inl o_kin)), (o3, .inl (cyI, 12, .inl (u.2.2.1 0))), (o4, .inl (cyI, 12, .inl (u.2.2.1 1)))])
set_option maxHeartbeats 4000000 in
set_option maxRecDepth 100000 in
theorem c_X3_give_s (l : Launch) (D : DG) (cyC cyI cyJ cyZ cyO : ClassId) (o0 : Nat) (o2 : Nat) (o3 : Nat) (o4 : Nat) (o1 : Nat) (p0 : Int32) (p1 : Int32) (o_wares : Int32) (o_known : Int32) (o_fewest : Int32) (o_apart : Int32) (o_kin : Nat → Int32) (o_row : Nat → Int32) (o_members : Nat → Int32) (n9 : Nat) (h_o_wares : 0 ≤ (o_wares).toInt ∧ (o_wares).toInt ≤ 12) (h_o_known : 0 ≤ (o_known).toInt ∧ (o_known).toInt ≤ 1) (h_p1 : 0 ≤ (p1).toInt ∧ (p1).toInt ≤ 12) (hu9 : (p1).toInt ≤ (p0).toInt) (hdp9 : (p0).toInt = 12 - (((n9 + 1) : Nat) : Int)) (h9 : n9 < 12) (hA9 : S_c_X3_give n9) : KK l D (TY cyC cyI cyJ cyZ cyO) yX3_give cX3_give 4 (some .boolean) ({ frames := 0 + 1 * (n9 + 1), cells := 0, slots := 0, locals := 0 + 23 * (n9 + 1) } : Room) 0 0 [.ref o0, .int p0, .int p1] [(o0, .inr (3, [.int o_wares, .ref o1, .ref o2, .int o_known, .int o_fewest, .int o_apart, .ref o3, .ref o4])), (o2, .inl (cyI, 12, .inl o_kin)), (o3, .inl (cyI, 12, .inl o_row)), (o4, .inl (cyI, 12, .inl o_members))] (fun u => some (.int (u.2.1 0))) (fun u => (0 ≤ (u.2.1 0).toInt ∧ (u.2.1 0).toInt ≤ 1)) (fun u => [(o0, .inr (3, [.int o_wares, .ref o1, .ref o2, .int o_known, .int o_fewest, .int o_apart, .ref o3, .ref o4])), (o2, .inl (cyI, 12, .inl o_kin)), (o3, .inl (cyI, 12, .inl (u.2.2.1 0))), (o4, .inl (cyI, 12, .inl (u.2.2.1 1)))]) := by
  refine KK.of (lv0 := [(0, .ref o0), (1, .int p0), (2, .int p1)]) (by decide) rfl (Nat.le_of_ble_eq_true rfl) ?_
  intro p e s m args below meth c A C hr hk hin
  refine j_iload_n (pc := 0) C dX3_give_0 rfl 1 rfl ?_
  refine j_aload_n (pc := 1) C dX3_give_1 rfl 0 rfl ?_
  refine j_get (pc := 2) (ci := 3) (v := .int o_wares) C inw_3 0 rfl rfl 0 (by decide) wd_76 rfl rfl dX3_give_2 ?_
  refine j_icmp_lt (pc := 5) (tgt := 10) C dX3_give_5 (by decide) (fun c_1 => ?_) (fun c_1 => ?_)
  · skip
    rw [i_lt] at c_1
    refine j_iconst (pc := 10) (v := 0) C dX3_give_10 (by decide) ?_
    refine j_istore_n (pc := 11) (lv' := [(3, .int 0), (0, .ref o0), (1, .int p0), (2, .int p1)]) C dX3_give_11 rfl (by decide) rfl ?_
    have loop_2 : ∀ (k_2 : Nat) (x2_3 : Int32) (g2_o3 : Nat → Int32) (g2_o4 : Nat → Int32), (0 ≤ (x2_3).toInt ∧ (x2_3).toInt ≤ 12) → (20 - x2_3.toInt).toNat < k_2 → J p l e ({ frames := 0 + 1 * (n9 + 1), cells := 0, slots := 0, locals := 0 + 23 * (n9 + 1) } : Room) s m args below meth c D A 4 0 0 (QX below D (TY cyC cyI cyJ cyZ cyO) A (fun u => some (.int (u.2.1 0))) (fun u => (0 ≤ (u.2.1 0).toInt ∧ (u.2.1 0).toInt ≤ 1)) (fun u => [(o0, .inr (3, [.int o_wares, .ref o1, .ref o2, .int o_known, .int o_fewest, .int o_apart, .ref o3, .ref o4])), (o2, .inl (cyI, 12, .inl o_kin)), (o3, .inl (cyI, 12, .inl (u.2.2.1 0))), (o4, .inl (cyI, 12, .inl (u.2.2.1 1)))]) args s 0 0) [(o0, .inr (3, [.int o_wares, .ref o1, .ref o2, .int o_known, .int o_fewest, .int o_apart, .ref o3, .ref o4])), (o2, .inl (cyI, 12, .inl o_kin)), (o3, .inl (cyI, 12, .inl g2_o3)), (o4, .inl (cyI, 12, .inl g2_o4))] 12 [(3, .int x2_3), (0, .ref o0), (1, .int p0), (2, .int p1)] [] := by
      intro k_2
      induction k_2 with
      | zero =>
        intro x2_3 g2_o3 g2_o4 hi_2_0 hm_2
        exact absurd hm_2 (Nat.not_lt_zero _)
      | succ k_2 ih_2 =>
        intro x2_3 g2_o3 g2_o4 hi_2_0 hm_2
        refine j_iload_n (pc := 12) C dX3_give_12 rfl 0 rfl ?_
        refine j_iload_n (pc := 13) C dX3_give_13 rfl 3 rfl ?_
        refine j_icmp_gt (pc := 14) (tgt := 99) C dX3_give_14 (by decide) (fun c_3 => ?_) (fun c_3 => ?_)
        · skip
          rw [i_lt] at c_3
          refine j_iconst (pc := 99) (v := 0) C dX3_give_99 (by decide) ?_
          have el_0 : (0 : Int32).toInt = 0 := rfl
          exact j_zret (pc := 100) C hr rfl hk (fun i => [].getD i 0, fun i => [0].getD i 0, fun i => [g2_o3, g2_o4].getD i (fun _ => 0), fun i => [].getD i (fun _ => 0)) rfl (show (0 ≤ ((0 : Int32)).toInt ∧ ((0 : Int32)).toInt ≤ 1) from (by omega)) [0, 1, 2, 3] (by decide) rfl (by decide) (by decide) dX3_give_100
        · skip
          rw [i_lt] at c_3
          refine j_iload_n (pc := 17) C dX3_give_17 rfl 0 rfl ?_
          refine j_aload_n (pc := 18) C dX3_give_18 rfl 1 rfl ?_
          refine j_get (pc := 19) (ci := 3) (v := .int o_fewest) C inw_3 0 rfl rfl 4 (by decide) wd_82 rfl rfl dX3_give_19 ?_
          refine j_icmp_ge (pc := 22) (tgt := 99) C dX3_give_22 (by decide) (fun c_4 => ?_) (fun c_4 => ?_)
          · skip
            rw [i_le] at c_4
            refine j_iconst (pc := 99) (v := 0) C dX3_give_99 (by decide) ?_
            have el_0 : (0 : Int32).toInt = 0 := rfl
            exact j_zret (pc := 100) C hr rfl hk (fun i => [].getD i 0, fun i => [0].getD i 0, fun i => [g2_o3, g2_o4].getD i (fun _ => 0), fun i => [].getD i (fun _ => 0)) rfl (show (0 ≤ ((0 : Int32)).toInt ∧ ((0 : Int32)).toInt ≤ 1) from (by omega)) [0, 1, 2, 3] (by decide) rfl (by decide) (by decide) dX3_give_100
          · skip
            rw [i_le] at c_4
            refine j_aload_n (pc := 25) C dX3_give_25 rfl 1 rfl ?_
            refine j_get (pc := 26) (ci := 3) (v := .ref o4) C inw_3 0 rfl rfl 7 (by decide) wd_93 rfl rfl dX3_give_26 ?_
            refine j_iload_n (pc := 29) C dX3_give_29 rfl 0 rfl ?_
            obtain ⟨v_5, ev_5⟩ : ∃ z, g2_o4 (x2_3).toInt.toNat = z := ⟨_, rfl⟩
            have env_5 : (g2_o4 (x2_3).toInt.toNat).toInt = v_5.toInt := by rw [ev_5]
            refine j_iald (pc := 30) (v := v_5) (k := (x2_3).toInt.toNat) C 3 1 rfl rfl (i_nn hi_2_0.1) rfl (i_lt_n hi_2_0.1 (by omega)) ev_5 dX3_give_30 ?_
            refine j_aload_n (pc := 31) C dX3_give_31 rfl 1 rfl ?_
            refine j_get (pc := 32) (ci := 3) (v := .ref o2) C inw_3 0 rfl rfl 2 (by decide) wd_81 rfl rfl dX3_give_32 ?_
            refine j_iload_n (pc := 35) C dX3_give_35 rfl 2 rfl ?_
            obtain ⟨v_6, ev_6⟩ : ∃ z, o_kin (p0).toInt.toNat = z := ⟨_, rfl⟩
            have env_6 : (o_kin (p0).toInt.toNat).toInt = v_6.toInt := by rw [ev_6]
            refine j_iald (pc := 36) (v := v_6) (k := (p0).toInt.toNat) C 1 1 rfl rfl (i_nn (by omega)) rfl (i_lt_n (by omega) (by omega)) ev_6 dX3_give_36 ?_
            refine j_iconst (pc := 37) (v := (-1)) C dX3_give_37 (by decide) ?_
            obtain ⟨v_7, ev_7⟩ : ∃ z : Int32, v_6 ^^^ (-1) = z := ⟨_, rfl⟩
            have el_m1 : ((-1) : Int32).toInt = (-1) := rfl
            refine j_ixor (pc := 38) (v := v_7) C dX3_give_38 ev_7 ?_
            obtain ⟨v_8, ev_8⟩ : ∃ z : Int32, v_5 &&& v_7 = z := ⟨_, rfl⟩
            refine j_iand (pc := 39) (v := v_8) C dX3_give_39 ev_8 ?_
            refine j_if_ne (pc := 40) (tgt := 93) C dX3_give_40 (by decide) (fun c_9 => ?_) (fun c_9 => ?_)
            · skip
              have el_0 : (0 : Int32).toInt = 0 := rfl
              rw [i_eq] at c_9
              obtain ⟨v_10, ev_10⟩ : ∃ z : Int32, x2_3 + 1 = z := ⟨_, rfl⟩
              have el_1 : (1 : Int32).toInt = 1 := rfl
              have hv_10 : v_10.toInt = x2_3.toInt + (1 : Int32).toInt := by rw [← ev_10]; exact fb_addI (by omega) (by omega)
              refine j_iinc (pc := 93) (v := v_10) (lv' := [(3, .int v_10), (0, .ref o0), (1, .int p0), (2, .int p1)]) C dX3_give_93 0 rfl ev_10 (by decide) rfl ?_
              refine j_goto (pc := 96) (tgt := 12) C dX3_give_96 (by decide) ?_
              exact j_lv [0, 1, 2, 3] rfl (ih_2 v_10 g2_o3 g2_o4 (by omega) (by omega))
            · skip
              have el_0 : (0 : Int32).toInt = 0 := rfl
              rw [i_eq] at c_9
              refine j_aload_n (pc := 43) C dX3_give_43 rfl 1 rfl ?_
              refine j_get (pc := 44) (ci := 3) (v := .ref o4) C inw_3 0 rfl rfl 7 (by decide) wd_93 rfl rfl dX3_give_44 ?_
              refine j_iload_n (pc := 47) C dX3_give_47 rfl 0 rfl ?_
              refine j_dup2 (pc := 48) C dX3_give_48 rfl rfl ?_
              refine j_iald (pc := 49) (v := v_5) (k := (x2_3).toInt.toNat) C 3 1 rfl rfl (i_nn hi_2_0.1) rfl (i_lt_n hi_2_0.1 (by omega)) ev_5 dX3_give_49 ?_
              refine j_iconst (pc := 50) (v := 1) C dX3_give_50 (by decide) ?_
              refine j_iload_n (pc := 51) C dX3_give_51 rfl 2 rfl ?_
              obtain ⟨v_11, ev_11⟩ : ∃ z : Int32, 1 <<< (p0 &&& 31) = z := ⟨_, rfl⟩
              have el_1 : (1 : Int32).toInt = 1 := rfl
              have hv_11 : 1 ≤ v_11.toInt ∧ v_11.toInt ≤ 2048 := by rw [← ev_11]; exact shl1_iv 0 11 (by omega) (by omega) (by omega)
              refine j_ishl (pc := 52) (v := v_11) C dX3_give_52 ev_11 ?_
              obtain ⟨v_12, ev_12⟩ : ∃ z : Int32, v_5 ||| v_11 = z := ⟨_, rfl⟩
              refine j_ior (pc := 53) (v := v_12) C dX3_give_53 ev_12 ?_
              obtain ⟨f_13, ef_13⟩ : ∃ z, z = upd g2_o4 (x2_3).toInt.toNat v_12 := ⟨_, rfl⟩
              refine j_iast (pc := 54) (k := (x2_3).toInt.toNat) (ws' := [(o0, .inr (3, [.int o_wares, .ref o1, .ref o2, .int o_known, .int o_fewest, .int o_apart, .ref o3, .ref o4])), (o2, .inl (cyI, 12, .inl o_kin)), (o3, .inl (cyI, 12, .inl g2_o3)), (o4, .inl (cyI, 12, .inl f_13))]) C 3 1 rfl rfl (i_nn hi_2_0.1) rfl (i_lt_n hi_2_0.1 (by omega)) dX3_give_54 (by rw [ef_13]; rfl) ?_
              refine j_aload_n (pc := 55) C dX3_give_55 rfl 1 rfl ?_
              refine j_get (pc := 56) (ci := 3) (v := .ref o3) C inw_3 0 rfl rfl 6 (by decide) wd_94 rfl rfl dX3_give_56 ?_
              refine j_iload_n (pc := 59) C dX3_give_59 rfl 2 rfl ?_
              refine j_iload_n (pc := 60) C dX3_give_60 rfl 0 rfl ?_
              obtain ⟨f_14, ef_14⟩ : ∃ z, z = upd g2_o3 (p0).toInt.toNat x2_3 := ⟨_, rfl⟩
              refine j_iast (pc := 61) (k := (p0).toInt.toNat) (ws' := [(o0, .inr (3, [.int o_wares, .ref o1, .ref o2, .int o_known, .int o_fewest, .int o_apart, .ref o3, .ref o4])), (o2, .inl (cyI, 12, .inl o_kin)), (o3, .inl (cyI, 12, .inl f_14)), (o4, .inl (cyI, 12, .inl f_13))]) C 2 1 rfl rfl (i_nn (by omega)) rfl (i_lt_n (by omega) (by omega)) dX3_give_61 (by rw [ef_14]; rfl) ?_
              refine j_aload_n (pc := 62) C dX3_give_62 rfl 1 rfl ?_
              refine j_iload_n (pc := 63) C dX3_give_63 rfl 2 rfl ?_
              refine j_iconst (pc := 64) (v := 1) C dX3_give_64 (by decide) ?_
              obtain ⟨v_15, ev_15⟩ : ∃ z : Int32, p0 + 1 = z := ⟨_, rfl⟩
              have el_1 : (1 : Int32).toInt = 1 := rfl
              have hv_15 : v_15.toInt = p0.toInt + (1 : Int32).toInt := by rw [← ev_15]; exact fb_addI (by omega) (by omega)
              refine j_iadd (pc := 65) (v := v_15) C dX3_give_65 ev_15 ?_
              refine j_iload_n (pc := 66) C dX3_give_66 rfl 3 rfl ?_
              refine j_iload_n (pc := 67) C dX3_give_67 rfl 0 rfl ?_
              refine j_iconst (pc := 68) (v := 1) C dX3_give_68 (by decide) ?_
              obtain ⟨v_16, ev_16⟩ : ∃ z : Int32, x2_3 + 1 = z := ⟨_, rfl⟩
              have el_1 : (1 : Int32).toInt = 1 := rfl
              have hv_16 : v_16.toInt = x2_3.toInt + (1 : Int32).toInt := by rw [← ev_16]; exact fb_addI (by omega) (by omega)
              refine j_iadd (pc := 69) (v := v_16) C dX3_give_69 ev_16 ?_
              obtain ⟨v_17, ev_17⟩ : ∃ z : Int32, (if (p1 : Int32) < v_16 then v_16 else p1) = z := ⟨_, rfl⟩
              have hv_17 : v_17.toInt = max p1.toInt v_16.toInt := by rw [← ev_17]; exact mmax_I _ _
              refine j_mmax (pc := 70) (v := v_17) C wd_95 wd_5 wd_6 wd_7 (by show 1 ≤ (0 + 1 * (n9 + 1) : Nat); omega) (by show 15 ≤ (0 + 23 * (n9 + 1) : Nat); omega) (Nat.le_of_ble_eq_true rfl) (Nat.le_of_ble_eq_true rfl) ev_17 dX3_give_70 ?_
              refine j_callV (pc := 73) (As := [.int v_15, .int v_17]) (rest := []) (wr := []) C (hA9 l D cyC cyI cyJ cyZ cyO o0 o2 o3 o4 o1 v_15 v_17 o_wares o_known o_fewest o_apart o_kin f_14 f_13 h_o_wares h_o_known (by omega) (by omega) (by omega)) wd_96 wd_89 wd_97 wd_98 wd_99 ⟨by decide, by decide, rfl⟩ rfl ⟨rfl, rfl, (by show (0 + 1 * n9 : Nat) + 1 ≤ 0 + 1 * (n9 + 1); omega), (by show 8 + (4 + 11) + (0 + 23 * n9 : Nat) ≤ 0 + 23 * (n9 + 1); omega)⟩ ⟨Nat.le_of_ble_eq_true rfl, Nat.le_of_ble_eq_true rfl⟩ [0, 1, 2, 3] [] rfl rfl ⟨by decide, by decide, by decide⟩ 0 rfl rfl rfl (Nat.le_of_ble_eq_true rfl) dX3_give_73 (fun u_18 hw_19 => ?_)
              refine j_eq (ws2 := [(o0, .inr (3, [.int o_wares, .ref o1, .ref o2, .int o_known, .int o_fewest, .int o_apart, .ref o3, .ref o4])), (o2, .inl (cyI, 12, .inl o_kin)), (o3, .inl (cyI, 12, .inl (u_18.2.2.1 0))), (o4, .inl (cyI, 12, .inl (u_18.2.2.1 1)))]) (pc2 := 76) (lv2 := [(3, .int x2_3), (0, .ref o0), (1, .int p0), (2, .int p1)]) (st2 := [.int (u_18.2.1 0)]) rfl rfl rfl rfl ?_
              have hw_19_0 : 0 ≤ (u_18.2.1 0).toInt ∧ (u_18.2.1 0).toInt ≤ 1 := hw_19
              refine j_if_eq (pc := 76) (tgt := 81) C dX3_give_76 (by decide) (fun c_20 => ?_) (fun c_20 => ?_)
              · skip
                have el_0 : (0 : Int32).toInt = 0 := rfl
                rw [i_eq] at c_20
                refine j_aload_n (pc := 81) C dX3_give_81 rfl 1 rfl ?_
                refine j_get (pc := 82) (ci := 3) (v := .ref o4) C inw_3 0 rfl rfl 7 (by decide) wd_93 rfl rfl dX3_give_82 ?_
                refine j_iload_n (pc := 85) C dX3_give_85 rfl 0 rfl ?_
                refine j_dup2 (pc := 86) C dX3_give_86 rfl rfl ?_
                obtain ⟨v_21, ev_21⟩ : ∃ z, (u_18.2.2.1 1) (x2_3).toInt.toNat = z := ⟨_, rfl⟩
                have env_21 : ((u_18.2.2.1 1) (x2_3).toInt.toNat).toInt = v_21.toInt := by rw [ev_21]
                refine j_iald (pc := 87) (v := v_21) (k := (x2_3).toInt.toNat) C 3 1 rfl rfl (i_nn hi_2_0.1) rfl (i_lt_n hi_2_0.1 (by omega)) ev_21 dX3_give_87 ?_
                refine j_iconst (pc := 88) (v := 1) C dX3_give_88 (by decide) ?_
                refine j_iload_n (pc := 89) C dX3_give_89 rfl 2 rfl ?_
                obtain ⟨v_22, ev_22⟩ : ∃ z : Int32, 1 <<< (p0 &&& 31) = z := ⟨_, rfl⟩
                have el_1 : (1 : Int32).toInt = 1 := rfl
                have hv_22 : 1 ≤ v_22.toInt ∧ v_22.toInt ≤ 2048 := by rw [← ev_22]; exact shl1_iv 0 11 (by omega) (by omega) (by omega)
                refine j_ishl (pc := 90) (v := v_22) C dX3_give_90 ev_22 ?_
                obtain ⟨v_23, ev_23⟩ : ∃ z : Int32, v_21 ^^^ v_22 = z := ⟨_, rfl⟩
                refine j_ixor (pc := 91) (v := v_23) C dX3_give_91 ev_23 ?_
                obtain ⟨f_24, ef_24⟩ : ∃ z, z = upd (u_18.2.2.1 1) (x2_3).toInt.toNat v_23 := ⟨_, rfl⟩
                refine j_iast (pc := 92) (k := (x2_3).toInt.toNat) (ws' := [(o0, .inr (3, [.int o_wares, .ref o1, .ref o2, .int o_known, .int o_fewest, .int o_apart, .ref o3, .ref o4])), (o2, .inl (cyI, 12, .inl o_kin)), (o3, .inl (cyI, 12, .inl (u_18.2.2.1 0))), (o4, .inl (cyI, 12, .inl f_24))]) C 3 1 rfl rfl (i_nn hi_2_0.1) rfl (i_lt_n hi_2_0.1 (by omega)) dX3_give_92 (by rw [ef_24]; rfl) ?_
                obtain ⟨v_25, ev_25⟩ : ∃ z : Int32, x2_3 + 1 = z := ⟨_, rfl⟩
                have el_1 : (1 : Int32).toInt = 1 := rfl
                have hv_25 : v_25.toInt = x2_3.toInt + (1 : Int32).toInt := by rw [← ev_25]; exact fb_addI (by omega) (by omega)
                refine j_iinc (pc := 93) (v := v_25) (lv' := [(3, .int v_25), (0, .ref o0), (1, .int p0), (2, .int p1)]) C dX3_give_93 0 rfl ev_25 (by decide) rfl ?_
                refine j_goto (pc := 96) (tgt := 12) C dX3_give_96 (by decide) ?_
                exact j_lv [0, 1, 2, 3] rfl (ih_2 v_25 (u_18.2.2.1 0) f_24 (by omega) (by omega))
              · skip
                have el_0 : (0 : Int32).toInt = 0 := rfl
                rw [i_eq] at c_20
                have k0c_20 : ((u_18.2.1 0)).toInt = 1 := by omega
                refine j_iconst (pc := 79) (v := 1) C dX3_give_79 (by decide) ?_
                have el_1 : (1 : Int32).toInt = 1 := rfl
                exact j_zret (pc := 80) C hr rfl hk (fun i => [].getD i 0, fun i => [1].getD i 0, fun i => [(u_18.2.2.1 0), (u_18.2.2.1 1)].getD i (fun _ => 0), fun i => [].getD i (fun _ => 0)) rfl (show (0 ≤ ((1 : Int32)).toInt ∧ ((1 : Int32)).toInt ≤ 1) from (by omega)) [0, 1, 2, 3] (by decide) rfl (by decide) (by decide) dX3_give_80
    have el_0 : (0 : Int32).toInt = 0 := rfl
    exact j_lv [0, 1, 2, 3] rfl (loop_2 4096 0 o_row o_members (by decide) (by omega))
  · skip
    rw [i_lt] at c_1
    refine j_iconst (pc := 8) (v := 1) C dX3_give_8 (by decide) ?_
    have el_1 : (1 : Int32).toInt = 1 := rfl
    exact j_zret (pc := 9) C hr rfl hk (fun i => [].getD i 0, fun i => [1].getD i 0, fun i => [o_row, o_members].getD i (fun _ => 0), fun i => [].getD i (fun _ => 0)) rfl (show (0 ≤ ((1 : Int32)).toInt ∧ ((1 : Int32)).toInt ≤ 1) from (by omega)) [0, 1, 2, 3] (by decide) rfl (by decide) (by decide) dX3_give_9
set_option maxHeartbeats 4000000 in
set_option maxRecDepth 100000 in
theorem S_fam_c_X3_give : ∀ n9 : Nat, n9 ≤ 12 → S_c_X3_give n9 := by
  intro n9
  induction n9 with
  | zero => exact fun _ => c_X3_give_z
  | succ n9 ih =>
    intro h
    have i := ih (by omega)
    exact (fun l D cyC cyI cyJ cyZ cyO o0 o2 o3 o4 o1 p0 p1 o_wares o_known o_fewest o_apart o_kin o_row o_members h_o_wares h_o_known h_p1 hu9 hdp9 => c_X3_give_s l D cyC cyI cyJ cyZ cyO o0 o2 o3 o4 o1 p0 p1 o_wares o_known o_fewest o_apart o_kin o_row o_members n9 h_o_wares h_o_known h_p1 hu9 hdp9 (by omega) i)
set_option maxHeartbeats 4000000 in
set_option maxRecDepth 100000 in
theorem c_X3_give_0 (l : Launch) (D : DG) (cyC cyI cyJ cyZ cyO : ClassId) (o0 : Nat) (o2 : Nat) (o3 : Nat) (o4 : Nat) (o1 : Nat) (p0 : Int32) (p1 : Int32) (o_wares : Int32) (o_known : Int32) (o_fewest : Int32) (o_apart : Int32) (o_kin : Nat → Int32) (o_row : Nat → Int32) (o_members : Nat → Int32) (h_o_wares : 0 ≤ (o_wares).toInt ∧ (o_wares).toInt ≤ 12) (h_o_known : 0 ≤ (o_known).toInt ∧ (o_known).toInt ≤ 1) (h_p1 : 0 ≤ (p1).toInt ∧ (p1).toInt ≤ 12) (hu9 : (p1).toInt ≤ (p0).toInt) (hdp9 : (p0).toInt = 12 - ((12 : Nat) : Int)) : KK l D (TY cyC cyI cyJ cyZ cyO) yX3_give cX3_give 4 (some .boolean) ({ frames := 12, cells := 0, slots := 0, locals := 276 } : Room) 0 0 [.ref o0, .int p0, .int p1] [(o0, .inr (3, [.int o_wares, .ref o1, .ref o2, .int o_known, .int o_fewest, .int o_apart, .ref o3, .ref o4])), (o2, .inl (cyI, 12, .inl o_kin)), (o3, .inl (cyI, 12, .inl o_row)), (o4, .inl (cyI, 12, .inl o_members))] (fun u => some (.int (u.2.1 0))) (fun u => (0 ≤ (u.2.1 0).toInt ∧ (u.2.1 0).toInt ≤ 1)) (fun u => [(o0, .inr (3, [.int o_wares, .ref o1, .ref o2, .int o_known, .int o_fewest, .int o_apart, .ref o3, .ref o4])), (o2, .inl (cyI, 12, .inl o_kin)), (o3, .inl (cyI, 12, .inl (u.2.2.1 0))), (o4, .inl (cyI, 12, .inl (u.2.2.1 1)))]) := (S_fam_c_X3_give 12 (Nat.le_refl _)) l D cyC cyI cyJ cyZ cyO o0 o2 o3 o4 o1 p0 p1 o_wares o_known o_fewest o_apart o_kin o_row o_members h_o_wares h_o_known h_p1 hu9 hdp9
set_option maxHeartbeats 4000000 in
set_option maxRecDepth 100000 in
theorem c_X3_settle (l : Launch) (D : DG) (cyC cyI cyJ cyZ cyO : ClassId) (o0 : Nat) (o1 : Nat) (o2 : Nat) (o3 : Nat) (o4 : Nat) (o_wares : Int32) (o_known : Int32) (o_fewest : Int32) (o_apart : Int32) (o_above : Nat → Int32) (o_kin : Nat → Int32) (o_row : Nat → Int32) (o_members : Nat → Int32) (h_o_wares : 0 ≤ (o_wares).toInt ∧ (o_wares).toInt ≤ 12) (h_o_known : 0 ≤ (o_known).toInt ∧ (o_known).toInt ≤ 1) : KK l D (TY cyC cyI cyJ cyZ cyO) yX3_settle cX3_settle 1 none ({ frames := 13, cells := 0, slots := 0, locals := 299 } : Room) 0 0 [.ref o0] [(o0, .inr (3, [.int o_wares, .ref o1, .ref o2, .int o_known, .int o_fewest, .int o_apart, .ref o3, .ref o4])), (o1, .inl (cyI, 12, .inl o_above)), (o2, .inl (cyI, 12, .inl o_kin)), (o3, .inl (cyI, 12, .inl o_row)), (o4, .inl (cyI, 12, .inl o_members))] (fun u => none) (fun u => (0 ≤ (u.2.1 0).toInt ∧ (u.2.1 0).toInt ≤ 1)) (fun u => [(o0, .inr (3, [.int o_wares, .ref o1, .ref o2, .int (u.2.1 0), .int (u.2.1 1), .int (u.2.1 2), .ref o3, .ref o4])), (o1, .inl (cyI, 12, .inl o_above)), (o2, .inl (cyI, 12, .inl (u.2.2.1 0))), (o3, .inl (cyI, 12, .inl (u.2.2.1 1))), (o4, .inl (cyI, 12, .inl (u.2.2.1 2)))]) := by
  refine KK.of (lv0 := [(0, .ref o0)]) (by decide) rfl (Nat.le_of_ble_eq_true rfl) ?_
  intro p e s m args below meth c A C hr hk hin
  refine j_aload_n (pc := 0) C dX3_settle_0 rfl 0 rfl ?_
  refine j_get (pc := 1) (ci := 3) (v := .int o_known) C inw_3 0 rfl rfl 3 (by decide) wd_77 rfl rfl dX3_settle_1 ?_
  refine j_if_eq (pc := 4) (tgt := 8) C dX3_settle_4 (by decide) (fun c_1 => ?_) (fun c_1 => ?_)
  · skip
    have el_0 : (0 : Int32).toInt = 0 := rfl
    rw [i_eq] at c_1
    refine j_aload_n (pc := 8) C dX3_settle_8 rfl 0 rfl ?_
    refine j_iconst (pc := 9) (v := 1) C dX3_settle_9 (by decide) ?_
    refine j_put (pc := 10) (ci := 3) (v := .int 1) (ws' := [(o0, .inr (3, [.int o_wares, .ref o1, .ref o2, .int 1, .int o_fewest, .int o_apart, .ref o3, .ref o4])), (o1, .inl (cyI, 12, .inl o_above)), (o2, .inl (cyI, 12, .inl o_kin)), (o3, .inl (cyI, 12, .inl o_row)), (o4, .inl (cyI, 12, .inl o_members))]) C inw_3 0 rfl rfl 3 (by decide) wd_77 rfl tyX3_ok nmX3 rfl (tyX3_ok 3 (by decide)) rfl rfl (Nat.le_of_ble_eq_true rfl) dX3_settle_10 rfl ?_
    refine j_aload_n (pc := 13) C dX3_settle_13 rfl 0 rfl ?_
    refine j_callV (pc := 14) (As := []) (rest := []) (wr := [(o3, .inl (cyI, 12, .inl o_row)), (o4, .inl (cyI, 12, .inl o_members))]) C (c_X3_findKin l D cyC cyI cyJ cyZ cyO o0 o1 o2 o3 o4 o_wares 1 o_fewest o_apart o_above o_kin h_o_wares (by decide)) wd_100 wd_89 wd_101 wd_102 wd_103 ⟨by decide, by decide, rfl⟩ rfl ⟨rfl, rfl, by decide, by decide⟩ ⟨by decide, by decide⟩ [0, 1, 2] [3, 4] rfl rfl ⟨by decide, by decide, by decide⟩ 0 rfl rfl rfl (Nat.le_of_ble_eq_true rfl) dX3_settle_14 (fun u_2 hw_3 => ?_)
    refine j_eq (ws2 := [(o3, .inl (cyI, 12, .inl o_row)), (o4, .inl (cyI, 12, .inl o_members)), (o0, .inr (3, [.int o_wares, .ref o1, .ref o2, .int 1, .int o_fewest, .int o_apart, .ref o3, .ref o4])), (o1, .inl (cyI, 12, .inl o_above)), (o2, .inl (cyI, 12, .inl (u_2.2.2.1 0)))]) (pc2 := 17) (lv2 := [(0, .ref o0)]) (st2 := []) rfl rfl rfl rfl ?_
    refine j_aload_n (pc := 17) C dX3_settle_17 rfl 0 rfl ?_
    refine j_callV (pc := 18) (As := []) (rest := []) (wr := [(o3, .inl (cyI, 12, .inl o_row)), (o4, .inl (cyI, 12, .inl o_members)), (o1, .inl (cyI, 12, .inl o_above))]) C (c_X3_findApart l D cyC cyI cyJ cyZ cyO o0 o2 o1 o3 o4 o_wares 1 o_fewest o_apart (u_2.2.2.1 0) h_o_wares (by decide)) wd_104 wd_89 wd_105 wd_106 wd_107 ⟨by decide, by decide, rfl⟩ rfl ⟨rfl, rfl, by decide, by decide⟩ ⟨by decide, by decide⟩ [2, 4] [0, 1, 3] rfl rfl ⟨by decide, by decide, by decide⟩ 2 rfl rfl rfl (Nat.le_of_ble_eq_true rfl) dX3_settle_18 (fun u_4 hw_5 => ?_)
    refine j_eq (ws2 := [(o3, .inl (cyI, 12, .inl o_row)), (o4, .inl (cyI, 12, .inl o_members)), (o1, .inl (cyI, 12, .inl o_above)), (o0, .inr (3, [.int o_wares, .ref o1, .ref o2, .int 1, .int (u_4.2.1 0), .int (u_4.2.1 1), .ref o3, .ref o4])), (o2, .inl (cyI, 12, .inl (u_2.2.2.1 0)))]) (pc2 := 21) (lv2 := [(0, .ref o0)]) (st2 := []) rfl rfl rfl rfl ?_
    refine j_aload_n (pc := 21) C dX3_settle_21 rfl 0 rfl ?_
    refine j_get (pc := 22) (ci := 3) (v := .ref o4) C inw_3 3 rfl rfl 7 (by decide) wd_93 rfl rfl dX3_settle_22 ?_
    refine j_iconst (pc := 25) (v := 0) C dX3_settle_25 (by decide) ?_
    refine j_callS (pc := 26) (As := [.ref o4, .int 0]) (rest := []) (wr := [(o3, .inl (cyI, 12, .inl o_row)), (o1, .inl (cyI, 12, .inl o_above)), (o0, .inr (3, [.int o_wares, .ref o1, .ref o2, .int 1, .int (u_4.2.1 0), .int (u_4.2.1 1), .ref o3, .ref o4])), (o2, .inl (cyI, 12, .inl (u_2.2.2.1 0)))]) C (c_fill l D cyC cyI cyJ cyZ cyO o4 0 o_members) wd_50 wd_51 wd_108 wd_53 ⟨by decide, by decide, rfl⟩ rfl ⟨rfl, rfl, by decide, by decide⟩ ⟨by decide, by decide⟩ [1] [0, 2, 3, 4] rfl rfl ⟨by decide, by decide, by decide⟩ rfl (Nat.le_of_ble_eq_true rfl) dX3_settle_26 (fun u_6 hw_7 => ?_)
    refine j_eq (ws2 := [(o3, .inl (cyI, 12, .inl o_row)), (o1, .inl (cyI, 12, .inl o_above)), (o0, .inr (3, [.int o_wares, .ref o1, .ref o2, .int 1, .int (u_4.2.1 0), .int (u_4.2.1 1), .ref o3, .ref o4])), (o2, .inl (cyI, 12, .inl (u_2.2.2.1 0))), (o4, .inl (cyI, 12, .inl (fun _ => 0)))]) (pc2 := 29) (lv2 := [(0, .ref o0)]) (st2 := []) rfl rfl rfl rfl ?_
    refine j_aload_n (pc := 29) C dX3_settle_29 rfl 0 rfl ?_
    refine j_iconst (pc := 30) (v := 0) C dX3_settle_30 (by decide) ?_
    refine j_iconst (pc := 31) (v := 0) C dX3_settle_31 (by decide) ?_
    refine j_callV (pc := 32) (As := [.int 0, .int 0]) (rest := []) (wr := [(o1, .inl (cyI, 12, .inl o_above))]) C (c_X3_give_0 l D cyC cyI cyJ cyZ cyO o0 o2 o3 o4 o1 0 0 o_wares 1 (u_4.2.1 0) (u_4.2.1 1) (u_2.2.2.1 0) o_row (fun _ => 0) h_o_wares (by decide) (by decide) (by omega) (by decide)) wd_96 wd_89 wd_97 wd_98 wd_99 ⟨by decide, by decide, rfl⟩ rfl ⟨rfl, rfl, by decide, by decide⟩ ⟨by decide, by decide⟩ [2, 3, 0, 4] [1] rfl rfl ⟨by decide, by decide, by decide⟩ 2 rfl rfl rfl (Nat.le_of_ble_eq_true rfl) dX3_settle_32 (fun u_8 hw_9 => ?_)
    refine j_eq (ws2 := [(o1, .inl (cyI, 12, .inl o_above)), (o0, .inr (3, [.int o_wares, .ref o1, .ref o2, .int 1, .int (u_4.2.1 0), .int (u_4.2.1 1), .ref o3, .ref o4])), (o2, .inl (cyI, 12, .inl (u_2.2.2.1 0))), (o3, .inl (cyI, 12, .inl (u_8.2.2.1 0))), (o4, .inl (cyI, 12, .inl (u_8.2.2.1 1)))]) (pc2 := 35) (lv2 := [(0, .ref o0)]) (st2 := [.int (u_8.2.1 0)]) rfl rfl rfl rfl ?_
    have hw_9_0 : 0 ≤ (u_8.2.1 0).toInt ∧ (u_8.2.1 0).toInt ≤ 1 := hw_9
    refine j_pop (pc := 35) C dX3_settle_35 rfl ?_
    have el_1 : (1 : Int32).toInt = 1 := rfl
    exact j_vret (pc := 36) C hr hk (fun i => [].getD i 0, fun i => [1, (u_4.2.1 0), (u_4.2.1 1)].getD i 0, fun i => [(u_2.2.2.1 0), (u_8.2.2.1 0), (u_8.2.2.1 1)].getD i (fun _ => 0), fun i => [].getD i (fun _ => 0)) rfl (show (0 ≤ ((1 : Int32)).toInt ∧ ((1 : Int32)).toInt ≤ 1) from (by omega)) [1, 0, 2, 3, 4] (by decide) rfl (by decide) (by decide) dX3_settle_36
  · skip
    have el_0 : (0 : Int32).toInt = 0 := rfl
    rw [i_eq] at c_1
    have k0c_1 : o_known.toInt = 1 := by omega
    exact j_vret (pc := 7) C hr hk (fun i => [].getD i 0, fun i => [o_known, o_fewest, o_apart].getD i 0, fun i => [o_kin, o_row, o_members].getD i (fun _ => 0), fun i => [].getD i (fun _ => 0)) rfl (show (0 ≤ (o_known).toInt ∧ (o_known).toInt ≤ 1) from (h_o_known)) [0, 1, 2, 3, 4] (by decide) rfl (by decide) (by decide) dX3_settle_7
