theorem wd_190 : Cond.fieldLink RX1 21 "BowlShelf$Nests" "size" "I" ∈ WALL := wl_in (by decide +kernel) (by decide +kernel)
theorem wd_191 : Cond.fieldLink RX1 25 "BowlShelf$Nests" "nests" "I" ∈ WALL := wl_in (by decide +kernel) (by decide +kernel)
theorem wd_192 : Cond.fieldLink RX1 9 "BowlShelf$Nests" "steps" "[I" ∈ WALL := wl_in (by decide +kernel) (by decide +kernel)
theorem wd_193 : Cond.fieldLink RX1 15 "BowlShelf$Nests" "end" "[I" ∈ WALL := wl_in (by decide +kernel) (by decide +kernel)
theorem wd_194 : Cond.fieldLink RX1 54 "BowlShelf$Told" "lids" "I" ∈ WALL := wl_in (by decide +kernel) (by decide +kernel)
theorem wd_195 : Cond.fieldLink RX1 51 "BowlShelf$Told" "weight" "[I" ∈ WALL := wl_in (by decide +kernel) (by decide +kernel)
theorem wd_196 : Cond.fieldLink RX1 48 "BowlShelf$Told" "deep" "[I" ∈ WALL := wl_in (by decide +kernel) (by decide +kernel)
theorem wd_197 : Cond.fieldLink RX1 33 "BowlShelf$Told" "wide" "[I" ∈ WALL := wl_in (by decide +kernel) (by decide +kernel)
theorem wd_198 : Cond.fieldLink RX1 18 "BowlShelf$Nests" "values" "[I" ∈ WALL := wl_in (by decide +kernel) (by decide +kernel)
theorem wd_199 : Cond.code yX1_fact cX1_fact 4 (some .int) ∈ WALL := wl_in (by decide +kernel) (by decide +kernel)
theorem wd_200 : Cond.initialized RX1 ∈ WALL := wl_in (by decide +kernel) (by decide +kernel)
theorem wd_201 : Cond.methodLink RX1 40 yX1_fact ∈ WALL := wl_in (by decide +kernel) (by decide +kernel)
theorem wd_202 : Cond.static yX1_fact ∈ WALL := wl_in (by decide +kernel) (by decide +kernel)
theorem wd_203 : Cond.code yX1_join cX1_join 3 (some .int) ∈ WALL := wl_in (by decide +kernel) (by decide +kernel)
theorem wd_204 : Cond.methodLink RX1 44 yX1_join ∈ WALL := wl_in (by decide +kernel) (by decide +kernel)
theorem wd_205 : Cond.static yX1_join ∈ WALL := wl_in (by decide +kernel) (by decide +kernel)
theorem wd_206 : Cond.fieldLink RX1 28 "BowlShelf$Told" "tops" "I" ∈ WALL := wl_in (by decide +kernel) (by decide +kernel)
theorem wd_207 : Cond.code yX1_value cX1_value 9 (some .int) ∈ WALL := wl_in (by decide +kernel) (by decide +kernel)
theorem wd_208 : Cond.methodLink RX1 36 yX1_value ∈ WALL := wl_in (by decide +kernel) (by decide +kernel)
theorem wd_209 : Cond.instanceMethod yX1_value ∈ WALL := wl_in (by decide +kernel) (by decide +kernel)
theorem wd_210 : Cond.selects RX1 yX1_value yX1_value ∈ WALL := wl_in (by decide +kernel) (by decide +kernel)
theorem dX1_empty_0 : decode cX1_empty 0 = .ok (.aload_n 0, 1) := by decide +kernel
theorem dX1_empty_1 : decode cX1_empty 1 = .ok (.iconst 0, 1) := by decide +kernel
theorem dX1_empty_2 : decode cX1_empty 2 = .ok (.putfield 21, 3) := by decide +kernel
theorem dX1_empty_5 : decode cX1_empty 5 = .ok (.aload_n 0, 1) := by decide +kernel
theorem dX1_empty_6 : decode cX1_empty 6 = .ok (.iconst 0, 1) := by decide +kernel
theorem dX1_empty_7 : decode cX1_empty 7 = .ok (.putfield 25, 3) := by decide +kernel
theorem dX1_empty_10 : decode cX1_empty 10 = .ok (.return_, 1) := by decide +kernel
theorem dX1_add_0 : decode cX1_add 0 = .ok (.aload_n 0, 1) := by decide +kernel
theorem dX1_add_1 : decode cX1_add 1 = .ok (.getfield 21, 3) := by decide +kernel
theorem dX1_add_4 : decode cX1_add 4 = .ok (.sipush 1000, 3) := by decide +kernel
theorem dX1_add_7 : decode cX1_add 7 = .ok (.if_icmp .ge 23, 3) := by decide +kernel
theorem dX1_add_10 : decode cX1_add 10 = .ok (.aload_n 0, 1) := by decide +kernel
theorem dX1_add_11 : decode cX1_add 11 = .ok (.getfield 9, 3) := by decide +kernel
theorem dX1_add_14 : decode cX1_add 14 = .ok (.aload_n 0, 1) := by decide +kernel
theorem dX1_add_15 : decode cX1_add 15 = .ok (.getfield 21, 3) := by decide +kernel
theorem dX1_add_18 : decode cX1_add 18 = .ok (.iload_n 1, 1) := by decide +kernel
theorem dX1_add_19 : decode cX1_add 19 = .ok (.iastore, 1) := by decide +kernel
theorem dX1_add_20 : decode cX1_add 20 = .ok (.aload_n 0, 1) := by decide +kernel
theorem dX1_add_21 : decode cX1_add 21 = .ok (.dup, 1) := by decide +kernel
theorem dX1_add_22 : decode cX1_add 22 = .ok (.getfield 21, 3) := by decide +kernel
theorem dX1_add_25 : decode cX1_add 25 = .ok (.iconst 1, 1) := by decide +kernel
theorem dX1_add_26 : decode cX1_add 26 = .ok (.iadd, 1) := by decide +kernel
theorem dX1_add_27 : decode cX1_add 27 = .ok (.putfield 21, 3) := by decide +kernel
theorem dX1_add_30 : decode cX1_add 30 = .ok (.return_, 1) := by decide +kernel
theorem dX1_close_0 : decode cX1_close 0 = .ok (.aload_n 0, 1) := by decide +kernel
theorem dX1_close_1 : decode cX1_close 1 = .ok (.getfield 25, 3) := by decide +kernel
theorem dX1_close_4 : decode cX1_close 4 = .ok (.iconst 4, 1) := by decide +kernel
theorem dX1_close_5 : decode cX1_close 5 = .ok (.if_icmp .ge 26, 3) := by decide +kernel
theorem dX1_close_8 : decode cX1_close 8 = .ok (.aload_n 0, 1) := by decide +kernel
theorem dX1_close_9 : decode cX1_close 9 = .ok (.getfield 15, 3) := by decide +kernel
theorem dX1_close_12 : decode cX1_close 12 = .ok (.aload_n 0, 1) := by decide +kernel
theorem dX1_close_13 : decode cX1_close 13 = .ok (.getfield 25, 3) := by decide +kernel
theorem dX1_close_16 : decode cX1_close 16 = .ok (.aload_n 0, 1) := by decide +kernel
theorem dX1_close_17 : decode cX1_close 17 = .ok (.getfield 21, 3) := by decide +kernel
theorem dX1_close_20 : decode cX1_close 20 = .ok (.iastore, 1) := by decide +kernel
theorem dX1_close_21 : decode cX1_close 21 = .ok (.aload_n 0, 1) := by decide +kernel
theorem dX1_close_22 : decode cX1_close 22 = .ok (.dup, 1) := by decide +kernel
theorem dX1_close_23 : decode cX1_close 23 = .ok (.getfield 25, 3) := by decide +kernel
theorem dX1_close_26 : decode cX1_close 26 = .ok (.iconst 1, 1) := by decide +kernel
theorem dX1_close_27 : decode cX1_close 27 = .ok (.iadd, 1) := by decide +kernel
theorem dX1_close_28 : decode cX1_close 28 = .ok (.putfield 25, 3) := by decide +kernel
theorem dX1_close_31 : decode cX1_close 31 = .ok (.return_, 1) := by decide +kernel
theorem dX1_join_0 : decode cX1_join 0 = .ok (.iload_n 2, 1) := by decide +kernel
theorem dX1_join_1 : decode cX1_join 1 = .ok (.tableswitch 97 (-15) (-10) #[93, 89, 78, 67, 53, 39], 39) := by decide +kernel
theorem dX1_join_40 : decode cX1_join 40 = .ok (.iload_n 0, 1) := by decide +kernel
theorem dX1_join_41 : decode cX1_join 41 = .ok (.ifCond .eq 11, 3) := by decide +kernel
theorem dX1_join_44 : decode cX1_join 44 = .ok (.iload_n 1, 1) := by decide +kernel
theorem dX1_join_45 : decode cX1_join 45 = .ok (.ifCond .eq 7, 3) := by decide +kernel
theorem dX1_join_48 : decode cX1_join 48 = .ok (.iconst 1, 1) := by decide +kernel
theorem dX1_join_49 : decode cX1_join 49 = .ok (.goto 4, 3) := by decide +kernel
theorem dX1_join_52 : decode cX1_join 52 = .ok (.iconst 0, 1) := by decide +kernel
theorem dX1_join_53 : decode cX1_join 53 = .ok (.ireturn, 1) := by decide +kernel
theorem dX1_join_54 : decode cX1_join 54 = .ok (.iload_n 0, 1) := by decide +kernel
theorem dX1_join_55 : decode cX1_join 55 = .ok (.ifCond .ne 7, 3) := by decide +kernel
theorem dX1_join_58 : decode cX1_join 58 = .ok (.iload_n 1, 1) := by decide +kernel
theorem dX1_join_59 : decode cX1_join 59 = .ok (.ifCond .eq 7, 3) := by decide +kernel
theorem dX1_join_62 : decode cX1_join 62 = .ok (.iconst 1, 1) := by decide +kernel
theorem dX1_join_63 : decode cX1_join 63 = .ok (.goto 4, 3) := by decide +kernel
theorem dX1_join_66 : decode cX1_join 66 = .ok (.iconst 0, 1) := by decide +kernel
theorem dX1_join_67 : decode cX1_join 67 = .ok (.ireturn, 1) := by decide +kernel
theorem dX1_join_68 : decode cX1_join 68 = .ok (.iload_n 0, 1) := by decide +kernel
theorem dX1_join_69 : decode cX1_join 69 = .ok (.iload_n 1, 1) := by decide +kernel
theorem dX1_join_70 : decode cX1_join 70 = .ok (.if_icmp .ge 7, 3) := by decide +kernel
theorem dX1_join_73 : decode cX1_join 73 = .ok (.iconst 1, 1) := by decide +kernel
theorem dX1_join_74 : decode cX1_join 74 = .ok (.goto 4, 3) := by decide +kernel
theorem dX1_join_77 : decode cX1_join 77 = .ok (.iconst 0, 1) := by decide +kernel
theorem dX1_join_78 : decode cX1_join 78 = .ok (.ireturn, 1) := by decide +kernel
theorem dX1_join_79 : decode cX1_join 79 = .ok (.iload_n 0, 1) := by decide +kernel
theorem dX1_join_80 : decode cX1_join 80 = .ok (.iload_n 1, 1) := by decide +kernel
theorem dX1_join_81 : decode cX1_join 81 = .ok (.if_icmp .ne 7, 3) := by decide +kernel
theorem dX1_join_84 : decode cX1_join 84 = .ok (.iconst 1, 1) := by decide +kernel
theorem dX1_join_85 : decode cX1_join 85 = .ok (.goto 4, 3) := by decide +kernel
theorem dX1_join_88 : decode cX1_join 88 = .ok (.iconst 0, 1) := by decide +kernel
theorem dX1_join_89 : decode cX1_join 89 = .ok (.ireturn, 1) := by decide +kernel
theorem dX1_join_90 : decode cX1_join 90 = .ok (.iload_n 0, 1) := by decide +kernel
theorem dX1_join_91 : decode cX1_join 91 = .ok (.iload_n 1, 1) := by decide +kernel
theorem dX1_join_92 : decode cX1_join 92 = .ok (.iadd, 1) := by decide +kernel
theorem dX1_join_93 : decode cX1_join 93 = .ok (.ireturn, 1) := by decide +kernel
theorem dX1_join_94 : decode cX1_join 94 = .ok (.iload_n 0, 1) := by decide +kernel
theorem dX1_join_95 : decode cX1_join 95 = .ok (.iload_n 1, 1) := by decide +kernel
theorem dX1_join_96 : decode cX1_join 96 = .ok (.isub, 1) := by decide +kernel
theorem dX1_join_97 : decode cX1_join 97 = .ok (.ireturn, 1) := by decide +kernel
theorem dX1_join_98 : decode cX1_join 98 = .ok (.iload_n 0, 1) := by decide +kernel
theorem dX1_join_99 : decode cX1_join 99 = .ok (.iload_n 1, 1) := by decide +kernel
theorem dX1_join_100 : decode cX1_join 100 = .ok (.imul, 1) := by decide +kernel
theorem dX1_join_101 : decode cX1_join 101 = .ok (.ireturn, 1) := by decide +kernel
theorem dX1_fact_0 : decode cX1_fact 0 = .ok (.iload_n 3, 1) := by decide +kernel
theorem dX1_fact_1 : decode cX1_fact 1 = .ok (.tableswitch 94 (-7) (-1) #[85, 78, 71, 64, 57, 50, 43], 43) := by decide +kernel
theorem dX1_fact_44 : decode cX1_fact 44 = .ok (.aload_n 0, 1) := by decide +kernel
theorem dX1_fact_45 : decode cX1_fact 45 = .ok (.getfield 33, 3) := by decide +kernel
theorem dX1_fact_48 : decode cX1_fact 48 = .ok (.iload_n 1, 1) := by decide +kernel
theorem dX1_fact_49 : decode cX1_fact 49 = .ok (.iaload, 1) := by decide +kernel
theorem dX1_fact_50 : decode cX1_fact 50 = .ok (.ireturn, 1) := by decide +kernel
theorem dX1_fact_51 : decode cX1_fact 51 = .ok (.aload_n 0, 1) := by decide +kernel
theorem dX1_fact_52 : decode cX1_fact 52 = .ok (.getfield 33, 3) := by decide +kernel
theorem dX1_fact_55 : decode cX1_fact 55 = .ok (.iload_n 2, 1) := by decide +kernel
theorem dX1_fact_56 : decode cX1_fact 56 = .ok (.iaload, 1) := by decide +kernel
theorem dX1_fact_57 : decode cX1_fact 57 = .ok (.ireturn, 1) := by decide +kernel
theorem dX1_fact_58 : decode cX1_fact 58 = .ok (.aload_n 0, 1) := by decide +kernel
theorem dX1_fact_59 : decode cX1_fact 59 = .ok (.getfield 48, 3) := by decide +kernel
theorem dX1_fact_62 : decode cX1_fact 62 = .ok (.iload_n 1, 1) := by decide +kernel
theorem dX1_fact_63 : decode cX1_fact 63 = .ok (.iaload, 1) := by decide +kernel
theorem dX1_fact_64 : decode cX1_fact 64 = .ok (.ireturn, 1) := by decide +kernel
theorem dX1_fact_65 : decode cX1_fact 65 = .ok (.aload_n 0, 1) := by decide +kernel
theorem dX1_fact_66 : decode cX1_fact 66 = .ok (.getfield 48, 3) := by decide +kernel
theorem dX1_fact_69 : decode cX1_fact 69 = .ok (.iload_n 2, 1) := by decide +kernel
theorem dX1_fact_70 : decode cX1_fact 70 = .ok (.iaload, 1) := by decide +kernel
theorem dX1_fact_71 : decode cX1_fact 71 = .ok (.ireturn, 1) := by decide +kernel
theorem dX1_fact_72 : decode cX1_fact 72 = .ok (.aload_n 0, 1) := by decide +kernel
theorem dX1_fact_73 : decode cX1_fact 73 = .ok (.getfield 51, 3) := by decide +kernel
theorem dX1_fact_76 : decode cX1_fact 76 = .ok (.iload_n 1, 1) := by decide +kernel
theorem dX1_fact_77 : decode cX1_fact 77 = .ok (.iaload, 1) := by decide +kernel
theorem dX1_fact_78 : decode cX1_fact 78 = .ok (.ireturn, 1) := by decide +kernel
theorem dX1_fact_79 : decode cX1_fact 79 = .ok (.aload_n 0, 1) := by decide +kernel
theorem dX1_fact_80 : decode cX1_fact 80 = .ok (.getfield 51, 3) := by decide +kernel
theorem dX1_fact_83 : decode cX1_fact 83 = .ok (.iload_n 2, 1) := by decide +kernel
theorem dX1_fact_84 : decode cX1_fact 84 = .ok (.iaload, 1) := by decide +kernel
theorem dX1_fact_85 : decode cX1_fact 85 = .ok (.ireturn, 1) := by decide +kernel
theorem dX1_fact_86 : decode cX1_fact 86 = .ok (.aload_n 0, 1) := by decide +kernel
theorem dX1_fact_87 : decode cX1_fact 87 = .ok (.getfield 54, 3) := by decide +kernel
theorem dX1_fact_90 : decode cX1_fact 90 = .ok (.iload_n 1, 1) := by decide +kernel
theorem dX1_fact_91 : decode cX1_fact 91 = .ok (.iushr, 1) := by decide +kernel
theorem dX1_fact_92 : decode cX1_fact 92 = .ok (.iconst 1, 1) := by decide +kernel
theorem dX1_fact_93 : decode cX1_fact 93 = .ok (.iand, 1) := by decide +kernel
theorem dX1_fact_94 : decode cX1_fact 94 = .ok (.ireturn, 1) := by decide +kernel
theorem dX1_fact_95 : decode cX1_fact 95 = .ok (.aload_n 0, 1) := by decide +kernel
theorem dX1_fact_96 : decode cX1_fact 96 = .ok (.getfield 54, 3) := by decide +kernel
theorem dX1_fact_99 : decode cX1_fact 99 = .ok (.iload_n 2, 1) := by decide +kernel
theorem dX1_fact_100 : decode cX1_fact 100 = .ok (.iushr, 1) := by decide +kernel
theorem dX1_fact_101 : decode cX1_fact 101 = .ok (.iconst 1, 1) := by decide +kernel
theorem dX1_fact_102 : decode cX1_fact 102 = .ok (.iand, 1) := by decide +kernel
theorem dX1_fact_103 : decode cX1_fact 103 = .ok (.ireturn, 1) := by decide +kernel
theorem dX1_value_0 : decode cX1_value 0 = .ok (.iconst 0, 1) := by decide +kernel
theorem dX1_value_1 : decode cX1_value 1 = .ok (.istore 6, 2) := by decide +kernel
theorem dX1_value_3 : decode cX1_value 3 = .ok (.iload 4, 2) := by decide +kernel
theorem dX1_value_5 : decode cX1_value 5 = .ok (.istore 7, 2) := by decide +kernel
theorem dX1_value_7 : decode cX1_value 7 = .ok (.iload 7, 2) := by decide +kernel
theorem dX1_value_9 : decode cX1_value 9 = .ok (.iload 5, 2) := by decide +kernel
theorem dX1_value_11 : decode cX1_value 11 = .ok (.if_icmp .ge 151, 3) := by decide +kernel
theorem dX1_value_14 : decode cX1_value 14 = .ok (.aload_n 0, 1) := by decide +kernel
theorem dX1_value_15 : decode cX1_value 15 = .ok (.getfield 9, 3) := by decide +kernel
theorem dX1_value_18 : decode cX1_value 18 = .ok (.iload 7, 2) := by decide +kernel
theorem dX1_value_20 : decode cX1_value 20 = .ok (.iaload, 1) := by decide +kernel
theorem dX1_value_21 : decode cX1_value 21 = .ok (.istore 8, 2) := by decide +kernel
theorem dX1_value_23 : decode cX1_value 23 = .ok (.iload 8, 2) := by decide +kernel
theorem dX1_value_25 : decode cX1_value 25 = .ok (.bipush (-8), 2) := by decide +kernel
theorem dX1_value_27 : decode cX1_value 27 = .ok (.if_icmp .lt 41, 3) := by decide +kernel
theorem dX1_value_30 : decode cX1_value 30 = .ok (.iload 6, 2) := by decide +kernel
theorem dX1_value_32 : decode cX1_value 32 = .ok (.bipush 32, 2) := by decide +kernel
theorem dX1_value_34 : decode cX1_value 34 = .ok (.if_icmp .ge 34, 3) := by decide +kernel
theorem dX1_value_37 : decode cX1_value 37 = .ok (.aload_n 0, 1) := by decide +kernel
theorem dX1_value_38 : decode cX1_value 38 = .ok (.getfield 18, 3) := by decide +kernel
theorem dX1_value_41 : decode cX1_value 41 = .ok (.iload 6, 2) := by decide +kernel
theorem dX1_value_43 : decode cX1_value 43 = .ok (.iload 8, 2) := by decide +kernel
theorem dX1_value_45 : decode cX1_value 45 = .ok (.ifCond .lt 8, 3) := by decide +kernel
theorem dX1_value_48 : decode cX1_value 48 = .ok (.iload 8, 2) := by decide +kernel
theorem dX1_value_50 : decode cX1_value 50 = .ok (.goto 11, 3) := by decide +kernel
theorem dX1_value_53 : decode cX1_value 53 = .ok (.aload_n 1, 1) := by decide +kernel
theorem dX1_value_54 : decode cX1_value 54 = .ok (.iload_n 2, 1) := by decide +kernel
theorem dX1_value_55 : decode cX1_value 55 = .ok (.iload_n 3, 1) := by decide +kernel
theorem dX1_value_56 : decode cX1_value 56 = .ok (.iload 8, 2) := by decide +kernel
theorem dX1_value_58 : decode cX1_value 58 = .ok (.invokestatic 40, 3) := by decide +kernel
theorem dX1_value_61 : decode cX1_value 61 = .ok (.iastore, 1) := by decide +kernel
theorem dX1_value_62 : decode cX1_value 62 = .ok (.iinc 6 1, 3) := by decide +kernel
theorem dX1_value_65 : decode cX1_value 65 = .ok (.goto 91, 3) := by decide +kernel
theorem dX1_value_68 : decode cX1_value 68 = .ok (.iload 8, 2) := by decide +kernel
theorem dX1_value_70 : decode cX1_value 70 = .ok (.bipush (-9), 2) := by decide +kernel
theorem dX1_value_72 : decode cX1_value 72 = .ok (.if_icmp .ne 38, 3) := by decide +kernel
theorem dX1_value_75 : decode cX1_value 75 = .ok (.iload 6, 2) := by decide +kernel
theorem dX1_value_77 : decode cX1_value 77 = .ok (.iconst 1, 1) := by decide +kernel
theorem dX1_value_78 : decode cX1_value 78 = .ok (.if_icmp .lt 32, 3) := by decide +kernel
theorem dX1_value_81 : decode cX1_value 81 = .ok (.aload_n 0, 1) := by decide +kernel
theorem dX1_value_82 : decode cX1_value 82 = .ok (.getfield 18, 3) := by decide +kernel
theorem dX1_value_85 : decode cX1_value 85 = .ok (.iload 6, 2) := by decide +kernel
theorem dX1_value_87 : decode cX1_value 87 = .ok (.iconst 1, 1) := by decide +kernel
theorem dX1_value_88 : decode cX1_value 88 = .ok (.isub, 1) := by decide +kernel
theorem dX1_value_89 : decode cX1_value 89 = .ok (.aload_n 0, 1) := by decide +kernel
theorem dX1_value_90 : decode cX1_value 90 = .ok (.getfield 18, 3) := by decide +kernel
theorem dX1_value_93 : decode cX1_value 93 = .ok (.iload 6, 2) := by decide +kernel
theorem dX1_value_95 : decode cX1_value 95 = .ok (.iconst 1, 1) := by decide +kernel
theorem dX1_value_96 : decode cX1_value 96 = .ok (.isub, 1) := by decide +kernel
theorem dX1_value_97 : decode cX1_value 97 = .ok (.iaload, 1) := by decide +kernel
theorem dX1_value_98 : decode cX1_value 98 = .ok (.ifCond .ne 7, 3) := by decide +kernel
theorem dX1_value_101 : decode cX1_value 101 = .ok (.iconst 1, 1) := by decide +kernel
theorem dX1_value_102 : decode cX1_value 102 = .ok (.goto 4, 3) := by decide +kernel
theorem dX1_value_105 : decode cX1_value 105 = .ok (.iconst 0, 1) := by decide +kernel
theorem dX1_value_106 : decode cX1_value 106 = .ok (.iastore, 1) := by decide +kernel
theorem dX1_value_107 : decode cX1_value 107 = .ok (.goto 49, 3) := by decide +kernel
theorem dX1_value_110 : decode cX1_value 110 = .ok (.iload 8, 2) := by decide +kernel
theorem dX1_value_112 : decode cX1_value 112 = .ok (.bipush (-9), 2) := by decide +kernel
theorem dX1_value_114 : decode cX1_value 114 = .ok (.if_icmp .ge 42, 3) := by decide +kernel
theorem dX1_value_117 : decode cX1_value 117 = .ok (.iload 6, 2) := by decide +kernel
theorem dX1_value_119 : decode cX1_value 119 = .ok (.iconst 2, 1) := by decide +kernel
theorem dX1_value_120 : decode cX1_value 120 = .ok (.if_icmp .lt 36, 3) := by decide +kernel
theorem dX1_value_123 : decode cX1_value 123 = .ok (.iinc 6 (-1), 3) := by decide +kernel
theorem dX1_value_126 : decode cX1_value 126 = .ok (.aload_n 0, 1) := by decide +kernel
theorem dX1_value_127 : decode cX1_value 127 = .ok (.getfield 18, 3) := by decide +kernel
theorem dX1_value_130 : decode cX1_value 130 = .ok (.iload 6, 2) := by decide +kernel
theorem dX1_value_132 : decode cX1_value 132 = .ok (.iconst 1, 1) := by decide +kernel
theorem dX1_value_133 : decode cX1_value 133 = .ok (.isub, 1) := by decide +kernel
theorem dX1_value_134 : decode cX1_value 134 = .ok (.aload_n 0, 1) := by decide +kernel
theorem dX1_value_135 : decode cX1_value 135 = .ok (.getfield 18, 3) := by decide +kernel
theorem dX1_value_138 : decode cX1_value 138 = .ok (.iload 6, 2) := by decide +kernel
theorem dX1_value_140 : decode cX1_value 140 = .ok (.iconst 1, 1) := by decide +kernel
theorem dX1_value_141 : decode cX1_value 141 = .ok (.isub, 1) := by decide +kernel
theorem dX1_value_142 : decode cX1_value 142 = .ok (.iaload, 1) := by decide +kernel
theorem dX1_value_143 : decode cX1_value 143 = .ok (.aload_n 0, 1) := by decide +kernel
theorem dX1_value_144 : decode cX1_value 144 = .ok (.getfield 18, 3) := by decide +kernel
theorem dX1_value_147 : decode cX1_value 147 = .ok (.iload 6, 2) := by decide +kernel
theorem dX1_value_149 : decode cX1_value 149 = .ok (.iaload, 1) := by decide +kernel
theorem dX1_value_150 : decode cX1_value 150 = .ok (.iload 8, 2) := by decide +kernel
theorem dX1_value_152 : decode cX1_value 152 = .ok (.invokestatic 44, 3) := by decide +kernel
theorem dX1_value_155 : decode cX1_value 155 = .ok (.iastore, 1) := by decide +kernel
theorem dX1_value_156 : decode cX1_value 156 = .ok (.iinc 7 1, 3) := by decide +kernel
theorem dX1_value_159 : decode cX1_value 159 = .ok (.goto (-152), 3) := by decide +kernel
theorem dX1_value_162 : decode cX1_value 162 = .ok (.aload_n 0, 1) := by decide +kernel
theorem dX1_value_163 : decode cX1_value 163 = .ok (.getfield 18, 3) := by decide +kernel
theorem dX1_value_166 : decode cX1_value 166 = .ok (.iconst 0, 1) := by decide +kernel
theorem dX1_value_167 : decode cX1_value 167 = .ok (.iaload, 1) := by decide +kernel
theorem dX1_value_168 : decode cX1_value 168 = .ok (.ireturn, 1) := by decide +kernel
theorem dX1_allow_0 : decode cX1_allow 0 = .ok (.aload_n 1, 1) := by decide +kernel
theorem dX1_allow_1 : decode cX1_allow 1 = .ok (.getfield 28, 3) := by decide +kernel
theorem dX1_allow_4 : decode cX1_allow 4 = .ok (.iload_n 3, 1) := by decide +kernel
theorem dX1_allow_5 : decode cX1_allow 5 = .ok (.iushr, 1) := by decide +kernel
theorem dX1_allow_6 : decode cX1_allow 6 = .ok (.iconst 1, 1) := by decide +kernel
theorem dX1_allow_7 : decode cX1_allow 7 = .ok (.iand, 1) := by decide +kernel
theorem dX1_allow_8 : decode cX1_allow 8 = .ok (.iconst 1, 1) := by decide +kernel
theorem dX1_allow_9 : decode cX1_allow 9 = .ok (.if_icmp .ne 5, 3) := by decide +kernel
theorem dX1_allow_12 : decode cX1_allow 12 = .ok (.iconst 0, 1) := by decide +kernel
theorem dX1_allow_13 : decode cX1_allow 13 = .ok (.ireturn, 1) := by decide +kernel
theorem dX1_allow_14 : decode cX1_allow 14 = .ok (.aload_n 0, 1) := by decide +kernel
theorem dX1_allow_15 : decode cX1_allow 15 = .ok (.getfield 25, 3) := by decide +kernel
theorem dX1_allow_18 : decode cX1_allow 18 = .ok (.ifCond .ne 24, 3) := by decide +kernel
theorem dX1_allow_21 : decode cX1_allow 21 = .ok (.aload_n 1, 1) := by decide +kernel
theorem dX1_allow_22 : decode cX1_allow 22 = .ok (.getfield 33, 3) := by decide +kernel
theorem dX1_allow_25 : decode cX1_allow 25 = .ok (.iload_n 2, 1) := by decide +kernel
theorem dX1_allow_26 : decode cX1_allow 26 = .ok (.iaload, 1) := by decide +kernel
theorem dX1_allow_27 : decode cX1_allow 27 = .ok (.aload_n 1, 1) := by decide +kernel
theorem dX1_allow_28 : decode cX1_allow 28 = .ok (.getfield 33, 3) := by decide +kernel
theorem dX1_allow_31 : decode cX1_allow 31 = .ok (.iload_n 3, 1) := by decide +kernel
theorem dX1_allow_32 : decode cX1_allow 32 = .ok (.iaload, 1) := by decide +kernel
theorem dX1_allow_33 : decode cX1_allow 33 = .ok (.if_icmp .ge 7, 3) := by decide +kernel
theorem dX1_allow_36 : decode cX1_allow 36 = .ok (.iconst 1, 1) := by decide +kernel
theorem dX1_allow_37 : decode cX1_allow 37 = .ok (.goto 4, 3) := by decide +kernel
theorem dX1_allow_40 : decode cX1_allow 40 = .ok (.iconst 0, 1) := by decide +kernel
theorem dX1_allow_41 : decode cX1_allow 41 = .ok (.ireturn, 1) := by decide +kernel
theorem dX1_allow_42 : decode cX1_allow 42 = .ok (.iconst 0, 1) := by decide +kernel
theorem dX1_allow_43 : decode cX1_allow 43 = .ok (.istore 4, 2) := by decide +kernel
theorem dX1_allow_45 : decode cX1_allow 45 = .ok (.iload 4, 2) := by decide +kernel
theorem dX1_allow_47 : decode cX1_allow 47 = .ok (.aload_n 0, 1) := by decide +kernel
theorem dX1_allow_48 : decode cX1_allow 48 = .ok (.getfield 25, 3) := by decide +kernel
theorem dX1_allow_51 : decode cX1_allow 51 = .ok (.if_icmp .ge 50, 3) := by decide +kernel
theorem dX1_allow_54 : decode cX1_allow 54 = .ok (.iload 4, 2) := by decide +kernel
theorem dX1_allow_56 : decode cX1_allow 56 = .ok (.ifCond .ne 7, 3) := by decide +kernel
theorem dX1_allow_59 : decode cX1_allow 59 = .ok (.iconst 0, 1) := by decide +kernel
theorem dX1_allow_60 : decode cX1_allow 60 = .ok (.goto 12, 3) := by decide +kernel
theorem dX1_allow_63 : decode cX1_allow 63 = .ok (.aload_n 0, 1) := by decide +kernel
theorem dX1_allow_64 : decode cX1_allow 64 = .ok (.getfield 15, 3) := by decide +kernel
theorem dX1_allow_67 : decode cX1_allow 67 = .ok (.iload 4, 2) := by decide +kernel
theorem dX1_allow_69 : decode cX1_allow 69 = .ok (.iconst 1, 1) := by decide +kernel
theorem dX1_allow_70 : decode cX1_allow 70 = .ok (.isub, 1) := by decide +kernel
theorem dX1_allow_71 : decode cX1_allow 71 = .ok (.iaload, 1) := by decide +kernel
theorem dX1_allow_72 : decode cX1_allow 72 = .ok (.istore 5, 2) := by decide +kernel
theorem dX1_allow_74 : decode cX1_allow 74 = .ok (.aload_n 0, 1) := by decide +kernel
theorem dX1_allow_75 : decode cX1_allow 75 = .ok (.aload_n 1, 1) := by decide +kernel
theorem dX1_allow_76 : decode cX1_allow 76 = .ok (.iload_n 2, 1) := by decide +kernel
theorem dX1_allow_77 : decode cX1_allow 77 = .ok (.iload_n 3, 1) := by decide +kernel
theorem dX1_allow_78 : decode cX1_allow 78 = .ok (.iload 5, 2) := by decide +kernel
theorem dX1_allow_80 : decode cX1_allow 80 = .ok (.aload_n 0, 1) := by decide +kernel
theorem dX1_allow_81 : decode cX1_allow 81 = .ok (.getfield 15, 3) := by decide +kernel
theorem dX1_allow_84 : decode cX1_allow 84 = .ok (.iload 4, 2) := by decide +kernel
theorem dX1_allow_86 : decode cX1_allow 86 = .ok (.iaload, 1) := by decide +kernel
theorem dX1_allow_87 : decode cX1_allow 87 = .ok (.invokevirtual 36, 3) := by decide +kernel
theorem dX1_allow_90 : decode cX1_allow 90 = .ok (.ifCond .ne 5, 3) := by decide +kernel
theorem dX1_allow_93 : decode cX1_allow 93 = .ok (.iconst 0, 1) := by decide +kernel
theorem dX1_allow_94 : decode cX1_allow 94 = .ok (.ireturn, 1) := by decide +kernel
theorem dX1_allow_95 : decode cX1_allow 95 = .ok (.iinc 4 1, 3) := by decide +kernel
theorem dX1_allow_98 : decode cX1_allow 98 = .ok (.goto (-53), 3) := by decide +kernel
theorem dX1_allow_101 : decode cX1_allow 101 = .ok (.iconst 1, 1) := by decide +kernel
theorem dX1_allow_102 : decode cX1_allow 102 = .ok (.ireturn, 1) := by decide +kernel
/-- how the steps grow: hidden from the searches -/
def SZ1 (a b : Int) : Prop := a ≤ 999 → b = a + 1
def SZD (r a b c : Int) : Prop := r = 0 ∨ b ≤ a ∨ b ≤ c
set_option maxHeartbeats 4000000 in
set_option maxRecDepth 100000 in
theorem c_X1_empty (l : Launch) (D : DG) (cyC cyI cyJ cyZ cyO : ClassId) (e0 : Nat) (e1 : Nat) (e2 : Nat) (e3 : Nat) (e_size : Int32) (e_nests : Int32) (h_e_size : 0 ≤ (e_size).toInt ∧ (e_size).toInt ≤ 1000) (h_e_nests : 0 ≤ (e_nests).toInt ∧ (e_nests).toInt ≤ 4) : KK l D (TY cyC cyI cyJ cyZ cyO) yX1_empty cX1_empty 1 none ({ frames := 0, cells := 0, slots := 0, locals := 0 } : Room) 0 0 [.ref e0] [(e0, .inr (1, [.int e_size, .int e_nests, .ref e1, .ref e2, .ref e3]))] (fun u => none) (fun u => True) (fun u => [(e0, .inr (1, [.int 0, .int 0, .ref e1, .ref e2, .ref e3]))]) := by
  refine KK.of (lv0 := [(0, .ref e0)]) (by decide) rfl (Nat.le_of_ble_eq_true rfl) ?_
  intro p e s m args below meth c A C hr hk hin
  refine j_aload_n (pc := 0) C dX1_empty_0 rfl 0 rfl ?_
  refine j_iconst (pc := 1) (v := 0) C dX1_empty_1 (by decide) ?_
  refine j_put (pc := 2) (ci := 1) (v := .int 0) (ws' := [(e0, .inr (1, [.int 0, .int e_nests, .ref e1, .ref e2, .ref e3]))]) C inw_1 0 rfl rfl 0 (by decide) wd_190 rfl tyX1_ok nmX1 rfl (tyX1_ok 0 (by decide)) rfl rfl (Nat.le_of_ble_eq_true rfl) dX1_empty_2 rfl ?_
  refine j_aload_n (pc := 5) C dX1_empty_5 rfl 0 rfl ?_
  refine j_iconst (pc := 6) (v := 0) C dX1_empty_6 (by decide) ?_
  refine j_put (pc := 7) (ci := 1) (v := .int 0) (ws' := [(e0, .inr (1, [.int 0, .int 0, .ref e1, .ref e2, .ref e3]))]) C inw_1 0 rfl rfl 1 (by decide) wd_191 rfl tyX1_ok nmX1 rfl (tyX1_ok 1 (by decide)) rfl rfl (Nat.le_of_ble_eq_true rfl) dX1_empty_7 rfl ?_
  exact j_vret (pc := 10) C hr hk (fun i => [].getD i 0, fun i => [].getD i 0, fun i => [].getD i (fun _ => 0), fun i => [].getD i (fun _ => 0)) rfl trivial [0] (by decide) rfl (by decide) (by decide) dX1_empty_10
set_option maxHeartbeats 4000000 in
set_option maxRecDepth 100000 in
theorem c_X1_add (l : Launch) (D : DG) (cyC cyI cyJ cyZ cyO : ClassId) (e0 : Nat) (e1 : Nat) (e2 : Nat) (e3 : Nat) (p0 : Int32) (e_size : Int32) (e_nests : Int32) (e_steps : Nat → Int32) (h_e_size : 0 ≤ (e_size).toInt ∧ (e_size).toInt ≤ 1000) (h_e_nests : 0 ≤ (e_nests).toInt ∧ (e_nests).toInt ≤ 4) : KK l D (TY cyC cyI cyJ cyZ cyO) yX1_add cX1_add 2 none ({ frames := 0, cells := 0, slots := 0, locals := 0 } : Room) 0 0 [.ref e0, .int p0] [(e0, .inr (1, [.int e_size, .int e_nests, .ref e1, .ref e2, .ref e3])), (e1, .inl (cyI, 1000, .inl e_steps))] (fun u => none) (fun u => (0 ≤ (u.2.1 0).toInt ∧ (u.2.1 0).toInt ≤ 1000) ∧ ((e_size).toInt ≤ ((u.2.1 0)).toInt) ∧ (((u.2.1 0)).toInt ≤ (e_size).toInt + 1) ∧ (SZ1 (e_size).toInt ((u.2.1 0)).toInt) ∧ (IM ((e_size).toInt ≤ 999) (AD1 e_steps (u.2.2.1 0) (e_size).toInt.toNat p0))) (fun u => [(e0, .inr (1, [.int (u.2.1 0), .int e_nests, .ref e1, .ref e2, .ref e3])), (e1, .inl (cyI, 1000, .inl (u.2.2.1 0)))]) := by
  refine KK.of (lv0 := [(0, .ref e0), (1, .int p0)]) (by decide) rfl (Nat.le_of_ble_eq_true rfl) ?_
  intro p e s m args below meth c A C hr hk hin
  refine j_aload_n (pc := 0) C dX1_add_0 rfl 0 rfl ?_
  refine j_get (pc := 1) (ci := 1) (v := .int e_size) C inw_1 0 rfl rfl 0 (by decide) wd_190 rfl rfl dX1_add_1 ?_
  refine j_sipush (pc := 4) (v := 1000) C dX1_add_4 (by decide) ?_
  refine j_icmp_ge (pc := 7) (tgt := 30) C dX1_add_7 (by decide) (fun c_1 => ?_) (fun c_1 => ?_)
  · skip
    have el_1000 : (1000 : Int32).toInt = 1000 := rfl
    rw [i_le] at c_1
    have k0c_1 : e_size.toInt = 1000 := by omega
    exact j_vret (pc := 30) C hr hk (fun i => [].getD i 0, fun i => [e_size].getD i 0, fun i => [e_steps].getD i (fun _ => 0), fun i => [].getD i (fun _ => 0)) rfl (show (0 ≤ (e_size).toInt ∧ (e_size).toInt ≤ 1000) ∧ ((e_size).toInt ≤ (e_size).toInt) ∧ ((e_size).toInt ≤ (e_size).toInt + 1) ∧ (SZ1 (e_size).toInt (e_size).toInt) ∧ (IM ((e_size).toInt ≤ 999) (AD1 e_steps e_steps (e_size).toInt.toNat p0)) from ⟨h_e_size, by omega, by omega, (fun z9 => by omega), (fun h => absurd h (by omega))⟩) [0, 1] (by decide) rfl (by decide) (by decide) dX1_add_30
  · skip
    have el_1000 : (1000 : Int32).toInt = 1000 := rfl
    rw [i_le] at c_1
    refine j_aload_n (pc := 10) C dX1_add_10 rfl 0 rfl ?_
    refine j_get (pc := 11) (ci := 1) (v := .ref e1) C inw_1 0 rfl rfl 2 (by decide) wd_192 rfl rfl dX1_add_11 ?_
    refine j_aload_n (pc := 14) C dX1_add_14 rfl 0 rfl ?_
    refine j_get (pc := 15) (ci := 1) (v := .int e_size) C inw_1 0 rfl rfl 0 (by decide) wd_190 rfl rfl dX1_add_15 ?_
    refine j_iload_n (pc := 18) C dX1_add_18 rfl 1 rfl ?_
    obtain ⟨f_2, ef_2⟩ : ∃ z, z = upd e_steps (e_size).toInt.toNat p0 := ⟨_, rfl⟩
    refine j_iast (pc := 19) (k := (e_size).toInt.toNat) (ws' := [(e0, .inr (1, [.int e_size, .int e_nests, .ref e1, .ref e2, .ref e3])), (e1, .inl (cyI, 1000, .inl f_2))]) C 1 1 rfl rfl (i_nn h_e_size.1) rfl (i_lt_n h_e_size.1 (by omega)) dX1_add_19 (by rw [ef_2]; rfl) ?_
    refine j_aload_n (pc := 20) C dX1_add_20 rfl 0 rfl ?_
    refine j_dup (pc := 21) C dX1_add_21 rfl ?_
    refine j_get (pc := 22) (ci := 1) (v := .int e_size) C inw_1 0 rfl rfl 0 (by decide) wd_190 rfl rfl dX1_add_22 ?_
    refine j_iconst (pc := 25) (v := 1) C dX1_add_25 (by decide) ?_
    obtain ⟨v_3, ev_3⟩ : ∃ z : Int32, e_size + 1 = z := ⟨_, rfl⟩
    have el_1 : (1 : Int32).toInt = 1 := rfl
    have hv_3 : v_3.toInt = e_size.toInt + (1 : Int32).toInt := by rw [← ev_3]; exact fb_addI (by omega) (by omega)
    refine j_iadd (pc := 26) (v := v_3) C dX1_add_26 ev_3 ?_
    refine j_put (pc := 27) (ci := 1) (v := .int v_3) (ws' := [(e0, .inr (1, [.int v_3, .int e_nests, .ref e1, .ref e2, .ref e3])), (e1, .inl (cyI, 1000, .inl f_2))]) C inw_1 0 rfl rfl 0 (by decide) wd_190 rfl tyX1_ok nmX1 rfl (tyX1_ok 0 (by decide)) rfl rfl (Nat.le_of_ble_eq_true rfl) dX1_add_27 rfl ?_
    exact j_vret (pc := 30) C hr hk (fun i => [].getD i 0, fun i => [v_3].getD i 0, fun i => [f_2].getD i (fun _ => 0), fun i => [].getD i (fun _ => 0)) rfl (show (0 ≤ (v_3).toInt ∧ (v_3).toInt ≤ 1000) ∧ ((e_size).toInt ≤ (v_3).toInt) ∧ ((v_3).toInt ≤ (e_size).toInt + 1) ∧ (SZ1 (e_size).toInt (v_3).toInt) ∧ (IM ((e_size).toInt ≤ 999) (AD1 e_steps f_2 (e_size).toInt.toNat p0)) from ⟨by omega, by omega, by omega, (fun z9 => by omega), (fun _ => ⟨fun j hj => by rw [ef_2]; exact pk_un hj, by rw [ef_2, pk_us]⟩)⟩) [0, 1] (by decide) rfl (by decide) (by decide) dX1_add_30
set_option maxHeartbeats 4000000 in
set_option maxRecDepth 100000 in
theorem c_X1_close (l : Launch) (D : DG) (cyC cyI cyJ cyZ cyO : ClassId) (e0 : Nat) (e2 : Nat) (e1 : Nat) (e3 : Nat) (e_size : Int32) (e_nests : Int32) (e_end : Nat → Int32) (h_e_size : 0 ≤ (e_size).toInt ∧ (e_size).toInt ≤ 1000) (h_e_nests : 0 ≤ (e_nests).toInt ∧ (e_nests).toInt ≤ 4) (h_e_end : Iv 4 (0) (1000) e_end) : KK l D (TY cyC cyI cyJ cyZ cyO) yX1_close cX1_close 1 none ({ frames := 0, cells := 0, slots := 0, locals := 0 } : Room) 0 0 [.ref e0] [(e0, .inr (1, [.int e_size, .int e_nests, .ref e1, .ref e2, .ref e3])), (e2, .inl (cyI, 4, .inl e_end))] (fun u => none) (fun u => (0 ≤ (u.2.1 0).toInt ∧ (u.2.1 0).toInt ≤ 4) ∧ (Iv 4 (0) (1000) (u.2.2.1 0)) ∧ (4 ≤ (e_nests).toInt ∨ ((u.2.1 0)).toInt = (e_nests).toInt + 1) ∧ (IM ((e_nests).toInt ≤ 3) (AD1 e_end (u.2.2.1 0) (e_nests).toInt.toNat e_size))) (fun u => [(e0, .inr (1, [.int e_size, .int (u.2.1 0), .ref e1, .ref e2, .ref e3])), (e2, .inl (cyI, 4, .inl (u.2.2.1 0)))]) := by
  refine KK.of (lv0 := [(0, .ref e0)]) (by decide) rfl (Nat.le_of_ble_eq_true rfl) ?_
  intro p e s m args below meth c A C hr hk hin
  refine j_aload_n (pc := 0) C dX1_close_0 rfl 0 rfl ?_
  refine j_get (pc := 1) (ci := 1) (v := .int e_nests) C inw_1 0 rfl rfl 1 (by decide) wd_191 rfl rfl dX1_close_1 ?_
  refine j_iconst (pc := 4) (v := 4) C dX1_close_4 (by decide) ?_
  refine j_icmp_ge (pc := 5) (tgt := 31) C dX1_close_5 (by decide) (fun c_1 => ?_) (fun c_1 => ?_)
  · skip
    have el_4 : (4 : Int32).toInt = 4 := rfl
    rw [i_le] at c_1
    have k0c_1 : e_nests.toInt = 4 := by omega
    exact j_vret (pc := 31) C hr hk (fun i => [].getD i 0, fun i => [e_nests].getD i 0, fun i => [e_end].getD i (fun _ => 0), fun i => [].getD i (fun _ => 0)) rfl (show (0 ≤ (e_nests).toInt ∧ (e_nests).toInt ≤ 4) ∧ (Iv 4 (0) (1000) e_end) ∧ (4 ≤ (e_nests).toInt ∨ (e_nests).toInt = (e_nests).toInt + 1) ∧ (IM ((e_nests).toInt ≤ 3) (AD1 e_end e_end (e_nests).toInt.toNat e_size)) from ⟨h_e_nests, h_e_end, by omega, (fun h => absurd h (by omega))⟩) [0, 1] (by decide) rfl (by decide) (by decide) dX1_close_31
  · skip
    have el_4 : (4 : Int32).toInt = 4 := rfl
    rw [i_le] at c_1
    refine j_aload_n (pc := 8) C dX1_close_8 rfl 0 rfl ?_
    refine j_get (pc := 9) (ci := 1) (v := .ref e2) C inw_1 0 rfl rfl 3 (by decide) wd_193 rfl rfl dX1_close_9 ?_
    refine j_aload_n (pc := 12) C dX1_close_12 rfl 0 rfl ?_
    refine j_get (pc := 13) (ci := 1) (v := .int e_nests) C inw_1 0 rfl rfl 1 (by decide) wd_191 rfl rfl dX1_close_13 ?_
    refine j_aload_n (pc := 16) C dX1_close_16 rfl 0 rfl ?_
    refine j_get (pc := 17) (ci := 1) (v := .int e_size) C inw_1 0 rfl rfl 0 (by decide) wd_190 rfl rfl dX1_close_17 ?_
    obtain ⟨f_2, ef_2⟩ : ∃ z, z = upd e_end (e_nests).toInt.toNat e_size := ⟨_, rfl⟩
    have hf_2 : Iv 4 (0) (1000) f_2 := by rw [ef_2]; exact Iv.upd h_e_end (by omega) (by omega)
    refine j_iast (pc := 20) (k := (e_nests).toInt.toNat) (ws' := [(e0, .inr (1, [.int e_size, .int e_nests, .ref e1, .ref e2, .ref e3])), (e2, .inl (cyI, 4, .inl f_2))]) C 1 1 rfl rfl (i_nn h_e_nests.1) rfl (i_lt_n h_e_nests.1 (by omega)) dX1_close_20 (by rw [ef_2]; rfl) ?_
    refine j_aload_n (pc := 21) C dX1_close_21 rfl 0 rfl ?_
    refine j_dup (pc := 22) C dX1_close_22 rfl ?_
    refine j_get (pc := 23) (ci := 1) (v := .int e_nests) C inw_1 0 rfl rfl 1 (by decide) wd_191 rfl rfl dX1_close_23 ?_
    refine j_iconst (pc := 26) (v := 1) C dX1_close_26 (by decide) ?_
    obtain ⟨v_3, ev_3⟩ : ∃ z : Int32, e_nests + 1 = z := ⟨_, rfl⟩
    have el_1 : (1 : Int32).toInt = 1 := rfl
    have hv_3 : v_3.toInt = e_nests.toInt + (1 : Int32).toInt := by rw [← ev_3]; exact fb_addI (by omega) (by omega)
    refine j_iadd (pc := 27) (v := v_3) C dX1_close_27 ev_3 ?_
    refine j_put (pc := 28) (ci := 1) (v := .int v_3) (ws' := [(e0, .inr (1, [.int e_size, .int v_3, .ref e1, .ref e2, .ref e3])), (e2, .inl (cyI, 4, .inl f_2))]) C inw_1 0 rfl rfl 1 (by decide) wd_191 rfl tyX1_ok nmX1 rfl (tyX1_ok 1 (by decide)) rfl rfl (Nat.le_of_ble_eq_true rfl) dX1_close_28 rfl ?_
    exact j_vret (pc := 31) C hr hk (fun i => [].getD i 0, fun i => [v_3].getD i 0, fun i => [f_2].getD i (fun _ => 0), fun i => [].getD i (fun _ => 0)) rfl (show (0 ≤ (v_3).toInt ∧ (v_3).toInt ≤ 4) ∧ (Iv 4 (0) (1000) f_2) ∧ (4 ≤ (e_nests).toInt ∨ (v_3).toInt = (e_nests).toInt + 1) ∧ (IM ((e_nests).toInt ≤ 3) (AD1 e_end f_2 (e_nests).toInt.toNat e_size)) from ⟨by omega, hf_2, by omega, (fun _ => ⟨fun j hj => by rw [ef_2]; exact pk_un hj, by rw [ef_2, pk_us]⟩)⟩) [0, 1] (by decide) rfl (by decide) (by decide) dX1_close_31
set_option maxHeartbeats 4000000 in
set_option maxRecDepth 100000 in
theorem c_X1_join (l : Launch) (D : DG) (cyC cyI cyJ cyZ cyO : ClassId) (p0 : Int32) (p1 : Int32) (p2 : Int32) : KK l D (TY cyC cyI cyJ cyZ cyO) yX1_join cX1_join 3 (some .int) ({ frames := 0, cells := 0, slots := 0, locals := 0 } : Room) 0 0 [.int p0, .int p1, .int p2] [] (fun u => some (.int (u.2.1 0))) (fun u => ((u.2.1 0) = jn6 (p2).toInt p0 p1)) (fun u => []) := by
  refine KK.of (lv0 := [(0, .int p0), (1, .int p1), (2, .int p2)]) (by decide) rfl (Nat.le_of_ble_eq_true rfl) ?_
  intro p e s m args below meth c A C hr hk hin
  refine j_iload_n (pc := 0) C dX1_join_0 rfl 2 rfl ?_
  rcases (by omega : p2.toInt = -15 ∨ p2.toInt = -14 ∨ p2.toInt = -13 ∨ p2.toInt = -12 ∨ p2.toInt = -11 ∨ p2.toInt = -10 ∨ (¬ p2.toInt = -15 ∧ ¬ p2.toInt = -14 ∧ ¬ p2.toInt = -13 ∧ ¬ p2.toInt = -12 ∧ ¬ p2.toInt = -11 ∧ ¬ p2.toInt = -10)) with sw_1 | sw_1 | sw_1 | sw_1 | sw_1 | sw_1 | sw_1
  · skip
    refine j_tin (pc := 1) (off := 93) (tgt := 94) C dX1_join_1 (by omega) (by omega) (by rw [sw_1]; decide) (by decide) ?_
    refine j_iload_n (pc := 94) C dX1_join_94 rfl 0 rfl ?_
    refine j_iload_n (pc := 95) C dX1_join_95 rfl 1 rfl ?_
    obtain ⟨v_2, ev_2⟩ : ∃ z : Int32, p0 - p1 = z := ⟨_, rfl⟩
    refine j_isub (pc := 96) (v := v_2) C dX1_join_96 ev_2 ?_
    have el_0 : (0 : Int32).toInt = 0 := rfl
    exact j_iret (pc := 97) C hr hk (fun i => [].getD i 0, fun i => [v_2].getD i 0, fun i => [].getD i (fun _ => 0), fun i => [].getD i (fun _ => 0)) rfl (show (v_2 = jn6 (p2).toInt p0 p1) from ((by unfold jn6; rw [if_neg (by omega), if_neg (by omega), if_neg (by omega), if_neg (by omega), if_neg (by omega), if_pos (by omega)]; exact ev_2.symm))) [] (by decide) rfl (by decide) (by decide) dX1_join_97
  · skip
    refine j_tin (pc := 1) (off := 89) (tgt := 90) C dX1_join_1 (by omega) (by omega) (by rw [sw_1]; decide) (by decide) ?_
    refine j_iload_n (pc := 90) C dX1_join_90 rfl 0 rfl ?_
    refine j_iload_n (pc := 91) C dX1_join_91 rfl 1 rfl ?_
    obtain ⟨v_3, ev_3⟩ : ∃ z : Int32, p0 + p1 = z := ⟨_, rfl⟩
    refine j_iadd (pc := 92) (v := v_3) C dX1_join_92 ev_3 ?_
    have el_0 : (0 : Int32).toInt = 0 := rfl
    exact j_iret (pc := 93) C hr hk (fun i => [].getD i 0, fun i => [v_3].getD i 0, fun i => [].getD i (fun _ => 0), fun i => [].getD i (fun _ => 0)) rfl (show (v_3 = jn6 (p2).toInt p0 p1) from ((by unfold jn6; rw [if_neg (by omega), if_neg (by omega), if_neg (by omega), if_neg (by omega), if_pos (by omega)]; exact ev_3.symm))) [] (by decide) rfl (by decide) (by decide) dX1_join_93
  · skip
    refine j_tin (pc := 1) (off := 78) (tgt := 79) C dX1_join_1 (by omega) (by omega) (by rw [sw_1]; decide) (by decide) ?_
    refine j_iload_n (pc := 79) C dX1_join_79 rfl 0 rfl ?_
    refine j_iload_n (pc := 80) C dX1_join_80 rfl 1 rfl ?_
    refine j_icmp_ne (pc := 81) (tgt := 88) C dX1_join_81 (by decide) (fun c_4 => ?_) (fun c_4 => ?_)
    · skip
      rw [i_eq] at c_4
      refine j_iconst (pc := 88) (v := 0) C dX1_join_88 (by decide) ?_
      have el_0 : (0 : Int32).toInt = 0 := rfl
      have el_0 : (0 : Int32).toInt = 0 := rfl
      exact j_iret (pc := 89) C hr hk (fun i => [].getD i 0, fun i => [0].getD i 0, fun i => [].getD i (fun _ => 0), fun i => [].getD i (fun _ => 0)) rfl (show ((0 : Int32) = jn6 (p2).toInt p0 p1) from ((by unfold jn6; rw [if_neg (by omega), if_neg (by omega), if_neg (by omega), if_pos (by omega)]; rw [if_neg (by rw [i_eq]; omega)]))) [] (by decide) rfl (by decide) (by decide) dX1_join_89
    · skip
      rw [i_eq] at c_4
      refine j_iconst (pc := 84) (v := 1) C dX1_join_84 (by decide) ?_
      refine j_goto (pc := 85) (tgt := 89) C dX1_join_85 (by decide) ?_
      have el_1 : (1 : Int32).toInt = 1 := rfl
      have el_0 : (0 : Int32).toInt = 0 := rfl
      exact j_iret (pc := 89) C hr hk (fun i => [].getD i 0, fun i => [1].getD i 0, fun i => [].getD i (fun _ => 0), fun i => [].getD i (fun _ => 0)) rfl (show ((1 : Int32) = jn6 (p2).toInt p0 p1) from ((by unfold jn6; rw [if_neg (by omega), if_neg (by omega), if_neg (by omega), if_pos (by omega)]; rw [if_pos ((i_eq _ _).mpr (by omega))]))) [] (by decide) rfl (by decide) (by decide) dX1_join_89
  · skip
    refine j_tin (pc := 1) (off := 67) (tgt := 68) C dX1_join_1 (by omega) (by omega) (by rw [sw_1]; decide) (by decide) ?_
    refine j_iload_n (pc := 68) C dX1_join_68 rfl 0 rfl ?_
    refine j_iload_n (pc := 69) C dX1_join_69 rfl 1 rfl ?_
    refine j_icmp_ge (pc := 70) (tgt := 77) C dX1_join_70 (by decide) (fun c_5 => ?_) (fun c_5 => ?_)
    · skip
      rw [i_le] at c_5
      refine j_iconst (pc := 77) (v := 0) C dX1_join_77 (by decide) ?_
      have el_0 : (0 : Int32).toInt = 0 := rfl
      have el_0 : (0 : Int32).toInt = 0 := rfl
      exact j_iret (pc := 78) C hr hk (fun i => [].getD i 0, fun i => [0].getD i 0, fun i => [].getD i (fun _ => 0), fun i => [].getD i (fun _ => 0)) rfl (show ((0 : Int32) = jn6 (p2).toInt p0 p1) from ((by unfold jn6; rw [if_neg (by omega), if_neg (by omega), if_pos (by omega)]; rw [if_neg (by rw [i_lt]; omega)]))) [] (by decide) rfl (by decide) (by decide) dX1_join_78
    · skip
      rw [i_le] at c_5
      refine j_iconst (pc := 73) (v := 1) C dX1_join_73 (by decide) ?_
      refine j_goto (pc := 74) (tgt := 78) C dX1_join_74 (by decide) ?_
      have el_1 : (1 : Int32).toInt = 1 := rfl
      have el_0 : (0 : Int32).toInt = 0 := rfl
      exact j_iret (pc := 78) C hr hk (fun i => [].getD i 0, fun i => [1].getD i 0, fun i => [].getD i (fun _ => 0), fun i => [].getD i (fun _ => 0)) rfl (show ((1 : Int32) = jn6 (p2).toInt p0 p1) from ((by unfold jn6; rw [if_neg (by omega), if_neg (by omega), if_pos (by omega)]; rw [if_pos ((i_lt _ _).mpr (by omega))]))) [] (by decide) rfl (by decide) (by decide) dX1_join_78
  · skip
    refine j_tin (pc := 1) (off := 53) (tgt := 54) C dX1_join_1 (by omega) (by omega) (by rw [sw_1]; decide) (by decide) ?_
    refine j_iload_n (pc := 54) C dX1_join_54 rfl 0 rfl ?_
    refine j_if_ne (pc := 55) (tgt := 62) C dX1_join_55 (by decide) (fun c_6 => ?_) (fun c_6 => ?_)
    · skip
      have el_0 : (0 : Int32).toInt = 0 := rfl
      rw [i_eq] at c_6
      refine j_iconst (pc := 62) (v := 1) C dX1_join_62 (by decide) ?_
      refine j_goto (pc := 63) (tgt := 67) C dX1_join_63 (by decide) ?_
      have el_1 : (1 : Int32).toInt = 1 := rfl
      have el_0 : (0 : Int32).toInt = 0 := rfl
      exact j_iret (pc := 67) C hr hk (fun i => [].getD i 0, fun i => [1].getD i 0, fun i => [].getD i (fun _ => 0), fun i => [].getD i (fun _ => 0)) rfl (show ((1 : Int32) = jn6 (p2).toInt p0 p1) from ((by unfold jn6; rw [if_neg (by omega), if_pos (by omega)]; rw [if_pos (by rw [i_eq, i_eq]; omega)]))) [] (by decide) rfl (by decide) (by decide) dX1_join_67
    · skip
      have el_0 : (0 : Int32).toInt = 0 := rfl
      rw [i_eq] at c_6
      refine j_iload_n (pc := 58) C dX1_join_58 rfl 1 rfl ?_
      refine j_if_eq (pc := 59) (tgt := 66) C dX1_join_59 (by decide) (fun c_7 => ?_) (fun c_7 => ?_)
      · skip
        have el_0 : (0 : Int32).toInt = 0 := rfl
        rw [i_eq] at c_7
        refine j_iconst (pc := 66) (v := 0) C dX1_join_66 (by decide) ?_
        have el_0 : (0 : Int32).toInt = 0 := rfl
        have el_0 : (0 : Int32).toInt = 0 := rfl
        exact j_iret (pc := 67) C hr hk (fun i => [].getD i 0, fun i => [0].getD i 0, fun i => [].getD i (fun _ => 0), fun i => [].getD i (fun _ => 0)) rfl (show ((0 : Int32) = jn6 (p2).toInt p0 p1) from ((by unfold jn6; rw [if_neg (by omega), if_pos (by omega)]; rw [if_neg (by rw [i_eq, i_eq]; omega)]))) [] (by decide) rfl (by decide) (by decide) dX1_join_67
      · skip
        have el_0 : (0 : Int32).toInt = 0 := rfl
        rw [i_eq] at c_7
        refine j_iconst (pc := 62) (v := 1) C dX1_join_62 (by decide) ?_
        refine j_goto (pc := 63) (tgt := 67) C dX1_join_63 (by decide) ?_
        have el_1 : (1 : Int32).toInt = 1 := rfl
        have el_0 : (0 : Int32).toInt = 0 := rfl
        exact j_iret (pc := 67) C hr hk (fun i => [].getD i 0, fun i => [1].getD i 0, fun i => [].getD i (fun _ => 0), fun i => [].getD i (fun _ => 0)) rfl (show ((1 : Int32) = jn6 (p2).toInt p0 p1) from ((by unfold jn6; rw [if_neg (by omega), if_pos (by omega)]; rw [if_pos (by rw [i_eq, i_eq]; omega)]))) [] (by decide) rfl (by decide) (by decide) dX1_join_67
  · skip
    refine j_tin (pc := 1) (off := 39) (tgt := 40) C dX1_join_1 (by omega) (by omega) (by rw [sw_1]; decide) (by decide) ?_
    refine j_iload_n (pc := 40) C dX1_join_40 rfl 0 rfl ?_
    refine j_if_eq (pc := 41) (tgt := 52) C dX1_join_41 (by decide) (fun c_8 => ?_) (fun c_8 => ?_)
    · skip
      have el_0 : (0 : Int32).toInt = 0 := rfl
      rw [i_eq] at c_8
      refine j_iconst (pc := 52) (v := 0) C dX1_join_52 (by decide) ?_
      have el_0 : (0 : Int32).toInt = 0 := rfl
      have el_0 : (0 : Int32).toInt = 0 := rfl
      exact j_iret (pc := 53) C hr hk (fun i => [].getD i 0, fun i => [0].getD i 0, fun i => [].getD i (fun _ => 0), fun i => [].getD i (fun _ => 0)) rfl (show ((0 : Int32) = jn6 (p2).toInt p0 p1) from ((by unfold jn6; rw [if_pos (by omega)]; rw [if_neg (by rw [i_eq, i_eq]; omega)]))) [] (by decide) rfl (by decide) (by decide) dX1_join_53
    · skip
      have el_0 : (0 : Int32).toInt = 0 := rfl
      rw [i_eq] at c_8
      refine j_iload_n (pc := 44) C dX1_join_44 rfl 1 rfl ?_
      refine j_if_eq (pc := 45) (tgt := 52) C dX1_join_45 (by decide) (fun c_9 => ?_) (fun c_9 => ?_)
      · skip
        have el_0 : (0 : Int32).toInt = 0 := rfl
        rw [i_eq] at c_9
        refine j_iconst (pc := 52) (v := 0) C dX1_join_52 (by decide) ?_
        have el_0 : (0 : Int32).toInt = 0 := rfl
        have el_0 : (0 : Int32).toInt = 0 := rfl
        exact j_iret (pc := 53) C hr hk (fun i => [].getD i 0, fun i => [0].getD i 0, fun i => [].getD i (fun _ => 0), fun i => [].getD i (fun _ => 0)) rfl (show ((0 : Int32) = jn6 (p2).toInt p0 p1) from ((by unfold jn6; rw [if_pos (by omega)]; rw [if_neg (by rw [i_eq, i_eq]; omega)]))) [] (by decide) rfl (by decide) (by decide) dX1_join_53
      · skip
        have el_0 : (0 : Int32).toInt = 0 := rfl
        rw [i_eq] at c_9
        refine j_iconst (pc := 48) (v := 1) C dX1_join_48 (by decide) ?_
        refine j_goto (pc := 49) (tgt := 53) C dX1_join_49 (by decide) ?_
        have el_1 : (1 : Int32).toInt = 1 := rfl
        have el_0 : (0 : Int32).toInt = 0 := rfl
        exact j_iret (pc := 53) C hr hk (fun i => [].getD i 0, fun i => [1].getD i 0, fun i => [].getD i (fun _ => 0), fun i => [].getD i (fun _ => 0)) rfl (show ((1 : Int32) = jn6 (p2).toInt p0 p1) from ((by unfold jn6; rw [if_pos (by omega)]; rw [if_pos ⟨by rw [i_eq]; omega, by rw [i_eq]; omega⟩]))) [] (by decide) rfl (by decide) (by decide) dX1_join_53
  · skip
    refine j_tout (pc := 1) (tgt := 98) C dX1_join_1 (by omega) (by decide) ?_
    refine j_iload_n (pc := 98) C dX1_join_98 rfl 0 rfl ?_
    refine j_iload_n (pc := 99) C dX1_join_99 rfl 1 rfl ?_
    obtain ⟨v_10, ev_10⟩ : ∃ z : Int32, p0 * p1 = z := ⟨_, rfl⟩
    refine j_imul (pc := 100) (v := v_10) C dX1_join_100 ev_10 ?_
    have el_0 : (0 : Int32).toInt = 0 := rfl
    exact j_iret (pc := 101) C hr hk (fun i => [].getD i 0, fun i => [v_10].getD i 0, fun i => [].getD i (fun _ => 0), fun i => [].getD i (fun _ => 0)) rfl (show (v_10 = jn6 (p2).toInt p0 p1) from ((by unfold jn6; rw [if_neg (by omega), if_neg (by omega), if_neg (by omega), if_neg (by omega), if_neg (by omega), if_neg (by omega)]; exact ev_10.symm))) [] (by decide) rfl (by decide) (by decide) dX1_join_101
set_option maxHeartbeats 4000000 in
set_option maxRecDepth 100000 in
theorem c_X1_fact (l : Launch) (D : DG) (cyC cyI cyJ cyZ cyO : ClassId) (a0 : Nat) (a1 : Nat) (a2 : Nat) (a3 : Nat) (a4 : Nat) (a5 : Nat) (a6 : Nat) (a7 : Nat) (a8 : Nat) (a9 : Nat) (a10 : Nat) (p0 : Int32) (p1 : Int32) (p2 : Int32) (a_wares : Int32) (a_shelves : Int32) (a_nests : Int32) (a_lids : Int32) (a_tops : Int32) (a_wide : Nat → Int32) (a_deep : Nat → Int32) (a_weight : Nat → Int32) (h_a_wares : 0 ≤ (a_wares).toInt ∧ (a_wares).toInt ≤ 12) (h_a_shelves : 0 ≤ (a_shelves).toInt ∧ (a_shelves).toInt ≤ 4) (h_a_nests : 0 ≤ (a_nests).toInt ∧ (a_nests).toInt ≤ 4) (h_p0 : 0 ≤ (p0).toInt ∧ (p0).toInt ≤ 11) (h_p1 : 0 ≤ (p1).toInt ∧ (p1).toInt ≤ 11) (h_p2 : -8 ≤ (p2).toInt ∧ (p2).toInt ≤ -1) : KK l D (TY cyC cyI cyJ cyZ cyO) yX1_fact cX1_fact 4 (some .int) ({ frames := 0, cells := 0, slots := 0, locals := 0 } : Room) 0 0 [.ref a0, .int p0, .int p1, .int p2] [(a0, .inr (9, [.int a_wares, .int a_shelves, .int a_nests, .ref a1, .ref a2, .ref a3, .ref a4, .ref a5, .ref a6, .int a_lids, .int a_tops, .ref a7, .ref a8, .ref a9, .ref a10])), (a1, .inl (cyI, 12, .inl a_wide)), (a2, .inl (cyI, 12, .inl a_deep)), (a3, .inl (cyI, 12, .inl a_weight))] (fun u => some (.int (u.2.1 0))) (fun u => ((u.2.1 0) = (fcC a_wide a_deep a_weight a_lids (p0).toInt.toNat (p1).toInt.toNat) (-1 - (p2).toInt).toNat)) (fun u => [(a0, .inr (9, [.int a_wares, .int a_shelves, .int a_nests, .ref a1, .ref a2, .ref a3, .ref a4, .ref a5, .ref a6, .int a_lids, .int a_tops, .ref a7, .ref a8, .ref a9, .ref a10])), (a1, .inl (cyI, 12, .inl a_wide)), (a2, .inl (cyI, 12, .inl a_deep)), (a3, .inl (cyI, 12, .inl a_weight))]) := by
  refine KK.of (lv0 := [(0, .ref a0), (1, .int p0), (2, .int p1), (3, .int p2)]) (by decide) rfl (Nat.le_of_ble_eq_true rfl) ?_
  intro p e s m args below meth c A C hr hk hin
  refine j_iload_n (pc := 0) C dX1_fact_0 rfl 3 rfl ?_
  rcases (by omega : p2.toInt = -7 ∨ p2.toInt = -6 ∨ p2.toInt = -5 ∨ p2.toInt = -4 ∨ p2.toInt = -3 ∨ p2.toInt = -2 ∨ p2.toInt = -1 ∨ (¬ p2.toInt = -7 ∧ ¬ p2.toInt = -6 ∧ ¬ p2.toInt = -5 ∧ ¬ p2.toInt = -4 ∧ ¬ p2.toInt = -3 ∧ ¬ p2.toInt = -2 ∧ ¬ p2.toInt = -1)) with sw_1 | sw_1 | sw_1 | sw_1 | sw_1 | sw_1 | sw_1 | sw_1
  · skip
    refine j_tin (pc := 1) (off := 85) (tgt := 86) C dX1_fact_1 (by omega) (by omega) (by rw [sw_1]; decide) (by decide) ?_
    refine j_aload_n (pc := 86) C dX1_fact_86 rfl 0 rfl ?_
    refine j_get (pc := 87) (ci := 9) (v := .int a_lids) C inw_9 0 rfl rfl 9 (by decide) wd_194 rfl rfl dX1_fact_87 ?_
    refine j_iload_n (pc := 90) C dX1_fact_90 rfl 1 rfl ?_
    obtain ⟨v_2, ev_2⟩ : ∃ z : Int32, ((a_lids : Int32).toUInt32 >>> ((p0 : Int32).toUInt32 &&& Int32.toUInt32 31)).toInt32 = z := ⟨_, rfl⟩
    refine j_iushr (pc := 91) (v := v_2) C dX1_fact_91 ev_2 ?_
    refine j_iconst (pc := 92) (v := 1) C dX1_fact_92 (by decide) ?_
    obtain ⟨v_3, ev_3⟩ : ∃ z : Int32, v_2 &&& 1 = z := ⟨_, rfl⟩
    have el_1 : (1 : Int32).toInt = 1 := rfl
    have hv_3 : 0 ≤ v_3.toInt ∧ v_3.toInt ≤ 1 := by rw [← ev_3]; exact and1_r _
    refine j_iand (pc := 93) (v := v_3) C dX1_fact_93 ev_3 ?_
    exact j_iret (pc := 94) C hr hk (fun i => [].getD i 0, fun i => [v_3].getD i 0, fun i => [].getD i (fun _ => 0), fun i => [].getD i (fun _ => 0)) rfl (show (v_3 = (fcC a_wide a_deep a_weight a_lids (p0).toInt.toNat (p1).toInt.toNat) (-1 - (p2).toInt).toNat) from ((by rw [show (-1 - (p2).toInt).toNat = 6 from (by omega)]; show _ = (if BT a_lids (p0).toInt.toNat = true then (1 : Int32) else 0); rw [← ev_3, ← ev_2]; exact bt_rd32 (by omega) (by omega)))) [0, 1, 2, 3] (by decide) rfl (by decide) (by decide) dX1_fact_94
  · skip
    refine j_tin (pc := 1) (off := 78) (tgt := 79) C dX1_fact_1 (by omega) (by omega) (by rw [sw_1]; decide) (by decide) ?_
    refine j_aload_n (pc := 79) C dX1_fact_79 rfl 0 rfl ?_
    refine j_get (pc := 80) (ci := 9) (v := .ref a3) C inw_9 0 rfl rfl 5 (by decide) wd_195 rfl rfl dX1_fact_80 ?_
    refine j_iload_n (pc := 83) C dX1_fact_83 rfl 2 rfl ?_
    obtain ⟨v_4, ev_4⟩ : ∃ z, a_weight (p1).toInt.toNat = z := ⟨_, rfl⟩
    have env_4 : (a_weight (p1).toInt.toNat).toInt = v_4.toInt := by rw [ev_4]
    refine j_iald (pc := 84) (v := v_4) (k := (p1).toInt.toNat) C 3 1 rfl rfl (i_nn h_p1.1) rfl (i_lt_n h_p1.1 (Int.lt_of_le_of_lt h_p1.2 (by decide))) ev_4 dX1_fact_84 ?_
    exact j_iret (pc := 85) C hr hk (fun i => [].getD i 0, fun i => [v_4].getD i 0, fun i => [].getD i (fun _ => 0), fun i => [].getD i (fun _ => 0)) rfl (show (v_4 = (fcC a_wide a_deep a_weight a_lids (p0).toInt.toNat (p1).toInt.toNat) (-1 - (p2).toInt).toNat) from ((by rw [show (-1 - (p2).toInt).toNat = 5 from (by omega)]; exact ev_4.symm))) [0, 1, 2, 3] (by decide) rfl (by decide) (by decide) dX1_fact_85
  · skip
    refine j_tin (pc := 1) (off := 71) (tgt := 72) C dX1_fact_1 (by omega) (by omega) (by rw [sw_1]; decide) (by decide) ?_
    refine j_aload_n (pc := 72) C dX1_fact_72 rfl 0 rfl ?_
    refine j_get (pc := 73) (ci := 9) (v := .ref a3) C inw_9 0 rfl rfl 5 (by decide) wd_195 rfl rfl dX1_fact_73 ?_
    refine j_iload_n (pc := 76) C dX1_fact_76 rfl 1 rfl ?_
    obtain ⟨v_5, ev_5⟩ : ∃ z, a_weight (p0).toInt.toNat = z := ⟨_, rfl⟩
    have env_5 : (a_weight (p0).toInt.toNat).toInt = v_5.toInt := by rw [ev_5]
    refine j_iald (pc := 77) (v := v_5) (k := (p0).toInt.toNat) C 3 1 rfl rfl (i_nn h_p0.1) rfl (i_lt_n h_p0.1 (Int.lt_of_le_of_lt h_p0.2 (by decide))) ev_5 dX1_fact_77 ?_
    exact j_iret (pc := 78) C hr hk (fun i => [].getD i 0, fun i => [v_5].getD i 0, fun i => [].getD i (fun _ => 0), fun i => [].getD i (fun _ => 0)) rfl (show (v_5 = (fcC a_wide a_deep a_weight a_lids (p0).toInt.toNat (p1).toInt.toNat) (-1 - (p2).toInt).toNat) from ((by rw [show (-1 - (p2).toInt).toNat = 4 from (by omega)]; exact ev_5.symm))) [0, 1, 2, 3] (by decide) rfl (by decide) (by decide) dX1_fact_78
  · skip
    refine j_tin (pc := 1) (off := 64) (tgt := 65) C dX1_fact_1 (by omega) (by omega) (by rw [sw_1]; decide) (by decide) ?_
    refine j_aload_n (pc := 65) C dX1_fact_65 rfl 0 rfl ?_
    refine j_get (pc := 66) (ci := 9) (v := .ref a2) C inw_9 0 rfl rfl 4 (by decide) wd_196 rfl rfl dX1_fact_66 ?_
    refine j_iload_n (pc := 69) C dX1_fact_69 rfl 2 rfl ?_
    obtain ⟨v_6, ev_6⟩ : ∃ z, a_deep (p1).toInt.toNat = z := ⟨_, rfl⟩
    have env_6 : (a_deep (p1).toInt.toNat).toInt = v_6.toInt := by rw [ev_6]
    refine j_iald (pc := 70) (v := v_6) (k := (p1).toInt.toNat) C 2 1 rfl rfl (i_nn h_p1.1) rfl (i_lt_n h_p1.1 (Int.lt_of_le_of_lt h_p1.2 (by decide))) ev_6 dX1_fact_70 ?_
    exact j_iret (pc := 71) C hr hk (fun i => [].getD i 0, fun i => [v_6].getD i 0, fun i => [].getD i (fun _ => 0), fun i => [].getD i (fun _ => 0)) rfl (show (v_6 = (fcC a_wide a_deep a_weight a_lids (p0).toInt.toNat (p1).toInt.toNat) (-1 - (p2).toInt).toNat) from ((by rw [show (-1 - (p2).toInt).toNat = 3 from (by omega)]; exact ev_6.symm))) [0, 1, 2, 3] (by decide) rfl (by decide) (by decide) dX1_fact_71
  · skip
    refine j_tin (pc := 1) (off := 57) (tgt := 58) C dX1_fact_1 (by omega) (by omega) (by rw [sw_1]; decide) (by decide) ?_
    refine j_aload_n (pc := 58) C dX1_fact_58 rfl 0 rfl ?_
    refine j_get (pc := 59) (ci := 9) (v := .ref a2) C inw_9 0 rfl rfl 4 (by decide) wd_196 rfl rfl dX1_fact_59 ?_
    refine j_iload_n (pc := 62) C dX1_fact_62 rfl 1 rfl ?_
    obtain ⟨v_7, ev_7⟩ : ∃ z, a_deep (p0).toInt.toNat = z := ⟨_, rfl⟩
    have env_7 : (a_deep (p0).toInt.toNat).toInt = v_7.toInt := by rw [ev_7]
    refine j_iald (pc := 63) (v := v_7) (k := (p0).toInt.toNat) C 2 1 rfl rfl (i_nn h_p0.1) rfl (i_lt_n h_p0.1 (Int.lt_of_le_of_lt h_p0.2 (by decide))) ev_7 dX1_fact_63 ?_
    exact j_iret (pc := 64) C hr hk (fun i => [].getD i 0, fun i => [v_7].getD i 0, fun i => [].getD i (fun _ => 0), fun i => [].getD i (fun _ => 0)) rfl (show (v_7 = (fcC a_wide a_deep a_weight a_lids (p0).toInt.toNat (p1).toInt.toNat) (-1 - (p2).toInt).toNat) from ((by rw [show (-1 - (p2).toInt).toNat = 2 from (by omega)]; exact ev_7.symm))) [0, 1, 2, 3] (by decide) rfl (by decide) (by decide) dX1_fact_64
  · skip
    refine j_tin (pc := 1) (off := 50) (tgt := 51) C dX1_fact_1 (by omega) (by omega) (by rw [sw_1]; decide) (by decide) ?_
    refine j_aload_n (pc := 51) C dX1_fact_51 rfl 0 rfl ?_
    refine j_get (pc := 52) (ci := 9) (v := .ref a1) C inw_9 0 rfl rfl 3 (by decide) wd_197 rfl rfl dX1_fact_52 ?_
    refine j_iload_n (pc := 55) C dX1_fact_55 rfl 2 rfl ?_
    obtain ⟨v_8, ev_8⟩ : ∃ z, a_wide (p1).toInt.toNat = z := ⟨_, rfl⟩
    have env_8 : (a_wide (p1).toInt.toNat).toInt = v_8.toInt := by rw [ev_8]
    refine j_iald (pc := 56) (v := v_8) (k := (p1).toInt.toNat) C 1 1 rfl rfl (i_nn h_p1.1) rfl (i_lt_n h_p1.1 (Int.lt_of_le_of_lt h_p1.2 (by decide))) ev_8 dX1_fact_56 ?_
    exact j_iret (pc := 57) C hr hk (fun i => [].getD i 0, fun i => [v_8].getD i 0, fun i => [].getD i (fun _ => 0), fun i => [].getD i (fun _ => 0)) rfl (show (v_8 = (fcC a_wide a_deep a_weight a_lids (p0).toInt.toNat (p1).toInt.toNat) (-1 - (p2).toInt).toNat) from ((by rw [show (-1 - (p2).toInt).toNat = 1 from (by omega)]; exact ev_8.symm))) [0, 1, 2, 3] (by decide) rfl (by decide) (by decide) dX1_fact_57
  · skip
    refine j_tin (pc := 1) (off := 43) (tgt := 44) C dX1_fact_1 (by omega) (by omega) (by rw [sw_1]; decide) (by decide) ?_
    refine j_aload_n (pc := 44) C dX1_fact_44 rfl 0 rfl ?_
    refine j_get (pc := 45) (ci := 9) (v := .ref a1) C inw_9 0 rfl rfl 3 (by decide) wd_197 rfl rfl dX1_fact_45 ?_
    refine j_iload_n (pc := 48) C dX1_fact_48 rfl 1 rfl ?_
    obtain ⟨v_9, ev_9⟩ : ∃ z, a_wide (p0).toInt.toNat = z := ⟨_, rfl⟩
    have env_9 : (a_wide (p0).toInt.toNat).toInt = v_9.toInt := by rw [ev_9]
    refine j_iald (pc := 49) (v := v_9) (k := (p0).toInt.toNat) C 1 1 rfl rfl (i_nn h_p0.1) rfl (i_lt_n h_p0.1 (Int.lt_of_le_of_lt h_p0.2 (by decide))) ev_9 dX1_fact_49 ?_
    exact j_iret (pc := 50) C hr hk (fun i => [].getD i 0, fun i => [v_9].getD i 0, fun i => [].getD i (fun _ => 0), fun i => [].getD i (fun _ => 0)) rfl (show (v_9 = (fcC a_wide a_deep a_weight a_lids (p0).toInt.toNat (p1).toInt.toNat) (-1 - (p2).toInt).toNat) from ((by rw [show (-1 - (p2).toInt).toNat = 0 from (by omega)]; exact ev_9.symm))) [0, 1, 2, 3] (by decide) rfl (by decide) (by decide) dX1_fact_50
  · skip
    refine j_tout (pc := 1) (tgt := 95) C dX1_fact_1 (by omega) (by decide) ?_
    refine j_aload_n (pc := 95) C dX1_fact_95 rfl 0 rfl ?_
    refine j_get (pc := 96) (ci := 9) (v := .int a_lids) C inw_9 0 rfl rfl 9 (by decide) wd_194 rfl rfl dX1_fact_96 ?_
    refine j_iload_n (pc := 99) C dX1_fact_99 rfl 2 rfl ?_
    obtain ⟨v_10, ev_10⟩ : ∃ z : Int32, ((a_lids : Int32).toUInt32 >>> ((p1 : Int32).toUInt32 &&& Int32.toUInt32 31)).toInt32 = z := ⟨_, rfl⟩
    refine j_iushr (pc := 100) (v := v_10) C dX1_fact_100 ev_10 ?_
    refine j_iconst (pc := 101) (v := 1) C dX1_fact_101 (by decide) ?_
    obtain ⟨v_11, ev_11⟩ : ∃ z : Int32, v_10 &&& 1 = z := ⟨_, rfl⟩
    have el_1 : (1 : Int32).toInt = 1 := rfl
    have hv_11 : 0 ≤ v_11.toInt ∧ v_11.toInt ≤ 1 := by rw [← ev_11]; exact and1_r _
    refine j_iand (pc := 102) (v := v_11) C dX1_fact_102 ev_11 ?_
    exact j_iret (pc := 103) C hr hk (fun i => [].getD i 0, fun i => [v_11].getD i 0, fun i => [].getD i (fun _ => 0), fun i => [].getD i (fun _ => 0)) rfl (show (v_11 = (fcC a_wide a_deep a_weight a_lids (p0).toInt.toNat (p1).toInt.toNat) (-1 - (p2).toInt).toNat) from ((by rw [show (-1 - (p2).toInt).toNat = 7 from (by omega)]; show _ = (if BT a_lids (p1).toInt.toNat = true then (1 : Int32) else 0); rw [← ev_11, ← ev_10]; exact bt_rd32 (by omega) (by omega)))) [0, 1, 2, 3] (by decide) rfl (by decide) (by decide) dX1_fact_103
set_option maxHeartbeats 4000000 in
set_option maxRecDepth 100000 in
theorem c_X1_value (l : Launch) (D : DG) (cyC cyI cyJ cyZ cyO : ClassId) (e0 : Nat) (e1 : Nat) (e3 : Nat) (a0 : Nat) (a1 : Nat) (a2 : Nat) (a3 : Nat) (e2 : Nat) (a4 : Nat) (a5 : Nat) (a6 : Nat) (a7 : Nat) (a8 : Nat) (a9 : Nat) (a10 : Nat) (p0 : Int32) (p1 : Int32) (p2 : Int32) (p3 : Int32) (e_size : Int32) (e_nests : Int32) (a_wares : Int32) (a_shelves : Int32) (a_nests : Int32) (a_lids : Int32) (a_tops : Int32) (e_steps : Nat → Int32) (e_values : Nat → Int32) (a_wide : Nat → Int32) (a_deep : Nat → Int32) (a_weight : Nat → Int32) (h_e_size : 0 ≤ (e_size).toInt ∧ (e_size).toInt ≤ 1000) (h_e_nests : 0 ≤ (e_nests).toInt ∧ (e_nests).toInt ≤ 4) (h_a_wares : 0 ≤ (a_wares).toInt ∧ (a_wares).toInt ≤ 12) (h_a_shelves : 0 ≤ (a_shelves).toInt ∧ (a_shelves).toInt ≤ 4) (h_a_nests : 0 ≤ (a_nests).toInt ∧ (a_nests).toInt ≤ 4) (h_p0 : 0 ≤ (p0).toInt ∧ (p0).toInt ≤ 11) (h_p1 : 0 ≤ (p1).toInt ∧ (p1).toInt ≤ 11) (h_p2 : 0 ≤ (p2).toInt ∧ (p2).toInt ≤ 1000) (h_p3 : 0 ≤ (p3).toInt ∧ (p3).toInt ≤ 1000) (hst6 : (p2).toInt ≤ (p3).toInt) : KK l D (TY cyC cyI cyJ cyZ cyO) yX1_value cX1_value 9 (some .int) ({ frames := 1, cells := 0, slots := 0, locals := 23 } : Room) 0 0 [.ref e0, .ref a0, .int p0, .int p1, .int p2, .int p3] [(e0, .inr (1, [.int e_size, .int e_nests, .ref e1, .ref e2, .ref e3])), (e1, .inl (cyI, 1000, .inl e_steps)), (e3, .inl (cyI, 32, .inl e_values)), (a0, .inr (9, [.int a_wares, .int a_shelves, .int a_nests, .ref a1, .ref a2, .ref a3, .ref a4, .ref a5, .ref a6, .int a_lids, .int a_tops, .ref a7, .ref a8, .ref a9, .ref a10])), (a1, .inl (cyI, 12, .inl a_wide)), (a2, .inl (cyI, 12, .inl a_deep)), (a3, .inl (cyI, 12, .inl a_weight))] (fun u => some (.int (u.2.1 0))) (fun u => (∀ V : (Nat → Int32) → Int32, CSeg e_steps (p2).toInt.toNat (p3).toInt.toNat 25 V → (u.2.1 0) = V (fcC a_wide a_deep a_weight a_lids (p0).toInt.toNat (p1).toInt.toNat))) (fun u => [(e0, .inr (1, [.int e_size, .int e_nests, .ref e1, .ref e2, .ref e3])), (e1, .inl (cyI, 1000, .inl e_steps)), (e3, .inl (cyI, 32, .inl (u.2.2.1 0))), (a0, .inr (9, [.int a_wares, .int a_shelves, .int a_nests, .ref a1, .ref a2, .ref a3, .ref a4, .ref a5, .ref a6, .int a_lids, .int a_tops, .ref a7, .ref a8, .ref a9, .ref a10])), (a1, .inl (cyI, 12, .inl a_wide)), (a2, .inl (cyI, 12, .inl a_deep)), (a3, .inl (cyI, 12, .inl a_weight))]) := by
  refine KK.of (lv0 := [(0, .ref e0), (1, .ref a0), (2, .int p0), (3, .int p1), (4, .int p2), (5, .int p3)]) (by decide) rfl (Nat.le_of_ble_eq_true rfl) ?_
  intro p e s m args below meth c A C hr hk hin
  refine j_iconst (pc := 0) (v := 0) C dX1_value_0 (by decide) ?_
  refine j_istore (pc := 1) (lv' := [(6, .int 0), (0, .ref e0), (1, .ref a0), (2, .int p0), (3, .int p1), (4, .int p2), (5, .int p3)]) C dX1_value_1 (by decide) rfl ?_
  refine j_iload (pc := 3) C dX1_value_3 5 rfl ?_
  refine j_istore (pc := 5) (lv' := [(7, .int p2), (6, .int 0), (0, .ref e0), (1, .ref a0), (2, .int p0), (3, .int p1), (4, .int p2), (5, .int p3)]) C dX1_value_5 (by decide) rfl ?_
  have loop_1 : ∀ (k_1 : Nat) (x1_7 : Int32) (x1_6 : Int32) (g1_e3 : Nat → Int32), (0 ≤ (x1_7).toInt ∧ (x1_7).toInt ≤ 1000) → (0 ≤ (x1_6).toInt ∧ (x1_6).toInt ≤ 32) → ((p2).toInt ≤ x1_7.toInt ∧ x1_7.toInt ≤ (p3).toInt) → (crun (fcC a_wide a_deep a_weight a_lids (p0).toInt.toNat (p1).toInt.toNat) e_steps (x1_7.toInt - (p2).toInt).toNat (p2).toInt.toNat (0, e_values) = ((x1_6.toInt).toNat, g1_e3)) → (1000 - x1_7.toInt).toNat < k_1 → J p l e ({ frames := 1, cells := 0, slots := 0, locals := 23 } : Room) s m args below meth c D A 9 0 0 (QX below D (TY cyC cyI cyJ cyZ cyO) A (fun u => some (.int (u.2.1 0))) (fun u => (∀ V : (Nat → Int32) → Int32, CSeg e_steps (p2).toInt.toNat (p3).toInt.toNat 25 V → (u.2.1 0) = V (fcC a_wide a_deep a_weight a_lids (p0).toInt.toNat (p1).toInt.toNat))) (fun u => [(e0, .inr (1, [.int e_size, .int e_nests, .ref e1, .ref e2, .ref e3])), (e1, .inl (cyI, 1000, .inl e_steps)), (e3, .inl (cyI, 32, .inl (u.2.2.1 0))), (a0, .inr (9, [.int a_wares, .int a_shelves, .int a_nests, .ref a1, .ref a2, .ref a3, .ref a4, .ref a5, .ref a6, .int a_lids, .int a_tops, .ref a7, .ref a8, .ref a9, .ref a10])), (a1, .inl (cyI, 12, .inl a_wide)), (a2, .inl (cyI, 12, .inl a_deep)), (a3, .inl (cyI, 12, .inl a_weight))]) args s 0 0) [(e0, .inr (1, [.int e_size, .int e_nests, .ref e1, .ref e2, .ref e3])), (e1, .inl (cyI, 1000, .inl e_steps)), (e3, .inl (cyI, 32, .inl g1_e3)), (a0, .inr (9, [.int a_wares, .int a_shelves, .int a_nests, .ref a1, .ref a2, .ref a3, .ref a4, .ref a5, .ref a6, .int a_lids, .int a_tops, .ref a7, .ref a8, .ref a9, .ref a10])), (a1, .inl (cyI, 12, .inl a_wide)), (a2, .inl (cyI, 12, .inl a_deep)), (a3, .inl (cyI, 12, .inl a_weight))] 7 [(7, .int x1_7), (6, .int x1_6), (0, .ref e0), (1, .ref a0), (2, .int p0), (3, .int p1), (4, .int p2), (5, .int p3)] [] := by
    intro k_1
    induction k_1 with
    | zero =>
      intro x1_7 x1_6 g1_e3 hi_1_0 hi_1_1 hr_1 hq_1_0 hm_1
      exact absurd hm_1 (Nat.not_lt_zero _)
    | succ k_1 ih_1 =>
      intro x1_7 x1_6 g1_e3 hi_1_0 hi_1_1 hr_1 hq_1_0 hm_1
      refine j_iload (pc := 7) C dX1_value_7 0 rfl ?_
      refine j_iload (pc := 9) C dX1_value_9 7 rfl ?_
      refine j_icmp_ge (pc := 11) (tgt := 162) C dX1_value_11 (by decide) (fun c_2 => ?_) (fun c_2 => ?_)
      · skip
        rw [i_le] at c_2
        refine j_aload_n (pc := 162) C dX1_value_162 rfl 2 rfl ?_
        refine j_get (pc := 163) (ci := 1) (v := .ref e3) C inw_1 0 rfl rfl 4 (by decide) wd_198 rfl rfl dX1_value_163 ?_
        refine j_iconst (pc := 166) (v := 0) C dX1_value_166 (by decide) ?_
        obtain ⟨v_3, ev_3⟩ : ∃ z, g1_e3 0 = z := ⟨_, rfl⟩
        have env_3 : (g1_e3 0).toInt = v_3.toInt := by rw [ev_3]
        refine j_iald (pc := 167) (v := v_3) (k := 0) C 2 1 rfl rfl (by decide) (by decide) (by decide) ev_3 dX1_value_167 ?_
        exact j_iret (pc := 168) C hr hk (fun i => [].getD i 0, fun i => [v_3].getD i 0, fun i => [g1_e3].getD i (fun _ => 0), fun i => [].getD i (fun _ => 0)) rfl (show (∀ V : (Nat → Int32) → Int32, CSeg e_steps (p2).toInt.toNat (p3).toInt.toNat 25 V → v_3 = V (fcC a_wide a_deep a_weight a_lids (p0).toInt.toNat (p1).toInt.toNat)) from ((fun V hV => by have y := (hV.2 (fcC a_wide a_deep a_weight a_lids (p0).toInt.toNat (p1).toInt.toNat) (0, e_values) (show (0 : Nat) + 25 ≤ 32 from by decide)).2.1; rw [show (p3).toInt.toNat - (p2).toInt.toNat = (x1_7.toInt - (p2).toInt).toNat from (by omega), hq_1_0] at y; exact ev_3.symm.trans y))) [0, 1, 2, 3, 4, 5, 6] (by decide) rfl (by decide) (by decide) dX1_value_168
      · skip
        rw [i_le] at c_2
        refine j_aload_n (pc := 14) C dX1_value_14 rfl 2 rfl ?_
        refine j_get (pc := 15) (ci := 1) (v := .ref e1) C inw_1 0 rfl rfl 2 (by decide) wd_192 rfl rfl dX1_value_15 ?_
        refine j_iload (pc := 18) C dX1_value_18 0 rfl ?_
        obtain ⟨v_4, ev_4⟩ : ∃ z, e_steps (x1_7).toInt.toNat = z := ⟨_, rfl⟩
        have env_4 : (e_steps (x1_7).toInt.toNat).toInt = v_4.toInt := by rw [ev_4]
        refine j_iald (pc := 20) (v := v_4) (k := (x1_7).toInt.toNat) C 1 1 rfl rfl (i_nn hi_1_0.1) rfl (i_lt_n hi_1_0.1 (by omega)) ev_4 dX1_value_20 ?_
        refine j_istore (pc := 21) (lv' := [(8, .int v_4), (7, .int x1_7), (6, .int x1_6), (0, .ref e0), (1, .ref a0), (2, .int p0), (3, .int p1), (4, .int p2), (5, .int p3)]) C dX1_value_21 (by decide) rfl ?_
        refine j_iload (pc := 23) C dX1_value_23 0 rfl ?_
        refine j_bipush (pc := 25) (v := (-8)) C dX1_value_25 (by decide) ?_
        refine j_icmp_lt (pc := 27) (tgt := 68) C dX1_value_27 (by decide) (fun c_5 => ?_) (fun c_5 => ?_)
        · skip
          have el_m8 : ((-8) : Int32).toInt = (-8) := rfl
          rw [i_lt] at c_5
          refine j_iload (pc := 68) C dX1_value_68 0 rfl ?_
          refine j_bipush (pc := 70) (v := (-9)) C dX1_value_70 (by decide) ?_
          refine j_icmp_ne (pc := 72) (tgt := 110) C dX1_value_72 (by decide) (fun c_6 => ?_) (fun c_6 => ?_)
          · skip
            have el_m9 : ((-9) : Int32).toInt = (-9) := rfl
            rw [i_eq] at c_6
            refine j_iload (pc := 110) C dX1_value_110 0 rfl ?_
            refine j_bipush (pc := 112) (v := (-9)) C dX1_value_112 (by decide) ?_
            have el_m9 : ((-9) : Int32).toInt = (-9) := rfl
            refine j_icmp_ge_f (pc := 114) (tgt := 156) C dX1_value_114 (by decide) (by rw [i_le]; omega) ?_
            refine j_iload (pc := 117) C dX1_value_117 2 rfl ?_
            refine j_iconst (pc := 119) (v := 2) C dX1_value_119 (by decide) ?_
            refine j_icmp_lt (pc := 120) (tgt := 156) C dX1_value_120 (by decide) (fun c_7 => ?_) (fun c_7 => ?_)
            · skip
              have el_2 : (2 : Int32).toInt = 2 := rfl
              rw [i_lt] at c_7
              obtain ⟨v_8, ev_8⟩ : ∃ z : Int32, x1_7 + 1 = z := ⟨_, rfl⟩
              have el_1 : (1 : Int32).toInt = 1 := rfl
              have hv_8 : v_8.toInt = x1_7.toInt + (1 : Int32).toInt := by rw [← ev_8]; exact fb_addI (by omega) (by omega)
              refine j_iinc (pc := 156) (v := v_8) (lv' := [(7, .int v_8), (8, .int v_4), (6, .int x1_6), (0, .ref e0), (1, .ref a0), (2, .int p0), (3, .int p1), (4, .int p2), (5, .int p3)]) C dX1_value_156 1 rfl ev_8 (by decide) rfl ?_
              refine j_goto (pc := 159) (tgt := 7) C dX1_value_159 (by decide) ?_
              exact j_lv [0, 2, 3, 4, 5, 6, 7, 8] rfl (ih_1 v_8 x1_6 g1_e3 (by omega) hi_1_1 (by omega) (by rw [show (v_8.toInt - (p2).toInt).toNat = (x1_7.toInt - (p2).toInt).toNat + 1 from (by omega), crun_snoc hq_1_0 (x := v_4) (by rw [show (p2).toInt.toNat + (x1_7.toInt - (p2).toInt).toNat = (x1_7).toInt.toNat from (by omega)]; exact ev_4)]; exact cst_bin0 (by omega) (by omega) (by omega)) (by omega))
            · skip
              have el_2 : (2 : Int32).toInt = 2 := rfl
              rw [i_lt] at c_7
              obtain ⟨v_9, ev_9⟩ : ∃ z : Int32, x1_6 + (-1) = z := ⟨_, rfl⟩
              have el_m1 : ((-1) : Int32).toInt = (-1) := rfl
              have hv_9 : v_9.toInt = x1_6.toInt + ((-1) : Int32).toInt := by rw [← ev_9]; exact fb_addI (by omega) (by omega)
              refine j_iinc (pc := 123) (v := v_9) (lv' := [(6, .int v_9), (8, .int v_4), (7, .int x1_7), (0, .ref e0), (1, .ref a0), (2, .int p0), (3, .int p1), (4, .int p2), (5, .int p3)]) C dX1_value_123 2 rfl ev_9 (by decide) rfl ?_
              refine j_aload_n (pc := 126) C dX1_value_126 rfl 3 rfl ?_
              refine j_get (pc := 127) (ci := 1) (v := .ref e3) C inw_1 0 rfl rfl 4 (by decide) wd_198 rfl rfl dX1_value_127 ?_
              refine j_iload (pc := 130) C dX1_value_130 0 rfl ?_
              refine j_iconst (pc := 132) (v := 1) C dX1_value_132 (by decide) ?_
              obtain ⟨v_10, ev_10⟩ : ∃ z : Int32, v_9 - 1 = z := ⟨_, rfl⟩
              have el_1 : (1 : Int32).toInt = 1 := rfl
              have hv_10 : v_10.toInt = v_9.toInt - (1 : Int32).toInt := by rw [← ev_10]; exact fb_subI (by omega) (by omega)
              refine j_isub (pc := 133) (v := v_10) C dX1_value_133 ev_10 ?_
              refine j_aload_n (pc := 134) C dX1_value_134 rfl 3 rfl ?_
              refine j_get (pc := 135) (ci := 1) (v := .ref e3) C inw_1 0 rfl rfl 4 (by decide) wd_198 rfl rfl dX1_value_135 ?_
              refine j_iload (pc := 138) C dX1_value_138 0 rfl ?_
              refine j_iconst (pc := 140) (v := 1) C dX1_value_140 (by decide) ?_
              obtain ⟨v_11, ev_11⟩ : ∃ z : Int32, v_9 - 1 = z := ⟨_, rfl⟩
              have el_1 : (1 : Int32).toInt = 1 := rfl
              have hv_11 : v_11.toInt = v_9.toInt - (1 : Int32).toInt := by rw [← ev_11]; exact fb_subI (by omega) (by omega)
              refine j_isub (pc := 141) (v := v_11) C dX1_value_141 ev_11 ?_
              obtain ⟨v_12, ev_12⟩ : ∃ z, g1_e3 (v_11).toInt.toNat = z := ⟨_, rfl⟩
              have env_12 : (g1_e3 (v_11).toInt.toNat).toInt = v_12.toInt := by rw [ev_12]
              refine j_iald (pc := 142) (v := v_12) (k := (v_11).toInt.toNat) C 2 1 rfl rfl (i_nn (by omega)) rfl (i_lt_n (by omega) (by omega)) ev_12 dX1_value_142 ?_
              refine j_aload_n (pc := 143) C dX1_value_143 rfl 3 rfl ?_
              refine j_get (pc := 144) (ci := 1) (v := .ref e3) C inw_1 0 rfl rfl 4 (by decide) wd_198 rfl rfl dX1_value_144 ?_
              refine j_iload (pc := 147) C dX1_value_147 0 rfl ?_
              obtain ⟨v_13, ev_13⟩ : ∃ z, g1_e3 (v_9).toInt.toNat = z := ⟨_, rfl⟩
              have env_13 : (g1_e3 (v_9).toInt.toNat).toInt = v_13.toInt := by rw [ev_13]
              refine j_iald (pc := 149) (v := v_13) (k := (v_9).toInt.toNat) C 2 1 rfl rfl (i_nn (by omega)) rfl (i_lt_n (by omega) (by omega)) ev_13 dX1_value_149 ?_
              refine j_iload (pc := 150) C dX1_value_150 1 rfl ?_
              refine j_callS (pc := 152) (As := [.int v_12, .int v_13, .int v_4]) (rest := [.int v_10, .ref e3]) (wr := [(e0, .inr (1, [.int e_size, .int e_nests, .ref e1, .ref e2, .ref e3])), (e1, .inl (cyI, 1000, .inl e_steps)), (e3, .inl (cyI, 32, .inl g1_e3)), (a0, .inr (9, [.int a_wares, .int a_shelves, .int a_nests, .ref a1, .ref a2, .ref a3, .ref a4, .ref a5, .ref a6, .int a_lids, .int a_tops, .ref a7, .ref a8, .ref a9, .ref a10])), (a1, .inl (cyI, 12, .inl a_wide)), (a2, .inl (cyI, 12, .inl a_deep)), (a3, .inl (cyI, 12, .inl a_weight))]) C (c_X1_join l D cyC cyI cyJ cyZ cyO v_12 v_13 v_4) wd_203 wd_200 wd_204 wd_205 ⟨by decide, by decide, rfl⟩ rfl ⟨rfl, rfl, by decide, by decide⟩ ⟨by decide, by decide⟩ [] [0, 1, 2, 3, 4, 5, 6] rfl rfl ⟨by decide, by decide, by decide⟩ rfl (Nat.le_of_ble_eq_true rfl) dX1_value_152 (fun u_14 hw_15 => ?_)
              refine j_eq (ws2 := [(e0, .inr (1, [.int e_size, .int e_nests, .ref e1, .ref e2, .ref e3])), (e1, .inl (cyI, 1000, .inl e_steps)), (e3, .inl (cyI, 32, .inl g1_e3)), (a0, .inr (9, [.int a_wares, .int a_shelves, .int a_nests, .ref a1, .ref a2, .ref a3, .ref a4, .ref a5, .ref a6, .int a_lids, .int a_tops, .ref a7, .ref a8, .ref a9, .ref a10])), (a1, .inl (cyI, 12, .inl a_wide)), (a2, .inl (cyI, 12, .inl a_deep)), (a3, .inl (cyI, 12, .inl a_weight))]) (pc2 := 155) (lv2 := [(6, .int v_9), (8, .int v_4), (7, .int x1_7), (0, .ref e0), (1, .ref a0), (2, .int p0), (3, .int p1), (4, .int p2), (5, .int p3)]) (st2 := [.int (u_14.2.1 0), .int v_10, .ref e3]) rfl rfl rfl rfl ?_
              have hw_15_0 : (u_14.2.1 0) = jn6 (v_4).toInt v_12 v_13 := hw_15
              obtain ⟨f_16, ef_16⟩ : ∃ z, z = upd g1_e3 (v_10).toInt.toNat (u_14.2.1 0) := ⟨_, rfl⟩
              refine j_iast (pc := 155) (k := (v_10).toInt.toNat) (ws' := [(e0, .inr (1, [.int e_size, .int e_nests, .ref e1, .ref e2, .ref e3])), (e1, .inl (cyI, 1000, .inl e_steps)), (e3, .inl (cyI, 32, .inl f_16)), (a0, .inr (9, [.int a_wares, .int a_shelves, .int a_nests, .ref a1, .ref a2, .ref a3, .ref a4, .ref a5, .ref a6, .int a_lids, .int a_tops, .ref a7, .ref a8, .ref a9, .ref a10])), (a1, .inl (cyI, 12, .inl a_wide)), (a2, .inl (cyI, 12, .inl a_deep)), (a3, .inl (cyI, 12, .inl a_weight))]) C 2 1 rfl rfl (i_nn (by omega)) rfl (i_lt_n (by omega) (by omega)) dX1_value_155 (by rw [ef_16]; rfl) ?_
              obtain ⟨v_17, ev_17⟩ : ∃ z : Int32, x1_7 + 1 = z := ⟨_, rfl⟩
              have el_1 : (1 : Int32).toInt = 1 := rfl
              have hv_17 : v_17.toInt = x1_7.toInt + (1 : Int32).toInt := by rw [← ev_17]; exact fb_addI (by omega) (by omega)
              refine j_iinc (pc := 156) (v := v_17) (lv' := [(7, .int v_17), (6, .int v_9), (8, .int v_4), (0, .ref e0), (1, .ref a0), (2, .int p0), (3, .int p1), (4, .int p2), (5, .int p3)]) C dX1_value_156 2 rfl ev_17 (by decide) rfl ?_
              refine j_goto (pc := 159) (tgt := 7) C dX1_value_159 (by decide) ?_
              exact j_lv [0, 1, 3, 4, 5, 6, 7, 8] rfl (ih_1 v_17 v_9 f_16 (by omega) (by omega) (by omega) (by rw [show (v_17.toInt - (p2).toInt).toNat = (x1_7.toInt - (p2).toInt).toNat + 1 from (by omega), crun_snoc hq_1_0 (x := v_4) (by rw [show (p2).toInt.toNat + (x1_7.toInt - (p2).toInt).toNat = (x1_7).toInt.toNat from (by omega)]; exact ev_4)]; exact cst_bin (m := (v_10).toInt.toNat) (k := (v_9).toInt.toNat) (by omega) (by omega) (by omega) (by omega) (by omega) (by rw [show (v_10).toInt.toNat = (v_11).toInt.toNat from (by omega), ev_12, ev_13]; exact hw_15_0) ef_16) (by omega))
          · skip
            have el_m9 : ((-9) : Int32).toInt = (-9) := rfl
            rw [i_eq] at c_6
            refine j_iload (pc := 75) C dX1_value_75 2 rfl ?_
            refine j_iconst (pc := 77) (v := 1) C dX1_value_77 (by decide) ?_
            refine j_icmp_lt (pc := 78) (tgt := 110) C dX1_value_78 (by decide) (fun c_18 => ?_) (fun c_18 => ?_)
            · skip
              have el_1 : (1 : Int32).toInt = 1 := rfl
              rw [i_lt] at c_18
              have k0c_18 : x1_6.toInt = 0 := by omega
              refine j_iload (pc := 110) C dX1_value_110 0 rfl ?_
              refine j_bipush (pc := 112) (v := (-9)) C dX1_value_112 (by decide) ?_
              have el_m9 : ((-9) : Int32).toInt = (-9) := rfl
              refine j_icmp_ge_t (pc := 114) (tgt := 156) C dX1_value_114 (by decide) (by rw [i_le]; omega) ?_
              obtain ⟨v_19, ev_19⟩ : ∃ z : Int32, x1_7 + 1 = z := ⟨_, rfl⟩
              have el_1 : (1 : Int32).toInt = 1 := rfl
              have hv_19 : v_19.toInt = x1_7.toInt + (1 : Int32).toInt := by rw [← ev_19]; exact fb_addI (by omega) (by omega)
              refine j_iinc (pc := 156) (v := v_19) (lv' := [(7, .int v_19), (8, .int v_4), (6, .int x1_6), (0, .ref e0), (1, .ref a0), (2, .int p0), (3, .int p1), (4, .int p2), (5, .int p3)]) C dX1_value_156 1 rfl ev_19 (by decide) rfl ?_
              refine j_goto (pc := 159) (tgt := 7) C dX1_value_159 (by decide) ?_
              exact j_lv [0, 2, 3, 4, 5, 6, 7, 8] rfl (ih_1 v_19 x1_6 g1_e3 (by omega) hi_1_1 (by omega) (by rw [show (v_19.toInt - (p2).toInt).toNat = (x1_7.toInt - (p2).toInt).toNat + 1 from (by omega), crun_snoc hq_1_0 (x := v_4) (by rw [show (p2).toInt.toNat + (x1_7.toInt - (p2).toInt).toNat = (x1_7).toInt.toNat from (by omega)]; exact ev_4)]; exact cst_neg0 (by omega) (by omega) (by omega)) (by omega))
            · skip
              have el_1 : (1 : Int32).toInt = 1 := rfl
              rw [i_lt] at c_18
              refine j_aload_n (pc := 81) C dX1_value_81 rfl 3 rfl ?_
              refine j_get (pc := 82) (ci := 1) (v := .ref e3) C inw_1 0 rfl rfl 4 (by decide) wd_198 rfl rfl dX1_value_82 ?_
              refine j_iload (pc := 85) C dX1_value_85 2 rfl ?_
              refine j_iconst (pc := 87) (v := 1) C dX1_value_87 (by decide) ?_
              obtain ⟨v_20, ev_20⟩ : ∃ z : Int32, x1_6 - 1 = z := ⟨_, rfl⟩
              have el_1 : (1 : Int32).toInt = 1 := rfl
              have hv_20 : v_20.toInt = x1_6.toInt - (1 : Int32).toInt := by rw [← ev_20]; exact fb_subI (by omega) (by omega)
              refine j_isub (pc := 88) (v := v_20) C dX1_value_88 ev_20 ?_
              refine j_aload_n (pc := 89) C dX1_value_89 rfl 3 rfl ?_
              refine j_get (pc := 90) (ci := 1) (v := .ref e3) C inw_1 0 rfl rfl 4 (by decide) wd_198 rfl rfl dX1_value_90 ?_
              refine j_iload (pc := 93) C dX1_value_93 2 rfl ?_
              refine j_iconst (pc := 95) (v := 1) C dX1_value_95 (by decide) ?_
              obtain ⟨v_21, ev_21⟩ : ∃ z : Int32, x1_6 - 1 = z := ⟨_, rfl⟩
              have el_1 : (1 : Int32).toInt = 1 := rfl
              have hv_21 : v_21.toInt = x1_6.toInt - (1 : Int32).toInt := by rw [← ev_21]; exact fb_subI (by omega) (by omega)
              refine j_isub (pc := 96) (v := v_21) C dX1_value_96 ev_21 ?_
              obtain ⟨v_22, ev_22⟩ : ∃ z, g1_e3 (v_21).toInt.toNat = z := ⟨_, rfl⟩
              have env_22 : (g1_e3 (v_21).toInt.toNat).toInt = v_22.toInt := by rw [ev_22]
              refine j_iald (pc := 97) (v := v_22) (k := (v_21).toInt.toNat) C 2 1 rfl rfl (i_nn (by omega)) rfl (i_lt_n (by omega) (by omega)) ev_22 dX1_value_97 ?_
              refine j_if_ne (pc := 98) (tgt := 105) C dX1_value_98 (by decide) (fun c_23 => ?_) (fun c_23 => ?_)
              · skip
                have el_0 : (0 : Int32).toInt = 0 := rfl
                rw [i_eq] at c_23
                refine j_iconst (pc := 105) (v := 0) C dX1_value_105 (by decide) ?_
                obtain ⟨f_24, ef_24⟩ : ∃ z, z = upd g1_e3 (v_20).toInt.toNat 0 := ⟨_, rfl⟩
                refine j_iast (pc := 106) (k := (v_20).toInt.toNat) (ws' := [(e0, .inr (1, [.int e_size, .int e_nests, .ref e1, .ref e2, .ref e3])), (e1, .inl (cyI, 1000, .inl e_steps)), (e3, .inl (cyI, 32, .inl f_24)), (a0, .inr (9, [.int a_wares, .int a_shelves, .int a_nests, .ref a1, .ref a2, .ref a3, .ref a4, .ref a5, .ref a6, .int a_lids, .int a_tops, .ref a7, .ref a8, .ref a9, .ref a10])), (a1, .inl (cyI, 12, .inl a_wide)), (a2, .inl (cyI, 12, .inl a_deep)), (a3, .inl (cyI, 12, .inl a_weight))]) C 2 1 rfl rfl (i_nn (by omega)) rfl (i_lt_n (by omega) (by omega)) dX1_value_106 (by rw [ef_24]; rfl) ?_
                refine j_goto (pc := 107) (tgt := 156) C dX1_value_107 (by decide) ?_
                obtain ⟨v_25, ev_25⟩ : ∃ z : Int32, x1_7 + 1 = z := ⟨_, rfl⟩
                have el_1 : (1 : Int32).toInt = 1 := rfl
                have hv_25 : v_25.toInt = x1_7.toInt + (1 : Int32).toInt := by rw [← ev_25]; exact fb_addI (by omega) (by omega)
                refine j_iinc (pc := 156) (v := v_25) (lv' := [(7, .int v_25), (8, .int v_4), (6, .int x1_6), (0, .ref e0), (1, .ref a0), (2, .int p0), (3, .int p1), (4, .int p2), (5, .int p3)]) C dX1_value_156 1 rfl ev_25 (by decide) rfl ?_
                refine j_goto (pc := 159) (tgt := 7) C dX1_value_159 (by decide) ?_
                exact j_lv [0, 2, 3, 4, 5, 6, 7, 8] rfl (ih_1 v_25 x1_6 f_24 (by omega) hi_1_1 (by omega) (by rw [show (v_25.toInt - (p2).toInt).toNat = (x1_7.toInt - (p2).toInt).toNat + 1 from (by omega), crun_snoc hq_1_0 (x := v_4) (by rw [show (p2).toInt.toNat + (x1_7.toInt - (p2).toInt).toNat = (x1_7).toInt.toNat from (by omega)]; exact ev_4)]; exact cst_neg (m := (v_20).toInt.toNat) (r := v_22) (by omega) (by omega) (by omega) (by omega) (by rw [show (v_20).toInt.toNat = (v_21).toInt.toNat from (by omega)]; exact ev_22) ((if_neg (by rw [i_eq]; omega)).symm) ef_24) (by omega))
              · skip
                have el_0 : (0 : Int32).toInt = 0 := rfl
                rw [i_eq] at c_23
                refine j_iconst (pc := 101) (v := 1) C dX1_value_101 (by decide) ?_
                refine j_goto (pc := 102) (tgt := 106) C dX1_value_102 (by decide) ?_
                obtain ⟨f_26, ef_26⟩ : ∃ z, z = upd g1_e3 (v_20).toInt.toNat 1 := ⟨_, rfl⟩
                refine j_iast (pc := 106) (k := (v_20).toInt.toNat) (ws' := [(e0, .inr (1, [.int e_size, .int e_nests, .ref e1, .ref e2, .ref e3])), (e1, .inl (cyI, 1000, .inl e_steps)), (e3, .inl (cyI, 32, .inl f_26)), (a0, .inr (9, [.int a_wares, .int a_shelves, .int a_nests, .ref a1, .ref a2, .ref a3, .ref a4, .ref a5, .ref a6, .int a_lids, .int a_tops, .ref a7, .ref a8, .ref a9, .ref a10])), (a1, .inl (cyI, 12, .inl a_wide)), (a2, .inl (cyI, 12, .inl a_deep)), (a3, .inl (cyI, 12, .inl a_weight))]) C 2 1 rfl rfl (i_nn (by omega)) rfl (i_lt_n (by omega) (by omega)) dX1_value_106 (by rw [ef_26]; rfl) ?_
                refine j_goto (pc := 107) (tgt := 156) C dX1_value_107 (by decide) ?_
                obtain ⟨v_27, ev_27⟩ : ∃ z : Int32, x1_7 + 1 = z := ⟨_, rfl⟩
                have el_1 : (1 : Int32).toInt = 1 := rfl
                have hv_27 : v_27.toInt = x1_7.toInt + (1 : Int32).toInt := by rw [← ev_27]; exact fb_addI (by omega) (by omega)
                refine j_iinc (pc := 156) (v := v_27) (lv' := [(7, .int v_27), (8, .int v_4), (6, .int x1_6), (0, .ref e0), (1, .ref a0), (2, .int p0), (3, .int p1), (4, .int p2), (5, .int p3)]) C dX1_value_156 1 rfl ev_27 (by decide) rfl ?_
                refine j_goto (pc := 159) (tgt := 7) C dX1_value_159 (by decide) ?_
                exact j_lv [0, 2, 3, 4, 5, 6, 7, 8] rfl (ih_1 v_27 x1_6 f_26 (by omega) hi_1_1 (by omega) (by rw [show (v_27.toInt - (p2).toInt).toNat = (x1_7.toInt - (p2).toInt).toNat + 1 from (by omega), crun_snoc hq_1_0 (x := v_4) (by rw [show (p2).toInt.toNat + (x1_7.toInt - (p2).toInt).toNat = (x1_7).toInt.toNat from (by omega)]; exact ev_4)]; exact cst_neg (m := (v_20).toInt.toNat) (r := v_22) (by omega) (by omega) (by omega) (by omega) (by rw [show (v_20).toInt.toNat = (v_21).toInt.toNat from (by omega)]; exact ev_22) ((if_pos ((i_eq _ _).mpr (by omega))).symm) ef_26) (by omega))
        · skip
          have el_m8 : ((-8) : Int32).toInt = (-8) := rfl
          rw [i_lt] at c_5
          refine j_iload (pc := 30) C dX1_value_30 2 rfl ?_
          refine j_bipush (pc := 32) (v := 32) C dX1_value_32 (by decide) ?_
          refine j_icmp_ge (pc := 34) (tgt := 68) C dX1_value_34 (by decide) (fun c_28 => ?_) (fun c_28 => ?_)
          · skip
            have el_32 : (32 : Int32).toInt = 32 := rfl
            rw [i_le] at c_28
            have k0c_28 : x1_6.toInt = 32 := by omega
            refine j_iload (pc := 68) C dX1_value_68 0 rfl ?_
            refine j_bipush (pc := 70) (v := (-9)) C dX1_value_70 (by decide) ?_
            have el_m9 : ((-9) : Int32).toInt = (-9) := rfl
            refine j_icmp_ne_t (pc := 72) (tgt := 110) C dX1_value_72 (by decide) (by rw [i_eq]; omega) ?_
            refine j_iload (pc := 110) C dX1_value_110 0 rfl ?_
            refine j_bipush (pc := 112) (v := (-9)) C dX1_value_112 (by decide) ?_
            have el_m9 : ((-9) : Int32).toInt = (-9) := rfl
            refine j_icmp_ge_t (pc := 114) (tgt := 156) C dX1_value_114 (by decide) (by rw [i_le]; omega) ?_
            obtain ⟨v_29, ev_29⟩ : ∃ z : Int32, x1_7 + 1 = z := ⟨_, rfl⟩
            have el_1 : (1 : Int32).toInt = 1 := rfl
            have hv_29 : v_29.toInt = x1_7.toInt + (1 : Int32).toInt := by rw [← ev_29]; exact fb_addI (by omega) (by omega)
            refine j_iinc (pc := 156) (v := v_29) (lv' := [(7, .int v_29), (8, .int v_4), (6, .int x1_6), (0, .ref e0), (1, .ref a0), (2, .int p0), (3, .int p1), (4, .int p2), (5, .int p3)]) C dX1_value_156 1 rfl ev_29 (by decide) rfl ?_
            refine j_goto (pc := 159) (tgt := 7) C dX1_value_159 (by decide) ?_
            exact j_lv [0, 2, 3, 4, 5, 6, 7, 8] rfl (ih_1 v_29 x1_6 g1_e3 (by omega) hi_1_1 (by omega) (by rw [show (v_29.toInt - (p2).toInt).toNat = (x1_7.toInt - (p2).toInt).toNat + 1 from (by omega), crun_snoc hq_1_0 (x := v_4) (by rw [show (p2).toInt.toNat + (x1_7.toInt - (p2).toInt).toNat = (x1_7).toInt.toNat from (by omega)]; exact ev_4)]; exact cst_full (by omega) (by omega) (by omega)) (by omega))
          · skip
            have el_32 : (32 : Int32).toInt = 32 := rfl
            rw [i_le] at c_28
            refine j_aload_n (pc := 37) C dX1_value_37 rfl 3 rfl ?_
            refine j_get (pc := 38) (ci := 1) (v := .ref e3) C inw_1 0 rfl rfl 4 (by decide) wd_198 rfl rfl dX1_value_38 ?_
            refine j_iload (pc := 41) C dX1_value_41 2 rfl ?_
            refine j_iload (pc := 43) C dX1_value_43 0 rfl ?_
            refine j_if_lt (pc := 45) (tgt := 53) C dX1_value_45 (by decide) (fun c_30 => ?_) (fun c_30 => ?_)
            · skip
              have el_0 : (0 : Int32).toInt = 0 := rfl
              rw [i_lt] at c_30
              refine j_aload_n (pc := 53) C dX1_value_53 rfl 4 rfl ?_
              refine j_iload_n (pc := 54) C dX1_value_54 rfl 5 rfl ?_
              refine j_iload_n (pc := 55) C dX1_value_55 rfl 6 rfl ?_
              refine j_iload (pc := 56) C dX1_value_56 0 rfl ?_
              refine j_callS (pc := 58) (As := [.ref a0, .int p0, .int p1, .int v_4]) (rest := [.int x1_6, .ref e3]) (wr := [(e0, .inr (1, [.int e_size, .int e_nests, .ref e1, .ref e2, .ref e3])), (e1, .inl (cyI, 1000, .inl e_steps)), (e3, .inl (cyI, 32, .inl g1_e3))]) C (c_X1_fact l D cyC cyI cyJ cyZ cyO a0 a1 a2 a3 a4 a5 a6 a7 a8 a9 a10 p0 p1 v_4 a_wares a_shelves a_nests a_lids a_tops a_wide a_deep a_weight h_a_wares h_a_shelves h_a_nests h_p0 h_p1 (by omega)) wd_199 wd_200 wd_201 wd_202 ⟨by decide, by decide, rfl⟩ rfl ⟨rfl, rfl, by decide, by decide⟩ ⟨by decide, by decide⟩ [3, 4, 5, 6] [0, 1, 2] rfl rfl ⟨by decide, by decide, by decide⟩ rfl (Nat.le_of_ble_eq_true rfl) dX1_value_58 (fun u_31 hw_32 => ?_)
              refine j_eq (ws2 := [(e0, .inr (1, [.int e_size, .int e_nests, .ref e1, .ref e2, .ref e3])), (e1, .inl (cyI, 1000, .inl e_steps)), (e3, .inl (cyI, 32, .inl g1_e3)), (a0, .inr (9, [.int a_wares, .int a_shelves, .int a_nests, .ref a1, .ref a2, .ref a3, .ref a4, .ref a5, .ref a6, .int a_lids, .int a_tops, .ref a7, .ref a8, .ref a9, .ref a10])), (a1, .inl (cyI, 12, .inl a_wide)), (a2, .inl (cyI, 12, .inl a_deep)), (a3, .inl (cyI, 12, .inl a_weight))]) (pc2 := 61) (lv2 := [(8, .int v_4), (7, .int x1_7), (6, .int x1_6), (0, .ref e0), (1, .ref a0), (2, .int p0), (3, .int p1), (4, .int p2), (5, .int p3)]) (st2 := [.int (u_31.2.1 0), .int x1_6, .ref e3]) rfl rfl rfl rfl ?_
              have hw_32_0 : (u_31.2.1 0) = (fcC a_wide a_deep a_weight a_lids (p0).toInt.toNat (p1).toInt.toNat) (-1 - (v_4).toInt).toNat := hw_32
              obtain ⟨f_33, ef_33⟩ : ∃ z, z = upd g1_e3 (x1_6).toInt.toNat (u_31.2.1 0) := ⟨_, rfl⟩
              refine j_iast (pc := 61) (k := (x1_6).toInt.toNat) (ws' := [(e0, .inr (1, [.int e_size, .int e_nests, .ref e1, .ref e2, .ref e3])), (e1, .inl (cyI, 1000, .inl e_steps)), (e3, .inl (cyI, 32, .inl f_33)), (a0, .inr (9, [.int a_wares, .int a_shelves, .int a_nests, .ref a1, .ref a2, .ref a3, .ref a4, .ref a5, .ref a6, .int a_lids, .int a_tops, .ref a7, .ref a8, .ref a9, .ref a10])), (a1, .inl (cyI, 12, .inl a_wide)), (a2, .inl (cyI, 12, .inl a_deep)), (a3, .inl (cyI, 12, .inl a_weight))]) C 2 1 rfl rfl (i_nn hi_1_1.1) rfl (i_lt_n hi_1_1.1 (by omega)) dX1_value_61 (by rw [ef_33]; rfl) ?_
              obtain ⟨v_34, ev_34⟩ : ∃ z : Int32, x1_6 + 1 = z := ⟨_, rfl⟩
              have el_1 : (1 : Int32).toInt = 1 := rfl
              have hv_34 : v_34.toInt = x1_6.toInt + (1 : Int32).toInt := by rw [← ev_34]; exact fb_addI (by omega) (by omega)
              refine j_iinc (pc := 62) (v := v_34) (lv' := [(6, .int v_34), (8, .int v_4), (7, .int x1_7), (0, .ref e0), (1, .ref a0), (2, .int p0), (3, .int p1), (4, .int p2), (5, .int p3)]) C dX1_value_62 2 rfl ev_34 (by decide) rfl ?_
              refine j_goto (pc := 65) (tgt := 156) C dX1_value_65 (by decide) ?_
              obtain ⟨v_35, ev_35⟩ : ∃ z : Int32, x1_7 + 1 = z := ⟨_, rfl⟩
              have el_1 : (1 : Int32).toInt = 1 := rfl
              have hv_35 : v_35.toInt = x1_7.toInt + (1 : Int32).toInt := by rw [← ev_35]; exact fb_addI (by omega) (by omega)
              refine j_iinc (pc := 156) (v := v_35) (lv' := [(7, .int v_35), (6, .int v_34), (8, .int v_4), (0, .ref e0), (1, .ref a0), (2, .int p0), (3, .int p1), (4, .int p2), (5, .int p3)]) C dX1_value_156 2 rfl ev_35 (by decide) rfl ?_
              refine j_goto (pc := 159) (tgt := 7) C dX1_value_159 (by decide) ?_
              exact j_lv [0, 1, 3, 4, 5, 6, 7, 8] rfl (ih_1 v_35 v_34 f_33 (by omega) (by omega) (by omega) (by rw [show (v_35.toInt - (p2).toInt).toNat = (x1_7.toInt - (p2).toInt).toNat + 1 from (by omega), crun_snoc hq_1_0 (x := v_4) (by rw [show (p2).toInt.toNat + (x1_7.toInt - (p2).toInt).toNat = (x1_7).toInt.toNat from (by omega)]; exact ev_4)]; exact cst_fct (by omega) (by omega) (by omega) (by omega) hw_32_0 ef_33) (by omega))
            · skip
              have el_0 : (0 : Int32).toInt = 0 := rfl
              rw [i_lt] at c_30
              refine j_iload (pc := 48) C dX1_value_48 0 rfl ?_
              refine j_goto (pc := 50) (tgt := 61) C dX1_value_50 (by decide) ?_
              obtain ⟨f_36, ef_36⟩ : ∃ z, z = upd g1_e3 (x1_6).toInt.toNat v_4 := ⟨_, rfl⟩
              refine j_iast (pc := 61) (k := (x1_6).toInt.toNat) (ws' := [(e0, .inr (1, [.int e_size, .int e_nests, .ref e1, .ref e2, .ref e3])), (e1, .inl (cyI, 1000, .inl e_steps)), (e3, .inl (cyI, 32, .inl f_36)), (a0, .inr (9, [.int a_wares, .int a_shelves, .int a_nests, .ref a1, .ref a2, .ref a3, .ref a4, .ref a5, .ref a6, .int a_lids, .int a_tops, .ref a7, .ref a8, .ref a9, .ref a10])), (a1, .inl (cyI, 12, .inl a_wide)), (a2, .inl (cyI, 12, .inl a_deep)), (a3, .inl (cyI, 12, .inl a_weight))]) C 2 1 rfl rfl (i_nn hi_1_1.1) rfl (i_lt_n hi_1_1.1 (by omega)) dX1_value_61 (by rw [ef_36]; rfl) ?_
              obtain ⟨v_37, ev_37⟩ : ∃ z : Int32, x1_6 + 1 = z := ⟨_, rfl⟩
              have el_1 : (1 : Int32).toInt = 1 := rfl
              have hv_37 : v_37.toInt = x1_6.toInt + (1 : Int32).toInt := by rw [← ev_37]; exact fb_addI (by omega) (by omega)
              refine j_iinc (pc := 62) (v := v_37) (lv' := [(6, .int v_37), (8, .int v_4), (7, .int x1_7), (0, .ref e0), (1, .ref a0), (2, .int p0), (3, .int p1), (4, .int p2), (5, .int p3)]) C dX1_value_62 2 rfl ev_37 (by decide) rfl ?_
              refine j_goto (pc := 65) (tgt := 156) C dX1_value_65 (by decide) ?_
              obtain ⟨v_38, ev_38⟩ : ∃ z : Int32, x1_7 + 1 = z := ⟨_, rfl⟩
              have el_1 : (1 : Int32).toInt = 1 := rfl
              have hv_38 : v_38.toInt = x1_7.toInt + (1 : Int32).toInt := by rw [← ev_38]; exact fb_addI (by omega) (by omega)
              refine j_iinc (pc := 156) (v := v_38) (lv' := [(7, .int v_38), (6, .int v_37), (8, .int v_4), (0, .ref e0), (1, .ref a0), (2, .int p0), (3, .int p1), (4, .int p2), (5, .int p3)]) C dX1_value_156 2 rfl ev_38 (by decide) rfl ?_
              refine j_goto (pc := 159) (tgt := 7) C dX1_value_159 (by decide) ?_
              exact j_lv [0, 1, 3, 4, 5, 6, 7, 8] rfl (ih_1 v_38 v_37 f_36 (by omega) (by omega) (by omega) (by rw [show (v_38.toInt - (p2).toInt).toNat = (x1_7.toInt - (p2).toInt).toNat + 1 from (by omega), crun_snoc hq_1_0 (x := v_4) (by rw [show (p2).toInt.toNat + (x1_7.toInt - (p2).toInt).toNat = (x1_7).toInt.toNat from (by omega)]; exact ev_4)]; exact cst_num (by omega) (by omega) (by omega) ef_36) (by omega))
  have el_0 : (0 : Int32).toInt = 0 := rfl
  exact j_lv [0, 1, 2, 3, 4, 5, 6, 7] rfl (loop_1 4096 p2 0 e_values h_p2 (by decide) (by omega) (by rw [show (p2.toInt - (p2).toInt).toNat = 0 from (by omega)]; rfl) (by omega))
set_option maxHeartbeats 4000000 in
set_option maxRecDepth 100000 in
theorem c_X1_allow (l : Launch) (D : DG) (cyC cyI cyJ cyZ cyO : ClassId) (e0 : Nat) (e1 : Nat) (e2 : Nat) (e3 : Nat) (a0 : Nat) (a1 : Nat) (a2 : Nat) (a3 : Nat) (a4 : Nat) (a5 : Nat) (a6 : Nat) (a7 : Nat) (a8 : Nat) (a9 : Nat) (a10 : Nat) (p0 : Int32) (p1 : Int32) (e_size : Int32) (e_nests : Int32) (a_wares : Int32) (a_shelves : Int32) (a_nests : Int32) (a_lids : Int32) (a_tops : Int32) (e_steps : Nat → Int32) (e_end : Nat → Int32) (e_values : Nat → Int32) (a_wide : Nat → Int32) (a_deep : Nat → Int32) (a_weight : Nat → Int32) (E : (Nat → (Nat → Int32) → Int32)) (h_e_size : 0 ≤ (e_size).toInt ∧ (e_size).toInt ≤ 1000) (h_e_nests : 0 ≤ (e_nests).toInt ∧ (e_nests).toInt ≤ 4) (h_a_wares : 0 ≤ (a_wares).toInt ∧ (a_wares).toInt ≤ 12) (h_a_shelves : 0 ≤ (a_shelves).toInt ∧ (a_shelves).toInt ≤ 4) (h_a_nests : 0 ≤ (a_nests).toInt ∧ (a_nests).toInt ≤ 4) (h_p0 : 0 ≤ (p0).toInt ∧ (p0).toInt ≤ 11) (h_p1 : 0 ≤ (p1).toInt ∧ (p1).toInt ≤ 11) (h_e_end : Iv 4 (0) (1000) e_end) (hCE : CE0 e_steps e_end (e_nests).toInt E) : KK l D (TY cyC cyI cyJ cyZ cyO) yX1_allow cX1_allow 6 (some .boolean) ({ frames := 2, cells := 0, slots := 0, locals := 51 } : Room) 0 0 [.ref e0, .ref a0, .int p0, .int p1] [(e0, .inr (1, [.int e_size, .int e_nests, .ref e1, .ref e2, .ref e3])), (e1, .inl (cyI, 1000, .inl e_steps)), (e2, .inl (cyI, 4, .inl e_end)), (e3, .inl (cyI, 32, .inl e_values)), (a0, .inr (9, [.int a_wares, .int a_shelves, .int a_nests, .ref a1, .ref a2, .ref a3, .ref a4, .ref a5, .ref a6, .int a_lids, .int a_tops, .ref a7, .ref a8, .ref a9, .ref a10])), (a1, .inl (cyI, 12, .inl a_wide)), (a2, .inl (cyI, 12, .inl a_deep)), (a3, .inl (cyI, 12, .inl a_weight))] (fun u => some (.int (u.2.1 0))) (fun u => (0 ≤ (u.2.1 0).toInt ∧ (u.2.1 0).toInt ≤ 1) ∧ ((u.2.1 0).toInt = if mayP (e_nests).toInt.toNat E (fcC a_wide a_deep a_weight a_lids (p0).toInt.toNat (p1).toInt.toNat) (decide ((a_wide (p0).toInt.toNat).toInt < (a_wide (p1).toInt.toNat).toInt)) (BT a_tops (p1).toInt.toNat) = true then 1 else 0)) (fun u => [(e0, .inr (1, [.int e_size, .int e_nests, .ref e1, .ref e2, .ref e3])), (e1, .inl (cyI, 1000, .inl e_steps)), (e2, .inl (cyI, 4, .inl e_end)), (e3, .inl (cyI, 32, .inl (u.2.2.1 0))), (a0, .inr (9, [.int a_wares, .int a_shelves, .int a_nests, .ref a1, .ref a2, .ref a3, .ref a4, .ref a5, .ref a6, .int a_lids, .int a_tops, .ref a7, .ref a8, .ref a9, .ref a10])), (a1, .inl (cyI, 12, .inl a_wide)), (a2, .inl (cyI, 12, .inl a_deep)), (a3, .inl (cyI, 12, .inl a_weight))]) := by
  refine KK.of (lv0 := [(0, .ref e0), (1, .ref a0), (2, .int p0), (3, .int p1)]) (by decide) rfl (Nat.le_of_ble_eq_true rfl) ?_
  intro p e s m args below meth c A C hr hk hin
  refine j_aload_n (pc := 0) C dX1_allow_0 rfl 1 rfl ?_
  refine j_get (pc := 1) (ci := 9) (v := .int a_tops) C inw_9 4 rfl rfl 10 (by decide) wd_206 rfl rfl dX1_allow_1 ?_
  refine j_iload_n (pc := 4) C dX1_allow_4 rfl 3 rfl ?_
  obtain ⟨v_1, ev_1⟩ : ∃ z : Int32, ((a_tops : Int32).toUInt32 >>> ((p1 : Int32).toUInt32 &&& Int32.toUInt32 31)).toInt32 = z := ⟨_, rfl⟩
  refine j_iushr (pc := 5) (v := v_1) C dX1_allow_5 ev_1 ?_
  refine j_iconst (pc := 6) (v := 1) C dX1_allow_6 (by decide) ?_
  obtain ⟨v_2, ev_2⟩ : ∃ z : Int32, v_1 &&& 1 = z := ⟨_, rfl⟩
  have el_1 : (1 : Int32).toInt = 1 := rfl
  have hv_2 : 0 ≤ v_2.toInt ∧ v_2.toInt ≤ 1 := by rw [← ev_2]; exact and1_r _
  refine j_iand (pc := 7) (v := v_2) C dX1_allow_7 ev_2 ?_
  have hb9 : v_2.toInt = if BT a_tops (p1).toInt.toNat = true then 1 else 0 := by rw [← ev_2, ← ev_1]; exact bt_rd (by omega) (by omega)
  refine j_iconst (pc := 8) (v := 1) C dX1_allow_8 (by decide) ?_
  refine j_icmp_ne (pc := 9) (tgt := 14) C dX1_allow_9 (by decide) (fun c_3 => ?_) (fun c_3 => ?_)
  · skip
    have el_1 : (1 : Int32).toInt = 1 := rfl
    rw [i_eq] at c_3
    have k0c_3 : v_2.toInt = 0 := by omega
    refine j_aload_n (pc := 14) C dX1_allow_14 rfl 0 rfl ?_
    refine j_get (pc := 15) (ci := 1) (v := .int e_nests) C inw_1 0 rfl rfl 1 (by decide) wd_191 rfl rfl dX1_allow_15 ?_
    refine j_if_ne (pc := 18) (tgt := 42) C dX1_allow_18 (by decide) (fun c_4 => ?_) (fun c_4 => ?_)
    · skip
      have el_0 : (0 : Int32).toInt = 0 := rfl
      rw [i_eq] at c_4
      refine j_iconst (pc := 42) (v := 0) C dX1_allow_42 (by decide) ?_
      refine j_istore (pc := 43) (lv' := [(4, .int 0), (0, .ref e0), (1, .ref a0), (2, .int p0), (3, .int p1)]) C dX1_allow_43 (by decide) rfl ?_
      have loop_5 : ∀ (k_5 : Nat) (x5_4 : Int32) (g5_e3 : Nat → Int32), (0 ≤ (x5_4).toInt ∧ (x5_4).toInt ≤ 4) → (∀ i : Nat, (i : Int) < x5_4.toInt → ¬ E i (fcC a_wide a_deep a_weight a_lids (p0).toInt.toNat (p1).toInt.toNat) = 0) → (4 - x5_4.toInt).toNat < k_5 → J p l e ({ frames := 2, cells := 0, slots := 0, locals := 51 } : Room) s m args below meth c D A 6 0 0 (QX below D (TY cyC cyI cyJ cyZ cyO) A (fun u => some (.int (u.2.1 0))) (fun u => (0 ≤ (u.2.1 0).toInt ∧ (u.2.1 0).toInt ≤ 1) ∧ ((u.2.1 0).toInt = if mayP (e_nests).toInt.toNat E (fcC a_wide a_deep a_weight a_lids (p0).toInt.toNat (p1).toInt.toNat) (decide ((a_wide (p0).toInt.toNat).toInt < (a_wide (p1).toInt.toNat).toInt)) (BT a_tops (p1).toInt.toNat) = true then 1 else 0)) (fun u => [(e0, .inr (1, [.int e_size, .int e_nests, .ref e1, .ref e2, .ref e3])), (e1, .inl (cyI, 1000, .inl e_steps)), (e2, .inl (cyI, 4, .inl e_end)), (e3, .inl (cyI, 32, .inl (u.2.2.1 0))), (a0, .inr (9, [.int a_wares, .int a_shelves, .int a_nests, .ref a1, .ref a2, .ref a3, .ref a4, .ref a5, .ref a6, .int a_lids, .int a_tops, .ref a7, .ref a8, .ref a9, .ref a10])), (a1, .inl (cyI, 12, .inl a_wide)), (a2, .inl (cyI, 12, .inl a_deep)), (a3, .inl (cyI, 12, .inl a_weight))]) args s 0 0) [(e0, .inr (1, [.int e_size, .int e_nests, .ref e1, .ref e2, .ref e3])), (e1, .inl (cyI, 1000, .inl e_steps)), (e2, .inl (cyI, 4, .inl e_end)), (e3, .inl (cyI, 32, .inl g5_e3)), (a0, .inr (9, [.int a_wares, .int a_shelves, .int a_nests, .ref a1, .ref a2, .ref a3, .ref a4, .ref a5, .ref a6, .int a_lids, .int a_tops, .ref a7, .ref a8, .ref a9, .ref a10])), (a1, .inl (cyI, 12, .inl a_wide)), (a2, .inl (cyI, 12, .inl a_deep)), (a3, .inl (cyI, 12, .inl a_weight))] 45 [(4, .int x5_4), (0, .ref e0), (1, .ref a0), (2, .int p0), (3, .int p1)] [] := by
        intro k_5
        induction k_5 with
        | zero =>
          intro x5_4 g5_e3 hi_5_0 hq_5_0 hm_5
          exact absurd hm_5 (Nat.not_lt_zero _)
        | succ k_5 ih_5 =>
          intro x5_4 g5_e3 hi_5_0 hq_5_0 hm_5
          refine j_iload (pc := 45) C dX1_allow_45 0 rfl ?_
          refine j_aload_n (pc := 47) C dX1_allow_47 rfl 1 rfl ?_
          refine j_get (pc := 48) (ci := 1) (v := .int e_nests) C inw_1 0 rfl rfl 1 (by decide) wd_191 rfl rfl dX1_allow_48 ?_
          refine j_icmp_ge (pc := 51) (tgt := 101) C dX1_allow_51 (by decide) (fun c_6 => ?_) (fun c_6 => ?_)
          · skip
            rw [i_le] at c_6
            refine j_iconst (pc := 101) (v := 1) C dX1_allow_101 (by decide) ?_
            have el_1 : (1 : Int32).toInt = 1 := rfl
            have el_1 : (1 : Int32).toInt = 1 := rfl
            have el_0 : (0 : Int32).toInt = 0 := rfl
            exact j_zret (pc := 102) C hr rfl hk (fun i => [].getD i 0, fun i => [1].getD i 0, fun i => [g5_e3].getD i (fun _ => 0), fun i => [].getD i (fun _ => 0)) rfl (show (0 ≤ ((1 : Int32)).toInt ∧ ((1 : Int32)).toInt ≤ 1) ∧ ((1 : Int32).toInt = if mayP (e_nests).toInt.toNat E (fcC a_wide a_deep a_weight a_lids (p0).toInt.toNat (p1).toInt.toNat) (decide ((a_wide (p0).toInt.toNat).toInt < (a_wide (p1).toInt.toNat).toInt)) (BT a_tops (p1).toInt.toNat) = true then 1 else 0) from ⟨by omega, (by rw [if_pos (mayP_iff.mpr ⟨(by by_cases q : BT a_tops (p1).toInt.toNat = true; (rw [if_pos q] at hb9; exfalso; omega); (exact Bool.eq_false_iff.mpr q)), (fun h => absurd h (by omega)), (fun i hi => hq_5_0 i (by omega))⟩)]; rfl)⟩) [0, 1, 2, 3, 4, 5, 6, 7] (by decide) rfl (by decide) (by decide) dX1_allow_102
          · skip
            rw [i_le] at c_6
            refine j_iload (pc := 54) C dX1_allow_54 0 rfl ?_
            refine j_if_ne (pc := 56) (tgt := 63) C dX1_allow_56 (by decide) (fun c_7 => ?_) (fun c_7 => ?_)
            · skip
              have el_0 : (0 : Int32).toInt = 0 := rfl
              rw [i_eq] at c_7
              refine j_aload_n (pc := 63) C dX1_allow_63 rfl 1 rfl ?_
              refine j_get (pc := 64) (ci := 1) (v := .ref e2) C inw_1 0 rfl rfl 3 (by decide) wd_193 rfl rfl dX1_allow_64 ?_
              refine j_iload (pc := 67) C dX1_allow_67 0 rfl ?_
              refine j_iconst (pc := 69) (v := 1) C dX1_allow_69 (by decide) ?_
              obtain ⟨v_8, ev_8⟩ : ∃ z : Int32, x5_4 - 1 = z := ⟨_, rfl⟩
              have el_1 : (1 : Int32).toInt = 1 := rfl
              have hv_8 : v_8.toInt = x5_4.toInt - (1 : Int32).toInt := by rw [← ev_8]; exact fb_subI (by omega) (by omega)
              refine j_isub (pc := 70) (v := v_8) C dX1_allow_70 ev_8 ?_
              obtain ⟨v_9, ev_9⟩ : ∃ z, e_end (v_8).toInt.toNat = z := ⟨_, rfl⟩
              have env_9 : (e_end (v_8).toInt.toNat).toInt = v_9.toInt := by rw [ev_9]
              have hv_9 := h_e_end (v_8).toInt.toNat (i_lt_n (by omega) (by omega)); rw [ev_9] at hv_9
              refine j_iald (pc := 71) (v := v_9) (k := (v_8).toInt.toNat) C 2 1 rfl rfl (i_nn (by omega)) rfl (i_lt_n (by omega) (by omega)) ev_9 dX1_allow_71 ?_
              refine j_istore (pc := 72) (lv' := [(5, .int v_9), (4, .int x5_4), (0, .ref e0), (1, .ref a0), (2, .int p0), (3, .int p1)]) C dX1_allow_72 (by decide) rfl ?_
              refine j_aload_n (pc := 74) C dX1_allow_74 rfl 2 rfl ?_
              refine j_aload_n (pc := 75) C dX1_allow_75 rfl 3 rfl ?_
              refine j_iload_n (pc := 76) C dX1_allow_76 rfl 4 rfl ?_
              refine j_iload_n (pc := 77) C dX1_allow_77 rfl 5 rfl ?_
              refine j_iload (pc := 78) C dX1_allow_78 0 rfl ?_
              refine j_aload_n (pc := 80) C dX1_allow_80 rfl 2 rfl ?_
              refine j_get (pc := 81) (ci := 1) (v := .ref e2) C inw_1 0 rfl rfl 3 (by decide) wd_193 rfl rfl dX1_allow_81 ?_
              refine j_iload (pc := 84) C dX1_allow_84 1 rfl ?_
              obtain ⟨v_10, ev_10⟩ : ∃ z, e_end (x5_4).toInt.toNat = z := ⟨_, rfl⟩
              have env_10 : (e_end (x5_4).toInt.toNat).toInt = v_10.toInt := by rw [ev_10]
              have hv_10 := h_e_end (x5_4).toInt.toNat (i_lt_n hi_5_0.1 (by omega)); rw [ev_10] at hv_10
              refine j_iald (pc := 86) (v := v_10) (k := (x5_4).toInt.toNat) C 2 1 rfl rfl (i_nn hi_5_0.1) rfl (i_lt_n hi_5_0.1 (by omega)) ev_10 dX1_allow_86 ?_
              have hs9 : sC e_end (x5_4).toInt.toNat = (v_9).toInt.toNat := by unfold sC; rw [if_neg (by omega), show (x5_4).toInt.toNat - 1 = (v_8).toInt.toNat from (by omega), ev_9]
              have hv9 : CSeg e_steps (v_9).toInt.toNat (v_10).toInt.toNat 25 (E (x5_4).toInt.toNat) := by rw [← hs9, ← ev_10]; exact hCE (x5_4).toInt.toNat (by omega)
              have hl9 := hv9.1
              refine j_callV (pc := 87) (As := [.ref a0, .int p0, .int p1, .int v_9, .int v_10]) (rest := []) (wr := [(e2, .inl (cyI, 4, .inl e_end))]) C (c_X1_value l D cyC cyI cyJ cyZ cyO e0 e1 e3 a0 a1 a2 a3 e2 a4 a5 a6 a7 a8 a9 a10 p0 p1 v_9 v_10 e_size e_nests a_wares a_shelves a_nests a_lids a_tops e_steps g5_e3 a_wide a_deep a_weight h_e_size h_e_nests h_a_wares h_a_shelves h_a_nests h_p0 h_p1 hv_9 hv_10 (by omega)) wd_207 wd_200 wd_208 wd_209 wd_210 ⟨by decide, by decide, rfl⟩ rfl ⟨rfl, rfl, by decide, by decide⟩ ⟨by decide, by decide⟩ [0, 1, 3, 4, 5, 6, 7] [2] rfl rfl ⟨by decide, by decide, by decide⟩ 0 rfl rfl rfl (Nat.le_of_ble_eq_true rfl) dX1_allow_87 (fun u_11 hw_12 => ?_)
              refine j_eq (ws2 := [(e2, .inl (cyI, 4, .inl e_end)), (e0, .inr (1, [.int e_size, .int e_nests, .ref e1, .ref e2, .ref e3])), (e1, .inl (cyI, 1000, .inl e_steps)), (e3, .inl (cyI, 32, .inl (u_11.2.2.1 0))), (a0, .inr (9, [.int a_wares, .int a_shelves, .int a_nests, .ref a1, .ref a2, .ref a3, .ref a4, .ref a5, .ref a6, .int a_lids, .int a_tops, .ref a7, .ref a8, .ref a9, .ref a10])), (a1, .inl (cyI, 12, .inl a_wide)), (a2, .inl (cyI, 12, .inl a_deep)), (a3, .inl (cyI, 12, .inl a_weight))]) (pc2 := 90) (lv2 := [(5, .int v_9), (4, .int x5_4), (0, .ref e0), (1, .ref a0), (2, .int p0), (3, .int p1)]) (st2 := [.int (u_11.2.1 0)]) rfl rfl rfl rfl ?_
              have hw_12_0 : ∀ V : (Nat → Int32) → Int32, CSeg e_steps (v_9).toInt.toNat (v_10).toInt.toNat 25 V → (u_11.2.1 0) = V (fcC a_wide a_deep a_weight a_lids (p0).toInt.toNat (p1).toInt.toNat) := hw_12
              refine j_if_ne (pc := 90) (tgt := 95) C dX1_allow_90 (by decide) (fun c_13 => ?_) (fun c_13 => ?_)
              · skip
                have el_0 : (0 : Int32).toInt = 0 := rfl
                rw [i_eq] at c_13
                obtain ⟨v_14, ev_14⟩ : ∃ z : Int32, x5_4 + 1 = z := ⟨_, rfl⟩
                have el_1 : (1 : Int32).toInt = 1 := rfl
                have hv_14 : v_14.toInt = x5_4.toInt + (1 : Int32).toInt := by rw [← ev_14]; exact fb_addI (by omega) (by omega)
                refine j_iinc (pc := 95) (v := v_14) (lv' := [(4, .int v_14), (5, .int v_9), (0, .ref e0), (1, .ref a0), (2, .int p0), (3, .int p1)]) C dX1_allow_95 1 rfl ev_14 (by decide) rfl ?_
                refine j_goto (pc := 98) (tgt := 45) C dX1_allow_98 (by decide) ?_
                refine j_subG (ws' := [(e0, .inr (1, [.int e_size, .int e_nests, .ref e1, .ref e2, .ref e3])), (e1, .inl (cyI, 1000, .inl e_steps)), (e2, .inl (cyI, 4, .inl e_end)), (e3, .inl (cyI, 32, .inl (u_11.2.2.1 0))), (a0, .inr (9, [.int a_wares, .int a_shelves, .int a_nests, .ref a1, .ref a2, .ref a3, .ref a4, .ref a5, .ref a6, .int a_lids, .int a_tops, .ref a7, .ref a8, .ref a9, .ref a10])), (a1, .inl (cyI, 12, .inl a_wide)), (a2, .inl (cyI, 12, .inl a_deep)), (a3, .inl (cyI, 12, .inl a_weight))]) [1, 2, 0, 3, 4, 5, 6, 7] (by decide) rfl ?_
                exact j_lv [0, 2, 3, 4, 5] rfl (ih_5 v_14 (u_11.2.2.1 0) (by omega) (fun i hi => by rcases Int.lt_or_le (i : Int) (x5_4).toInt with q | q; (exact hq_5_0 i q); (rw [show i = (x5_4).toInt.toNat from (by omega), ← hw_12_0 _ hv9, i_eq]; omega)) (by omega))
              · skip
                have el_0 : (0 : Int32).toInt = 0 := rfl
                rw [i_eq] at c_13
                refine j_iconst (pc := 93) (v := 0) C dX1_allow_93 (by decide) ?_
                have el_0 : (0 : Int32).toInt = 0 := rfl
                have el_0 : (0 : Int32).toInt = 0 := rfl
                have el_0 : (0 : Int32).toInt = 0 := rfl
                exact j_zret (pc := 94) C hr rfl hk (fun i => [].getD i 0, fun i => [0].getD i 0, fun i => [(u_11.2.2.1 0)].getD i (fun _ => 0), fun i => [].getD i (fun _ => 0)) rfl (show (0 ≤ ((0 : Int32)).toInt ∧ ((0 : Int32)).toInt ≤ 1) ∧ ((0 : Int32).toInt = if mayP (e_nests).toInt.toNat E (fcC a_wide a_deep a_weight a_lids (p0).toInt.toNat (p1).toInt.toNat) (decide ((a_wide (p0).toInt.toNat).toInt < (a_wide (p1).toInt.toNat).toInt)) (BT a_tops (p1).toInt.toNat) = true then 1 else 0) from ⟨by omega, (by rw [if_neg (fun z => (mayP_iff.mp z).2.2 (x5_4).toInt.toNat (by omega) (by rw [← hw_12_0 _ hv9, i_eq]; omega))]; rfl)⟩) [1, 2, 0, 3, 4, 5, 6, 7] (by decide) rfl (by decide) (by decide) dX1_allow_94
            · skip
              have el_0 : (0 : Int32).toInt = 0 := rfl
              rw [i_eq] at c_7
              refine j_iconst (pc := 59) (v := 0) C dX1_allow_59 (by decide) ?_
              refine j_goto (pc := 60) (tgt := 72) C dX1_allow_60 (by decide) ?_
              refine j_istore (pc := 72) (lv' := [(5, .int 0), (4, .int x5_4), (0, .ref e0), (1, .ref a0), (2, .int p0), (3, .int p1)]) C dX1_allow_72 (by decide) rfl ?_
              refine j_aload_n (pc := 74) C dX1_allow_74 rfl 2 rfl ?_
              refine j_aload_n (pc := 75) C dX1_allow_75 rfl 3 rfl ?_
              refine j_iload_n (pc := 76) C dX1_allow_76 rfl 4 rfl ?_
              refine j_iload_n (pc := 77) C dX1_allow_77 rfl 5 rfl ?_
              refine j_iload (pc := 78) C dX1_allow_78 0 rfl ?_
              refine j_aload_n (pc := 80) C dX1_allow_80 rfl 2 rfl ?_
              refine j_get (pc := 81) (ci := 1) (v := .ref e2) C inw_1 0 rfl rfl 3 (by decide) wd_193 rfl rfl dX1_allow_81 ?_
              refine j_iload (pc := 84) C dX1_allow_84 1 rfl ?_
              obtain ⟨v_15, ev_15⟩ : ∃ z, e_end (x5_4).toInt.toNat = z := ⟨_, rfl⟩
              have env_15 : (e_end (x5_4).toInt.toNat).toInt = v_15.toInt := by rw [ev_15]
              have hv_15 := h_e_end (x5_4).toInt.toNat (i_lt_n hi_5_0.1 (by omega)); rw [ev_15] at hv_15
              refine j_iald (pc := 86) (v := v_15) (k := (x5_4).toInt.toNat) C 2 1 rfl rfl (i_nn hi_5_0.1) rfl (i_lt_n hi_5_0.1 (by omega)) ev_15 dX1_allow_86 ?_
              have el_0 : (0 : Int32).toInt = 0 := rfl
              have hs9 : sC e_end (x5_4).toInt.toNat = (0 : Int32).toInt.toNat := by rw [show (x5_4).toInt.toNat = 0 from (by omega)]; rfl
              have hv9 : CSeg e_steps ((0 : Int32)).toInt.toNat (v_15).toInt.toNat 25 (E (x5_4).toInt.toNat) := by rw [← hs9, ← ev_15]; exact hCE (x5_4).toInt.toNat (by omega)
              have hl9 := hv9.1
              refine j_callV (pc := 87) (As := [.ref a0, .int p0, .int p1, .int 0, .int v_15]) (rest := []) (wr := [(e2, .inl (cyI, 4, .inl e_end))]) C (c_X1_value l D cyC cyI cyJ cyZ cyO e0 e1 e3 a0 a1 a2 a3 e2 a4 a5 a6 a7 a8 a9 a10 p0 p1 0 v_15 e_size e_nests a_wares a_shelves a_nests a_lids a_tops e_steps g5_e3 a_wide a_deep a_weight h_e_size h_e_nests h_a_wares h_a_shelves h_a_nests h_p0 h_p1 (by decide) hv_15 (by omega)) wd_207 wd_200 wd_208 wd_209 wd_210 ⟨by decide, by decide, rfl⟩ rfl ⟨rfl, rfl, by decide, by decide⟩ ⟨by decide, by decide⟩ [0, 1, 3, 4, 5, 6, 7] [2] rfl rfl ⟨by decide, by decide, by decide⟩ 0 rfl rfl rfl (Nat.le_of_ble_eq_true rfl) dX1_allow_87 (fun u_16 hw_17 => ?_)
              refine j_eq (ws2 := [(e2, .inl (cyI, 4, .inl e_end)), (e0, .inr (1, [.int e_size, .int e_nests, .ref e1, .ref e2, .ref e3])), (e1, .inl (cyI, 1000, .inl e_steps)), (e3, .inl (cyI, 32, .inl (u_16.2.2.1 0))), (a0, .inr (9, [.int a_wares, .int a_shelves, .int a_nests, .ref a1, .ref a2, .ref a3, .ref a4, .ref a5, .ref a6, .int a_lids, .int a_tops, .ref a7, .ref a8, .ref a9, .ref a10])), (a1, .inl (cyI, 12, .inl a_wide)), (a2, .inl (cyI, 12, .inl a_deep)), (a3, .inl (cyI, 12, .inl a_weight))]) (pc2 := 90) (lv2 := [(5, .int 0), (4, .int x5_4), (0, .ref e0), (1, .ref a0), (2, .int p0), (3, .int p1)]) (st2 := [.int (u_16.2.1 0)]) rfl rfl rfl rfl ?_
              have hw_17_0 : ∀ V : (Nat → Int32) → Int32, CSeg e_steps ((0 : Int32)).toInt.toNat (v_15).toInt.toNat 25 V → (u_16.2.1 0) = V (fcC a_wide a_deep a_weight a_lids (p0).toInt.toNat (p1).toInt.toNat) := hw_17
              refine j_if_ne (pc := 90) (tgt := 95) C dX1_allow_90 (by decide) (fun c_18 => ?_) (fun c_18 => ?_)
              · skip
                have el_0 : (0 : Int32).toInt = 0 := rfl
                rw [i_eq] at c_18
                obtain ⟨v_19, ev_19⟩ : ∃ z : Int32, x5_4 + 1 = z := ⟨_, rfl⟩
                have el_1 : (1 : Int32).toInt = 1 := rfl
                have hv_19 : v_19.toInt = x5_4.toInt + (1 : Int32).toInt := by rw [← ev_19]; exact fb_addI (by omega) (by omega)
                refine j_iinc (pc := 95) (v := v_19) (lv' := [(4, .int v_19), (5, .int 0), (0, .ref e0), (1, .ref a0), (2, .int p0), (3, .int p1)]) C dX1_allow_95 1 rfl ev_19 (by decide) rfl ?_
                refine j_goto (pc := 98) (tgt := 45) C dX1_allow_98 (by decide) ?_
                refine j_subG (ws' := [(e0, .inr (1, [.int e_size, .int e_nests, .ref e1, .ref e2, .ref e3])), (e1, .inl (cyI, 1000, .inl e_steps)), (e2, .inl (cyI, 4, .inl e_end)), (e3, .inl (cyI, 32, .inl (u_16.2.2.1 0))), (a0, .inr (9, [.int a_wares, .int a_shelves, .int a_nests, .ref a1, .ref a2, .ref a3, .ref a4, .ref a5, .ref a6, .int a_lids, .int a_tops, .ref a7, .ref a8, .ref a9, .ref a10])), (a1, .inl (cyI, 12, .inl a_wide)), (a2, .inl (cyI, 12, .inl a_deep)), (a3, .inl (cyI, 12, .inl a_weight))]) [1, 2, 0, 3, 4, 5, 6, 7] (by decide) rfl ?_
                exact j_lv [0, 2, 3, 4, 5] rfl (ih_5 v_19 (u_16.2.2.1 0) (by omega) (fun i hi => by rcases Int.lt_or_le (i : Int) (x5_4).toInt with q | q; (exact hq_5_0 i q); (rw [show i = (x5_4).toInt.toNat from (by omega), ← hw_17_0 _ hv9, i_eq]; omega)) (by omega))
              · skip
                have el_0 : (0 : Int32).toInt = 0 := rfl
                rw [i_eq] at c_18
                refine j_iconst (pc := 93) (v := 0) C dX1_allow_93 (by decide) ?_
                have el_0 : (0 : Int32).toInt = 0 := rfl
                have el_0 : (0 : Int32).toInt = 0 := rfl
                have el_0 : (0 : Int32).toInt = 0 := rfl
                exact j_zret (pc := 94) C hr rfl hk (fun i => [].getD i 0, fun i => [0].getD i 0, fun i => [(u_16.2.2.1 0)].getD i (fun _ => 0), fun i => [].getD i (fun _ => 0)) rfl (show (0 ≤ ((0 : Int32)).toInt ∧ ((0 : Int32)).toInt ≤ 1) ∧ ((0 : Int32).toInt = if mayP (e_nests).toInt.toNat E (fcC a_wide a_deep a_weight a_lids (p0).toInt.toNat (p1).toInt.toNat) (decide ((a_wide (p0).toInt.toNat).toInt < (a_wide (p1).toInt.toNat).toInt)) (BT a_tops (p1).toInt.toNat) = true then 1 else 0) from ⟨by omega, (by rw [if_neg (fun z => (mayP_iff.mp z).2.2 (x5_4).toInt.toNat (by omega) (by rw [← hw_17_0 _ hv9, i_eq]; omega))]; rfl)⟩) [1, 2, 0, 3, 4, 5, 6, 7] (by decide) rfl (by decide) (by decide) dX1_allow_94
      have el_0 : (0 : Int32).toInt = 0 := rfl
      exact j_lv [0, 1, 2, 3, 4] rfl (loop_5 4096 0 e_values (by decide) (fun i hi => absurd hi (by omega)) (by omega))
    · skip
      have el_0 : (0 : Int32).toInt = 0 := rfl
      rw [i_eq] at c_4
      refine j_aload_n (pc := 21) C dX1_allow_21 rfl 1 rfl ?_
      refine j_get (pc := 22) (ci := 9) (v := .ref a1) C inw_9 4 rfl rfl 3 (by decide) wd_197 rfl rfl dX1_allow_22 ?_
      refine j_iload_n (pc := 25) C dX1_allow_25 rfl 2 rfl ?_
      obtain ⟨v_20, ev_20⟩ : ∃ z, a_wide (p0).toInt.toNat = z := ⟨_, rfl⟩
      have env_20 : (a_wide (p0).toInt.toNat).toInt = v_20.toInt := by rw [ev_20]
      refine j_iald (pc := 26) (v := v_20) (k := (p0).toInt.toNat) C 5 1 rfl rfl (i_nn h_p0.1) rfl (i_lt_n h_p0.1 (Int.lt_of_le_of_lt h_p0.2 (by decide))) ev_20 dX1_allow_26 ?_
      refine j_aload_n (pc := 27) C dX1_allow_27 rfl 1 rfl ?_
      refine j_get (pc := 28) (ci := 9) (v := .ref a1) C inw_9 4 rfl rfl 3 (by decide) wd_197 rfl rfl dX1_allow_28 ?_
      refine j_iload_n (pc := 31) C dX1_allow_31 rfl 3 rfl ?_
      obtain ⟨v_21, ev_21⟩ : ∃ z, a_wide (p1).toInt.toNat = z := ⟨_, rfl⟩
      have env_21 : (a_wide (p1).toInt.toNat).toInt = v_21.toInt := by rw [ev_21]
      refine j_iald (pc := 32) (v := v_21) (k := (p1).toInt.toNat) C 5 1 rfl rfl (i_nn h_p1.1) rfl (i_lt_n h_p1.1 (Int.lt_of_le_of_lt h_p1.2 (by decide))) ev_21 dX1_allow_32 ?_
      refine j_icmp_ge (pc := 33) (tgt := 40) C dX1_allow_33 (by decide) (fun c_22 => ?_) (fun c_22 => ?_)
      · skip
        rw [i_le] at c_22
        refine j_iconst (pc := 40) (v := 0) C dX1_allow_40 (by decide) ?_
        have el_0 : (0 : Int32).toInt = 0 := rfl
        have el_0 : (0 : Int32).toInt = 0 := rfl
        have el_0 : (0 : Int32).toInt = 0 := rfl
        exact j_zret (pc := 41) C hr rfl hk (fun i => [].getD i 0, fun i => [0].getD i 0, fun i => [e_values].getD i (fun _ => 0), fun i => [].getD i (fun _ => 0)) rfl (show (0 ≤ ((0 : Int32)).toInt ∧ ((0 : Int32)).toInt ≤ 1) ∧ ((0 : Int32).toInt = if mayP (e_nests).toInt.toNat E (fcC a_wide a_deep a_weight a_lids (p0).toInt.toNat (p1).toInt.toNat) (decide ((a_wide (p0).toInt.toNat).toInt < (a_wide (p1).toInt.toNat).toInt)) (BT a_tops (p1).toInt.toNat) = true then 1 else 0) from ⟨by omega, (by rw [if_neg (fun z => by have y := of_decide_eq_true ((mayP_iff.mp z).2.1 (by omega)); omega)]; rfl)⟩) [0, 1, 2, 3, 4, 5, 6, 7] (by decide) rfl (by decide) (by decide) dX1_allow_41
      · skip
        rw [i_le] at c_22
        refine j_iconst (pc := 36) (v := 1) C dX1_allow_36 (by decide) ?_
        refine j_goto (pc := 37) (tgt := 41) C dX1_allow_37 (by decide) ?_
        have el_1 : (1 : Int32).toInt = 1 := rfl
        have el_1 : (1 : Int32).toInt = 1 := rfl
        have el_0 : (0 : Int32).toInt = 0 := rfl
        exact j_zret (pc := 41) C hr rfl hk (fun i => [].getD i 0, fun i => [1].getD i 0, fun i => [e_values].getD i (fun _ => 0), fun i => [].getD i (fun _ => 0)) rfl (show (0 ≤ ((1 : Int32)).toInt ∧ ((1 : Int32)).toInt ≤ 1) ∧ ((1 : Int32).toInt = if mayP (e_nests).toInt.toNat E (fcC a_wide a_deep a_weight a_lids (p0).toInt.toNat (p1).toInt.toNat) (decide ((a_wide (p0).toInt.toNat).toInt < (a_wide (p1).toInt.toNat).toInt)) (BT a_tops (p1).toInt.toNat) = true then 1 else 0) from ⟨by omega, (by rw [if_pos (mayP_iff.mpr ⟨(by by_cases q : BT a_tops (p1).toInt.toNat = true; (rw [if_pos q] at hb9; exfalso; omega); (exact Bool.eq_false_iff.mpr q)), (fun _ => decide_eq_true (by omega)), (fun i hi => absurd hi (by omega))⟩)]; rfl)⟩) [0, 1, 2, 3, 4, 5, 6, 7] (by decide) rfl (by decide) (by decide) dX1_allow_41
  · skip
    have el_1 : (1 : Int32).toInt = 1 := rfl
    rw [i_eq] at c_3
    refine j_iconst (pc := 12) (v := 0) C dX1_allow_12 (by decide) ?_
    have el_0 : (0 : Int32).toInt = 0 := rfl
    have el_0 : (0 : Int32).toInt = 0 := rfl
    have el_0 : (0 : Int32).toInt = 0 := rfl
    exact j_zret (pc := 13) C hr rfl hk (fun i => [].getD i 0, fun i => [0].getD i 0, fun i => [e_values].getD i (fun _ => 0), fun i => [].getD i (fun _ => 0)) rfl (show (0 ≤ ((0 : Int32)).toInt ∧ ((0 : Int32)).toInt ≤ 1) ∧ ((0 : Int32).toInt = if mayP (e_nests).toInt.toNat E (fcC a_wide a_deep a_weight a_lids (p0).toInt.toNat (p1).toInt.toNat) (decide ((a_wide (p0).toInt.toNat).toInt < (a_wide (p1).toInt.toNat).toInt)) (BT a_tops (p1).toInt.toNat) = true then 1 else 0) from ⟨by omega, (by rw [if_neg (fun z => by have y := (mayP_iff.mp z).1; rw [y, if_neg (by decide)] at hb9; omega)]; rfl)⟩) [0, 1, 2, 3, 4, 5, 6, 7] (by decide) rfl (by decide) (by decide) dX1_allow_13
theorem wd_211 : Cond.fieldLink RJ0 1053 "jdk/internal/util/Preconditions" "SIOOBE_FORMATTER" "Ljava/util/function/BiFunction;" ∈ WALL := wl_in (by decide +kernel) (by decide +kernel)
theorem wd_212 : Cond.code yJ3_checkIndex_8e157 cJ3_checkIndex_8e157 3 (some .int) ∈ WALL := wl_in (by decide +kernel) (by decide +kernel)
theorem wd_213 : Cond.initialized RJ3 ∈ WALL := wl_in (by decide +kernel) (by decide +kernel)
theorem wd_214 : Cond.methodLink RJ0 1059 yJ3_checkIndex_8e157 ∈ WALL := wl_in (by decide +kernel) (by decide +kernel)
theorem wd_215 : Cond.static yJ3_checkIndex_8e157 ∈ WALL := wl_in (by decide +kernel) (by decide +kernel)
theorem wd_216 : Cond.fieldLink RJ0 38 "java/lang/String" "COMPACT_STRINGS" "Z" ∈ WALL := wl_in (by decide +kernel) (by decide +kernel)
theorem wd_217 : Cond.fieldLink RJ0 15 "java/lang/String" "coder" "B" ∈ WALL := wl_in (by decide +kernel) (by decide +kernel)
theorem wd_218 : Cond.fieldLink RJ0 9 "java/lang/String" "value" "[B" ∈ WALL := wl_in (by decide +kernel) (by decide +kernel)
theorem wd_219 : Cond.code yJ0_coder_7d493 cJ0_coder_7d493 1 (some .byte) ∈ WALL := wl_in (by decide +kernel) (by decide +kernel)
theorem wd_220 : Cond.initialized RJ0 ∈ WALL := wl_in (by decide +kernel) (by decide +kernel)
theorem wd_221 : Cond.methodLink RJ0 335 yJ0_coder_7d493 ∈ WALL := wl_in (by decide +kernel) (by decide +kernel)
theorem wd_222 : Cond.instanceMethod yJ0_coder_7d493 ∈ WALL := wl_in (by decide +kernel) (by decide +kernel)
theorem wd_223 : Cond.selects RJ0 yJ0_coder_7d493 yJ0_coder_7d493 ∈ WALL := wl_in (by decide +kernel) (by decide +kernel)
theorem wd_224 : Cond.code yJ0_checkIndex_df160 cJ0_checkIndex_df160 2 none ∈ WALL := wl_in (by decide +kernel) (by decide +kernel)
theorem wd_225 : Cond.methodLink RJ1 9 yJ0_checkIndex_df160 ∈ WALL := wl_in (by decide +kernel) (by decide +kernel)
theorem wd_226 : Cond.static yJ0_checkIndex_df160 ∈ WALL := wl_in (by decide +kernel) (by decide +kernel)
theorem wd_227 : Cond.code yJ0_isLatin1_aae02 cJ0_isLatin1_aae02 1 (some .boolean) ∈ WALL := wl_in (by decide +kernel) (by decide +kernel)
theorem wd_228 : Cond.methodLink RJ0 492 yJ0_isLatin1_aae02 ∈ WALL := wl_in (by decide +kernel) (by decide +kernel)
theorem wd_229 : Cond.instanceMethod yJ0_isLatin1_aae02 ∈ WALL := wl_in (by decide +kernel) (by decide +kernel)
theorem wd_230 : Cond.selects RJ0 yJ0_isLatin1_aae02 yJ0_isLatin1_aae02 ∈ WALL := wl_in (by decide +kernel) (by decide +kernel)
theorem wd_231 : Cond.code yJ1_charAt_3b067 cJ1_charAt_3b067 2 (some .char) ∈ WALL := wl_in (by decide +kernel) (by decide +kernel)
theorem wd_232 : Cond.initialized RJ1 ∈ WALL := wl_in (by decide +kernel) (by decide +kernel)
theorem wd_233 : Cond.methodLink RJ0 495 yJ1_charAt_3b067 ∈ WALL := wl_in (by decide +kernel) (by decide +kernel)
theorem wd_234 : Cond.static yJ1_charAt_3b067 ∈ WALL := wl_in (by decide +kernel) (by decide +kernel)
theorem wd_235 : Cond.code yJ1_canEncode_9a6ad cJ1_canEncode_9a6ad 1 (some .boolean) ∈ WALL := wl_in (by decide +kernel) (by decide +kernel)
theorem wd_236 : Cond.methodLink RJ1 88 yJ1_canEncode_9a6ad ∈ WALL := wl_in (by decide +kernel) (by decide +kernel)
theorem wd_237 : Cond.static yJ1_canEncode_9a6ad ∈ WALL := wl_in (by decide +kernel) (by decide +kernel)
theorem wd_238 : Cond.methodLink RJ1 92 Lib.Math.max.name ∈ WALL := wl_in (by decide +kernel) (by decide +kernel)
theorem wd_239 : Cond.methodLink RJ1 38 Lib.Math.min.name ∈ WALL := wl_in (by decide +kernel) (by decide +kernel)
theorem wd_240 : Cond.code yJ1_indexOfChar_4cfef cJ1_indexOfChar_4cfef 6 (some .int) ∈ WALL := wl_in (by decide +kernel) (by decide +kernel)
theorem wd_241 : Cond.methodLink RJ1 95 yJ1_indexOfChar_4cfef ∈ WALL := wl_in (by decide +kernel) (by decide +kernel)
theorem wd_242 : Cond.static yJ1_indexOfChar_4cfef ∈ WALL := wl_in (by decide +kernel) (by decide +kernel)
theorem wd_243 : Cond.code yJ0_length_8abf5 cJ0_length_8abf5 1 (some .int) ∈ WALL := wl_in (by decide +kernel) (by decide +kernel)
theorem wd_244 : Cond.methodLink RJ0 505 yJ0_length_8abf5 ∈ WALL := wl_in (by decide +kernel) (by decide +kernel)
theorem wd_245 : Cond.instanceMethod yJ0_length_8abf5 ∈ WALL := wl_in (by decide +kernel) (by decide +kernel)
theorem wd_246 : Cond.selects RJ0 yJ0_length_8abf5 yJ0_length_8abf5 ∈ WALL := wl_in (by decide +kernel) (by decide +kernel)
theorem wd_247 : Cond.code yJ1_indexOf_4cfef cJ1_indexOf_4cfef 4 (some .int) ∈ WALL := wl_in (by decide +kernel) (by decide +kernel)
theorem wd_248 : Cond.methodLink RJ0 637 yJ1_indexOf_4cfef ∈ WALL := wl_in (by decide +kernel) (by decide +kernel)
theorem wd_249 : Cond.static yJ1_indexOf_4cfef ∈ WALL := wl_in (by decide +kernel) (by decide +kernel)
theorem wd_250 : Cond.code yJ0_indexOf_7cf53 cJ0_indexOf_7cf53 3 (some .int) ∈ WALL := wl_in (by decide +kernel) (by decide +kernel)
theorem wd_251 : Cond.methodLink RJ0 633 yJ0_indexOf_7cf53 ∈ WALL := wl_in (by decide +kernel) (by decide +kernel)
theorem wd_252 : Cond.instanceMethod yJ0_indexOf_7cf53 ∈ WALL := wl_in (by decide +kernel) (by decide +kernel)
theorem wd_253 : Cond.selects RJ0 yJ0_indexOf_7cf53 yJ0_indexOf_7cf53 ∈ WALL := wl_in (by decide +kernel) (by decide +kernel)
theorem dJ3_checkIndex_8e157_0 : decode cJ3_checkIndex_8e157 0 = .ok (.iload_n 0, 1) := by decide +kernel
theorem dJ3_checkIndex_8e157_1 : decode cJ3_checkIndex_8e157 1 = .ok (.ifCond .lt 8, 3) := by decide +kernel
theorem dJ3_checkIndex_8e157_4 : decode cJ3_checkIndex_8e157 4 = .ok (.iload_n 0, 1) := by decide +kernel
theorem dJ3_checkIndex_8e157_5 : decode cJ3_checkIndex_8e157 5 = .ok (.iload_n 1, 1) := by decide +kernel
theorem dJ3_checkIndex_8e157_6 : decode cJ3_checkIndex_8e157 6 = .ok (.if_icmp .lt 10, 3) := by decide +kernel
theorem dJ3_checkIndex_8e157_16 : decode cJ3_checkIndex_8e157 16 = .ok (.iload_n 0, 1) := by decide +kernel
theorem dJ3_checkIndex_8e157_17 : decode cJ3_checkIndex_8e157 17 = .ok (.ireturn, 1) := by decide +kernel
theorem dJ0_checkIndex_df160_0 : decode cJ0_checkIndex_df160 0 = .ok (.iload_n 0, 1) := by decide +kernel
theorem dJ0_checkIndex_df160_1 : decode cJ0_checkIndex_df160 1 = .ok (.iload_n 1, 1) := by decide +kernel
theorem dJ0_checkIndex_df160_2 : decode cJ0_checkIndex_df160 2 = .ok (.getstatic 1053, 3) := by decide +kernel
theorem dJ0_checkIndex_df160_5 : decode cJ0_checkIndex_df160 5 = .ok (.invokestatic 1059, 3) := by decide +kernel
theorem dJ0_checkIndex_df160_8 : decode cJ0_checkIndex_df160 8 = .ok (.pop, 1) := by decide +kernel
theorem dJ0_checkIndex_df160_9 : decode cJ0_checkIndex_df160 9 = .ok (.return_, 1) := by decide +kernel
theorem dJ0_coder_7d493_0 : decode cJ0_coder_7d493 0 = .ok (.getstatic 38, 3) := by decide +kernel
theorem dJ0_coder_7d493_3 : decode cJ0_coder_7d493 3 = .ok (.ifCond .eq 10, 3) := by decide +kernel
theorem dJ0_coder_7d493_6 : decode cJ0_coder_7d493 6 = .ok (.aload_n 0, 1) := by decide +kernel
theorem dJ0_coder_7d493_7 : decode cJ0_coder_7d493 7 = .ok (.getfield 15, 3) := by decide +kernel
theorem dJ0_coder_7d493_10 : decode cJ0_coder_7d493 10 = .ok (.goto 4, 3) := by decide +kernel
theorem dJ0_coder_7d493_14 : decode cJ0_coder_7d493 14 = .ok (.ireturn, 1) := by decide +kernel
theorem dJ0_isLatin1_aae02_0 : decode cJ0_isLatin1_aae02 0 = .ok (.getstatic 38, 3) := by decide +kernel
theorem dJ0_isLatin1_aae02_3 : decode cJ0_isLatin1_aae02 3 = .ok (.ifCond .eq 14, 3) := by decide +kernel
theorem dJ0_isLatin1_aae02_6 : decode cJ0_isLatin1_aae02 6 = .ok (.aload_n 0, 1) := by decide +kernel
theorem dJ0_isLatin1_aae02_7 : decode cJ0_isLatin1_aae02 7 = .ok (.getfield 15, 3) := by decide +kernel
theorem dJ0_isLatin1_aae02_10 : decode cJ0_isLatin1_aae02 10 = .ok (.ifCond .ne 7, 3) := by decide +kernel
theorem dJ0_isLatin1_aae02_13 : decode cJ0_isLatin1_aae02 13 = .ok (.iconst 1, 1) := by decide +kernel
theorem dJ0_isLatin1_aae02_14 : decode cJ0_isLatin1_aae02 14 = .ok (.goto 4, 3) := by decide +kernel
theorem dJ0_isLatin1_aae02_18 : decode cJ0_isLatin1_aae02 18 = .ok (.ireturn, 1) := by decide +kernel
theorem dJ0_length_8abf5_0 : decode cJ0_length_8abf5 0 = .ok (.aload_n 0, 1) := by decide +kernel
theorem dJ0_length_8abf5_1 : decode cJ0_length_8abf5 1 = .ok (.getfield 9, 3) := by decide +kernel
theorem dJ0_length_8abf5_4 : decode cJ0_length_8abf5 4 = .ok (.arraylength, 1) := by decide +kernel
theorem dJ0_length_8abf5_5 : decode cJ0_length_8abf5 5 = .ok (.aload_n 0, 1) := by decide +kernel
theorem dJ0_length_8abf5_6 : decode cJ0_length_8abf5 6 = .ok (.invokevirtual 335, 3) := by decide +kernel
theorem dJ0_length_8abf5_9 : decode cJ0_length_8abf5 9 = .ok (.ishr, 1) := by decide +kernel
theorem dJ0_length_8abf5_10 : decode cJ0_length_8abf5 10 = .ok (.ireturn, 1) := by decide +kernel
theorem dJ1_charAt_3b067_0 : decode cJ1_charAt_3b067 0 = .ok (.iload_n 1, 1) := by decide +kernel
theorem dJ1_charAt_3b067_1 : decode cJ1_charAt_3b067 1 = .ok (.aload_n 0, 1) := by decide +kernel
theorem dJ1_charAt_3b067_2 : decode cJ1_charAt_3b067 2 = .ok (.arraylength, 1) := by decide +kernel
theorem dJ1_charAt_3b067_3 : decode cJ1_charAt_3b067 3 = .ok (.invokestatic 9, 3) := by decide +kernel
theorem dJ1_charAt_3b067_6 : decode cJ1_charAt_3b067 6 = .ok (.aload_n 0, 1) := by decide +kernel
theorem dJ1_charAt_3b067_7 : decode cJ1_charAt_3b067 7 = .ok (.iload_n 1, 1) := by decide +kernel
theorem dJ1_charAt_3b067_8 : decode cJ1_charAt_3b067 8 = .ok (.baload, 1) := by decide +kernel
theorem dJ1_charAt_3b067_9 : decode cJ1_charAt_3b067 9 = .ok (.sipush 255, 3) := by decide +kernel
theorem dJ1_charAt_3b067_12 : decode cJ1_charAt_3b067 12 = .ok (.iand, 1) := by decide +kernel
theorem dJ1_charAt_3b067_13 : decode cJ1_charAt_3b067 13 = .ok (.i2c, 1) := by decide +kernel
theorem dJ1_charAt_3b067_14 : decode cJ1_charAt_3b067 14 = .ok (.ireturn, 1) := by decide +kernel
theorem dJ0_charAt_5068e_0 : decode cJ0_charAt_5068e 0 = .ok (.aload_n 0, 1) := by decide +kernel
theorem dJ0_charAt_5068e_1 : decode cJ0_charAt_5068e 1 = .ok (.invokevirtual 492, 3) := by decide +kernel
theorem dJ0_charAt_5068e_4 : decode cJ0_charAt_5068e 4 = .ok (.ifCond .eq 12, 3) := by decide +kernel
theorem dJ0_charAt_5068e_7 : decode cJ0_charAt_5068e 7 = .ok (.aload_n 0, 1) := by decide +kernel
theorem dJ0_charAt_5068e_8 : decode cJ0_charAt_5068e 8 = .ok (.getfield 9, 3) := by decide +kernel
theorem dJ0_charAt_5068e_11 : decode cJ0_charAt_5068e 11 = .ok (.iload_n 1, 1) := by decide +kernel
theorem dJ0_charAt_5068e_12 : decode cJ0_charAt_5068e 12 = .ok (.invokestatic 495, 3) := by decide +kernel
theorem dJ0_charAt_5068e_15 : decode cJ0_charAt_5068e 15 = .ok (.ireturn, 1) := by decide +kernel
theorem dJ1_canEncode_9a6ad_0 : decode cJ1_canEncode_9a6ad 0 = .ok (.iload_n 0, 1) := by decide +kernel
theorem dJ1_canEncode_9a6ad_1 : decode cJ1_canEncode_9a6ad 1 = .ok (.ifCond .lt 14, 3) := by decide +kernel
theorem dJ1_canEncode_9a6ad_4 : decode cJ1_canEncode_9a6ad 4 = .ok (.iload_n 0, 1) := by decide +kernel
theorem dJ1_canEncode_9a6ad_5 : decode cJ1_canEncode_9a6ad 5 = .ok (.sipush 255, 3) := by decide +kernel
theorem dJ1_canEncode_9a6ad_8 : decode cJ1_canEncode_9a6ad 8 = .ok (.if_icmp .gt 7, 3) := by decide +kernel
theorem dJ1_canEncode_9a6ad_11 : decode cJ1_canEncode_9a6ad 11 = .ok (.iconst 1, 1) := by decide +kernel
theorem dJ1_canEncode_9a6ad_12 : decode cJ1_canEncode_9a6ad 12 = .ok (.goto 4, 3) := by decide +kernel
theorem dJ1_canEncode_9a6ad_15 : decode cJ1_canEncode_9a6ad 15 = .ok (.iconst 0, 1) := by decide +kernel
theorem dJ1_canEncode_9a6ad_16 : decode cJ1_canEncode_9a6ad 16 = .ok (.ireturn, 1) := by decide +kernel
theorem dJ1_indexOfChar_4cfef_0 : decode cJ1_indexOfChar_4cfef 0 = .ok (.iload_n 1, 1) := by decide +kernel
theorem dJ1_indexOfChar_4cfef_1 : decode cJ1_indexOfChar_4cfef 1 = .ok (.i2b, 1) := by decide +kernel
theorem dJ1_indexOfChar_4cfef_2 : decode cJ1_indexOfChar_4cfef 2 = .ok (.istore 4, 2) := by decide +kernel
theorem dJ1_indexOfChar_4cfef_4 : decode cJ1_indexOfChar_4cfef 4 = .ok (.iload_n 2, 1) := by decide +kernel
theorem dJ1_indexOfChar_4cfef_5 : decode cJ1_indexOfChar_4cfef 5 = .ok (.istore 5, 2) := by decide +kernel
theorem dJ1_indexOfChar_4cfef_7 : decode cJ1_indexOfChar_4cfef 7 = .ok (.iload 5, 2) := by decide +kernel
theorem dJ1_indexOfChar_4cfef_9 : decode cJ1_indexOfChar_4cfef 9 = .ok (.iload_n 3, 1) := by decide +kernel
theorem dJ1_indexOfChar_4cfef_10 : decode cJ1_indexOfChar_4cfef 10 = .ok (.if_icmp .ge 21, 3) := by decide +kernel
theorem dJ1_indexOfChar_4cfef_13 : decode cJ1_indexOfChar_4cfef 13 = .ok (.aload_n 0, 1) := by decide +kernel
theorem dJ1_indexOfChar_4cfef_14 : decode cJ1_indexOfChar_4cfef 14 = .ok (.iload 5, 2) := by decide +kernel
theorem dJ1_indexOfChar_4cfef_16 : decode cJ1_indexOfChar_4cfef 16 = .ok (.baload, 1) := by decide +kernel
theorem dJ1_indexOfChar_4cfef_17 : decode cJ1_indexOfChar_4cfef 17 = .ok (.iload 4, 2) := by decide +kernel
theorem dJ1_indexOfChar_4cfef_19 : decode cJ1_indexOfChar_4cfef 19 = .ok (.if_icmp .ne 6, 3) := by decide +kernel
theorem dJ1_indexOfChar_4cfef_22 : decode cJ1_indexOfChar_4cfef 22 = .ok (.iload 5, 2) := by decide +kernel
theorem dJ1_indexOfChar_4cfef_24 : decode cJ1_indexOfChar_4cfef 24 = .ok (.ireturn, 1) := by decide +kernel
theorem dJ1_indexOfChar_4cfef_25 : decode cJ1_indexOfChar_4cfef 25 = .ok (.iinc 5 1, 3) := by decide +kernel
theorem dJ1_indexOfChar_4cfef_28 : decode cJ1_indexOfChar_4cfef 28 = .ok (.goto (-21), 3) := by decide +kernel
theorem dJ1_indexOfChar_4cfef_31 : decode cJ1_indexOfChar_4cfef 31 = .ok (.iconst (-1), 1) := by decide +kernel
theorem dJ1_indexOfChar_4cfef_32 : decode cJ1_indexOfChar_4cfef 32 = .ok (.ireturn, 1) := by decide +kernel
theorem dJ1_indexOf_4cfef_0 : decode cJ1_indexOf_4cfef 0 = .ok (.iload_n 1, 1) := by decide +kernel
theorem dJ1_indexOf_4cfef_1 : decode cJ1_indexOf_4cfef 1 = .ok (.invokestatic 88, 3) := by decide +kernel
theorem dJ1_indexOf_4cfef_4 : decode cJ1_indexOf_4cfef 4 = .ok (.ifCond .ne 5, 3) := by decide +kernel
theorem dJ1_indexOf_4cfef_7 : decode cJ1_indexOf_4cfef 7 = .ok (.iconst (-1), 1) := by decide +kernel
theorem dJ1_indexOf_4cfef_8 : decode cJ1_indexOf_4cfef 8 = .ok (.ireturn, 1) := by decide +kernel
theorem dJ1_indexOf_4cfef_9 : decode cJ1_indexOf_4cfef 9 = .ok (.iload_n 2, 1) := by decide +kernel
theorem dJ1_indexOf_4cfef_10 : decode cJ1_indexOf_4cfef 10 = .ok (.iconst 0, 1) := by decide +kernel
theorem dJ1_indexOf_4cfef_11 : decode cJ1_indexOf_4cfef 11 = .ok (.invokestatic 92, 3) := by decide +kernel
theorem dJ1_indexOf_4cfef_14 : decode cJ1_indexOf_4cfef 14 = .ok (.istore_n 2, 1) := by decide +kernel
theorem dJ1_indexOf_4cfef_15 : decode cJ1_indexOf_4cfef 15 = .ok (.iload_n 3, 1) := by decide +kernel
theorem dJ1_indexOf_4cfef_16 : decode cJ1_indexOf_4cfef 16 = .ok (.aload_n 0, 1) := by decide +kernel
theorem dJ1_indexOf_4cfef_17 : decode cJ1_indexOf_4cfef 17 = .ok (.arraylength, 1) := by decide +kernel
theorem dJ1_indexOf_4cfef_18 : decode cJ1_indexOf_4cfef 18 = .ok (.invokestatic 38, 3) := by decide +kernel
theorem dJ1_indexOf_4cfef_21 : decode cJ1_indexOf_4cfef 21 = .ok (.istore_n 3, 1) := by decide +kernel
theorem dJ1_indexOf_4cfef_22 : decode cJ1_indexOf_4cfef 22 = .ok (.iload_n 2, 1) := by decide +kernel
theorem dJ1_indexOf_4cfef_23 : decode cJ1_indexOf_4cfef 23 = .ok (.iload_n 3, 1) := by decide +kernel
theorem dJ1_indexOf_4cfef_24 : decode cJ1_indexOf_4cfef 24 = .ok (.if_icmp .lt 5, 3) := by decide +kernel
theorem dJ1_indexOf_4cfef_27 : decode cJ1_indexOf_4cfef 27 = .ok (.iconst (-1), 1) := by decide +kernel
theorem dJ1_indexOf_4cfef_28 : decode cJ1_indexOf_4cfef 28 = .ok (.ireturn, 1) := by decide +kernel
theorem dJ1_indexOf_4cfef_29 : decode cJ1_indexOf_4cfef 29 = .ok (.aload_n 0, 1) := by decide +kernel
theorem dJ1_indexOf_4cfef_30 : decode cJ1_indexOf_4cfef 30 = .ok (.iload_n 1, 1) := by decide +kernel
theorem dJ1_indexOf_4cfef_31 : decode cJ1_indexOf_4cfef 31 = .ok (.iload_n 2, 1) := by decide +kernel
theorem dJ1_indexOf_4cfef_32 : decode cJ1_indexOf_4cfef 32 = .ok (.iload_n 3, 1) := by decide +kernel
theorem dJ1_indexOf_4cfef_33 : decode cJ1_indexOf_4cfef 33 = .ok (.invokestatic 95, 3) := by decide +kernel
theorem dJ1_indexOf_4cfef_36 : decode cJ1_indexOf_4cfef 36 = .ok (.ireturn, 1) := by decide +kernel
theorem dJ0_indexOf_7cf53_0 : decode cJ0_indexOf_7cf53 0 = .ok (.aload_n 0, 1) := by decide +kernel
theorem dJ0_indexOf_7cf53_1 : decode cJ0_indexOf_7cf53 1 = .ok (.invokevirtual 492, 3) := by decide +kernel
theorem dJ0_indexOf_7cf53_4 : decode cJ0_indexOf_7cf53 4 = .ok (.ifCond .eq 19, 3) := by decide +kernel
theorem dJ0_indexOf_7cf53_7 : decode cJ0_indexOf_7cf53 7 = .ok (.aload_n 0, 1) := by decide +kernel
theorem dJ0_indexOf_7cf53_8 : decode cJ0_indexOf_7cf53 8 = .ok (.getfield 9, 3) := by decide +kernel
theorem dJ0_indexOf_7cf53_11 : decode cJ0_indexOf_7cf53 11 = .ok (.iload_n 1, 1) := by decide +kernel
theorem dJ0_indexOf_7cf53_12 : decode cJ0_indexOf_7cf53 12 = .ok (.iload_n 2, 1) := by decide +kernel
theorem dJ0_indexOf_7cf53_13 : decode cJ0_indexOf_7cf53 13 = .ok (.aload_n 0, 1) := by decide +kernel
theorem dJ0_indexOf_7cf53_14 : decode cJ0_indexOf_7cf53 14 = .ok (.invokevirtual 505, 3) := by decide +kernel
theorem dJ0_indexOf_7cf53_17 : decode cJ0_indexOf_7cf53 17 = .ok (.invokestatic 637, 3) := by decide +kernel
theorem dJ0_indexOf_7cf53_20 : decode cJ0_indexOf_7cf53 20 = .ok (.goto 16, 3) := by decide +kernel
theorem dJ0_indexOf_7cf53_36 : decode cJ0_indexOf_7cf53 36 = .ok (.ireturn, 1) := by decide +kernel
theorem dJ0_indexOf_0f7a4_0 : decode cJ0_indexOf_0f7a4 0 = .ok (.aload_n 0, 1) := by decide +kernel
theorem dJ0_indexOf_0f7a4_1 : decode cJ0_indexOf_0f7a4 1 = .ok (.iload_n 1, 1) := by decide +kernel
theorem dJ0_indexOf_0f7a4_2 : decode cJ0_indexOf_0f7a4 2 = .ok (.iconst 0, 1) := by decide +kernel
theorem dJ0_indexOf_0f7a4_3 : decode cJ0_indexOf_0f7a4 3 = .ok (.invokevirtual 633, 3) := by decide +kernel
theorem dJ0_indexOf_0f7a4_6 : decode cJ0_indexOf_0f7a4 6 = .ok (.ireturn, 1) := by decide +kernel
theorem nc_16 {x : Int32} (h0 : 0 ≤ x.toInt) (h1 : x.toInt ≤ 65535) : narrow .char (.int x) = .int x := by
  show Value.int _ = Value.int x
  congr 1
  exact i2c_id h0 h1
set_option maxHeartbeats 4000000 in
set_option maxRecDepth 100000 in
theorem c_J3_checkIndex_n (l : Launch) (D : DG) (cyC cyI cyJ cyZ cyO : ClassId) (p0 : Int32) (p1 : Int32) (h_p0 : 0 ≤ (p0).toInt ∧ (p0).toInt ≤ 2147483647) (hlt : (p0).toInt < (p1).toInt) : KK l D (TY cyC cyI cyJ cyZ cyO) yJ3_checkIndex_8e157 cJ3_checkIndex_8e157 3 (some .int) ({ frames := 0, cells := 0, slots := 0, locals := 0 } : Room) 0 0 [.int p0, .int p1, .null] [] (fun u => some (.int p0)) (fun u => True) (fun u => []) := by
  refine KK.of (lv0 := [(0, .int p0), (1, .int p1), (2, .null)]) (by decide) rfl (Nat.le_of_ble_eq_true rfl) ?_
  intro p e s m args below meth c A C hr hk hin
  refine j_iload_n (pc := 0) C dJ3_checkIndex_8e157_0 rfl 0 rfl ?_
  have el_0 : (0 : Int32).toInt = 0 := rfl
  refine j_if_lt_f (pc := 1) (tgt := 9) C dJ3_checkIndex_8e157_1 (by decide) (by rw [i_lt]; omega) ?_
  refine j_iload_n (pc := 4) C dJ3_checkIndex_8e157_4 rfl 0 rfl ?_
  refine j_iload_n (pc := 5) C dJ3_checkIndex_8e157_5 rfl 1 rfl ?_
  refine j_icmp_lt_t (pc := 6) (tgt := 16) C dJ3_checkIndex_8e157_6 (by decide) (by rw [i_lt]; omega) ?_
  refine j_iload_n (pc := 16) C dJ3_checkIndex_8e157_16 rfl 0 rfl ?_
  exact j_iret (pc := 17) C hr hk (fun i => [].getD i 0, fun i => [].getD i 0, fun i => [].getD i (fun _ => 0), fun i => [].getD i (fun _ => 0)) rfl trivial [] (by decide) rfl (by decide) (by decide) dJ3_checkIndex_8e157_17
set_option maxHeartbeats 4000000 in
set_option maxRecDepth 100000 in
theorem c_J3_checkIndex_r (l : Launch) (D : DG) (cyC cyI cyJ cyZ cyO : ClassId) (k0 : Nat) (p0 : Int32) (p1 : Int32) (h_p0 : 0 ≤ (p0).toInt ∧ (p0).toInt ≤ 2147483647) (hlt : (p0).toInt < (p1).toInt) : KK l D (TY cyC cyI cyJ cyZ cyO) yJ3_checkIndex_8e157 cJ3_checkIndex_8e157 3 (some .int) ({ frames := 0, cells := 0, slots := 0, locals := 0 } : Room) 0 0 [.int p0, .int p1, .ref k0] [] (fun u => some (.int p0)) (fun u => True) (fun u => []) := by
  refine KK.of (lv0 := [(0, .int p0), (1, .int p1), (2, .ref k0)]) (by decide) rfl (Nat.le_of_ble_eq_true rfl) ?_
  intro p e s m args below meth c A C hr hk hin
  refine j_iload_n (pc := 0) C dJ3_checkIndex_8e157_0 rfl 0 rfl ?_
  have el_0 : (0 : Int32).toInt = 0 := rfl
  refine j_if_lt_f (pc := 1) (tgt := 9) C dJ3_checkIndex_8e157_1 (by decide) (by rw [i_lt]; omega) ?_
  refine j_iload_n (pc := 4) C dJ3_checkIndex_8e157_4 rfl 0 rfl ?_
  refine j_iload_n (pc := 5) C dJ3_checkIndex_8e157_5 rfl 1 rfl ?_
  refine j_icmp_lt_t (pc := 6) (tgt := 16) C dJ3_checkIndex_8e157_6 (by decide) (by rw [i_lt]; omega) ?_
  refine j_iload_n (pc := 16) C dJ3_checkIndex_8e157_16 rfl 0 rfl ?_
  exact j_iret (pc := 17) C hr hk (fun i => [].getD i 0, fun i => [].getD i 0, fun i => [].getD i (fun _ => 0), fun i => [].getD i (fun _ => 0)) rfl trivial [] (by decide) rfl (by decide) (by decide) dJ3_checkIndex_8e157_17
set_option maxHeartbeats 4000000 in
set_option maxRecDepth 100000 in
theorem c_J0_checkIndex_df160 (l : Launch) (D : DG) (cyC cyI cyJ cyZ cyO : ClassId) (p0 : Int32) (p1 : Int32) (h_p0 : 0 ≤ (p0).toInt ∧ (p0).toInt ≤ 2147483647) (hlt : (p0).toInt < (p1).toInt) : KK l D (TY cyC cyI cyJ cyZ cyO) yJ0_checkIndex_df160 cJ0_checkIndex_df160 2 none ({ frames := 1, cells := 0, slots := 0, locals := 22 } : Room) 0 0 [.int p0, .int p1] [] (fun u => none) (fun u => True) (fun u => []) := by
  refine KK.of (lv0 := [(0, .int p0), (1, .int p1)]) (by decide) rfl (Nat.le_of_ble_eq_true rfl) ?_
  intro p e s m args below meth c A C hr hk hin
  refine j_iload_n (pc := 0) C dJ0_checkIndex_df160_0 rfl 0 rfl ?_
  refine j_iload_n (pc := 1) C dJ0_checkIndex_df160_1 rfl 1 rfl ?_
  refine j_getsF (pc := 2) C wd_211 dJ0_checkIndex_df160_2 ?_
  rcases C.2.2.2.2.2.2.1.2.2.2.2.2 with hz9 | ⟨t9, hz9⟩
  · skip
    refine j_eq (ws2 := []) (pc2 := 5) (lv2 := [(0, .int p0), (1, .int p1)]) (st2 := [.null, .int p1, .int p0]) rfl rfl rfl (by rw [hz9]) ?_
    refine j_callS (pc := 5) (As := [.int p0, .int p1, .null]) (rest := []) (wr := []) C (c_J3_checkIndex_n l D cyC cyI cyJ cyZ cyO p0 p1 h_p0 hlt) wd_212 wd_213 wd_214 wd_215 ⟨by decide, by decide, rfl⟩ rfl ⟨rfl, rfl, by decide, by decide⟩ ⟨by decide, by decide⟩ [] [] rfl rfl ⟨by decide, by decide, by decide⟩ rfl (Nat.le_of_ble_eq_true rfl) dJ0_checkIndex_df160_5 (fun u_1 hw_2 => ?_)
    refine j_eq (ws2 := []) (pc2 := 8) (lv2 := [(0, .int p0), (1, .int p1)]) (st2 := [.int p0]) rfl rfl rfl rfl ?_
    refine j_pop (pc := 8) C dJ0_checkIndex_df160_8 rfl ?_
    exact j_vret (pc := 9) C hr hk (fun i => [].getD i 0, fun i => [].getD i 0, fun i => [].getD i (fun _ => 0), fun i => [].getD i (fun _ => 0)) rfl trivial [] (by decide) rfl (by decide) (by decide) dJ0_checkIndex_df160_9
  · skip
    refine j_eq (ws2 := []) (pc2 := 5) (lv2 := [(0, .int p0), (1, .int p1)]) (st2 := [.ref t9, .int p1, .int p0]) rfl rfl rfl (by rw [hz9]) ?_
    refine j_callS (pc := 5) (As := [.int p0, .int p1, .ref t9]) (rest := []) (wr := []) C (c_J3_checkIndex_r l D cyC cyI cyJ cyZ cyO t9 p0 p1 h_p0 hlt) wd_212 wd_213 wd_214 wd_215 ⟨by decide, by decide, rfl⟩ rfl ⟨rfl, rfl, by decide, by decide⟩ ⟨by decide, by decide⟩ [] [] rfl rfl ⟨by decide, by decide, by decide⟩ rfl (Nat.le_of_ble_eq_true rfl) dJ0_checkIndex_df160_5 (fun u_3 hw_4 => ?_)
    refine j_eq (ws2 := []) (pc2 := 8) (lv2 := [(0, .int p0), (1, .int p1)]) (st2 := [.int p0]) rfl rfl rfl rfl ?_
    refine j_pop (pc := 8) C dJ0_checkIndex_df160_8 rfl ?_
    exact j_vret (pc := 9) C hr hk (fun i => [].getD i 0, fun i => [].getD i 0, fun i => [].getD i (fun _ => 0), fun i => [].getD i (fun _ => 0)) rfl trivial [] (by decide) rfl (by decide) (by decide) dJ0_checkIndex_df160_9
set_option maxHeartbeats 4000000 in
set_option maxRecDepth 100000 in
theorem c_J0_coder_7d493 (l : Launch) (D : DG) (cyC cyI cyJ cyZ cyO : ClassId) (i : Nat) (hi_lit : i < 43) : KK l D (TY cyC cyI cyJ cyZ cyO) yJ0_coder_7d493 cJ0_coder_7d493 1 (some .byte) ({ frames := 0, cells := 0, slots := 0, locals := 0 } : Room) 0 0 [.ref (D.2.1 i)] [] (fun u => some (.int 0)) (fun u => True) (fun u => []) := by
  refine KK.of (lv0 := [(0, .ref (D.2.1 i))]) (by decide) rfl (Nat.le_of_ble_eq_true rfl) ?_
  intro p e s m args below meth c A C hr hk hin
  refine j_getsC (pc := 0) C wd_216 dJ0_coder_7d493_0 ?_
  refine j_if_eq_f (pc := 3) (tgt := 13) C dJ0_coder_7d493_3 (by decide) (by decide) ?_
  refine j_aload_n (pc := 6) C dJ0_coder_7d493_6 rfl 0 rfl ?_
  refine j_sgetC (pc := 7) C hi_lit wd_217 dJ0_coder_7d493_7 ?_
  refine j_goto (pc := 10) (tgt := 14) C dJ0_coder_7d493_10 (by decide) ?_
  exact j_zret (pc := 14) C hr rfl hk (fun i => [].getD i 0, fun i => [].getD i 0, fun i => [].getD i (fun _ => 0), fun i => [].getD i (fun _ => 0)) rfl trivial [] (by decide) rfl (by decide) (by decide) dJ0_coder_7d493_14
set_option maxHeartbeats 4000000 in
set_option maxRecDepth 100000 in
theorem c_J0_isLatin1_aae02 (l : Launch) (D : DG) (cyC cyI cyJ cyZ cyO : ClassId) (i : Nat) (hi_lit : i < 43) : KK l D (TY cyC cyI cyJ cyZ cyO) yJ0_isLatin1_aae02 cJ0_isLatin1_aae02 1 (some .boolean) ({ frames := 0, cells := 0, slots := 0, locals := 0 } : Room) 0 0 [.ref (D.2.1 i)] [] (fun u => some (.int 1)) (fun u => True) (fun u => []) := by
  refine KK.of (lv0 := [(0, .ref (D.2.1 i))]) (by decide) rfl (Nat.le_of_ble_eq_true rfl) ?_
  intro p e s m args below meth c A C hr hk hin
  refine j_getsC (pc := 0) C wd_216 dJ0_isLatin1_aae02_0 ?_
  refine j_if_eq_f (pc := 3) (tgt := 17) C dJ0_isLatin1_aae02_3 (by decide) (by decide) ?_
  refine j_aload_n (pc := 6) C dJ0_isLatin1_aae02_6 rfl 0 rfl ?_
  refine j_sgetC (pc := 7) C hi_lit wd_217 dJ0_isLatin1_aae02_7 ?_
  refine j_if_ne_f (pc := 10) (tgt := 17) C dJ0_isLatin1_aae02_10 (by decide) (by decide) ?_
  refine j_iconst (pc := 13) (v := 1) C dJ0_isLatin1_aae02_13 (by decide) ?_
  refine j_goto (pc := 14) (tgt := 18) C dJ0_isLatin1_aae02_14 (by decide) ?_
  exact j_zret (pc := 18) C hr rfl hk (fun i => [].getD i 0, fun i => [].getD i 0, fun i => [].getD i (fun _ => 0), fun i => [].getD i (fun _ => 0)) rfl trivial [] (by decide) rfl (by decide) (by decide) dJ0_isLatin1_aae02_18
set_option maxHeartbeats 4000000 in
set_option maxRecDepth 100000 in
theorem c_J0_length_8abf5 (l : Launch) (D : DG) (cyC cyI cyJ cyZ cyO : ClassId) (i : Nat) (hi_lit : i < 43) : KK l D (TY cyC cyI cyJ cyZ cyO) yJ0_length_8abf5 cJ0_length_8abf5 1 (some .int) ({ frames := 1, cells := 0, slots := 0, locals := 20 } : Room) 0 0 [.ref (D.2.1 i)] [] (fun u => some (.int (u.2.1 0))) (fun u => (0 ≤ (u.2.1 0).toInt ∧ (u.2.1 0).toInt ≤ 20) ∧ ((u.2.1 0).toInt = ((sL i : Nat) : Int))) (fun u => []) := by
  refine KK.of (lv0 := [(0, .ref (D.2.1 i))]) (by decide) rfl (Nat.le_of_ble_eq_true rfl) ?_
  intro p e s m args below meth c A C hr hk hin
  refine j_aload_n (pc := 0) C dJ0_length_8abf5_0 rfl 0 rfl ?_
  refine j_sgetV (pc := 1) C hi_lit wd_218 dJ0_length_8abf5_1 ?_
  obtain ⟨v_1, ev_1⟩ : ∃ z : Int32, Int32.ofNat (sL i) = z := ⟨_, rfl⟩
  have hlv_1 := sL_bd (i := i) hi_lit
  have hv_1 : v_1.toInt = (sL i : Nat) := by rw [← ev_1]; exact nI_toInt (by omega)
  refine j_sblen (pc := 4) (v := v_1) C hi_lit ev_1 dJ0_length_8abf5_4 ?_
  refine j_aload_n (pc := 5) C dJ0_length_8abf5_5 rfl 0 rfl ?_
  refine j_callT (pc := 6) (As := []) (rest := [.int v_1]) (wr := []) C (c_J0_coder_7d493 l D cyC cyI cyJ cyZ cyO i hi_lit) wd_219 wd_220 wd_221 wd_222 wd_223 ⟨by decide, by decide, rfl⟩ rfl ⟨rfl, rfl, by decide, by decide⟩ ⟨by decide, by decide⟩ [] [] rfl rfl ⟨by decide, by decide, by decide⟩ hi_lit rfl rfl (Nat.le_of_ble_eq_true rfl) dJ0_length_8abf5_6 (fun u_2 hw_3 => ?_)
  refine j_eq (ws2 := []) (pc2 := 9) (lv2 := [(0, .ref (D.2.1 i))]) (st2 := [.int 0, .int v_1]) rfl rfl rfl rfl ?_
  refine j_ishr (pc := 9) (v := v_1) C dJ0_length_8abf5_9 (shr0 _) ?_
  exact j_iret (pc := 10) C hr hk (fun i => [].getD i 0, fun i => [v_1].getD i 0, fun i => [].getD i (fun _ => 0), fun i => [].getD i (fun _ => 0)) rfl (show (0 ≤ (v_1).toInt ∧ (v_1).toInt ≤ 20) ∧ (v_1.toInt = ((sL i : Nat) : Int)) from ⟨by omega, by omega⟩) [] (by decide) rfl (by decide) (by decide) dJ0_length_8abf5_10
set_option maxHeartbeats 4000000 in
set_option maxRecDepth 100000 in
theorem c_J1_charAt_3b067 (l : Launch) (D : DG) (cyC cyI cyJ cyZ cyO : ClassId) (i : Nat) (p0 : Int32) (h_p0 : 0 ≤ (p0).toInt ∧ (p0).toInt ≤ 19) (hi_lit : i < 43) (hls : (p0).toInt < ((sL i : Nat) : Int)) : KK l D (TY cyC cyI cyJ cyZ cyO) yJ1_charAt_3b067 cJ1_charAt_3b067 2 (some .char) ({ frames := 2, cells := 0, slots := 0, locals := 43 } : Room) 0 0 [.ref (D.2.2.1 i), .int p0] [] (fun u => some (.int (u.2.1 0))) (fun u => (0 ≤ (u.2.1 0).toInt ∧ (u.2.1 0).toInt ≤ 255)) (fun u => []) := by
  refine KK.of (lv0 := [(0, .ref (D.2.2.1 i)), (1, .int p0)]) (by decide) rfl (Nat.le_of_ble_eq_true rfl) ?_
  intro p e s m args below meth c A C hr hk hin
  refine j_iload_n (pc := 0) C dJ1_charAt_3b067_0 rfl 1 rfl ?_
  refine j_aload_n (pc := 1) C dJ1_charAt_3b067_1 rfl 0 rfl ?_
  obtain ⟨v_1, ev_1⟩ : ∃ z : Int32, Int32.ofNat (sL i) = z := ⟨_, rfl⟩
  have hlv_1 := sL_bd (i := i) hi_lit
  have hv_1 : v_1.toInt = (sL i : Nat) := by rw [← ev_1]; exact nI_toInt (by omega)
  refine j_sblen (pc := 2) (v := v_1) C hi_lit ev_1 dJ1_charAt_3b067_2 ?_
  refine j_callS (pc := 3) (As := [.int p0, .int v_1]) (rest := []) (wr := []) C (c_J0_checkIndex_df160 l D cyC cyI cyJ cyZ cyO p0 v_1 (by omega) (by omega)) wd_224 wd_220 wd_225 wd_226 ⟨by decide, by decide, rfl⟩ rfl ⟨rfl, rfl, by decide, by decide⟩ ⟨by decide, by decide⟩ [] [] rfl rfl ⟨by decide, by decide, by decide⟩ rfl (Nat.le_of_ble_eq_true rfl) dJ1_charAt_3b067_3 (fun u_2 hw_3 => ?_)
  refine j_eq (ws2 := []) (pc2 := 6) (lv2 := [(0, .ref (D.2.2.1 i)), (1, .int p0)]) (st2 := []) rfl rfl rfl rfl ?_
  refine j_aload_n (pc := 6) C dJ1_charAt_3b067_6 rfl 0 rfl ?_
  refine j_iload_n (pc := 7) C dJ1_charAt_3b067_7 rfl 1 rfl ?_
  obtain ⟨v_4, ev_4⟩ : ∃ z : Int32, sB i (p0).toInt.toNat = z := ⟨_, rfl⟩
  have hv_4 := sB_bd (i := i) (k := (p0).toInt.toNat) hi_lit (by omega); rw [ev_4] at hv_4
  refine j_sbld (pc := 8) (v := v_4) (k := (p0).toInt.toNat) C hi_lit (i_nn (by omega)) rfl (by omega) ev_4 dJ1_charAt_3b067_8 ?_
  refine j_sipush (pc := 9) (v := 255) C dJ1_charAt_3b067_9 (by decide) ?_
  obtain ⟨v_5, ev_5⟩ : ∃ z : Int32, v_4 &&& 255 = z := ⟨_, rfl⟩
  have el_255 : (255 : Int32).toInt = 255 := rfl
  have hv_5 : 0 ≤ v_5.toInt ∧ v_5.toInt ≤ 255 := by rw [← ev_5]; exact andm_r _ 8 (by decide) (by decide)
  refine j_iand (pc := 12) (v := v_5) C dJ1_charAt_3b067_12 ev_5 ?_
  obtain ⟨v_6, ev_6⟩ : ∃ z : Int32, ((v_5 : Int32).toUInt32 % 65536).toInt32 = z := ⟨_, rfl⟩
  have hv_6 : v_6.toInt = v_5.toInt := by rw [← ev_6, i2c_id (by omega) (by omega)]
  refine j_i2c (pc := 13) (v := v_6) C dJ1_charAt_3b067_13 ev_6 ?_
  exact j_zret (pc := 14) C hr (nc_16 (by omega) (by omega)) hk (fun i => [].getD i 0, fun i => [v_6].getD i 0, fun i => [].getD i (fun _ => 0), fun i => [].getD i (fun _ => 0)) rfl (show (0 ≤ (v_6).toInt ∧ (v_6).toInt ≤ 255) from (by omega)) [] (by decide) rfl (by decide) (by decide) dJ1_charAt_3b067_14
set_option maxHeartbeats 4000000 in
set_option maxRecDepth 100000 in
theorem c_J0_charAt_5068e (l : Launch) (D : DG) (cyC cyI cyJ cyZ cyO : ClassId) (i : Nat) (p0 : Int32) (h_p0 : 0 ≤ (p0).toInt ∧ (p0).toInt ≤ 19) (hi_lit : i < 43) (hls : (p0).toInt < ((sL i : Nat) : Int)) : KK l D (TY cyC cyI cyJ cyZ cyO) yJ0_charAt_5068e cJ0_charAt_5068e 2 (some .char) ({ frames := 3, cells := 0, slots := 0, locals := 64 } : Room) 0 0 [.ref (D.2.1 i), .int p0] [] (fun u => some (.int (u.2.1 0))) (fun u => (0 ≤ (u.2.1 0).toInt ∧ (u.2.1 0).toInt ≤ 255)) (fun u => []) := by
  refine KK.of (lv0 := [(0, .ref (D.2.1 i)), (1, .int p0)]) (by decide) rfl (Nat.le_of_ble_eq_true rfl) ?_
  intro p e s m args below meth c A C hr hk hin
  refine j_aload_n (pc := 0) C dJ0_charAt_5068e_0 rfl 0 rfl ?_
  refine j_callT (pc := 1) (As := []) (rest := []) (wr := []) C (c_J0_isLatin1_aae02 l D cyC cyI cyJ cyZ cyO i hi_lit) wd_227 wd_220 wd_228 wd_229 wd_230 ⟨by decide, by decide, rfl⟩ rfl ⟨rfl, rfl, by decide, by decide⟩ ⟨by decide, by decide⟩ [] [] rfl rfl ⟨by decide, by decide, by decide⟩ hi_lit rfl rfl (Nat.le_of_ble_eq_true rfl) dJ0_charAt_5068e_1 (fun u_1 hw_2 => ?_)
  refine j_eq (ws2 := []) (pc2 := 4) (lv2 := [(0, .ref (D.2.1 i)), (1, .int p0)]) (st2 := [.int 1]) rfl rfl rfl rfl ?_
  refine j_if_eq_f (pc := 4) (tgt := 16) C dJ0_charAt_5068e_4 (by decide) (by decide) ?_
  refine j_aload_n (pc := 7) C dJ0_charAt_5068e_7 rfl 0 rfl ?_
  refine j_sgetV (pc := 8) C hi_lit wd_218 dJ0_charAt_5068e_8 ?_
  refine j_iload_n (pc := 11) C dJ0_charAt_5068e_11 rfl 1 rfl ?_
  refine j_callS (pc := 12) (As := [.ref (D.2.2.1 i), .int p0]) (rest := []) (wr := []) C (c_J1_charAt_3b067 l D cyC cyI cyJ cyZ cyO i p0 h_p0 hi_lit hls) wd_231 wd_232 wd_233 wd_234 ⟨by decide, by decide, rfl⟩ rfl ⟨rfl, rfl, by decide, by decide⟩ ⟨by decide, by decide⟩ [] [] rfl rfl ⟨by decide, by decide, by decide⟩ rfl (Nat.le_of_ble_eq_true rfl) dJ0_charAt_5068e_12 (fun u_3 hw_4 => ?_)
  refine j_eq (ws2 := []) (pc2 := 15) (lv2 := [(0, .ref (D.2.1 i)), (1, .int p0)]) (st2 := [.int (u_3.2.1 0)]) rfl rfl rfl rfl ?_
  have hw_4_0 : 0 ≤ (u_3.2.1 0).toInt ∧ (u_3.2.1 0).toInt ≤ 255 := hw_4
  exact j_zret (pc := 15) C hr (nc_16 (by omega) (by omega)) hk (fun i => [].getD i 0, fun i => [(u_3.2.1 0)].getD i 0, fun i => [].getD i (fun _ => 0), fun i => [].getD i (fun _ => 0)) rfl (show (0 ≤ ((u_3.2.1 0)).toInt ∧ ((u_3.2.1 0)).toInt ≤ 255) from (hw_4_0)) [] (by decide) rfl (by decide) (by decide) dJ0_charAt_5068e_15
set_option maxHeartbeats 4000000 in
set_option maxRecDepth 100000 in
theorem c_J1_canEncode_9a6ad (l : Launch) (D : DG) (cyC cyI cyJ cyZ cyO : ClassId) (p0 : Int32) : KK l D (TY cyC cyI cyJ cyZ cyO) yJ1_canEncode_9a6ad cJ1_canEncode_9a6ad 1 (some .boolean) ({ frames := 0, cells := 0, slots := 0, locals := 0 } : Room) 0 0 [.int p0] [] (fun u => some (.int (u.2.1 0))) (fun u => (0 ≤ (u.2.1 0).toInt ∧ (u.2.1 0).toInt ≤ 1)) (fun u => []) := by
  refine KK.of (lv0 := [(0, .int p0)]) (by decide) rfl (Nat.le_of_ble_eq_true rfl) ?_
  intro p e s m args below meth c A C hr hk hin
  refine j_iload_n (pc := 0) C dJ1_canEncode_9a6ad_0 rfl 0 rfl ?_
  refine j_if_lt (pc := 1) (tgt := 15) C dJ1_canEncode_9a6ad_1 (by decide) (fun c_1 => ?_) (fun c_1 => ?_)
  · skip
    have el_0 : (0 : Int32).toInt = 0 := rfl
    rw [i_lt] at c_1
    refine j_iconst (pc := 15) (v := 0) C dJ1_canEncode_9a6ad_15 (by decide) ?_
    have el_0 : (0 : Int32).toInt = 0 := rfl
    exact j_zret (pc := 16) C hr rfl hk (fun i => [].getD i 0, fun i => [0].getD i 0, fun i => [].getD i (fun _ => 0), fun i => [].getD i (fun _ => 0)) rfl (show (0 ≤ ((0 : Int32)).toInt ∧ ((0 : Int32)).toInt ≤ 1) from (by omega)) [] (by decide) rfl (by decide) (by decide) dJ1_canEncode_9a6ad_16
  · skip
    have el_0 : (0 : Int32).toInt = 0 := rfl
    rw [i_lt] at c_1
    refine j_iload_n (pc := 4) C dJ1_canEncode_9a6ad_4 rfl 0 rfl ?_
    refine j_sipush (pc := 5) (v := 255) C dJ1_canEncode_9a6ad_5 (by decide) ?_
    refine j_icmp_gt (pc := 8) (tgt := 15) C dJ1_canEncode_9a6ad_8 (by decide) (fun c_2 => ?_) (fun c_2 => ?_)
    · skip
      have el_255 : (255 : Int32).toInt = 255 := rfl
      rw [i_lt] at c_2
      refine j_iconst (pc := 15) (v := 0) C dJ1_canEncode_9a6ad_15 (by decide) ?_
      have el_0 : (0 : Int32).toInt = 0 := rfl
      exact j_zret (pc := 16) C hr rfl hk (fun i => [].getD i 0, fun i => [0].getD i 0, fun i => [].getD i (fun _ => 0), fun i => [].getD i (fun _ => 0)) rfl (show (0 ≤ ((0 : Int32)).toInt ∧ ((0 : Int32)).toInt ≤ 1) from (by omega)) [] (by decide) rfl (by decide) (by decide) dJ1_canEncode_9a6ad_16
    · skip
      have el_255 : (255 : Int32).toInt = 255 := rfl
      rw [i_lt] at c_2
      refine j_iconst (pc := 11) (v := 1) C dJ1_canEncode_9a6ad_11 (by decide) ?_
      refine j_goto (pc := 12) (tgt := 16) C dJ1_canEncode_9a6ad_12 (by decide) ?_
      have el_1 : (1 : Int32).toInt = 1 := rfl
      exact j_zret (pc := 16) C hr rfl hk (fun i => [].getD i 0, fun i => [1].getD i 0, fun i => [].getD i (fun _ => 0), fun i => [].getD i (fun _ => 0)) rfl (show (0 ≤ ((1 : Int32)).toInt ∧ ((1 : Int32)).toInt ≤ 1) from (by omega)) [] (by decide) rfl (by decide) (by decide) dJ1_canEncode_9a6ad_16
set_option maxHeartbeats 4000000 in
set_option maxRecDepth 100000 in
theorem c_J1_indexOfChar_4cfef (l : Launch) (D : DG) (cyC cyI cyJ cyZ cyO : ClassId) (i : Nat) (p0 : Int32) (p1 : Int32) (p2 : Int32) (h_p1 : 0 ≤ (p1).toInt ∧ (p1).toInt ≤ 20) (h_p2 : 0 ≤ (p2).toInt ∧ (p2).toInt ≤ 20) (hi_lit : i < 43) (hls : (p2).toInt ≤ ((sL i : Nat) : Int)) : KK l D (TY cyC cyI cyJ cyZ cyO) yJ1_indexOfChar_4cfef cJ1_indexOfChar_4cfef 6 (some .int) ({ frames := 0, cells := 0, slots := 0, locals := 0 } : Room) 0 0 [.ref (D.2.2.1 i), .int p0, .int p1, .int p2] [] (fun u => some (.int (u.2.1 0))) (fun u => (-1 ≤ (u.2.1 0).toInt ∧ (u.2.1 0).toInt ≤ 20)) (fun u => []) := by
  refine KK.of (lv0 := [(0, .ref (D.2.2.1 i)), (1, .int p0), (2, .int p1), (3, .int p2)]) (by decide) rfl (Nat.le_of_ble_eq_true rfl) ?_
  intro p e s m args below meth c A C hr hk hin
  refine j_iload_n (pc := 0) C dJ1_indexOfChar_4cfef_0 rfl 1 rfl ?_
  refine j_i2b (pc := 1) C dJ1_indexOfChar_4cfef_1 rfl ?_
  refine j_istore (pc := 2) (lv' := [(4, .int ((p0).toInt8.toInt32)), (0, .ref (D.2.2.1 i)), (1, .int p0), (2, .int p1), (3, .int p2)]) C dJ1_indexOfChar_4cfef_2 (by decide) rfl ?_
  refine j_iload_n (pc := 4) C dJ1_indexOfChar_4cfef_4 rfl 3 rfl ?_
  refine j_istore (pc := 5) (lv' := [(5, .int p1), (4, .int ((p0).toInt8.toInt32)), (0, .ref (D.2.2.1 i)), (1, .int p0), (2, .int p1), (3, .int p2)]) C dJ1_indexOfChar_4cfef_5 (by decide) rfl ?_
  have loop_1 : ∀ (k_1 : Nat) (x1_5 : Int32), (0 ≤ (x1_5).toInt ∧ (x1_5).toInt ≤ 20) → (20 - x1_5.toInt).toNat < k_1 → J p l e ({ frames := 0, cells := 0, slots := 0, locals := 0 } : Room) s m args below meth c D A 6 0 0 (QX below D (TY cyC cyI cyJ cyZ cyO) A (fun u => some (.int (u.2.1 0))) (fun u => (-1 ≤ (u.2.1 0).toInt ∧ (u.2.1 0).toInt ≤ 20)) (fun u => []) args s 0 0) [] 7 [(5, .int x1_5), (4, .int ((p0).toInt8.toInt32)), (0, .ref (D.2.2.1 i)), (1, .int p0), (2, .int p1), (3, .int p2)] [] := by
    intro k_1
    induction k_1 with
    | zero =>
      intro x1_5 hi_1_0 hm_1
      exact absurd hm_1 (Nat.not_lt_zero _)
    | succ k_1 ih_1 =>
      intro x1_5 hi_1_0 hm_1
      refine j_iload (pc := 7) C dJ1_indexOfChar_4cfef_7 0 rfl ?_
      refine j_iload_n (pc := 9) C dJ1_indexOfChar_4cfef_9 rfl 5 rfl ?_
      refine j_icmp_ge (pc := 10) (tgt := 31) C dJ1_indexOfChar_4cfef_10 (by decide) (fun c_2 => ?_) (fun c_2 => ?_)
      · skip
        rw [i_le] at c_2
        refine j_iconst (pc := 31) (v := (-1)) C dJ1_indexOfChar_4cfef_31 (by decide) ?_
        have el_m1 : ((-1) : Int32).toInt = (-1) := rfl
        exact j_iret (pc := 32) C hr hk (fun i => [].getD i 0, fun i => [(-1)].getD i 0, fun i => [].getD i (fun _ => 0), fun i => [].getD i (fun _ => 0)) rfl (show (-1 ≤ (((-1) : Int32)).toInt ∧ (((-1) : Int32)).toInt ≤ 20) from (by omega)) [] (by decide) rfl (by decide) (by decide) dJ1_indexOfChar_4cfef_32
      · skip
        rw [i_le] at c_2
        refine j_aload_n (pc := 13) C dJ1_indexOfChar_4cfef_13 rfl 2 rfl ?_
        refine j_iload (pc := 14) C dJ1_indexOfChar_4cfef_14 0 rfl ?_
        obtain ⟨v_3, ev_3⟩ : ∃ z : Int32, sB i (x1_5).toInt.toNat = z := ⟨_, rfl⟩
        have hv_3 := sB_bd (i := i) (k := (x1_5).toInt.toNat) hi_lit (by omega); rw [ev_3] at hv_3
        refine j_sbld (pc := 16) (v := v_3) (k := (x1_5).toInt.toNat) C hi_lit (i_nn (by omega)) rfl (by omega) ev_3 dJ1_indexOfChar_4cfef_16 ?_
        refine j_iload (pc := 17) C dJ1_indexOfChar_4cfef_17 1 rfl ?_
        refine j_icmp_ne (pc := 19) (tgt := 25) C dJ1_indexOfChar_4cfef_19 (by decide) (fun c_4 => ?_) (fun c_4 => ?_)
        · skip
          rw [i_eq] at c_4
          obtain ⟨v_5, ev_5⟩ : ∃ z : Int32, x1_5 + 1 = z := ⟨_, rfl⟩
          have el_1 : (1 : Int32).toInt = 1 := rfl
          have hv_5 : v_5.toInt = x1_5.toInt + (1 : Int32).toInt := by rw [← ev_5]; exact fb_addI (by omega) (by omega)
          refine j_iinc (pc := 25) (v := v_5) (lv' := [(5, .int v_5), (4, .int ((p0).toInt8.toInt32)), (0, .ref (D.2.2.1 i)), (1, .int p0), (2, .int p1), (3, .int p2)]) C dJ1_indexOfChar_4cfef_25 0 rfl ev_5 (by decide) rfl ?_
          refine j_goto (pc := 28) (tgt := 7) C dJ1_indexOfChar_4cfef_28 (by decide) ?_
          exact j_lv [0, 1, 2, 3, 4, 5] rfl (ih_1 v_5 (by omega) (by omega))
        · skip
          rw [i_eq] at c_4
          refine j_iload (pc := 22) C dJ1_indexOfChar_4cfef_22 0 rfl ?_
          exact j_iret (pc := 24) C hr hk (fun i => [].getD i 0, fun i => [x1_5].getD i 0, fun i => [].getD i (fun _ => 0), fun i => [].getD i (fun _ => 0)) rfl (show (-1 ≤ (x1_5).toInt ∧ (x1_5).toInt ≤ 20) from (by omega)) [] (by decide) rfl (by decide) (by decide) dJ1_indexOfChar_4cfef_24
  exact j_lv [0, 1, 2, 3, 4, 5] rfl (loop_1 4096 p1 h_p1 (by omega))
set_option maxHeartbeats 4000000 in
set_option maxRecDepth 100000 in
theorem c_J1_indexOf_4cfef (l : Launch) (D : DG) (cyC cyI cyJ cyZ cyO : ClassId) (i : Nat) (p0 : Int32) (p1 : Int32) (p2 : Int32) (h_p1 : 0 ≤ (p1).toInt ∧ (p1).toInt ≤ 0) (h_p2 : 0 ≤ (p2).toInt ∧ (p2).toInt ≤ 20) (hi_lit : i < 43) : KK l D (TY cyC cyI cyJ cyZ cyO) yJ1_indexOf_4cfef cJ1_indexOf_4cfef 4 (some .int) ({ frames := 1, cells := 0, slots := 0, locals := 25 } : Room) 0 0 [.ref (D.2.2.1 i), .int p0, .int p1, .int p2] [] (fun u => some (.int (u.2.1 0))) (fun u => (-1 ≤ (u.2.1 0).toInt ∧ (u.2.1 0).toInt ≤ 20)) (fun u => []) := by
  refine KK.of (lv0 := [(0, .ref (D.2.2.1 i)), (1, .int p0), (2, .int p1), (3, .int p2)]) (by decide) rfl (Nat.le_of_ble_eq_true rfl) ?_
  intro p e s m args below meth c A C hr hk hin
  refine j_iload_n (pc := 0) C dJ1_indexOf_4cfef_0 rfl 1 rfl ?_
  refine j_callS (pc := 1) (As := [.int p0]) (rest := []) (wr := []) C (c_J1_canEncode_9a6ad l D cyC cyI cyJ cyZ cyO p0) wd_235 wd_232 wd_236 wd_237 ⟨by decide, by decide, rfl⟩ rfl ⟨rfl, rfl, by decide, by decide⟩ ⟨by decide, by decide⟩ [] [] rfl rfl ⟨by decide, by decide, by decide⟩ rfl (Nat.le_of_ble_eq_true rfl) dJ1_indexOf_4cfef_1 (fun u_1 hw_2 => ?_)
  refine j_eq (ws2 := []) (pc2 := 4) (lv2 := [(0, .ref (D.2.2.1 i)), (1, .int p0), (2, .int p1), (3, .int p2)]) (st2 := [.int (u_1.2.1 0)]) rfl rfl rfl rfl ?_
  have hw_2_0 : 0 ≤ (u_1.2.1 0).toInt ∧ (u_1.2.1 0).toInt ≤ 1 := hw_2
  refine j_if_ne (pc := 4) (tgt := 9) C dJ1_indexOf_4cfef_4 (by decide) (fun c_3 => ?_) (fun c_3 => ?_)
  · skip
    have el_0 : (0 : Int32).toInt = 0 := rfl
    rw [i_eq] at c_3
    have k0c_3 : ((u_1.2.1 0)).toInt = 1 := by omega
    refine j_iload_n (pc := 9) C dJ1_indexOf_4cfef_9 rfl 2 rfl ?_
    refine j_iconst (pc := 10) (v := 0) C dJ1_indexOf_4cfef_10 (by decide) ?_
    have el_0 : (0 : Int32).toInt = 0 := rfl
    obtain ⟨v_4, ev_4⟩ : ∃ z : Int32, (if (p1 : Int32) < 0 then 0 else p1) = z := ⟨_, rfl⟩
    have hv_4 : v_4.toInt = max p1.toInt (0 : Int32).toInt := by rw [← ev_4]; exact mmax_I _ _
    refine j_mmax (pc := 11) (v := v_4) C wd_238 wd_5 wd_6 wd_7 (by decide) (Nat.le_of_ble_eq_true rfl) (by decide) (by decide) ev_4 dJ1_indexOf_4cfef_11 ?_
    refine j_istore_n (pc := 14) (lv' := [(2, .int v_4), (0, .ref (D.2.2.1 i)), (1, .int p0), (3, .int p2)]) C dJ1_indexOf_4cfef_14 rfl (by decide) rfl ?_
    refine j_iload_n (pc := 15) C dJ1_indexOf_4cfef_15 rfl 3 rfl ?_
    refine j_aload_n (pc := 16) C dJ1_indexOf_4cfef_16 rfl 1 rfl ?_
    obtain ⟨v_5, ev_5⟩ : ∃ z : Int32, Int32.ofNat (sL i) = z := ⟨_, rfl⟩
    have hlv_5 := sL_bd (i := i) hi_lit
    have hv_5 : v_5.toInt = (sL i : Nat) := by rw [← ev_5]; exact nI_toInt (by omega)
    refine j_sblen (pc := 17) (v := v_5) C hi_lit ev_5 dJ1_indexOf_4cfef_17 ?_
    obtain ⟨v_6, ev_6⟩ : ∃ z : Int32, (if (v_5 : Int32) < p2 then v_5 else p2) = z := ⟨_, rfl⟩
    have hv_6 : v_6.toInt = min p2.toInt v_5.toInt := by rw [← ev_6]; exact mmin_I _ _
    refine j_mmin (pc := 18) (v := v_6) C wd_239 wd_139 wd_6 wd_140 (by decide) (Nat.le_of_ble_eq_true rfl) (by decide) (by decide) ev_6 dJ1_indexOf_4cfef_18 ?_
    refine j_istore_n (pc := 21) (lv' := [(3, .int v_6), (2, .int v_4), (0, .ref (D.2.2.1 i)), (1, .int p0)]) C dJ1_indexOf_4cfef_21 rfl (by decide) rfl ?_
    refine j_iload_n (pc := 22) C dJ1_indexOf_4cfef_22 rfl 1 rfl ?_
    refine j_iload_n (pc := 23) C dJ1_indexOf_4cfef_23 rfl 0 rfl ?_
    refine j_icmp_lt (pc := 24) (tgt := 29) C dJ1_indexOf_4cfef_24 (by decide) (fun c_7 => ?_) (fun c_7 => ?_)
    · skip
      rw [i_lt] at c_7
      refine j_aload_n (pc := 29) C dJ1_indexOf_4cfef_29 rfl 2 rfl ?_
      refine j_iload_n (pc := 30) C dJ1_indexOf_4cfef_30 rfl 3 rfl ?_
      refine j_iload_n (pc := 31) C dJ1_indexOf_4cfef_31 rfl 1 rfl ?_
      refine j_iload_n (pc := 32) C dJ1_indexOf_4cfef_32 rfl 0 rfl ?_
      refine j_callS (pc := 33) (As := [.ref (D.2.2.1 i), .int p0, .int v_4, .int v_6]) (rest := []) (wr := []) C (c_J1_indexOfChar_4cfef l D cyC cyI cyJ cyZ cyO i p0 v_4 v_6 (by omega) (by omega) hi_lit (by omega)) wd_240 wd_232 wd_241 wd_242 ⟨by decide, by decide, rfl⟩ rfl ⟨rfl, rfl, by decide, by decide⟩ ⟨by decide, by decide⟩ [] [] rfl rfl ⟨by decide, by decide, by decide⟩ rfl (Nat.le_of_ble_eq_true rfl) dJ1_indexOf_4cfef_33 (fun u_8 hw_9 => ?_)
      refine j_eq (ws2 := []) (pc2 := 36) (lv2 := [(3, .int v_6), (2, .int v_4), (0, .ref (D.2.2.1 i)), (1, .int p0)]) (st2 := [.int (u_8.2.1 0)]) rfl rfl rfl rfl ?_
      have hw_9_0 : -1 ≤ (u_8.2.1 0).toInt ∧ (u_8.2.1 0).toInt ≤ 20 := hw_9
      exact j_iret (pc := 36) C hr hk (fun i => [].getD i 0, fun i => [(u_8.2.1 0)].getD i 0, fun i => [].getD i (fun _ => 0), fun i => [].getD i (fun _ => 0)) rfl (show (-1 ≤ ((u_8.2.1 0)).toInt ∧ ((u_8.2.1 0)).toInt ≤ 20) from (hw_9_0)) [] (by decide) rfl (by decide) (by decide) dJ1_indexOf_4cfef_36
    · skip
      rw [i_lt] at c_7
      have k1c_7 : v_6.toInt = 0 := by omega
      refine j_iconst (pc := 27) (v := (-1)) C dJ1_indexOf_4cfef_27 (by decide) ?_
      have el_m1 : ((-1) : Int32).toInt = (-1) := rfl
      exact j_iret (pc := 28) C hr hk (fun i => [].getD i 0, fun i => [(-1)].getD i 0, fun i => [].getD i (fun _ => 0), fun i => [].getD i (fun _ => 0)) rfl (show (-1 ≤ (((-1) : Int32)).toInt ∧ (((-1) : Int32)).toInt ≤ 20) from (by omega)) [] (by decide) rfl (by decide) (by decide) dJ1_indexOf_4cfef_28
  · skip
    have el_0 : (0 : Int32).toInt = 0 := rfl
    rw [i_eq] at c_3
    refine j_iconst (pc := 7) (v := (-1)) C dJ1_indexOf_4cfef_7 (by decide) ?_
    have el_m1 : ((-1) : Int32).toInt = (-1) := rfl
    exact j_iret (pc := 8) C hr hk (fun i => [].getD i 0, fun i => [(-1)].getD i 0, fun i => [].getD i (fun _ => 0), fun i => [].getD i (fun _ => 0)) rfl (show (-1 ≤ (((-1) : Int32)).toInt ∧ (((-1) : Int32)).toInt ≤ 20) from (by omega)) [] (by decide) rfl (by decide) (by decide) dJ1_indexOf_4cfef_8
set_option maxHeartbeats 4000000 in
set_option maxRecDepth 100000 in
theorem c_J0_indexOf_7cf53 (l : Launch) (D : DG) (cyC cyI cyJ cyZ cyO : ClassId) (i : Nat) (p0 : Int32) (p1 : Int32) (h_p1 : 0 ≤ (p1).toInt ∧ (p1).toInt ≤ 0) (hi_lit : i < 43) : KK l D (TY cyC cyI cyJ cyZ cyO) yJ0_indexOf_7cf53 cJ0_indexOf_7cf53 3 (some .int) ({ frames := 2, cells := 0, slots := 0, locals := 48 } : Room) 0 0 [.ref (D.2.1 i), .int p0, .int p1] [] (fun u => some (.int (u.2.1 0))) (fun u => (-1 ≤ (u.2.1 0).toInt ∧ (u.2.1 0).toInt ≤ 20)) (fun u => []) := by
  refine KK.of (lv0 := [(0, .ref (D.2.1 i)), (1, .int p0), (2, .int p1)]) (by decide) rfl (Nat.le_of_ble_eq_true rfl) ?_
  intro p e s m args below meth c A C hr hk hin
  refine j_aload_n (pc := 0) C dJ0_indexOf_7cf53_0 rfl 0 rfl ?_
  refine j_callT (pc := 1) (As := []) (rest := []) (wr := []) C (c_J0_isLatin1_aae02 l D cyC cyI cyJ cyZ cyO i hi_lit) wd_227 wd_220 wd_228 wd_229 wd_230 ⟨by decide, by decide, rfl⟩ rfl ⟨rfl, rfl, by decide, by decide⟩ ⟨by decide, by decide⟩ [] [] rfl rfl ⟨by decide, by decide, by decide⟩ hi_lit rfl rfl (Nat.le_of_ble_eq_true rfl) dJ0_indexOf_7cf53_1 (fun u_1 hw_2 => ?_)
  refine j_eq (ws2 := []) (pc2 := 4) (lv2 := [(0, .ref (D.2.1 i)), (1, .int p0), (2, .int p1)]) (st2 := [.int 1]) rfl rfl rfl rfl ?_
  refine j_if_eq_f (pc := 4) (tgt := 23) C dJ0_indexOf_7cf53_4 (by decide) (by decide) ?_
  refine j_aload_n (pc := 7) C dJ0_indexOf_7cf53_7 rfl 0 rfl ?_
  refine j_sgetV (pc := 8) C hi_lit wd_218 dJ0_indexOf_7cf53_8 ?_
  refine j_iload_n (pc := 11) C dJ0_indexOf_7cf53_11 rfl 1 rfl ?_
  refine j_iload_n (pc := 12) C dJ0_indexOf_7cf53_12 rfl 2 rfl ?_
  refine j_aload_n (pc := 13) C dJ0_indexOf_7cf53_13 rfl 0 rfl ?_
  refine j_callT (pc := 14) (As := []) (rest := [.int p1, .int p0, .ref (D.2.2.1 i)]) (wr := []) C (c_J0_length_8abf5 l D cyC cyI cyJ cyZ cyO i hi_lit) wd_243 wd_220 wd_244 wd_245 wd_246 ⟨by decide, by decide, rfl⟩ rfl ⟨rfl, rfl, by decide, by decide⟩ ⟨by decide, by decide⟩ [] [] rfl rfl ⟨by decide, by decide, by decide⟩ hi_lit rfl rfl (Nat.le_of_ble_eq_true rfl) dJ0_indexOf_7cf53_14 (fun u_3 hw_4 => ?_)
  refine j_eq (ws2 := []) (pc2 := 17) (lv2 := [(0, .ref (D.2.1 i)), (1, .int p0), (2, .int p1)]) (st2 := [.int (u_3.2.1 0), .int p1, .int p0, .ref (D.2.2.1 i)]) rfl rfl rfl rfl ?_
  obtain ⟨hw_4_0, hw_4_1⟩ := hw_4
  refine j_callS (pc := 17) (As := [.ref (D.2.2.1 i), .int p0, .int p1, .int (u_3.2.1 0)]) (rest := []) (wr := []) C (c_J1_indexOf_4cfef l D cyC cyI cyJ cyZ cyO i p0 p1 (u_3.2.1 0) h_p1 hw_4_0 hi_lit) wd_247 wd_232 wd_248 wd_249 ⟨by decide, by decide, rfl⟩ rfl ⟨rfl, rfl, by decide, by decide⟩ ⟨by decide, by decide⟩ [] [] rfl rfl ⟨by decide, by decide, by decide⟩ rfl (Nat.le_of_ble_eq_true rfl) dJ0_indexOf_7cf53_17 (fun u_5 hw_6 => ?_)
  refine j_eq (ws2 := []) (pc2 := 20) (lv2 := [(0, .ref (D.2.1 i)), (1, .int p0), (2, .int p1)]) (st2 := [.int (u_5.2.1 0)]) rfl rfl rfl rfl ?_
  have hw_6_0 : -1 ≤ (u_5.2.1 0).toInt ∧ (u_5.2.1 0).toInt ≤ 20 := hw_6
  refine j_goto (pc := 20) (tgt := 36) C dJ0_indexOf_7cf53_20 (by decide) ?_
  exact j_iret (pc := 36) C hr hk (fun i => [].getD i 0, fun i => [(u_5.2.1 0)].getD i 0, fun i => [].getD i (fun _ => 0), fun i => [].getD i (fun _ => 0)) rfl (show (-1 ≤ ((u_5.2.1 0)).toInt ∧ ((u_5.2.1 0)).toInt ≤ 20) from (hw_6_0)) [] (by decide) rfl (by decide) (by decide) dJ0_indexOf_7cf53_36
set_option maxHeartbeats 4000000 in
set_option maxRecDepth 100000 in
theorem c_J0_indexOf_0f7a4 (l : Launch) (D : DG) (cyC cyI cyJ cyZ cyO : ClassId) (i : Nat) (p0 : Int32) (hi_lit : i < 43) : KK l D (TY cyC cyI cyJ cyZ cyO) yJ0_indexOf_0f7a4 cJ0_indexOf_0f7a4 2 (some .int) ({ frames := 3, cells := 0, slots := 0, locals := 70 } : Room) 0 0 [.ref (D.2.1 i), .int p0] [] (fun u => some (.int (u.2.1 0))) (fun u => (-1 ≤ (u.2.1 0).toInt ∧ (u.2.1 0).toInt ≤ 20)) (fun u => []) := by
  refine KK.of (lv0 := [(0, .ref (D.2.1 i)), (1, .int p0)]) (by decide) rfl (Nat.le_of_ble_eq_true rfl) ?_
  intro p e s m args below meth c A C hr hk hin
  refine j_aload_n (pc := 0) C dJ0_indexOf_0f7a4_0 rfl 0 rfl ?_
  refine j_iload_n (pc := 1) C dJ0_indexOf_0f7a4_1 rfl 1 rfl ?_
  refine j_iconst (pc := 2) (v := 0) C dJ0_indexOf_0f7a4_2 (by decide) ?_
  refine j_callT (pc := 3) (As := [.int p0, .int 0]) (rest := []) (wr := []) C (c_J0_indexOf_7cf53 l D cyC cyI cyJ cyZ cyO i p0 0 (by decide) hi_lit) wd_250 wd_220 wd_251 wd_252 wd_253 ⟨by decide, by decide, rfl⟩ rfl ⟨rfl, rfl, by decide, by decide⟩ ⟨by decide, by decide⟩ [] [] rfl rfl ⟨by decide, by decide, by decide⟩ hi_lit rfl rfl (Nat.le_of_ble_eq_true rfl) dJ0_indexOf_0f7a4_3 (fun u_1 hw_2 => ?_)
  refine j_eq (ws2 := []) (pc2 := 6) (lv2 := [(0, .ref (D.2.1 i)), (1, .int p0)]) (st2 := [.int (u_1.2.1 0)]) rfl rfl rfl rfl ?_
  have hw_2_0 : -1 ≤ (u_1.2.1 0).toInt ∧ (u_1.2.1 0).toInt ≤ 20 := hw_2
  exact j_iret (pc := 6) C hr hk (fun i => [].getD i 0, fun i => [(u_1.2.1 0)].getD i 0, fun i => [].getD i (fun _ => 0), fun i => [].getD i (fun _ => 0)) rfl (show (-1 ≤ ((u_1.2.1 0)).toInt ∧ ((u_1.2.1 0)).toInt ≤ 20) from (hw_2_0)) [] (by decide) rfl (by decide) (by decide) dJ0_indexOf_0f7a4_6
theorem wd_254 : Cond.fieldLink RX8 15 "BowlShelf$Tape" "length" "I" ∈ WALL := wl_in (by decide +kernel) (by decide +kernel)
theorem wd_255 : Cond.fieldLink RX8 9 "BowlShelf$Tape" "text" "[C" ∈ WALL := wl_in (by decide +kernel) (by decide +kernel)
theorem wd_256 : Cond.fieldLink RX8 19 "BowlShelf$Tape" "next" "I" ∈ WALL := wl_in (by decide +kernel) (by decide +kernel)
theorem wd_257 : Cond.code yX8_pastBlanks cX8_pastBlanks 3 (some .int) ∈ WALL := wl_in (by decide +kernel) (by decide +kernel)
theorem wd_258 : Cond.initialized RX8 ∈ WALL := wl_in (by decide +kernel) (by decide +kernel)
theorem wd_259 : Cond.methodLink RX8 25 yX8_pastBlanks ∈ WALL := wl_in (by decide +kernel) (by decide +kernel)
theorem wd_260 : Cond.instanceMethod yX8_pastBlanks ∈ WALL := wl_in (by decide +kernel) (by decide +kernel)
theorem wd_261 : Cond.selects RX8 yX8_pastBlanks yX8_pastBlanks ∈ WALL := wl_in (by decide +kernel) (by decide +kernel)
theorem wd_262 : Cond.fieldLink RX8 29 "BowlShelf$Tape" "place" "I" ∈ WALL := wl_in (by decide +kernel) (by decide +kernel)
theorem wd_263 : Cond.code yX8_pastRun cX8_pastRun 5 (some .int) ∈ WALL := wl_in (by decide +kernel) (by decide +kernel)
theorem wd_264 : Cond.methodLink RX8 32 yX8_pastRun ∈ WALL := wl_in (by decide +kernel) (by decide +kernel)
theorem wd_265 : Cond.instanceMethod yX8_pastRun ∈ WALL := wl_in (by decide +kernel) (by decide +kernel)
theorem wd_266 : Cond.selects RX8 yX8_pastRun yX8_pastRun ∈ WALL := wl_in (by decide +kernel) (by decide +kernel)
theorem wd_267 : Cond.code yJ0_indexOf_0f7a4 cJ0_indexOf_0f7a4 2 (some .int) ∈ WALL := wl_in (by decide +kernel) (by decide +kernel)
theorem wd_268 : Cond.methodLink RX8 48 yJ0_indexOf_0f7a4 ∈ WALL := wl_in (by decide +kernel) (by decide +kernel)
theorem wd_269 : Cond.instanceMethod yJ0_indexOf_0f7a4 ∈ WALL := wl_in (by decide +kernel) (by decide +kernel)
theorem wd_270 : Cond.selects RJ0 yJ0_indexOf_0f7a4 yJ0_indexOf_0f7a4 ∈ WALL := wl_in (by decide +kernel) (by decide +kernel)
theorem wd_271 : Cond.fieldLink RX8 36 "BowlShelf$Tape" "kind" "I" ∈ WALL := wl_in (by decide +kernel) (by decide +kernel)
theorem wd_272 : Cond.fieldLink RX8 43 "BowlShelf$Tape" "number" "I" ∈ WALL := wl_in (by decide +kernel) (by decide +kernel)
theorem wd_273 : Cond.code yX8_valueOf cX8_valueOf 5 (some .int) ∈ WALL := wl_in (by decide +kernel) (by decide +kernel)
theorem wd_274 : Cond.methodLink RX8 39 yX8_valueOf ∈ WALL := wl_in (by decide +kernel) (by decide +kernel)
theorem wd_275 : Cond.instanceMethod yX8_valueOf ∈ WALL := wl_in (by decide +kernel) (by decide +kernel)
theorem wd_276 : Cond.selects RX8 yX8_valueOf yX8_valueOf ∈ WALL := wl_in (by decide +kernel) (by decide +kernel)
theorem wd_277 : Cond.code yX8_advance cX8_advance 3 none ∈ WALL := wl_in (by decide +kernel) (by decide +kernel)
theorem wd_278 : Cond.methodLink RX8 22 yX8_advance ∈ WALL := wl_in (by decide +kernel) (by decide +kernel)
theorem wd_279 : Cond.instanceMethod yX8_advance ∈ WALL := wl_in (by decide +kernel) (by decide +kernel)
theorem wd_280 : Cond.selects RX8 yX8_advance yX8_advance ∈ WALL := wl_in (by decide +kernel) (by decide +kernel)
theorem wd_281 : Cond.methodLink RX8 53 yJ0_length_8abf5 ∈ WALL := wl_in (by decide +kernel) (by decide +kernel)
theorem wd_282 : Cond.code yJ0_charAt_5068e cJ0_charAt_5068e 2 (some .char) ∈ WALL := wl_in (by decide +kernel) (by decide +kernel)
theorem wd_283 : Cond.methodLink RX8 56 yJ0_charAt_5068e ∈ WALL := wl_in (by decide +kernel) (by decide +kernel)
theorem wd_284 : Cond.instanceMethod yJ0_charAt_5068e ∈ WALL := wl_in (by decide +kernel) (by decide +kernel)
theorem wd_285 : Cond.selects RJ0 yJ0_charAt_5068e yJ0_charAt_5068e ∈ WALL := wl_in (by decide +kernel) (by decide +kernel)
theorem wd_286 : Cond.constantLong RX8 60 (32) ∈ WALL := wl_in (by decide +kernel) (by decide +kernel)
theorem wd_287 : Cond.constantLong RX8 62 (97) ∈ WALL := wl_in (by decide +kernel) (by decide +kernel)
theorem wd_288 : Cond.code yX8_isWord cX8_isWord 3 (some .boolean) ∈ WALL := wl_in (by decide +kernel) (by decide +kernel)
theorem wd_289 : Cond.methodLink RX8 66 yX8_isWord ∈ WALL := wl_in (by decide +kernel) (by decide +kernel)
theorem wd_290 : Cond.instanceMethod yX8_isWord ∈ WALL := wl_in (by decide +kernel) (by decide +kernel)
theorem wd_291 : Cond.selects RX8 yX8_isWord yX8_isWord ∈ WALL := wl_in (by decide +kernel) (by decide +kernel)
theorem dX8_add_0 : decode cX8_add 0 = .ok (.iload_n 1, 1) := by decide +kernel
theorem dX8_add_1 : decode cX8_add 1 = .ok (.bipush 10, 2) := by decide +kernel
theorem dX8_add_3 : decode cX8_add 3 = .ok (.if_icmp .eq 15, 3) := by decide +kernel
theorem dX8_add_6 : decode cX8_add 6 = .ok (.iload_n 1, 1) := by decide +kernel
theorem dX8_add_7 : decode cX8_add 7 = .ok (.bipush 32, 2) := by decide +kernel
theorem dX8_add_9 : decode cX8_add 9 = .ok (.if_icmp .lt 13, 3) := by decide +kernel
theorem dX8_add_12 : decode cX8_add 12 = .ok (.iload_n 1, 1) := by decide +kernel
theorem dX8_add_13 : decode cX8_add 13 = .ok (.bipush 126, 2) := by decide +kernel
theorem dX8_add_15 : decode cX8_add 15 = .ok (.if_icmp .gt 7, 3) := by decide +kernel
theorem dX8_add_18 : decode cX8_add 18 = .ok (.iconst 1, 1) := by decide +kernel
theorem dX8_add_19 : decode cX8_add 19 = .ok (.goto 4, 3) := by decide +kernel
theorem dX8_add_22 : decode cX8_add 22 = .ok (.iconst 0, 1) := by decide +kernel
theorem dX8_add_23 : decode cX8_add 23 = .ok (.istore_n 2, 1) := by decide +kernel
theorem dX8_add_24 : decode cX8_add 24 = .ok (.iload_n 2, 1) := by decide +kernel
theorem dX8_add_25 : decode cX8_add 25 = .ok (.ifCond .eq 34, 3) := by decide +kernel
theorem dX8_add_28 : decode cX8_add 28 = .ok (.aload_n 0, 1) := by decide +kernel
theorem dX8_add_29 : decode cX8_add 29 = .ok (.getfield 15, 3) := by decide +kernel
theorem dX8_add_32 : decode cX8_add 32 = .ok (.sipush 1000, 3) := by decide +kernel
theorem dX8_add_35 : decode cX8_add 35 = .ok (.if_icmp .ge 24, 3) := by decide +kernel
theorem dX8_add_38 : decode cX8_add 38 = .ok (.aload_n 0, 1) := by decide +kernel
theorem dX8_add_39 : decode cX8_add 39 = .ok (.getfield 9, 3) := by decide +kernel
theorem dX8_add_42 : decode cX8_add 42 = .ok (.aload_n 0, 1) := by decide +kernel
theorem dX8_add_43 : decode cX8_add 43 = .ok (.getfield 15, 3) := by decide +kernel
theorem dX8_add_46 : decode cX8_add 46 = .ok (.iload_n 1, 1) := by decide +kernel
theorem dX8_add_47 : decode cX8_add 47 = .ok (.i2c, 1) := by decide +kernel
theorem dX8_add_48 : decode cX8_add 48 = .ok (.castore, 1) := by decide +kernel
theorem dX8_add_49 : decode cX8_add 49 = .ok (.aload_n 0, 1) := by decide +kernel
theorem dX8_add_50 : decode cX8_add 50 = .ok (.dup, 1) := by decide +kernel
theorem dX8_add_51 : decode cX8_add 51 = .ok (.getfield 15, 3) := by decide +kernel
theorem dX8_add_54 : decode cX8_add 54 = .ok (.iconst 1, 1) := by decide +kernel
theorem dX8_add_55 : decode cX8_add 55 = .ok (.iadd, 1) := by decide +kernel
theorem dX8_add_56 : decode cX8_add 56 = .ok (.putfield 15, 3) := by decide +kernel
theorem dX8_add_59 : decode cX8_add 59 = .ok (.return_, 1) := by decide +kernel
theorem dX8_pastBlanks_0 : decode cX8_pastBlanks 0 = .ok (.iload_n 1, 1) := by decide +kernel
theorem dX8_pastBlanks_1 : decode cX8_pastBlanks 1 = .ok (.istore_n 2, 1) := by decide +kernel
theorem dX8_pastBlanks_2 : decode cX8_pastBlanks 2 = .ok (.iload_n 2, 1) := by decide +kernel
theorem dX8_pastBlanks_3 : decode cX8_pastBlanks 3 = .ok (.aload_n 0, 1) := by decide +kernel
theorem dX8_pastBlanks_4 : decode cX8_pastBlanks 4 = .ok (.getfield 15, 3) := by decide +kernel
theorem dX8_pastBlanks_7 : decode cX8_pastBlanks 7 = .ok (.if_icmp .ge 31, 3) := by decide +kernel
theorem dX8_pastBlanks_10 : decode cX8_pastBlanks 10 = .ok (.aload_n 0, 1) := by decide +kernel
theorem dX8_pastBlanks_11 : decode cX8_pastBlanks 11 = .ok (.getfield 9, 3) := by decide +kernel
theorem dX8_pastBlanks_14 : decode cX8_pastBlanks 14 = .ok (.iload_n 2, 1) := by decide +kernel
theorem dX8_pastBlanks_15 : decode cX8_pastBlanks 15 = .ok (.caload, 1) := by decide +kernel
theorem dX8_pastBlanks_16 : decode cX8_pastBlanks 16 = .ok (.bipush 10, 2) := by decide +kernel
theorem dX8_pastBlanks_18 : decode cX8_pastBlanks 18 = .ok (.if_icmp .eq 14, 3) := by decide +kernel
theorem dX8_pastBlanks_21 : decode cX8_pastBlanks 21 = .ok (.aload_n 0, 1) := by decide +kernel
theorem dX8_pastBlanks_22 : decode cX8_pastBlanks 22 = .ok (.getfield 9, 3) := by decide +kernel
theorem dX8_pastBlanks_25 : decode cX8_pastBlanks 25 = .ok (.iload_n 2, 1) := by decide +kernel
theorem dX8_pastBlanks_26 : decode cX8_pastBlanks 26 = .ok (.caload, 1) := by decide +kernel
theorem dX8_pastBlanks_27 : decode cX8_pastBlanks 27 = .ok (.bipush 32, 2) := by decide +kernel
theorem dX8_pastBlanks_29 : decode cX8_pastBlanks 29 = .ok (.if_icmp .ne 9, 3) := by decide +kernel
theorem dX8_pastBlanks_32 : decode cX8_pastBlanks 32 = .ok (.iinc 2 1, 3) := by decide +kernel
theorem dX8_pastBlanks_35 : decode cX8_pastBlanks 35 = .ok (.goto (-33), 3) := by decide +kernel
theorem dX8_pastBlanks_38 : decode cX8_pastBlanks 38 = .ok (.iload_n 2, 1) := by decide +kernel
theorem dX8_pastBlanks_39 : decode cX8_pastBlanks 39 = .ok (.ireturn, 1) := by decide +kernel
theorem dX8_pastRun_0 : decode cX8_pastRun 0 = .ok (.iload_n 1, 1) := by decide +kernel
theorem dX8_pastRun_1 : decode cX8_pastRun 1 = .ok (.istore 4, 2) := by decide +kernel
theorem dX8_pastRun_3 : decode cX8_pastRun 3 = .ok (.iload 4, 2) := by decide +kernel
theorem dX8_pastRun_5 : decode cX8_pastRun 5 = .ok (.aload_n 0, 1) := by decide +kernel
theorem dX8_pastRun_6 : decode cX8_pastRun 6 = .ok (.getfield 15, 3) := by decide +kernel
theorem dX8_pastRun_9 : decode cX8_pastRun 9 = .ok (.if_icmp .ge 31, 3) := by decide +kernel
theorem dX8_pastRun_12 : decode cX8_pastRun 12 = .ok (.aload_n 0, 1) := by decide +kernel
theorem dX8_pastRun_13 : decode cX8_pastRun 13 = .ok (.getfield 9, 3) := by decide +kernel
theorem dX8_pastRun_16 : decode cX8_pastRun 16 = .ok (.iload 4, 2) := by decide +kernel
theorem dX8_pastRun_18 : decode cX8_pastRun 18 = .ok (.caload, 1) := by decide +kernel
theorem dX8_pastRun_19 : decode cX8_pastRun 19 = .ok (.iload_n 2, 1) := by decide +kernel
theorem dX8_pastRun_20 : decode cX8_pastRun 20 = .ok (.if_icmp .lt 20, 3) := by decide +kernel
theorem dX8_pastRun_23 : decode cX8_pastRun 23 = .ok (.aload_n 0, 1) := by decide +kernel
theorem dX8_pastRun_24 : decode cX8_pastRun 24 = .ok (.getfield 9, 3) := by decide +kernel
theorem dX8_pastRun_27 : decode cX8_pastRun 27 = .ok (.iload 4, 2) := by decide +kernel
theorem dX8_pastRun_29 : decode cX8_pastRun 29 = .ok (.caload, 1) := by decide +kernel
theorem dX8_pastRun_30 : decode cX8_pastRun 30 = .ok (.iload_n 3, 1) := by decide +kernel
theorem dX8_pastRun_31 : decode cX8_pastRun 31 = .ok (.if_icmp .gt 9, 3) := by decide +kernel
theorem dX8_pastRun_34 : decode cX8_pastRun 34 = .ok (.iinc 4 1, 3) := by decide +kernel
theorem dX8_pastRun_37 : decode cX8_pastRun 37 = .ok (.goto (-34), 3) := by decide +kernel
theorem dX8_pastRun_40 : decode cX8_pastRun 40 = .ok (.iload 4, 2) := by decide +kernel
theorem dX8_pastRun_42 : decode cX8_pastRun 42 = .ok (.ireturn, 1) := by decide +kernel
theorem dX8_valueOf_0 : decode cX8_valueOf 0 = .ok (.iconst 0, 1) := by decide +kernel
theorem dX8_valueOf_1 : decode cX8_valueOf 1 = .ok (.istore_n 3, 1) := by decide +kernel
theorem dX8_valueOf_2 : decode cX8_valueOf 2 = .ok (.iload_n 1, 1) := by decide +kernel
theorem dX8_valueOf_3 : decode cX8_valueOf 3 = .ok (.istore 4, 2) := by decide +kernel
theorem dX8_valueOf_5 : decode cX8_valueOf 5 = .ok (.iload 4, 2) := by decide +kernel
theorem dX8_valueOf_7 : decode cX8_valueOf 7 = .ok (.iload_n 2, 1) := by decide +kernel
theorem dX8_valueOf_8 : decode cX8_valueOf 8 = .ok (.if_icmp .ge 25, 3) := by decide +kernel
theorem dX8_valueOf_11 : decode cX8_valueOf 11 = .ok (.iload_n 3, 1) := by decide +kernel
theorem dX8_valueOf_12 : decode cX8_valueOf 12 = .ok (.bipush 10, 2) := by decide +kernel
theorem dX8_valueOf_14 : decode cX8_valueOf 14 = .ok (.imul, 1) := by decide +kernel
theorem dX8_valueOf_15 : decode cX8_valueOf 15 = .ok (.aload_n 0, 1) := by decide +kernel
theorem dX8_valueOf_16 : decode cX8_valueOf 16 = .ok (.getfield 9, 3) := by decide +kernel
theorem dX8_valueOf_19 : decode cX8_valueOf 19 = .ok (.iload 4, 2) := by decide +kernel
theorem dX8_valueOf_21 : decode cX8_valueOf 21 = .ok (.caload, 1) := by decide +kernel
theorem dX8_valueOf_22 : decode cX8_valueOf 22 = .ok (.iadd, 1) := by decide +kernel
theorem dX8_valueOf_23 : decode cX8_valueOf 23 = .ok (.bipush 48, 2) := by decide +kernel
theorem dX8_valueOf_25 : decode cX8_valueOf 25 = .ok (.isub, 1) := by decide +kernel
theorem dX8_valueOf_26 : decode cX8_valueOf 26 = .ok (.istore_n 3, 1) := by decide +kernel
theorem dX8_valueOf_27 : decode cX8_valueOf 27 = .ok (.iinc 4 1, 3) := by decide +kernel
theorem dX8_valueOf_30 : decode cX8_valueOf 30 = .ok (.goto (-25), 3) := by decide +kernel
theorem dX8_valueOf_33 : decode cX8_valueOf 33 = .ok (.iload_n 3, 1) := by decide +kernel
theorem dX8_valueOf_34 : decode cX8_valueOf 34 = .ok (.ireturn, 1) := by decide +kernel
theorem dX8_advance_0 : decode cX8_advance 0 = .ok (.aload_n 0, 1) := by decide +kernel
theorem dX8_advance_1 : decode cX8_advance 1 = .ok (.aload_n 0, 1) := by decide +kernel
theorem dX8_advance_2 : decode cX8_advance 2 = .ok (.aload_n 0, 1) := by decide +kernel
theorem dX8_advance_3 : decode cX8_advance 3 = .ok (.getfield 19, 3) := by decide +kernel
theorem dX8_advance_6 : decode cX8_advance 6 = .ok (.invokevirtual 25, 3) := by decide +kernel
theorem dX8_advance_9 : decode cX8_advance 9 = .ok (.putfield 29, 3) := by decide +kernel
theorem dX8_advance_12 : decode cX8_advance 12 = .ok (.aload_n 0, 1) := by decide +kernel
theorem dX8_advance_13 : decode cX8_advance 13 = .ok (.aload_n 0, 1) := by decide +kernel
theorem dX8_advance_14 : decode cX8_advance 14 = .ok (.getfield 29, 3) := by decide +kernel
theorem dX8_advance_17 : decode cX8_advance 17 = .ok (.bipush 97, 2) := by decide +kernel
theorem dX8_advance_19 : decode cX8_advance 19 = .ok (.bipush 122, 2) := by decide +kernel
theorem dX8_advance_21 : decode cX8_advance 21 = .ok (.invokevirtual 32, 3) := by decide +kernel
theorem dX8_advance_24 : decode cX8_advance 24 = .ok (.istore_n 1, 1) := by decide +kernel
theorem dX8_advance_25 : decode cX8_advance 25 = .ok (.aload_n 0, 1) := by decide +kernel
theorem dX8_advance_26 : decode cX8_advance 26 = .ok (.aload_n 0, 1) := by decide +kernel
theorem dX8_advance_27 : decode cX8_advance 27 = .ok (.getfield 29, 3) := by decide +kernel
theorem dX8_advance_30 : decode cX8_advance 30 = .ok (.bipush 48, 2) := by decide +kernel
theorem dX8_advance_32 : decode cX8_advance 32 = .ok (.bipush 57, 2) := by decide +kernel
theorem dX8_advance_34 : decode cX8_advance 34 = .ok (.invokevirtual 32, 3) := by decide +kernel
theorem dX8_advance_37 : decode cX8_advance 37 = .ok (.istore_n 2, 1) := by decide +kernel
theorem dX8_advance_38 : decode cX8_advance 38 = .ok (.aload_n 0, 1) := by decide +kernel
theorem dX8_advance_39 : decode cX8_advance 39 = .ok (.getfield 29, 3) := by decide +kernel
theorem dX8_advance_42 : decode cX8_advance 42 = .ok (.aload_n 0, 1) := by decide +kernel
theorem dX8_advance_43 : decode cX8_advance 43 = .ok (.getfield 15, 3) := by decide +kernel
theorem dX8_advance_46 : decode cX8_advance 46 = .ok (.if_icmp .lt 19, 3) := by decide +kernel
theorem dX8_advance_49 : decode cX8_advance 49 = .ok (.aload_n 0, 1) := by decide +kernel
theorem dX8_advance_50 : decode cX8_advance 50 = .ok (.aload_n 0, 1) := by decide +kernel
theorem dX8_advance_51 : decode cX8_advance 51 = .ok (.getfield 29, 3) := by decide +kernel
theorem dX8_advance_54 : decode cX8_advance 54 = .ok (.putfield 19, 3) := by decide +kernel
theorem dX8_advance_57 : decode cX8_advance 57 = .ok (.aload_n 0, 1) := by decide +kernel
theorem dX8_advance_58 : decode cX8_advance 58 = .ok (.iconst 0, 1) := by decide +kernel
theorem dX8_advance_59 : decode cX8_advance 59 = .ok (.putfield 36, 3) := by decide +kernel
theorem dX8_advance_62 : decode cX8_advance 62 = .ok (.goto 144, 3) := by decide +kernel
theorem dX8_advance_65 : decode cX8_advance 65 = .ok (.iload_n 1, 1) := by decide +kernel
theorem dX8_advance_66 : decode cX8_advance 66 = .ok (.aload_n 0, 1) := by decide +kernel
theorem dX8_advance_67 : decode cX8_advance 67 = .ok (.getfield 29, 3) := by decide +kernel
theorem dX8_advance_70 : decode cX8_advance 70 = .ok (.if_icmp .le 34, 3) := by decide +kernel
theorem dX8_advance_73 : decode cX8_advance 73 = .ok (.aload_n 0, 1) := by decide +kernel
theorem dX8_advance_74 : decode cX8_advance 74 = .ok (.iload_n 1, 1) := by decide +kernel
theorem dX8_advance_75 : decode cX8_advance 75 = .ok (.putfield 19, 3) := by decide +kernel
theorem dX8_advance_78 : decode cX8_advance 78 = .ok (.aload_n 0, 1) := by decide +kernel
theorem dX8_advance_79 : decode cX8_advance 79 = .ok (.aload_n 0, 1) := by decide +kernel
theorem dX8_advance_80 : decode cX8_advance 80 = .ok (.getfield 19, 3) := by decide +kernel
theorem dX8_advance_83 : decode cX8_advance 83 = .ok (.aload_n 0, 1) := by decide +kernel
theorem dX8_advance_84 : decode cX8_advance 84 = .ok (.getfield 29, 3) := by decide +kernel
theorem dX8_advance_87 : decode cX8_advance 87 = .ok (.isub, 1) := by decide +kernel
theorem dX8_advance_88 : decode cX8_advance 88 = .ok (.bipush 8, 2) := by decide +kernel
theorem dX8_advance_90 : decode cX8_advance 90 = .ok (.if_icmp .gt 7, 3) := by decide +kernel
theorem dX8_advance_93 : decode cX8_advance 93 = .ok (.iconst 1, 1) := by decide +kernel
theorem dX8_advance_94 : decode cX8_advance 94 = .ok (.goto 4, 3) := by decide +kernel
theorem dX8_advance_97 : decode cX8_advance 97 = .ok (.iconst 4, 1) := by decide +kernel
theorem dX8_advance_98 : decode cX8_advance 98 = .ok (.putfield 36, 3) := by decide +kernel
theorem dX8_advance_101 : decode cX8_advance 101 = .ok (.goto 105, 3) := by decide +kernel
theorem dX8_advance_104 : decode cX8_advance 104 = .ok (.iload_n 2, 1) := by decide +kernel
theorem dX8_advance_105 : decode cX8_advance 105 = .ok (.aload_n 0, 1) := by decide +kernel
theorem dX8_advance_106 : decode cX8_advance 106 = .ok (.getfield 29, 3) := by decide +kernel
theorem dX8_advance_109 : decode cX8_advance 109 = .ok (.if_icmp .le 61, 3) := by decide +kernel
theorem dX8_advance_112 : decode cX8_advance 112 = .ok (.aload_n 0, 1) := by decide +kernel
theorem dX8_advance_113 : decode cX8_advance 113 = .ok (.iload_n 2, 1) := by decide +kernel
theorem dX8_advance_114 : decode cX8_advance 114 = .ok (.putfield 19, 3) := by decide +kernel
theorem dX8_advance_117 : decode cX8_advance 117 = .ok (.aload_n 0, 1) := by decide +kernel
theorem dX8_advance_118 : decode cX8_advance 118 = .ok (.aload_n 0, 1) := by decide +kernel
theorem dX8_advance_119 : decode cX8_advance 119 = .ok (.getfield 19, 3) := by decide +kernel
theorem dX8_advance_122 : decode cX8_advance 122 = .ok (.aload_n 0, 1) := by decide +kernel
theorem dX8_advance_123 : decode cX8_advance 123 = .ok (.getfield 29, 3) := by decide +kernel
theorem dX8_advance_126 : decode cX8_advance 126 = .ok (.isub, 1) := by decide +kernel
theorem dX8_advance_127 : decode cX8_advance 127 = .ok (.iconst 4, 1) := by decide +kernel
theorem dX8_advance_128 : decode cX8_advance 128 = .ok (.if_icmp .gt 7, 3) := by decide +kernel
theorem dX8_advance_131 : decode cX8_advance 131 = .ok (.iconst 2, 1) := by decide +kernel
theorem dX8_advance_132 : decode cX8_advance 132 = .ok (.goto 4, 3) := by decide +kernel
theorem dX8_advance_135 : decode cX8_advance 135 = .ok (.iconst 4, 1) := by decide +kernel
theorem dX8_advance_136 : decode cX8_advance 136 = .ok (.putfield 36, 3) := by decide +kernel
theorem dX8_advance_139 : decode cX8_advance 139 = .ok (.aload_n 0, 1) := by decide +kernel
theorem dX8_advance_140 : decode cX8_advance 140 = .ok (.aload_n 0, 1) := by decide +kernel
theorem dX8_advance_141 : decode cX8_advance 141 = .ok (.getfield 36, 3) := by decide +kernel
theorem dX8_advance_144 : decode cX8_advance 144 = .ok (.iconst 2, 1) := by decide +kernel
theorem dX8_advance_145 : decode cX8_advance 145 = .ok (.if_icmp .ne 18, 3) := by decide +kernel
theorem dX8_advance_148 : decode cX8_advance 148 = .ok (.aload_n 0, 1) := by decide +kernel
theorem dX8_advance_149 : decode cX8_advance 149 = .ok (.aload_n 0, 1) := by decide +kernel
theorem dX8_advance_150 : decode cX8_advance 150 = .ok (.getfield 29, 3) := by decide +kernel
theorem dX8_advance_153 : decode cX8_advance 153 = .ok (.aload_n 0, 1) := by decide +kernel
theorem dX8_advance_154 : decode cX8_advance 154 = .ok (.getfield 19, 3) := by decide +kernel
theorem dX8_advance_157 : decode cX8_advance 157 = .ok (.invokevirtual 39, 3) := by decide +kernel
theorem dX8_advance_160 : decode cX8_advance 160 = .ok (.goto 4, 3) := by decide +kernel
theorem dX8_advance_163 : decode cX8_advance 163 = .ok (.iconst 0, 1) := by decide +kernel
theorem dX8_advance_164 : decode cX8_advance 164 = .ok (.putfield 43, 3) := by decide +kernel
theorem dX8_advance_167 : decode cX8_advance 167 = .ok (.goto 39, 3) := by decide +kernel
theorem dX8_advance_170 : decode cX8_advance 170 = .ok (.aload_n 0, 1) := by decide +kernel
theorem dX8_advance_171 : decode cX8_advance 171 = .ok (.aload_n 0, 1) := by decide +kernel
theorem dX8_advance_172 : decode cX8_advance 172 = .ok (.getfield 29, 3) := by decide +kernel
theorem dX8_advance_175 : decode cX8_advance 175 = .ok (.iconst 1, 1) := by decide +kernel
theorem dX8_advance_176 : decode cX8_advance 176 = .ok (.iadd, 1) := by decide +kernel
theorem dX8_advance_177 : decode cX8_advance 177 = .ok (.putfield 19, 3) := by decide +kernel
theorem dX8_advance_180 : decode cX8_advance 180 = .ok (.aload_n 0, 1) := by decide +kernel
theorem dX8_advance_181 : decode cX8_advance 181 = .ok (.ldc 46, 2) := by decide +kernel
theorem dX8_advance_183 : decode cX8_advance 183 = .ok (.aload_n 0, 1) := by decide +kernel
theorem dX8_advance_184 : decode cX8_advance 184 = .ok (.getfield 9, 3) := by decide +kernel
theorem dX8_advance_187 : decode cX8_advance 187 = .ok (.aload_n 0, 1) := by decide +kernel
theorem dX8_advance_188 : decode cX8_advance 188 = .ok (.getfield 29, 3) := by decide +kernel
theorem dX8_advance_191 : decode cX8_advance 191 = .ok (.caload, 1) := by decide +kernel
theorem dX8_advance_192 : decode cX8_advance 192 = .ok (.invokevirtual 48, 3) := by decide +kernel
theorem dX8_advance_195 : decode cX8_advance 195 = .ok (.ifCond .lt 7, 3) := by decide +kernel
theorem dX8_advance_198 : decode cX8_advance 198 = .ok (.iconst 3, 1) := by decide +kernel
theorem dX8_advance_199 : decode cX8_advance 199 = .ok (.goto 4, 3) := by decide +kernel
theorem dX8_advance_202 : decode cX8_advance 202 = .ok (.iconst 4, 1) := by decide +kernel
theorem dX8_advance_203 : decode cX8_advance 203 = .ok (.putfield 36, 3) := by decide +kernel
theorem dX8_advance_206 : decode cX8_advance 206 = .ok (.return_, 1) := by decide +kernel
theorem dX8_start_0 : decode cX8_start 0 = .ok (.aload_n 0, 1) := by decide +kernel
theorem dX8_start_1 : decode cX8_start 1 = .ok (.iconst 0, 1) := by decide +kernel
theorem dX8_start_2 : decode cX8_start 2 = .ok (.putfield 19, 3) := by decide +kernel
theorem dX8_start_5 : decode cX8_start 5 = .ok (.aload_n 0, 1) := by decide +kernel
theorem dX8_start_6 : decode cX8_start 6 = .ok (.invokevirtual 22, 3) := by decide +kernel
theorem dX8_start_9 : decode cX8_start 9 = .ok (.return_, 1) := by decide +kernel
theorem dX8_isSign_0 : decode cX8_isSign 0 = .ok (.aload_n 0, 1) := by decide +kernel
theorem dX8_isSign_1 : decode cX8_isSign 1 = .ok (.getfield 36, 3) := by decide +kernel
theorem dX8_isSign_4 : decode cX8_isSign 4 = .ok (.iconst 3, 1) := by decide +kernel
theorem dX8_isSign_5 : decode cX8_isSign 5 = .ok (.if_icmp .ne 20, 3) := by decide +kernel
theorem dX8_isSign_8 : decode cX8_isSign 8 = .ok (.aload_n 0, 1) := by decide +kernel
theorem dX8_isSign_9 : decode cX8_isSign 9 = .ok (.getfield 9, 3) := by decide +kernel
theorem dX8_isSign_12 : decode cX8_isSign 12 = .ok (.aload_n 0, 1) := by decide +kernel
theorem dX8_isSign_13 : decode cX8_isSign 13 = .ok (.getfield 29, 3) := by decide +kernel
theorem dX8_isSign_16 : decode cX8_isSign 16 = .ok (.caload, 1) := by decide +kernel
theorem dX8_isSign_17 : decode cX8_isSign 17 = .ok (.iload_n 1, 1) := by decide +kernel
theorem dX8_isSign_18 : decode cX8_isSign 18 = .ok (.if_icmp .ne 7, 3) := by decide +kernel
theorem dX8_isSign_21 : decode cX8_isSign 21 = .ok (.iconst 1, 1) := by decide +kernel
theorem dX8_isSign_22 : decode cX8_isSign 22 = .ok (.goto 4, 3) := by decide +kernel
theorem dX8_isSign_25 : decode cX8_isSign 25 = .ok (.iconst 0, 1) := by decide +kernel
theorem dX8_isSign_26 : decode cX8_isSign 26 = .ok (.ireturn, 1) := by decide +kernel
theorem dX8_isWord_0 : decode cX8_isWord 0 = .ok (.aload_n 0, 1) := by decide +kernel
theorem dX8_isWord_1 : decode cX8_isWord 1 = .ok (.getfield 36, 3) := by decide +kernel
theorem dX8_isWord_4 : decode cX8_isWord 4 = .ok (.iconst 1, 1) := by decide +kernel
theorem dX8_isWord_5 : decode cX8_isWord 5 = .ok (.if_icmp .ne 19, 3) := by decide +kernel
theorem dX8_isWord_8 : decode cX8_isWord 8 = .ok (.aload_n 0, 1) := by decide +kernel
theorem dX8_isWord_9 : decode cX8_isWord 9 = .ok (.getfield 19, 3) := by decide +kernel
theorem dX8_isWord_12 : decode cX8_isWord 12 = .ok (.aload_n 0, 1) := by decide +kernel
theorem dX8_isWord_13 : decode cX8_isWord 13 = .ok (.getfield 29, 3) := by decide +kernel
theorem dX8_isWord_16 : decode cX8_isWord 16 = .ok (.isub, 1) := by decide +kernel
theorem dX8_isWord_17 : decode cX8_isWord 17 = .ok (.aload_n 1, 1) := by decide +kernel
theorem dX8_isWord_18 : decode cX8_isWord 18 = .ok (.invokevirtual 53, 3) := by decide +kernel
theorem dX8_isWord_21 : decode cX8_isWord 21 = .ok (.if_icmp .eq 5, 3) := by decide +kernel
theorem dX8_isWord_24 : decode cX8_isWord 24 = .ok (.iconst 0, 1) := by decide +kernel
theorem dX8_isWord_25 : decode cX8_isWord 25 = .ok (.ireturn, 1) := by decide +kernel
theorem dX8_isWord_26 : decode cX8_isWord 26 = .ok (.iconst 0, 1) := by decide +kernel
theorem dX8_isWord_27 : decode cX8_isWord 27 = .ok (.istore_n 2, 1) := by decide +kernel
theorem dX8_isWord_28 : decode cX8_isWord 28 = .ok (.iload_n 2, 1) := by decide +kernel
theorem dX8_isWord_29 : decode cX8_isWord 29 = .ok (.aload_n 1, 1) := by decide +kernel
theorem dX8_isWord_30 : decode cX8_isWord 30 = .ok (.invokevirtual 53, 3) := by decide +kernel
theorem dX8_isWord_33 : decode cX8_isWord 33 = .ok (.if_icmp .ge 30, 3) := by decide +kernel
theorem dX8_isWord_36 : decode cX8_isWord 36 = .ok (.aload_n 0, 1) := by decide +kernel
theorem dX8_isWord_37 : decode cX8_isWord 37 = .ok (.getfield 9, 3) := by decide +kernel
theorem dX8_isWord_40 : decode cX8_isWord 40 = .ok (.aload_n 0, 1) := by decide +kernel
theorem dX8_isWord_41 : decode cX8_isWord 41 = .ok (.getfield 29, 3) := by decide +kernel
theorem dX8_isWord_44 : decode cX8_isWord 44 = .ok (.iload_n 2, 1) := by decide +kernel
theorem dX8_isWord_45 : decode cX8_isWord 45 = .ok (.iadd, 1) := by decide +kernel
theorem dX8_isWord_46 : decode cX8_isWord 46 = .ok (.caload, 1) := by decide +kernel
theorem dX8_isWord_47 : decode cX8_isWord 47 = .ok (.aload_n 1, 1) := by decide +kernel
theorem dX8_isWord_48 : decode cX8_isWord 48 = .ok (.iload_n 2, 1) := by decide +kernel
theorem dX8_isWord_49 : decode cX8_isWord 49 = .ok (.invokevirtual 56, 3) := by decide +kernel
theorem dX8_isWord_52 : decode cX8_isWord 52 = .ok (.if_icmp .eq 5, 3) := by decide +kernel
theorem dX8_isWord_55 : decode cX8_isWord 55 = .ok (.iconst 0, 1) := by decide +kernel
theorem dX8_isWord_56 : decode cX8_isWord 56 = .ok (.ireturn, 1) := by decide +kernel
theorem dX8_isWord_57 : decode cX8_isWord 57 = .ok (.iinc 2 1, 3) := by decide +kernel
theorem dX8_isWord_60 : decode cX8_isWord 60 = .ok (.goto (-32), 3) := by decide +kernel
theorem dX8_isWord_63 : decode cX8_isWord 63 = .ok (.iconst 1, 1) := by decide +kernel
theorem dX8_isWord_64 : decode cX8_isWord 64 = .ok (.ireturn, 1) := by decide +kernel
theorem dX8_code_0 : decode cX8_code 0 = .ok (.lconst 0, 1) := by decide +kernel
theorem dX8_code_1 : decode cX8_code 1 = .ok (.lstore_n 1, 1) := by decide +kernel
theorem dX8_code_2 : decode cX8_code 2 = .ok (.aload_n 0, 1) := by decide +kernel
theorem dX8_code_3 : decode cX8_code 3 = .ok (.getfield 29, 3) := by decide +kernel
theorem dX8_code_6 : decode cX8_code 6 = .ok (.istore_n 3, 1) := by decide +kernel
theorem dX8_code_7 : decode cX8_code 7 = .ok (.iload_n 3, 1) := by decide +kernel
theorem dX8_code_8 : decode cX8_code 8 = .ok (.aload_n 0, 1) := by decide +kernel
theorem dX8_code_9 : decode cX8_code 9 = .ok (.getfield 19, 3) := by decide +kernel
theorem dX8_code_12 : decode cX8_code 12 = .ok (.if_icmp .ge 29, 3) := by decide +kernel
theorem dX8_code_15 : decode cX8_code 15 = .ok (.lload_n 1, 1) := by decide +kernel
theorem dX8_code_16 : decode cX8_code 16 = .ok (.ldc2_w 60, 3) := by decide +kernel
theorem dX8_code_19 : decode cX8_code 19 = .ok (.lmul, 1) := by decide +kernel
theorem dX8_code_20 : decode cX8_code 20 = .ok (.aload_n 0, 1) := by decide +kernel
theorem dX8_code_21 : decode cX8_code 21 = .ok (.getfield 9, 3) := by decide +kernel
theorem dX8_code_24 : decode cX8_code 24 = .ok (.iload_n 3, 1) := by decide +kernel
theorem dX8_code_25 : decode cX8_code 25 = .ok (.caload, 1) := by decide +kernel
theorem dX8_code_26 : decode cX8_code 26 = .ok (.i2l, 1) := by decide +kernel
theorem dX8_code_27 : decode cX8_code 27 = .ok (.ladd, 1) := by decide +kernel
theorem dX8_code_28 : decode cX8_code 28 = .ok (.ldc2_w 62, 3) := by decide +kernel
theorem dX8_code_31 : decode cX8_code 31 = .ok (.lsub, 1) := by decide +kernel
theorem dX8_code_32 : decode cX8_code 32 = .ok (.lconst 1, 1) := by decide +kernel
theorem dX8_code_33 : decode cX8_code 33 = .ok (.ladd, 1) := by decide +kernel
theorem dX8_code_34 : decode cX8_code 34 = .ok (.lstore_n 1, 1) := by decide +kernel
theorem dX8_code_35 : decode cX8_code 35 = .ok (.iinc 3 1, 3) := by decide +kernel
theorem dX8_code_38 : decode cX8_code 38 = .ok (.goto (-31), 3) := by decide +kernel
theorem dX8_code_41 : decode cX8_code 41 = .ok (.lload_n 1, 1) := by decide +kernel
theorem dX8_code_42 : decode cX8_code 42 = .ok (.lreturn, 1) := by decide +kernel
theorem dX8_isName_0 : decode cX8_isName 0 = .ok (.aload_n 0, 1) := by decide +kernel
theorem dX8_isName_1 : decode cX8_isName 1 = .ok (.ldc 64, 2) := by decide +kernel
theorem dX8_isName_3 : decode cX8_isName 3 = .ok (.invokevirtual 66, 3) := by decide +kernel
theorem dX8_isName_6 : decode cX8_isName 6 = .ok (.ifCond .ne 48, 3) := by decide +kernel
theorem dX8_isName_9 : decode cX8_isName 9 = .ok (.aload_n 0, 1) := by decide +kernel
theorem dX8_isName_10 : decode cX8_isName 10 = .ok (.ldc 70, 2) := by decide +kernel
theorem dX8_isName_12 : decode cX8_isName 12 = .ok (.invokevirtual 66, 3) := by decide +kernel
theorem dX8_isName_15 : decode cX8_isName 15 = .ok (.ifCond .ne 39, 3) := by decide +kernel
theorem dX8_isName_18 : decode cX8_isName 18 = .ok (.aload_n 0, 1) := by decide +kernel
theorem dX8_isName_19 : decode cX8_isName 19 = .ok (.ldc 72, 2) := by decide +kernel
theorem dX8_isName_21 : decode cX8_isName 21 = .ok (.invokevirtual 66, 3) := by decide +kernel
theorem dX8_isName_24 : decode cX8_isName 24 = .ok (.ifCond .ne 30, 3) := by decide +kernel
theorem dX8_isName_27 : decode cX8_isName 27 = .ok (.aload_n 0, 1) := by decide +kernel
theorem dX8_isName_28 : decode cX8_isName 28 = .ok (.ldc 74, 2) := by decide +kernel
theorem dX8_isName_30 : decode cX8_isName 30 = .ok (.invokevirtual 66, 3) := by decide +kernel
theorem dX8_isName_33 : decode cX8_isName 33 = .ok (.ifCond .ne 21, 3) := by decide +kernel
theorem dX8_isName_36 : decode cX8_isName 36 = .ok (.aload_n 0, 1) := by decide +kernel
theorem dX8_isName_37 : decode cX8_isName 37 = .ok (.ldc 76, 2) := by decide +kernel
theorem dX8_isName_39 : decode cX8_isName 39 = .ok (.invokevirtual 66, 3) := by decide +kernel
theorem dX8_isName_42 : decode cX8_isName 42 = .ok (.ifCond .ne 12, 3) := by decide +kernel
theorem dX8_isName_45 : decode cX8_isName 45 = .ok (.aload_n 0, 1) := by decide +kernel
theorem dX8_isName_46 : decode cX8_isName 46 = .ok (.ldc 78, 2) := by decide +kernel
theorem dX8_isName_48 : decode cX8_isName 48 = .ok (.invokevirtual 66, 3) := by decide +kernel
theorem dX8_isName_51 : decode cX8_isName 51 = .ok (.ifCond .eq 7, 3) := by decide +kernel
theorem dX8_isName_54 : decode cX8_isName 54 = .ok (.iconst 1, 1) := by decide +kernel
theorem dX8_isName_55 : decode cX8_isName 55 = .ok (.goto 4, 3) := by decide +kernel
theorem dX8_isName_58 : decode cX8_isName 58 = .ok (.iconst 0, 1) := by decide +kernel
theorem dX8_isName_59 : decode cX8_isName 59 = .ok (.istore_n 1, 1) := by decide +kernel
theorem dX8_isName_60 : decode cX8_isName 60 = .ok (.aload_n 0, 1) := by decide +kernel
theorem dX8_isName_61 : decode cX8_isName 61 = .ok (.ldc 80, 2) := by decide +kernel
theorem dX8_isName_63 : decode cX8_isName 63 = .ok (.invokevirtual 66, 3) := by decide +kernel
theorem dX8_isName_66 : decode cX8_isName 66 = .ok (.ifCond .ne 66, 3) := by decide +kernel
theorem dX8_isName_69 : decode cX8_isName 69 = .ok (.aload_n 0, 1) := by decide +kernel
theorem dX8_isName_70 : decode cX8_isName 70 = .ok (.ldc 82, 2) := by decide +kernel
theorem dX8_isName_72 : decode cX8_isName 72 = .ok (.invokevirtual 66, 3) := by decide +kernel
theorem dX8_isName_75 : decode cX8_isName 75 = .ok (.ifCond .ne 57, 3) := by decide +kernel
theorem dX8_isName_78 : decode cX8_isName 78 = .ok (.aload_n 0, 1) := by decide +kernel
theorem dX8_isName_79 : decode cX8_isName 79 = .ok (.ldc 84, 2) := by decide +kernel
theorem dX8_isName_81 : decode cX8_isName 81 = .ok (.invokevirtual 66, 3) := by decide +kernel
theorem dX8_isName_84 : decode cX8_isName 84 = .ok (.ifCond .ne 48, 3) := by decide +kernel
theorem dX8_isName_87 : decode cX8_isName 87 = .ok (.aload_n 0, 1) := by decide +kernel
theorem dX8_isName_88 : decode cX8_isName 88 = .ok (.ldc 86, 2) := by decide +kernel
theorem dX8_isName_90 : decode cX8_isName 90 = .ok (.invokevirtual 66, 3) := by decide +kernel
theorem dX8_isName_93 : decode cX8_isName 93 = .ok (.ifCond .ne 39, 3) := by decide +kernel
theorem dX8_isName_96 : decode cX8_isName 96 = .ok (.aload_n 0, 1) := by decide +kernel
theorem dX8_isName_97 : decode cX8_isName 97 = .ok (.ldc 88, 2) := by decide +kernel
theorem dX8_isName_99 : decode cX8_isName 99 = .ok (.invokevirtual 66, 3) := by decide +kernel
theorem dX8_isName_102 : decode cX8_isName 102 = .ok (.ifCond .ne 30, 3) := by decide +kernel
theorem dX8_isName_105 : decode cX8_isName 105 = .ok (.aload_n 0, 1) := by decide +kernel
theorem dX8_isName_106 : decode cX8_isName 106 = .ok (.ldc 90, 2) := by decide +kernel
theorem dX8_isName_108 : decode cX8_isName 108 = .ok (.invokevirtual 66, 3) := by decide +kernel
theorem dX8_isName_111 : decode cX8_isName 111 = .ok (.ifCond .ne 21, 3) := by decide +kernel
theorem dX8_isName_114 : decode cX8_isName 114 = .ok (.aload_n 0, 1) := by decide +kernel
theorem dX8_isName_115 : decode cX8_isName 115 = .ok (.ldc 92, 2) := by decide +kernel
theorem dX8_isName_117 : decode cX8_isName 117 = .ok (.invokevirtual 66, 3) := by decide +kernel
theorem dX8_isName_120 : decode cX8_isName 120 = .ok (.ifCond .ne 12, 3) := by decide +kernel
theorem dX8_isName_123 : decode cX8_isName 123 = .ok (.aload_n 0, 1) := by decide +kernel
theorem dX8_isName_124 : decode cX8_isName 124 = .ok (.ldc 94, 2) := by decide +kernel
theorem dX8_isName_126 : decode cX8_isName 126 = .ok (.invokevirtual 66, 3) := by decide +kernel
theorem dX8_isName_129 : decode cX8_isName 129 = .ok (.ifCond .eq 7, 3) := by decide +kernel
theorem dX8_isName_132 : decode cX8_isName 132 = .ok (.iconst 1, 1) := by decide +kernel
theorem dX8_isName_133 : decode cX8_isName 133 = .ok (.goto 4, 3) := by decide +kernel
theorem dX8_isName_136 : decode cX8_isName 136 = .ok (.iconst 0, 1) := by decide +kernel
theorem dX8_isName_137 : decode cX8_isName 137 = .ok (.istore_n 2, 1) := by decide +kernel
theorem dX8_isName_138 : decode cX8_isName 138 = .ok (.aload_n 0, 1) := by decide +kernel
theorem dX8_isName_139 : decode cX8_isName 139 = .ok (.ldc 96, 2) := by decide +kernel
theorem dX8_isName_141 : decode cX8_isName 141 = .ok (.invokevirtual 66, 3) := by decide +kernel
theorem dX8_isName_144 : decode cX8_isName 144 = .ok (.ifCond .ne 21, 3) := by decide +kernel
theorem dX8_isName_147 : decode cX8_isName 147 = .ok (.aload_n 0, 1) := by decide +kernel
theorem dX8_isName_148 : decode cX8_isName 148 = .ok (.ldc 98, 2) := by decide +kernel
theorem dX8_isName_150 : decode cX8_isName 150 = .ok (.invokevirtual 66, 3) := by decide +kernel
theorem dX8_isName_153 : decode cX8_isName 153 = .ok (.ifCond .ne 12, 3) := by decide +kernel
theorem dX8_isName_156 : decode cX8_isName 156 = .ok (.aload_n 0, 1) := by decide +kernel
theorem dX8_isName_157 : decode cX8_isName 157 = .ok (.ldc 100, 2) := by decide +kernel
theorem dX8_isName_159 : decode cX8_isName 159 = .ok (.invokevirtual 66, 3) := by decide +kernel
theorem dX8_isName_162 : decode cX8_isName 162 = .ok (.ifCond .eq 7, 3) := by decide +kernel
theorem dX8_isName_165 : decode cX8_isName 165 = .ok (.iconst 1, 1) := by decide +kernel
theorem dX8_isName_166 : decode cX8_isName 166 = .ok (.goto 4, 3) := by decide +kernel
theorem dX8_isName_169 : decode cX8_isName 169 = .ok (.iconst 0, 1) := by decide +kernel
theorem dX8_isName_170 : decode cX8_isName 170 = .ok (.istore_n 3, 1) := by decide +kernel
theorem dX8_isName_171 : decode cX8_isName 171 = .ok (.aload_n 0, 1) := by decide +kernel
theorem dX8_isName_172 : decode cX8_isName 172 = .ok (.getfield 36, 3) := by decide +kernel
theorem dX8_isName_175 : decode cX8_isName 175 = .ok (.iconst 1, 1) := by decide +kernel
theorem dX8_isName_176 : decode cX8_isName 176 = .ok (.if_icmp .ne 19, 3) := by decide +kernel
theorem dX8_isName_179 : decode cX8_isName 179 = .ok (.iload_n 1, 1) := by decide +kernel
theorem dX8_isName_180 : decode cX8_isName 180 = .ok (.ifCond .ne 15, 3) := by decide +kernel
theorem dX8_isName_183 : decode cX8_isName 183 = .ok (.iload_n 2, 1) := by decide +kernel
theorem dX8_isName_184 : decode cX8_isName 184 = .ok (.ifCond .ne 11, 3) := by decide +kernel
theorem dX8_isName_187 : decode cX8_isName 187 = .ok (.iload_n 3, 1) := by decide +kernel
theorem dX8_isName_188 : decode cX8_isName 188 = .ok (.ifCond .ne 7, 3) := by decide +kernel
theorem dX8_isName_191 : decode cX8_isName 191 = .ok (.iconst 1, 1) := by decide +kernel
theorem dX8_isName_192 : decode cX8_isName 192 = .ok (.goto 4, 3) := by decide +kernel
theorem dX8_isName_195 : decode cX8_isName 195 = .ok (.iconst 0, 1) := by decide +kernel
theorem dX8_isName_196 : decode cX8_isName 196 = .ok (.ireturn, 1) := by decide +kernel
set_option maxHeartbeats 4000000 in
set_option maxRecDepth 100000 in
theorem c_X8_add (l : Launch) (D : DG) (cyC cyI cyJ cyZ cyO : ClassId) (t0 : Nat) (t1 : Nat) (p0 : Int32) (t_length : Int32) (t_next : Int32) (t_kind : Int32) (t_place : Int32) (t_number : Int32) (t_text : Nat → Int32) (h_t_length : 0 ≤ (t_length).toInt ∧ (t_length).toInt ≤ 1000) (h_t_next : 0 ≤ (t_next).toInt ∧ (t_next).toInt ≤ 1000) (h_t_kind : 0 ≤ (t_kind).toInt ∧ (t_kind).toInt ≤ 4) (h_t_place : 0 ≤ (t_place).toInt ∧ (t_place).toInt ≤ 1000) : KK l D (TY cyC cyI cyJ cyZ cyO) yX8_add cX8_add 3 none ({ frames := 0, cells := 0, slots := 0, locals := 0 } : Room) 0 0 [.ref t0, .int p0] [(t0, .inr (8, [.ref t1, .int t_length, .int t_next, .int t_kind, .int t_place, .int t_number])), (t1, .inl (cyC, 1000, .inl t_text))] (fun u => none) (fun u => (0 ≤ (u.2.1 0).toInt ∧ (u.2.1 0).toInt ≤ 1000)) (fun u => [(t0, .inr (8, [.ref t1, .int (u.2.1 0), .int t_next, .int t_kind, .int t_place, .int t_number])), (t1, .inl (cyC, 1000, .inl (u.2.2.1 0)))]) := by
  refine KK.of (lv0 := [(0, .ref t0), (1, .int p0)]) (by decide) rfl (Nat.le_of_ble_eq_true rfl) ?_
  intro p e s m args below meth c A C hr hk hin
  refine j_iload_n (pc := 0) C dX8_add_0 rfl 1 rfl ?_
  refine j_bipush (pc := 1) (v := 10) C dX8_add_1 (by decide) ?_
  refine j_icmp_eq (pc := 3) (tgt := 18) C dX8_add_3 (by decide) (fun c_1 => ?_) (fun c_1 => ?_)
  · skip
    have el_10 : (10 : Int32).toInt = 10 := rfl
    rw [i_eq] at c_1
    refine j_iconst (pc := 18) (v := 1) C dX8_add_18 (by decide) ?_
    refine j_goto (pc := 19) (tgt := 23) C dX8_add_19 (by decide) ?_
    refine j_istore_n (pc := 23) (lv' := [(2, .int 1), (0, .ref t0), (1, .int p0)]) C dX8_add_23 rfl (by decide) rfl ?_
    refine j_iload_n (pc := 24) C dX8_add_24 rfl 0 rfl ?_
    refine j_if_eq_f (pc := 25) (tgt := 59) C dX8_add_25 (by decide) (by decide) ?_
    refine j_aload_n (pc := 28) C dX8_add_28 rfl 1 rfl ?_
    refine j_get (pc := 29) (ci := 8) (v := .int t_length) C inw_8 0 rfl rfl 1 (by decide) wd_254 rfl rfl dX8_add_29 ?_
    refine j_sipush (pc := 32) (v := 1000) C dX8_add_32 (by decide) ?_
    refine j_icmp_ge (pc := 35) (tgt := 59) C dX8_add_35 (by decide) (fun c_2 => ?_) (fun c_2 => ?_)
    · skip
      have el_1000 : (1000 : Int32).toInt = 1000 := rfl
      rw [i_le] at c_2
      have k0c_2 : t_length.toInt = 1000 := by omega
      exact j_vret (pc := 59) C hr hk (fun i => [].getD i 0, fun i => [t_length].getD i 0, fun i => [t_text].getD i (fun _ => 0), fun i => [].getD i (fun _ => 0)) rfl (show (0 ≤ (t_length).toInt ∧ (t_length).toInt ≤ 1000) from (h_t_length)) [0, 1] (by decide) rfl (by decide) (by decide) dX8_add_59
    · skip
      have el_1000 : (1000 : Int32).toInt = 1000 := rfl
      rw [i_le] at c_2
      refine j_aload_n (pc := 38) C dX8_add_38 rfl 1 rfl ?_
      refine j_get (pc := 39) (ci := 8) (v := .ref t1) C inw_8 0 rfl rfl 0 (by decide) wd_255 rfl rfl dX8_add_39 ?_
      refine j_aload_n (pc := 42) C dX8_add_42 rfl 1 rfl ?_
      refine j_get (pc := 43) (ci := 8) (v := .int t_length) C inw_8 0 rfl rfl 1 (by decide) wd_254 rfl rfl dX8_add_43 ?_
      refine j_iload_n (pc := 46) C dX8_add_46 rfl 2 rfl ?_
      obtain ⟨v_3, ev_3⟩ : ∃ z : Int32, ((p0 : Int32).toUInt32 % 65536).toInt32 = z := ⟨_, rfl⟩
      have hv_3 : v_3.toInt = p0.toInt := by rw [← ev_3, i2c_id (by omega) (by omega)]
      refine j_i2c (pc := 47) (v := v_3) C dX8_add_47 ev_3 ?_
      obtain ⟨f_4, ef_4⟩ : ∃ z, z = upd t_text (t_length).toInt.toNat (vp_nar .char v_3) := ⟨_, rfl⟩
      refine j_cast (pc := 48) (k := (t_length).toInt.toNat) (ws' := [(t0, .inr (8, [.ref t1, .int t_length, .int t_next, .int t_kind, .int t_place, .int t_number])), (t1, .inl (cyC, 1000, .inl f_4))]) C 1 0 rfl rfl (i_nn h_t_length.1) rfl (i_lt_n h_t_length.1 (by omega)) dX8_add_48 (by rw [ef_4]; rfl) ?_
      refine j_aload_n (pc := 49) C dX8_add_49 rfl 1 rfl ?_
      refine j_dup (pc := 50) C dX8_add_50 rfl ?_
      refine j_get (pc := 51) (ci := 8) (v := .int t_length) C inw_8 0 rfl rfl 1 (by decide) wd_254 rfl rfl dX8_add_51 ?_
      refine j_iconst (pc := 54) (v := 1) C dX8_add_54 (by decide) ?_
      obtain ⟨v_5, ev_5⟩ : ∃ z : Int32, t_length + 1 = z := ⟨_, rfl⟩
      have el_1 : (1 : Int32).toInt = 1 := rfl
      have hv_5 : v_5.toInt = t_length.toInt + (1 : Int32).toInt := by rw [← ev_5]; exact fb_addI (by omega) (by omega)
      refine j_iadd (pc := 55) (v := v_5) C dX8_add_55 ev_5 ?_
      refine j_put (pc := 56) (ci := 8) (v := .int v_5) (ws' := [(t0, .inr (8, [.ref t1, .int v_5, .int t_next, .int t_kind, .int t_place, .int t_number])), (t1, .inl (cyC, 1000, .inl f_4))]) C inw_8 0 rfl rfl 1 (by decide) wd_254 rfl tyX8_ok nmX8 rfl (tyX8_ok 1 (by decide)) rfl rfl (Nat.le_of_ble_eq_true rfl) dX8_add_56 rfl ?_
      exact j_vret (pc := 59) C hr hk (fun i => [].getD i 0, fun i => [v_5].getD i 0, fun i => [f_4].getD i (fun _ => 0), fun i => [].getD i (fun _ => 0)) rfl (show (0 ≤ (v_5).toInt ∧ (v_5).toInt ≤ 1000) from (by omega)) [0, 1] (by decide) rfl (by decide) (by decide) dX8_add_59
  · skip
    have el_10 : (10 : Int32).toInt = 10 := rfl
    rw [i_eq] at c_1
    refine j_iload_n (pc := 6) C dX8_add_6 rfl 1 rfl ?_
    refine j_bipush (pc := 7) (v := 32) C dX8_add_7 (by decide) ?_
    refine j_icmp_lt (pc := 9) (tgt := 22) C dX8_add_9 (by decide) (fun c_6 => ?_) (fun c_6 => ?_)
    · skip
      have el_32 : (32 : Int32).toInt = 32 := rfl
      rw [i_lt] at c_6
      refine j_iconst (pc := 22) (v := 0) C dX8_add_22 (by decide) ?_
      refine j_istore_n (pc := 23) (lv' := [(2, .int 0), (0, .ref t0), (1, .int p0)]) C dX8_add_23 rfl (by decide) rfl ?_
      refine j_iload_n (pc := 24) C dX8_add_24 rfl 0 rfl ?_
      refine j_if_eq_t (pc := 25) (tgt := 59) C dX8_add_25 (by decide) (by decide) ?_
      exact j_vret (pc := 59) C hr hk (fun i => [].getD i 0, fun i => [t_length].getD i 0, fun i => [t_text].getD i (fun _ => 0), fun i => [].getD i (fun _ => 0)) rfl (show (0 ≤ (t_length).toInt ∧ (t_length).toInt ≤ 1000) from (h_t_length)) [0, 1] (by decide) rfl (by decide) (by decide) dX8_add_59
    · skip
      have el_32 : (32 : Int32).toInt = 32 := rfl
      rw [i_lt] at c_6
      refine j_iload_n (pc := 12) C dX8_add_12 rfl 1 rfl ?_
      refine j_bipush (pc := 13) (v := 126) C dX8_add_13 (by decide) ?_
      refine j_icmp_gt (pc := 15) (tgt := 22) C dX8_add_15 (by decide) (fun c_7 => ?_) (fun c_7 => ?_)
      · skip
        have el_126 : (126 : Int32).toInt = 126 := rfl
        rw [i_lt] at c_7
        refine j_iconst (pc := 22) (v := 0) C dX8_add_22 (by decide) ?_
        refine j_istore_n (pc := 23) (lv' := [(2, .int 0), (0, .ref t0), (1, .int p0)]) C dX8_add_23 rfl (by decide) rfl ?_
        refine j_iload_n (pc := 24) C dX8_add_24 rfl 0 rfl ?_
        refine j_if_eq_t (pc := 25) (tgt := 59) C dX8_add_25 (by decide) (by decide) ?_
        exact j_vret (pc := 59) C hr hk (fun i => [].getD i 0, fun i => [t_length].getD i 0, fun i => [t_text].getD i (fun _ => 0), fun i => [].getD i (fun _ => 0)) rfl (show (0 ≤ (t_length).toInt ∧ (t_length).toInt ≤ 1000) from (h_t_length)) [0, 1] (by decide) rfl (by decide) (by decide) dX8_add_59
      · skip
        have el_126 : (126 : Int32).toInt = 126 := rfl
        rw [i_lt] at c_7
        refine j_iconst (pc := 18) (v := 1) C dX8_add_18 (by decide) ?_
        refine j_goto (pc := 19) (tgt := 23) C dX8_add_19 (by decide) ?_
        refine j_istore_n (pc := 23) (lv' := [(2, .int 1), (0, .ref t0), (1, .int p0)]) C dX8_add_23 rfl (by decide) rfl ?_
        refine j_iload_n (pc := 24) C dX8_add_24 rfl 0 rfl ?_
        refine j_if_eq_f (pc := 25) (tgt := 59) C dX8_add_25 (by decide) (by decide) ?_
        refine j_aload_n (pc := 28) C dX8_add_28 rfl 1 rfl ?_
        refine j_get (pc := 29) (ci := 8) (v := .int t_length) C inw_8 0 rfl rfl 1 (by decide) wd_254 rfl rfl dX8_add_29 ?_
        refine j_sipush (pc := 32) (v := 1000) C dX8_add_32 (by decide) ?_
        refine j_icmp_ge (pc := 35) (tgt := 59) C dX8_add_35 (by decide) (fun c_8 => ?_) (fun c_8 => ?_)
        · skip
          have el_1000 : (1000 : Int32).toInt = 1000 := rfl
          rw [i_le] at c_8
          have k0c_8 : t_length.toInt = 1000 := by omega
          exact j_vret (pc := 59) C hr hk (fun i => [].getD i 0, fun i => [t_length].getD i 0, fun i => [t_text].getD i (fun _ => 0), fun i => [].getD i (fun _ => 0)) rfl (show (0 ≤ (t_length).toInt ∧ (t_length).toInt ≤ 1000) from (h_t_length)) [0, 1] (by decide) rfl (by decide) (by decide) dX8_add_59
        · skip
          have el_1000 : (1000 : Int32).toInt = 1000 := rfl
          rw [i_le] at c_8
          refine j_aload_n (pc := 38) C dX8_add_38 rfl 1 rfl ?_
          refine j_get (pc := 39) (ci := 8) (v := .ref t1) C inw_8 0 rfl rfl 0 (by decide) wd_255 rfl rfl dX8_add_39 ?_
          refine j_aload_n (pc := 42) C dX8_add_42 rfl 1 rfl ?_
          refine j_get (pc := 43) (ci := 8) (v := .int t_length) C inw_8 0 rfl rfl 1 (by decide) wd_254 rfl rfl dX8_add_43 ?_
          refine j_iload_n (pc := 46) C dX8_add_46 rfl 2 rfl ?_
          obtain ⟨v_9, ev_9⟩ : ∃ z : Int32, ((p0 : Int32).toUInt32 % 65536).toInt32 = z := ⟨_, rfl⟩
          have hv_9 : v_9.toInt = p0.toInt := by rw [← ev_9, i2c_id (by omega) (by omega)]
          refine j_i2c (pc := 47) (v := v_9) C dX8_add_47 ev_9 ?_
          obtain ⟨f_10, ef_10⟩ : ∃ z, z = upd t_text (t_length).toInt.toNat (vp_nar .char v_9) := ⟨_, rfl⟩
          refine j_cast (pc := 48) (k := (t_length).toInt.toNat) (ws' := [(t0, .inr (8, [.ref t1, .int t_length, .int t_next, .int t_kind, .int t_place, .int t_number])), (t1, .inl (cyC, 1000, .inl f_10))]) C 1 0 rfl rfl (i_nn h_t_length.1) rfl (i_lt_n h_t_length.1 (by omega)) dX8_add_48 (by rw [ef_10]; rfl) ?_
          refine j_aload_n (pc := 49) C dX8_add_49 rfl 1 rfl ?_
          refine j_dup (pc := 50) C dX8_add_50 rfl ?_
          refine j_get (pc := 51) (ci := 8) (v := .int t_length) C inw_8 0 rfl rfl 1 (by decide) wd_254 rfl rfl dX8_add_51 ?_
          refine j_iconst (pc := 54) (v := 1) C dX8_add_54 (by decide) ?_
          obtain ⟨v_11, ev_11⟩ : ∃ z : Int32, t_length + 1 = z := ⟨_, rfl⟩
          have el_1 : (1 : Int32).toInt = 1 := rfl
          have hv_11 : v_11.toInt = t_length.toInt + (1 : Int32).toInt := by rw [← ev_11]; exact fb_addI (by omega) (by omega)
          refine j_iadd (pc := 55) (v := v_11) C dX8_add_55 ev_11 ?_
          refine j_put (pc := 56) (ci := 8) (v := .int v_11) (ws' := [(t0, .inr (8, [.ref t1, .int v_11, .int t_next, .int t_kind, .int t_place, .int t_number])), (t1, .inl (cyC, 1000, .inl f_10))]) C inw_8 0 rfl rfl 1 (by decide) wd_254 rfl tyX8_ok nmX8 rfl (tyX8_ok 1 (by decide)) rfl rfl (Nat.le_of_ble_eq_true rfl) dX8_add_56 rfl ?_
          exact j_vret (pc := 59) C hr hk (fun i => [].getD i 0, fun i => [v_11].getD i 0, fun i => [f_10].getD i (fun _ => 0), fun i => [].getD i (fun _ => 0)) rfl (show (0 ≤ (v_11).toInt ∧ (v_11).toInt ≤ 1000) from (by omega)) [0, 1] (by decide) rfl (by decide) (by decide) dX8_add_59
set_option maxHeartbeats 4000000 in
set_option maxRecDepth 100000 in
theorem c_X8_pastBlanks (l : Launch) (D : DG) (cyC cyI cyJ cyZ cyO : ClassId) (t0 : Nat) (t1 : Nat) (p0 : Int32) (t_length : Int32) (t_next : Int32) (t_kind : Int32) (t_place : Int32) (t_number : Int32) (t_text : Nat → Int32) (h_t_length : 0 ≤ (t_length).toInt ∧ (t_length).toInt ≤ 1000) (h_t_next : 0 ≤ (t_next).toInt ∧ (t_next).toInt ≤ 1000) (h_t_kind : 0 ≤ (t_kind).toInt ∧ (t_kind).toInt ≤ 4) (h_t_place : 0 ≤ (t_place).toInt ∧ (t_place).toInt ≤ 1000) (h_p0 : 0 ≤ (p0).toInt ∧ (p0).toInt ≤ 1000) : KK l D (TY cyC cyI cyJ cyZ cyO) yX8_pastBlanks cX8_pastBlanks 3 (some .int) ({ frames := 0, cells := 0, slots := 0, locals := 0 } : Room) 0 0 [.ref t0, .int p0] [(t0, .inr (8, [.ref t1, .int t_length, .int t_next, .int t_kind, .int t_place, .int t_number])), (t1, .inl (cyC, 1000, .inl t_text))] (fun u => some (.int (u.2.1 0))) (fun u => (0 ≤ (u.2.1 0).toInt ∧ (u.2.1 0).toInt ≤ 1000)) (fun u => [(t0, .inr (8, [.ref t1, .int t_length, .int t_next, .int t_kind, .int t_place, .int t_number])), (t1, .inl (cyC, 1000, .inl t_text))]) := by
  refine KK.of (lv0 := [(0, .ref t0), (1, .int p0)]) (by decide) rfl (Nat.le_of_ble_eq_true rfl) ?_
  intro p e s m args below meth c A C hr hk hin
  refine j_iload_n (pc := 0) C dX8_pastBlanks_0 rfl 1 rfl ?_
  refine j_istore_n (pc := 1) (lv' := [(2, .int p0), (0, .ref t0), (1, .int p0)]) C dX8_pastBlanks_1 rfl (by decide) rfl ?_
  have loop_1 : ∀ (k_1 : Nat) (x1_2 : Int32), (0 ≤ (x1_2).toInt ∧ (x1_2).toInt ≤ 1000) → (1000 - x1_2.toInt).toNat < k_1 → J p l e ({ frames := 0, cells := 0, slots := 0, locals := 0 } : Room) s m args below meth c D A 3 0 0 (QX below D (TY cyC cyI cyJ cyZ cyO) A (fun u => some (.int (u.2.1 0))) (fun u => (0 ≤ (u.2.1 0).toInt ∧ (u.2.1 0).toInt ≤ 1000)) (fun u => [(t0, .inr (8, [.ref t1, .int t_length, .int t_next, .int t_kind, .int t_place, .int t_number])), (t1, .inl (cyC, 1000, .inl t_text))]) args s 0 0) [(t0, .inr (8, [.ref t1, .int t_length, .int t_next, .int t_kind, .int t_place, .int t_number])), (t1, .inl (cyC, 1000, .inl t_text))] 2 [(2, .int x1_2), (0, .ref t0), (1, .int p0)] [] := by
    intro k_1
    induction k_1 with
    | zero =>
      intro x1_2 hi_1_0 hm_1
      exact absurd hm_1 (Nat.not_lt_zero _)
    | succ k_1 ih_1 =>
      intro x1_2 hi_1_0 hm_1
      refine j_iload_n (pc := 2) C dX8_pastBlanks_2 rfl 0 rfl ?_
      refine j_aload_n (pc := 3) C dX8_pastBlanks_3 rfl 1 rfl ?_
      refine j_get (pc := 4) (ci := 8) (v := .int t_length) C inw_8 0 rfl rfl 1 (by decide) wd_254 rfl rfl dX8_pastBlanks_4 ?_
      refine j_icmp_ge (pc := 7) (tgt := 38) C dX8_pastBlanks_7 (by decide) (fun c_2 => ?_) (fun c_2 => ?_)
      · skip
        rw [i_le] at c_2
        refine j_iload_n (pc := 38) C dX8_pastBlanks_38 rfl 0 rfl ?_
        exact j_iret (pc := 39) C hr hk (fun i => [].getD i 0, fun i => [x1_2].getD i 0, fun i => [].getD i (fun _ => 0), fun i => [].getD i (fun _ => 0)) rfl (show (0 ≤ (x1_2).toInt ∧ (x1_2).toInt ≤ 1000) from (hi_1_0)) [0, 1] (by decide) rfl (by decide) (by decide) dX8_pastBlanks_39
      · skip
        rw [i_le] at c_2
        refine j_aload_n (pc := 10) C dX8_pastBlanks_10 rfl 1 rfl ?_
        refine j_get (pc := 11) (ci := 8) (v := .ref t1) C inw_8 0 rfl rfl 0 (by decide) wd_255 rfl rfl dX8_pastBlanks_11 ?_
        refine j_iload_n (pc := 14) C dX8_pastBlanks_14 rfl 0 rfl ?_
        obtain ⟨v_3, ev_3⟩ : ∃ z, t_text (x1_2).toInt.toNat = z := ⟨_, rfl⟩
        have env_3 : (t_text (x1_2).toInt.toNat).toInt = v_3.toInt := by rw [ev_3]
        refine j_cald (pc := 15) (v := v_3) (k := (x1_2).toInt.toNat) C 1 0 rfl rfl (i_nn hi_1_0.1) rfl (i_lt_n hi_1_0.1 (by omega)) ev_3 dX8_pastBlanks_15 ?_
        refine j_bipush (pc := 16) (v := 10) C dX8_pastBlanks_16 (by decide) ?_
        refine j_icmp_eq (pc := 18) (tgt := 32) C dX8_pastBlanks_18 (by decide) (fun c_4 => ?_) (fun c_4 => ?_)
        · skip
          have el_10 : (10 : Int32).toInt = 10 := rfl
          rw [i_eq] at c_4
          obtain ⟨v_5, ev_5⟩ : ∃ z : Int32, x1_2 + 1 = z := ⟨_, rfl⟩
          have el_1 : (1 : Int32).toInt = 1 := rfl
          have hv_5 : v_5.toInt = x1_2.toInt + (1 : Int32).toInt := by rw [← ev_5]; exact fb_addI (by omega) (by omega)
          refine j_iinc (pc := 32) (v := v_5) (lv' := [(2, .int v_5), (0, .ref t0), (1, .int p0)]) C dX8_pastBlanks_32 0 rfl ev_5 (by decide) rfl ?_
          refine j_goto (pc := 35) (tgt := 2) C dX8_pastBlanks_35 (by decide) ?_
          exact j_lv [0, 1, 2] rfl (ih_1 v_5 (by omega) (by omega))
        · skip
          have el_10 : (10 : Int32).toInt = 10 := rfl
          rw [i_eq] at c_4
          refine j_aload_n (pc := 21) C dX8_pastBlanks_21 rfl 1 rfl ?_
          refine j_get (pc := 22) (ci := 8) (v := .ref t1) C inw_8 0 rfl rfl 0 (by decide) wd_255 rfl rfl dX8_pastBlanks_22 ?_
          refine j_iload_n (pc := 25) C dX8_pastBlanks_25 rfl 0 rfl ?_
          refine j_cald (pc := 26) (v := v_3) (k := (x1_2).toInt.toNat) C 1 0 rfl rfl (i_nn hi_1_0.1) rfl (i_lt_n hi_1_0.1 (by omega)) ev_3 dX8_pastBlanks_26 ?_
          refine j_bipush (pc := 27) (v := 32) C dX8_pastBlanks_27 (by decide) ?_
          refine j_icmp_ne (pc := 29) (tgt := 38) C dX8_pastBlanks_29 (by decide) (fun c_6 => ?_) (fun c_6 => ?_)
          · skip
            have el_32 : (32 : Int32).toInt = 32 := rfl
            rw [i_eq] at c_6
            refine j_iload_n (pc := 38) C dX8_pastBlanks_38 rfl 0 rfl ?_
            exact j_iret (pc := 39) C hr hk (fun i => [].getD i 0, fun i => [x1_2].getD i 0, fun i => [].getD i (fun _ => 0), fun i => [].getD i (fun _ => 0)) rfl (show (0 ≤ (x1_2).toInt ∧ (x1_2).toInt ≤ 1000) from (hi_1_0)) [0, 1] (by decide) rfl (by decide) (by decide) dX8_pastBlanks_39
          · skip
            have el_32 : (32 : Int32).toInt = 32 := rfl
            rw [i_eq] at c_6
            obtain ⟨v_7, ev_7⟩ : ∃ z : Int32, x1_2 + 1 = z := ⟨_, rfl⟩
            have el_1 : (1 : Int32).toInt = 1 := rfl
            have hv_7 : v_7.toInt = x1_2.toInt + (1 : Int32).toInt := by rw [← ev_7]; exact fb_addI (by omega) (by omega)
            refine j_iinc (pc := 32) (v := v_7) (lv' := [(2, .int v_7), (0, .ref t0), (1, .int p0)]) C dX8_pastBlanks_32 0 rfl ev_7 (by decide) rfl ?_
            refine j_goto (pc := 35) (tgt := 2) C dX8_pastBlanks_35 (by decide) ?_
            exact j_lv [0, 1, 2] rfl (ih_1 v_7 (by omega) (by omega))
  exact j_lv [0, 1, 2] rfl (loop_1 4096 p0 h_p0 (by omega))
set_option maxHeartbeats 4000000 in
set_option maxRecDepth 100000 in
theorem c_X8_pastRun (l : Launch) (D : DG) (cyC cyI cyJ cyZ cyO : ClassId) (t0 : Nat) (t1 : Nat) (p0 : Int32) (p1 : Int32) (p2 : Int32) (t_length : Int32) (t_next : Int32) (t_kind : Int32) (t_place : Int32) (t_number : Int32) (t_text : Nat → Int32) (h_t_length : 0 ≤ (t_length).toInt ∧ (t_length).toInt ≤ 1000) (h_t_next : 0 ≤ (t_next).toInt ∧ (t_next).toInt ≤ 1000) (h_t_kind : 0 ≤ (t_kind).toInt ∧ (t_kind).toInt ≤ 4) (h_t_place : 0 ≤ (t_place).toInt ∧ (t_place).toInt ≤ 1000) (h_p0 : 0 ≤ (p0).toInt ∧ (p0).toInt ≤ 1000) : KK l D (TY cyC cyI cyJ cyZ cyO) yX8_pastRun cX8_pastRun 5 (some .int) ({ frames := 0, cells := 0, slots := 0, locals := 0 } : Room) 0 0 [.ref t0, .int p0, .int p1, .int p2] [(t0, .inr (8, [.ref t1, .int t_length, .int t_next, .int t_kind, .int t_place, .int t_number])), (t1, .inl (cyC, 1000, .inl t_text))] (fun u => some (.int (u.2.1 0))) (fun u => (0 ≤ (u.2.1 0).toInt ∧ (u.2.1 0).toInt ≤ 1000)) (fun u => [(t0, .inr (8, [.ref t1, .int t_length, .int t_next, .int t_kind, .int t_place, .int t_number])), (t1, .inl (cyC, 1000, .inl t_text))]) := by
  refine KK.of (lv0 := [(0, .ref t0), (1, .int p0), (2, .int p1), (3, .int p2)]) (by decide) rfl (Nat.le_of_ble_eq_true rfl) ?_
  intro p e s m args below meth c A C hr hk hin
  refine j_iload_n (pc := 0) C dX8_pastRun_0 rfl 1 rfl ?_
  refine j_istore (pc := 1) (lv' := [(4, .int p0), (0, .ref t0), (1, .int p0), (2, .int p1), (3, .int p2)]) C dX8_pastRun_1 (by decide) rfl ?_
  have loop_1 : ∀ (k_1 : Nat) (x1_4 : Int32), (0 ≤ (x1_4).toInt ∧ (x1_4).toInt ≤ 1000) → (1000 - x1_4.toInt).toNat < k_1 → J p l e ({ frames := 0, cells := 0, slots := 0, locals := 0 } : Room) s m args below meth c D A 5 0 0 (QX below D (TY cyC cyI cyJ cyZ cyO) A (fun u => some (.int (u.2.1 0))) (fun u => (0 ≤ (u.2.1 0).toInt ∧ (u.2.1 0).toInt ≤ 1000)) (fun u => [(t0, .inr (8, [.ref t1, .int t_length, .int t_next, .int t_kind, .int t_place, .int t_number])), (t1, .inl (cyC, 1000, .inl t_text))]) args s 0 0) [(t0, .inr (8, [.ref t1, .int t_length, .int t_next, .int t_kind, .int t_place, .int t_number])), (t1, .inl (cyC, 1000, .inl t_text))] 3 [(4, .int x1_4), (0, .ref t0), (1, .int p0), (2, .int p1), (3, .int p2)] [] := by
    intro k_1
    induction k_1 with
    | zero =>
      intro x1_4 hi_1_0 hm_1
      exact absurd hm_1 (Nat.not_lt_zero _)
    | succ k_1 ih_1 =>
      intro x1_4 hi_1_0 hm_1
      refine j_iload (pc := 3) C dX8_pastRun_3 0 rfl ?_
      refine j_aload_n (pc := 5) C dX8_pastRun_5 rfl 1 rfl ?_
      refine j_get (pc := 6) (ci := 8) (v := .int t_length) C inw_8 0 rfl rfl 1 (by decide) wd_254 rfl rfl dX8_pastRun_6 ?_
      refine j_icmp_ge (pc := 9) (tgt := 40) C dX8_pastRun_9 (by decide) (fun c_2 => ?_) (fun c_2 => ?_)
      · skip
        rw [i_le] at c_2
        refine j_iload (pc := 40) C dX8_pastRun_40 0 rfl ?_
        exact j_iret (pc := 42) C hr hk (fun i => [].getD i 0, fun i => [x1_4].getD i 0, fun i => [].getD i (fun _ => 0), fun i => [].getD i (fun _ => 0)) rfl (show (0 ≤ (x1_4).toInt ∧ (x1_4).toInt ≤ 1000) from (hi_1_0)) [0, 1] (by decide) rfl (by decide) (by decide) dX8_pastRun_42
      · skip
        rw [i_le] at c_2
        refine j_aload_n (pc := 12) C dX8_pastRun_12 rfl 1 rfl ?_
        refine j_get (pc := 13) (ci := 8) (v := .ref t1) C inw_8 0 rfl rfl 0 (by decide) wd_255 rfl rfl dX8_pastRun_13 ?_
        refine j_iload (pc := 16) C dX8_pastRun_16 0 rfl ?_
        obtain ⟨v_3, ev_3⟩ : ∃ z, t_text (x1_4).toInt.toNat = z := ⟨_, rfl⟩
        have env_3 : (t_text (x1_4).toInt.toNat).toInt = v_3.toInt := by rw [ev_3]
        refine j_cald (pc := 18) (v := v_3) (k := (x1_4).toInt.toNat) C 1 0 rfl rfl (i_nn hi_1_0.1) rfl (i_lt_n hi_1_0.1 (by omega)) ev_3 dX8_pastRun_18 ?_
        refine j_iload_n (pc := 19) C dX8_pastRun_19 rfl 3 rfl ?_
        refine j_icmp_lt (pc := 20) (tgt := 40) C dX8_pastRun_20 (by decide) (fun c_4 => ?_) (fun c_4 => ?_)
        · skip
          rw [i_lt] at c_4
          refine j_iload (pc := 40) C dX8_pastRun_40 0 rfl ?_
          exact j_iret (pc := 42) C hr hk (fun i => [].getD i 0, fun i => [x1_4].getD i 0, fun i => [].getD i (fun _ => 0), fun i => [].getD i (fun _ => 0)) rfl (show (0 ≤ (x1_4).toInt ∧ (x1_4).toInt ≤ 1000) from (hi_1_0)) [0, 1] (by decide) rfl (by decide) (by decide) dX8_pastRun_42
        · skip
          rw [i_lt] at c_4
          refine j_aload_n (pc := 23) C dX8_pastRun_23 rfl 1 rfl ?_
          refine j_get (pc := 24) (ci := 8) (v := .ref t1) C inw_8 0 rfl rfl 0 (by decide) wd_255 rfl rfl dX8_pastRun_24 ?_
          refine j_iload (pc := 27) C dX8_pastRun_27 0 rfl ?_
          refine j_cald (pc := 29) (v := v_3) (k := (x1_4).toInt.toNat) C 1 0 rfl rfl (i_nn hi_1_0.1) rfl (i_lt_n hi_1_0.1 (by omega)) ev_3 dX8_pastRun_29 ?_
          refine j_iload_n (pc := 30) C dX8_pastRun_30 rfl 4 rfl ?_
          refine j_icmp_gt (pc := 31) (tgt := 40) C dX8_pastRun_31 (by decide) (fun c_5 => ?_) (fun c_5 => ?_)
          · skip
            rw [i_lt] at c_5
            refine j_iload (pc := 40) C dX8_pastRun_40 0 rfl ?_
            exact j_iret (pc := 42) C hr hk (fun i => [].getD i 0, fun i => [x1_4].getD i 0, fun i => [].getD i (fun _ => 0), fun i => [].getD i (fun _ => 0)) rfl (show (0 ≤ (x1_4).toInt ∧ (x1_4).toInt ≤ 1000) from (hi_1_0)) [0, 1] (by decide) rfl (by decide) (by decide) dX8_pastRun_42
          · skip
            rw [i_lt] at c_5
            obtain ⟨v_6, ev_6⟩ : ∃ z : Int32, x1_4 + 1 = z := ⟨_, rfl⟩
            have el_1 : (1 : Int32).toInt = 1 := rfl
            have hv_6 : v_6.toInt = x1_4.toInt + (1 : Int32).toInt := by rw [← ev_6]; exact fb_addI (by omega) (by omega)
            refine j_iinc (pc := 34) (v := v_6) (lv' := [(4, .int v_6), (0, .ref t0), (1, .int p0), (2, .int p1), (3, .int p2)]) C dX8_pastRun_34 0 rfl ev_6 (by decide) rfl ?_
            refine j_goto (pc := 37) (tgt := 3) C dX8_pastRun_37 (by decide) ?_
            exact j_lv [0, 1, 2, 3, 4] rfl (ih_1 v_6 (by omega) (by omega))
  exact j_lv [0, 1, 2, 3, 4] rfl (loop_1 4096 p0 h_p0 (by omega))
set_option maxHeartbeats 4000000 in
set_option maxRecDepth 100000 in
theorem c_X8_valueOf (l : Launch) (D : DG) (cyC cyI cyJ cyZ cyO : ClassId) (t0 : Nat) (t1 : Nat) (p0 : Int32) (p1 : Int32) (t_length : Int32) (t_next : Int32) (t_kind : Int32) (t_place : Int32) (t_number : Int32) (t_text : Nat → Int32) (h_t_length : 0 ≤ (t_length).toInt ∧ (t_length).toInt ≤ 1000) (h_t_next : 0 ≤ (t_next).toInt ∧ (t_next).toInt ≤ 1000) (h_t_kind : 0 ≤ (t_kind).toInt ∧ (t_kind).toInt ≤ 4) (h_t_place : 0 ≤ (t_place).toInt ∧ (t_place).toInt ≤ 1000) (h_p0 : 0 ≤ (p0).toInt ∧ (p0).toInt ≤ 1000) (h_p1 : 0 ≤ (p1).toInt ∧ (p1).toInt ≤ 1000) : KK l D (TY cyC cyI cyJ cyZ cyO) yX8_valueOf cX8_valueOf 5 (some .int) ({ frames := 0, cells := 0, slots := 0, locals := 0 } : Room) 0 0 [.ref t0, .int p0, .int p1] [(t0, .inr (8, [.ref t1, .int t_length, .int t_next, .int t_kind, .int t_place, .int t_number])), (t1, .inl (cyC, 1000, .inl t_text))] (fun u => some (.int (u.2.1 0))) (fun u => True) (fun u => [(t0, .inr (8, [.ref t1, .int t_length, .int t_next, .int t_kind, .int t_place, .int t_number])), (t1, .inl (cyC, 1000, .inl t_text))]) := by
  refine KK.of (lv0 := [(0, .ref t0), (1, .int p0), (2, .int p1)]) (by decide) rfl (Nat.le_of_ble_eq_true rfl) ?_
  intro p e s m args below meth c A C hr hk hin
  refine j_iconst (pc := 0) (v := 0) C dX8_valueOf_0 (by decide) ?_
  refine j_istore_n (pc := 1) (lv' := [(3, .int 0), (0, .ref t0), (1, .int p0), (2, .int p1)]) C dX8_valueOf_1 rfl (by decide) rfl ?_
  refine j_iload_n (pc := 2) C dX8_valueOf_2 rfl 2 rfl ?_
  refine j_istore (pc := 3) (lv' := [(4, .int p0), (3, .int 0), (0, .ref t0), (1, .int p0), (2, .int p1)]) C dX8_valueOf_3 (by decide) rfl ?_
  have loop_1 : ∀ (k_1 : Nat) (x1_4 : Int32) (x1_3 : Int32), (0 ≤ (x1_4).toInt ∧ (x1_4).toInt ≤ 1000) → (1000 - x1_4.toInt).toNat < k_1 → J p l e ({ frames := 0, cells := 0, slots := 0, locals := 0 } : Room) s m args below meth c D A 5 0 0 (QX below D (TY cyC cyI cyJ cyZ cyO) A (fun u => some (.int (u.2.1 0))) (fun u => True) (fun u => [(t0, .inr (8, [.ref t1, .int t_length, .int t_next, .int t_kind, .int t_place, .int t_number])), (t1, .inl (cyC, 1000, .inl t_text))]) args s 0 0) [(t0, .inr (8, [.ref t1, .int t_length, .int t_next, .int t_kind, .int t_place, .int t_number])), (t1, .inl (cyC, 1000, .inl t_text))] 5 [(4, .int x1_4), (3, .int x1_3), (0, .ref t0), (1, .int p0), (2, .int p1)] [] := by
    intro k_1
    induction k_1 with
    | zero =>
      intro x1_4 x1_3 hi_1_0 hm_1
      exact absurd hm_1 (Nat.not_lt_zero _)
    | succ k_1 ih_1 =>
      intro x1_4 x1_3 hi_1_0 hm_1
      refine j_iload (pc := 5) C dX8_valueOf_5 0 rfl ?_
      refine j_iload_n (pc := 7) C dX8_valueOf_7 rfl 4 rfl ?_
      refine j_icmp_ge (pc := 8) (tgt := 33) C dX8_valueOf_8 (by decide) (fun c_2 => ?_) (fun c_2 => ?_)
      · skip
        rw [i_le] at c_2
        refine j_iload_n (pc := 33) C dX8_valueOf_33 rfl 1 rfl ?_
        exact j_iret (pc := 34) C hr hk (fun i => [].getD i 0, fun i => [x1_3].getD i 0, fun i => [].getD i (fun _ => 0), fun i => [].getD i (fun _ => 0)) rfl trivial [0, 1] (by decide) rfl (by decide) (by decide) dX8_valueOf_34
      · skip
        rw [i_le] at c_2
        refine j_iload_n (pc := 11) C dX8_valueOf_11 rfl 1 rfl ?_
        refine j_bipush (pc := 12) (v := 10) C dX8_valueOf_12 (by decide) ?_
        obtain ⟨v_3, ev_3⟩ : ∃ z : Int32, x1_3 * 10 = z := ⟨_, rfl⟩
        have el_10 : (10 : Int32).toInt = 10 := rfl
        refine j_imul (pc := 14) (v := v_3) C dX8_valueOf_14 ev_3 ?_
        refine j_aload_n (pc := 15) C dX8_valueOf_15 rfl 2 rfl ?_
        refine j_get (pc := 16) (ci := 8) (v := .ref t1) C inw_8 0 rfl rfl 0 (by decide) wd_255 rfl rfl dX8_valueOf_16 ?_
        refine j_iload (pc := 19) C dX8_valueOf_19 0 rfl ?_
        obtain ⟨v_4, ev_4⟩ : ∃ z, t_text (x1_4).toInt.toNat = z := ⟨_, rfl⟩
        have env_4 : (t_text (x1_4).toInt.toNat).toInt = v_4.toInt := by rw [ev_4]
        refine j_cald (pc := 21) (v := v_4) (k := (x1_4).toInt.toNat) C 1 0 rfl rfl (i_nn hi_1_0.1) rfl (i_lt_n hi_1_0.1 (by omega)) ev_4 dX8_valueOf_21 ?_
        obtain ⟨v_5, ev_5⟩ : ∃ z : Int32, v_3 + v_4 = z := ⟨_, rfl⟩
        refine j_iadd (pc := 22) (v := v_5) C dX8_valueOf_22 ev_5 ?_
        refine j_bipush (pc := 23) (v := 48) C dX8_valueOf_23 (by decide) ?_
        obtain ⟨v_6, ev_6⟩ : ∃ z : Int32, v_5 - 48 = z := ⟨_, rfl⟩
        have el_48 : (48 : Int32).toInt = 48 := rfl
        refine j_isub (pc := 25) (v := v_6) C dX8_valueOf_25 ev_6 ?_
        refine j_istore_n (pc := 26) (lv' := [(3, .int v_6), (4, .int x1_4), (0, .ref t0), (1, .int p0), (2, .int p1)]) C dX8_valueOf_26 rfl (by decide) rfl ?_
        obtain ⟨v_7, ev_7⟩ : ∃ z : Int32, x1_4 + 1 = z := ⟨_, rfl⟩
        have el_1 : (1 : Int32).toInt = 1 := rfl
        have hv_7 : v_7.toInt = x1_4.toInt + (1 : Int32).toInt := by rw [← ev_7]; exact fb_addI (by omega) (by omega)
        refine j_iinc (pc := 27) (v := v_7) (lv' := [(4, .int v_7), (3, .int v_6), (0, .ref t0), (1, .int p0), (2, .int p1)]) C dX8_valueOf_27 1 rfl ev_7 (by decide) rfl ?_
        refine j_goto (pc := 30) (tgt := 5) C dX8_valueOf_30 (by decide) ?_
        exact j_lv [0, 1, 2, 3, 4] rfl (ih_1 v_7 v_6 (by omega) (by omega))
  have el_0 : (0 : Int32).toInt = 0 := rfl
  exact j_lv [0, 1, 2, 3, 4] rfl (loop_1 4096 p0 0 h_p0 (by omega))
set_option maxHeartbeats 4000000 in
set_option maxRecDepth 100000 in
theorem c_X8_advance (l : Launch) (D : DG) (cyC cyI cyJ cyZ cyO : ClassId) (t0 : Nat) (t1 : Nat) (t_length : Int32) (t_next : Int32) (t_kind : Int32) (t_place : Int32) (t_number : Int32) (t_text : Nat → Int32) (h_t_length : 0 ≤ (t_length).toInt ∧ (t_length).toInt ≤ 1000) (h_t_next : 0 ≤ (t_next).toInt ∧ (t_next).toInt ≤ 1000) (h_t_kind : 0 ≤ (t_kind).toInt ∧ (t_kind).toInt ≤ 4) (h_t_place : 0 ≤ (t_place).toInt ∧ (t_place).toInt ≤ 1000) : KK l D (TY cyC cyI cyJ cyZ cyO) yX8_advance cX8_advance 3 none ({ frames := 4, cells := 0, slots := 0, locals := 91 } : Room) 0 0 [.ref t0] [(t0, .inr (8, [.ref t1, .int t_length, .int t_next, .int t_kind, .int t_place, .int t_number])), (t1, .inl (cyC, 1000, .inl t_text))] (fun u => none) (fun u => (0 ≤ (u.2.1 0).toInt ∧ (u.2.1 0).toInt ≤ 1000) ∧ (0 ≤ (u.2.1 1).toInt ∧ (u.2.1 1).toInt ≤ 4) ∧ (0 ≤ (u.2.1 2).toInt ∧ (u.2.1 2).toInt ≤ 1000) ∧ (¬ ((u.2.1 1)).toInt = 3 ∨ ((u.2.1 2)).toInt ≤ 999)) (fun u => [(t0, .inr (8, [.ref t1, .int t_length, .int (u.2.1 0), .int (u.2.1 1), .int (u.2.1 2), .int (u.2.1 3)])), (t1, .inl (cyC, 1000, .inl t_text))]) := by
  refine KK.of (lv0 := [(0, .ref t0)]) (by decide) rfl (Nat.le_of_ble_eq_true rfl) ?_
  intro p e s m args below meth c A C hr hk hin
  refine j_aload_n (pc := 0) C dX8_advance_0 rfl 0 rfl ?_
  refine j_aload_n (pc := 1) C dX8_advance_1 rfl 0 rfl ?_
  refine j_aload_n (pc := 2) C dX8_advance_2 rfl 0 rfl ?_
  refine j_get (pc := 3) (ci := 8) (v := .int t_next) C inw_8 0 rfl rfl 2 (by decide) wd_256 rfl rfl dX8_advance_3 ?_
  refine j_callV (pc := 6) (As := [.int t_next]) (rest := [.ref t0]) (wr := []) C (c_X8_pastBlanks l D cyC cyI cyJ cyZ cyO t0 t1 t_next t_length t_next t_kind t_place t_number t_text h_t_length h_t_next h_t_kind h_t_place h_t_next) wd_257 wd_258 wd_259 wd_260 wd_261 ⟨by decide, by decide, rfl⟩ rfl ⟨rfl, rfl, by decide, by decide⟩ ⟨by decide, by decide⟩ [0, 1] [] rfl rfl ⟨by decide, by decide, by decide⟩ 0 rfl rfl rfl (Nat.le_of_ble_eq_true rfl) dX8_advance_6 (fun u_1 hw_2 => ?_)
  refine j_eq (ws2 := [(t0, .inr (8, [.ref t1, .int t_length, .int t_next, .int t_kind, .int t_place, .int t_number])), (t1, .inl (cyC, 1000, .inl t_text))]) (pc2 := 9) (lv2 := [(0, .ref t0)]) (st2 := [.int (u_1.2.1 0), .ref t0]) rfl rfl rfl rfl ?_
  have hw_2_0 : 0 ≤ (u_1.2.1 0).toInt ∧ (u_1.2.1 0).toInt ≤ 1000 := hw_2
  refine j_put (pc := 9) (ci := 8) (v := .int (u_1.2.1 0)) (ws' := [(t0, .inr (8, [.ref t1, .int t_length, .int t_next, .int t_kind, .int (u_1.2.1 0), .int t_number])), (t1, .inl (cyC, 1000, .inl t_text))]) C inw_8 0 rfl rfl 4 (by decide) wd_262 rfl tyX8_ok nmX8 rfl (tyX8_ok 4 (by decide)) rfl rfl (Nat.le_of_ble_eq_true rfl) dX8_advance_9 rfl ?_
  refine j_aload_n (pc := 12) C dX8_advance_12 rfl 0 rfl ?_
  refine j_aload_n (pc := 13) C dX8_advance_13 rfl 0 rfl ?_
  refine j_get (pc := 14) (ci := 8) (v := .int (u_1.2.1 0)) C inw_8 0 rfl rfl 4 (by decide) wd_262 rfl rfl dX8_advance_14 ?_
  refine j_bipush (pc := 17) (v := 97) C dX8_advance_17 (by decide) ?_
  refine j_bipush (pc := 19) (v := 122) C dX8_advance_19 (by decide) ?_
  refine j_callV (pc := 21) (As := [.int (u_1.2.1 0), .int 97, .int 122]) (rest := []) (wr := []) C (c_X8_pastRun l D cyC cyI cyJ cyZ cyO t0 t1 (u_1.2.1 0) 97 122 t_length t_next t_kind (u_1.2.1 0) t_number t_text h_t_length h_t_next h_t_kind hw_2_0 hw_2_0) wd_263 wd_258 wd_264 wd_265 wd_266 ⟨by decide, by decide, rfl⟩ rfl ⟨rfl, rfl, by decide, by decide⟩ ⟨by decide, by decide⟩ [0, 1] [] rfl rfl ⟨by decide, by decide, by decide⟩ 0 rfl rfl rfl (Nat.le_of_ble_eq_true rfl) dX8_advance_21 (fun u_3 hw_4 => ?_)
  refine j_eq (ws2 := [(t0, .inr (8, [.ref t1, .int t_length, .int t_next, .int t_kind, .int (u_1.2.1 0), .int t_number])), (t1, .inl (cyC, 1000, .inl t_text))]) (pc2 := 24) (lv2 := [(0, .ref t0)]) (st2 := [.int (u_3.2.1 0)]) rfl rfl rfl rfl ?_
  have hw_4_0 : 0 ≤ (u_3.2.1 0).toInt ∧ (u_3.2.1 0).toInt ≤ 1000 := hw_4
  refine j_istore_n (pc := 24) (lv' := [(1, .int (u_3.2.1 0)), (0, .ref t0)]) C dX8_advance_24 rfl (by decide) rfl ?_
  refine j_aload_n (pc := 25) C dX8_advance_25 rfl 1 rfl ?_
  refine j_aload_n (pc := 26) C dX8_advance_26 rfl 1 rfl ?_
  refine j_get (pc := 27) (ci := 8) (v := .int (u_1.2.1 0)) C inw_8 0 rfl rfl 4 (by decide) wd_262 rfl rfl dX8_advance_27 ?_
  refine j_bipush (pc := 30) (v := 48) C dX8_advance_30 (by decide) ?_
  refine j_bipush (pc := 32) (v := 57) C dX8_advance_32 (by decide) ?_
  refine j_callV (pc := 34) (As := [.int (u_1.2.1 0), .int 48, .int 57]) (rest := []) (wr := []) C (c_X8_pastRun l D cyC cyI cyJ cyZ cyO t0 t1 (u_1.2.1 0) 48 57 t_length t_next t_kind (u_1.2.1 0) t_number t_text h_t_length h_t_next h_t_kind hw_2_0 hw_2_0) wd_263 wd_258 wd_264 wd_265 wd_266 ⟨by decide, by decide, rfl⟩ rfl ⟨rfl, rfl, by decide, by decide⟩ ⟨by decide, by decide⟩ [0, 1] [] rfl rfl ⟨by decide, by decide, by decide⟩ 0 rfl rfl rfl (Nat.le_of_ble_eq_true rfl) dX8_advance_34 (fun u_5 hw_6 => ?_)
  refine j_eq (ws2 := [(t0, .inr (8, [.ref t1, .int t_length, .int t_next, .int t_kind, .int (u_1.2.1 0), .int t_number])), (t1, .inl (cyC, 1000, .inl t_text))]) (pc2 := 37) (lv2 := [(1, .int (u_3.2.1 0)), (0, .ref t0)]) (st2 := [.int (u_5.2.1 0)]) rfl rfl rfl rfl ?_
  have hw_6_0 : 0 ≤ (u_5.2.1 0).toInt ∧ (u_5.2.1 0).toInt ≤ 1000 := hw_6
  refine j_istore_n (pc := 37) (lv' := [(2, .int (u_5.2.1 0)), (1, .int (u_3.2.1 0)), (0, .ref t0)]) C dX8_advance_37 rfl (by decide) rfl ?_
  refine j_aload_n (pc := 38) C dX8_advance_38 rfl 2 rfl ?_
  refine j_get (pc := 39) (ci := 8) (v := .int (u_1.2.1 0)) C inw_8 0 rfl rfl 4 (by decide) wd_262 rfl rfl dX8_advance_39 ?_
  refine j_aload_n (pc := 42) C dX8_advance_42 rfl 2 rfl ?_
  refine j_get (pc := 43) (ci := 8) (v := .int t_length) C inw_8 0 rfl rfl 1 (by decide) wd_254 rfl rfl dX8_advance_43 ?_
  refine j_icmp_lt (pc := 46) (tgt := 65) C dX8_advance_46 (by decide) (fun c_7 => ?_) (fun c_7 => ?_)
  · skip
    rw [i_lt] at c_7
    refine j_iload_n (pc := 65) C dX8_advance_65 rfl 1 rfl ?_
    refine j_aload_n (pc := 66) C dX8_advance_66 rfl 2 rfl ?_
    refine j_get (pc := 67) (ci := 8) (v := .int (u_1.2.1 0)) C inw_8 0 rfl rfl 4 (by decide) wd_262 rfl rfl dX8_advance_67 ?_
    refine j_icmp_le (pc := 70) (tgt := 104) C dX8_advance_70 (by decide) (fun c_8 => ?_) (fun c_8 => ?_)
    · skip
      rw [i_le] at c_8
      refine j_iload_n (pc := 104) C dX8_advance_104 rfl 0 rfl ?_
      refine j_aload_n (pc := 105) C dX8_advance_105 rfl 2 rfl ?_
      refine j_get (pc := 106) (ci := 8) (v := .int (u_1.2.1 0)) C inw_8 0 rfl rfl 4 (by decide) wd_262 rfl rfl dX8_advance_106 ?_
      refine j_icmp_le (pc := 109) (tgt := 170) C dX8_advance_109 (by decide) (fun c_9 => ?_) (fun c_9 => ?_)
      · skip
        rw [i_le] at c_9
        refine j_aload_n (pc := 170) C dX8_advance_170 rfl 2 rfl ?_
        refine j_aload_n (pc := 171) C dX8_advance_171 rfl 2 rfl ?_
        refine j_get (pc := 172) (ci := 8) (v := .int (u_1.2.1 0)) C inw_8 0 rfl rfl 4 (by decide) wd_262 rfl rfl dX8_advance_172 ?_
        refine j_iconst (pc := 175) (v := 1) C dX8_advance_175 (by decide) ?_
        obtain ⟨v_10, ev_10⟩ : ∃ z : Int32, (u_1.2.1 0) + 1 = z := ⟨_, rfl⟩
        have el_1 : (1 : Int32).toInt = 1 := rfl
        have hv_10 : v_10.toInt = ((u_1.2.1 0)).toInt + (1 : Int32).toInt := by rw [← ev_10]; exact fb_addI (by omega) (by omega)
        refine j_iadd (pc := 176) (v := v_10) C dX8_advance_176 ev_10 ?_
        refine j_put (pc := 177) (ci := 8) (v := .int v_10) (ws' := [(t0, .inr (8, [.ref t1, .int t_length, .int v_10, .int t_kind, .int (u_1.2.1 0), .int t_number])), (t1, .inl (cyC, 1000, .inl t_text))]) C inw_8 0 rfl rfl 2 (by decide) wd_256 rfl tyX8_ok nmX8 rfl (tyX8_ok 2 (by decide)) rfl rfl (Nat.le_of_ble_eq_true rfl) dX8_advance_177 rfl ?_
        refine j_aload_n (pc := 180) C dX8_advance_180 rfl 2 rfl ?_
        refine j_ldcS (pc := 181) (i := 25) C (by decide) rfl dX8_advance_181 ?_
        refine j_aload_n (pc := 183) C dX8_advance_183 rfl 2 rfl ?_
        refine j_get (pc := 184) (ci := 8) (v := .ref t1) C inw_8 0 rfl rfl 0 (by decide) wd_255 rfl rfl dX8_advance_184 ?_
        refine j_aload_n (pc := 187) C dX8_advance_187 rfl 2 rfl ?_
        refine j_get (pc := 188) (ci := 8) (v := .int (u_1.2.1 0)) C inw_8 0 rfl rfl 4 (by decide) wd_262 rfl rfl dX8_advance_188 ?_
        obtain ⟨v_11, ev_11⟩ : ∃ z, t_text ((u_1.2.1 0)).toInt.toNat = z := ⟨_, rfl⟩
        have env_11 : (t_text ((u_1.2.1 0)).toInt.toNat).toInt = v_11.toInt := by rw [ev_11]
        refine j_cald (pc := 191) (v := v_11) (k := ((u_1.2.1 0)).toInt.toNat) C 1 0 rfl rfl (i_nn hw_2_0.1) rfl (i_lt_n hw_2_0.1 (by omega)) ev_11 dX8_advance_191 ?_
        refine j_callT (pc := 192) (As := [.int v_11]) (rest := [.ref t0]) (wr := [(t0, .inr (8, [.ref t1, .int t_length, .int v_10, .int t_kind, .int (u_1.2.1 0), .int t_number])), (t1, .inl (cyC, 1000, .inl t_text))]) C (c_J0_indexOf_0f7a4 l D cyC cyI cyJ cyZ cyO 25 v_11 (by decide)) wd_267 wd_220 wd_268 wd_269 wd_270 ⟨by decide, by decide, rfl⟩ rfl ⟨rfl, rfl, by decide, by decide⟩ ⟨by decide, by decide⟩ [] [0, 1] rfl rfl ⟨by decide, by decide, by decide⟩ (by decide) rfl rfl (Nat.le_of_ble_eq_true rfl) dX8_advance_192 (fun u_12 hw_13 => ?_)
        refine j_eq (ws2 := [(t0, .inr (8, [.ref t1, .int t_length, .int v_10, .int t_kind, .int (u_1.2.1 0), .int t_number])), (t1, .inl (cyC, 1000, .inl t_text))]) (pc2 := 195) (lv2 := [(2, .int (u_5.2.1 0)), (1, .int (u_3.2.1 0)), (0, .ref t0)]) (st2 := [.int (u_12.2.1 0), .ref t0]) rfl rfl rfl rfl ?_
        have hw_13_0 : -1 ≤ (u_12.2.1 0).toInt ∧ (u_12.2.1 0).toInt ≤ 20 := hw_13
        refine j_if_lt (pc := 195) (tgt := 202) C dX8_advance_195 (by decide) (fun c_14 => ?_) (fun c_14 => ?_)
        · skip
          have el_0 : (0 : Int32).toInt = 0 := rfl
          rw [i_lt] at c_14
          have k0c_14 : ((u_12.2.1 0)).toInt = -1 := by omega
          refine j_iconst (pc := 202) (v := 4) C dX8_advance_202 (by decide) ?_
          refine j_put (pc := 203) (ci := 8) (v := .int 4) (ws' := [(t0, .inr (8, [.ref t1, .int t_length, .int v_10, .int 4, .int (u_1.2.1 0), .int t_number])), (t1, .inl (cyC, 1000, .inl t_text))]) C inw_8 0 rfl rfl 3 (by decide) wd_271 rfl tyX8_ok nmX8 rfl (tyX8_ok 3 (by decide)) rfl rfl (Nat.le_of_ble_eq_true rfl) dX8_advance_203 rfl ?_
          have el_4 : (4 : Int32).toInt = 4 := rfl
          have el_4 : (4 : Int32).toInt = 4 := rfl
          exact j_vret (pc := 206) C hr hk (fun i => [].getD i 0, fun i => [v_10, 4, (u_1.2.1 0), t_number].getD i 0, fun i => [].getD i (fun _ => 0), fun i => [].getD i (fun _ => 0)) rfl (show (0 ≤ (v_10).toInt ∧ (v_10).toInt ≤ 1000) ∧ (0 ≤ ((4 : Int32)).toInt ∧ ((4 : Int32)).toInt ≤ 4) ∧ (0 ≤ ((u_1.2.1 0)).toInt ∧ ((u_1.2.1 0)).toInt ≤ 1000) ∧ (¬ ((4 : Int32)).toInt = 3 ∨ ((u_1.2.1 0)).toInt ≤ 999) from ⟨by omega, by omega, hw_2_0, by omega⟩) [0, 1] (by decide) rfl (by decide) (by decide) dX8_advance_206
        · skip
          have el_0 : (0 : Int32).toInt = 0 := rfl
          rw [i_lt] at c_14
          refine j_iconst (pc := 198) (v := 3) C dX8_advance_198 (by decide) ?_
          refine j_goto (pc := 199) (tgt := 203) C dX8_advance_199 (by decide) ?_
          refine j_put (pc := 203) (ci := 8) (v := .int 3) (ws' := [(t0, .inr (8, [.ref t1, .int t_length, .int v_10, .int 3, .int (u_1.2.1 0), .int t_number])), (t1, .inl (cyC, 1000, .inl t_text))]) C inw_8 0 rfl rfl 3 (by decide) wd_271 rfl tyX8_ok nmX8 rfl (tyX8_ok 3 (by decide)) rfl rfl (Nat.le_of_ble_eq_true rfl) dX8_advance_203 rfl ?_
          have el_3 : (3 : Int32).toInt = 3 := rfl
          have el_3 : (3 : Int32).toInt = 3 := rfl
          exact j_vret (pc := 206) C hr hk (fun i => [].getD i 0, fun i => [v_10, 3, (u_1.2.1 0), t_number].getD i 0, fun i => [].getD i (fun _ => 0), fun i => [].getD i (fun _ => 0)) rfl (show (0 ≤ (v_10).toInt ∧ (v_10).toInt ≤ 1000) ∧ (0 ≤ ((3 : Int32)).toInt ∧ ((3 : Int32)).toInt ≤ 4) ∧ (0 ≤ ((u_1.2.1 0)).toInt ∧ ((u_1.2.1 0)).toInt ≤ 1000) ∧ (¬ ((3 : Int32)).toInt = 3 ∨ ((u_1.2.1 0)).toInt ≤ 999) from ⟨by omega, by omega, hw_2_0, by omega⟩) [0, 1] (by decide) rfl (by decide) (by decide) dX8_advance_206
      · skip
        rw [i_le] at c_9
        refine j_aload_n (pc := 112) C dX8_advance_112 rfl 2 rfl ?_
        refine j_iload_n (pc := 113) C dX8_advance_113 rfl 0 rfl ?_
        refine j_put (pc := 114) (ci := 8) (v := .int (u_5.2.1 0)) (ws' := [(t0, .inr (8, [.ref t1, .int t_length, .int (u_5.2.1 0), .int t_kind, .int (u_1.2.1 0), .int t_number])), (t1, .inl (cyC, 1000, .inl t_text))]) C inw_8 0 rfl rfl 2 (by decide) wd_256 rfl tyX8_ok nmX8 rfl (tyX8_ok 2 (by decide)) rfl rfl (Nat.le_of_ble_eq_true rfl) dX8_advance_114 rfl ?_
        refine j_aload_n (pc := 117) C dX8_advance_117 rfl 2 rfl ?_
        refine j_aload_n (pc := 118) C dX8_advance_118 rfl 2 rfl ?_
        refine j_get (pc := 119) (ci := 8) (v := .int (u_5.2.1 0)) C inw_8 0 rfl rfl 2 (by decide) wd_256 rfl rfl dX8_advance_119 ?_
        refine j_aload_n (pc := 122) C dX8_advance_122 rfl 2 rfl ?_
        refine j_get (pc := 123) (ci := 8) (v := .int (u_1.2.1 0)) C inw_8 0 rfl rfl 4 (by decide) wd_262 rfl rfl dX8_advance_123 ?_
        obtain ⟨v_15, ev_15⟩ : ∃ z : Int32, (u_5.2.1 0) - (u_1.2.1 0) = z := ⟨_, rfl⟩
        have hv_15 : v_15.toInt = ((u_5.2.1 0)).toInt - ((u_1.2.1 0)).toInt := by rw [← ev_15]; exact fb_subI (by omega) (by omega)
        refine j_isub (pc := 126) (v := v_15) C dX8_advance_126 ev_15 ?_
        refine j_iconst (pc := 127) (v := 4) C dX8_advance_127 (by decide) ?_
        refine j_icmp_gt (pc := 128) (tgt := 135) C dX8_advance_128 (by decide) (fun c_16 => ?_) (fun c_16 => ?_)
        · skip
          have el_4 : (4 : Int32).toInt = 4 := rfl
          rw [i_lt] at c_16
          refine j_iconst (pc := 135) (v := 4) C dX8_advance_135 (by decide) ?_
          refine j_put (pc := 136) (ci := 8) (v := .int 4) (ws' := [(t0, .inr (8, [.ref t1, .int t_length, .int (u_5.2.1 0), .int 4, .int (u_1.2.1 0), .int t_number])), (t1, .inl (cyC, 1000, .inl t_text))]) C inw_8 0 rfl rfl 3 (by decide) wd_271 rfl tyX8_ok nmX8 rfl (tyX8_ok 3 (by decide)) rfl rfl (Nat.le_of_ble_eq_true rfl) dX8_advance_136 rfl ?_
          refine j_aload_n (pc := 139) C dX8_advance_139 rfl 2 rfl ?_
          refine j_aload_n (pc := 140) C dX8_advance_140 rfl 2 rfl ?_
          refine j_get (pc := 141) (ci := 8) (v := .int 4) C inw_8 0 rfl rfl 3 (by decide) wd_271 rfl rfl dX8_advance_141 ?_
          refine j_iconst (pc := 144) (v := 2) C dX8_advance_144 (by decide) ?_
          refine j_icmp_ne_t (pc := 145) (tgt := 163) C dX8_advance_145 (by decide) (by decide) ?_
          refine j_iconst (pc := 163) (v := 0) C dX8_advance_163 (by decide) ?_
          refine j_put (pc := 164) (ci := 8) (v := .int 0) (ws' := [(t0, .inr (8, [.ref t1, .int t_length, .int (u_5.2.1 0), .int 4, .int (u_1.2.1 0), .int 0])), (t1, .inl (cyC, 1000, .inl t_text))]) C inw_8 0 rfl rfl 5 (by decide) wd_272 rfl tyX8_ok nmX8 rfl (tyX8_ok 5 (by decide)) rfl rfl (Nat.le_of_ble_eq_true rfl) dX8_advance_164 rfl ?_
          refine j_goto (pc := 167) (tgt := 206) C dX8_advance_167 (by decide) ?_
          have el_4 : (4 : Int32).toInt = 4 := rfl
          have el_4 : (4 : Int32).toInt = 4 := rfl
          have el_0 : (0 : Int32).toInt = 0 := rfl
          exact j_vret (pc := 206) C hr hk (fun i => [].getD i 0, fun i => [(u_5.2.1 0), 4, (u_1.2.1 0), 0].getD i 0, fun i => [].getD i (fun _ => 0), fun i => [].getD i (fun _ => 0)) rfl (show (0 ≤ ((u_5.2.1 0)).toInt ∧ ((u_5.2.1 0)).toInt ≤ 1000) ∧ (0 ≤ ((4 : Int32)).toInt ∧ ((4 : Int32)).toInt ≤ 4) ∧ (0 ≤ ((u_1.2.1 0)).toInt ∧ ((u_1.2.1 0)).toInt ≤ 1000) ∧ (¬ ((4 : Int32)).toInt = 3 ∨ ((u_1.2.1 0)).toInt ≤ 999) from ⟨hw_6_0, by omega, hw_2_0, by omega⟩) [0, 1] (by decide) rfl (by decide) (by decide) dX8_advance_206
        · skip
          have el_4 : (4 : Int32).toInt = 4 := rfl
          rw [i_lt] at c_16
          refine j_iconst (pc := 131) (v := 2) C dX8_advance_131 (by decide) ?_
          refine j_goto (pc := 132) (tgt := 136) C dX8_advance_132 (by decide) ?_
          refine j_put (pc := 136) (ci := 8) (v := .int 2) (ws' := [(t0, .inr (8, [.ref t1, .int t_length, .int (u_5.2.1 0), .int 2, .int (u_1.2.1 0), .int t_number])), (t1, .inl (cyC, 1000, .inl t_text))]) C inw_8 0 rfl rfl 3 (by decide) wd_271 rfl tyX8_ok nmX8 rfl (tyX8_ok 3 (by decide)) rfl rfl (Nat.le_of_ble_eq_true rfl) dX8_advance_136 rfl ?_
          refine j_aload_n (pc := 139) C dX8_advance_139 rfl 2 rfl ?_
          refine j_aload_n (pc := 140) C dX8_advance_140 rfl 2 rfl ?_
          refine j_get (pc := 141) (ci := 8) (v := .int 2) C inw_8 0 rfl rfl 3 (by decide) wd_271 rfl rfl dX8_advance_141 ?_
          refine j_iconst (pc := 144) (v := 2) C dX8_advance_144 (by decide) ?_
          refine j_icmp_ne_f (pc := 145) (tgt := 163) C dX8_advance_145 (by decide) (by decide) ?_
          refine j_aload_n (pc := 148) C dX8_advance_148 rfl 2 rfl ?_
          refine j_aload_n (pc := 149) C dX8_advance_149 rfl 2 rfl ?_
          refine j_get (pc := 150) (ci := 8) (v := .int (u_1.2.1 0)) C inw_8 0 rfl rfl 4 (by decide) wd_262 rfl rfl dX8_advance_150 ?_
          refine j_aload_n (pc := 153) C dX8_advance_153 rfl 2 rfl ?_
          refine j_get (pc := 154) (ci := 8) (v := .int (u_5.2.1 0)) C inw_8 0 rfl rfl 2 (by decide) wd_256 rfl rfl dX8_advance_154 ?_
          refine j_callV (pc := 157) (As := [.int (u_1.2.1 0), .int (u_5.2.1 0)]) (rest := [.ref t0]) (wr := []) C (c_X8_valueOf l D cyC cyI cyJ cyZ cyO t0 t1 (u_1.2.1 0) (u_5.2.1 0) t_length (u_5.2.1 0) 2 (u_1.2.1 0) t_number t_text h_t_length hw_6_0 (by decide) hw_2_0 hw_2_0 hw_6_0) wd_273 wd_258 wd_274 wd_275 wd_276 ⟨by decide, by decide, rfl⟩ rfl ⟨rfl, rfl, by decide, by decide⟩ ⟨by decide, by decide⟩ [0, 1] [] rfl rfl ⟨by decide, by decide, by decide⟩ 0 rfl rfl rfl (Nat.le_of_ble_eq_true rfl) dX8_advance_157 (fun u_17 hw_18 => ?_)
          refine j_eq (ws2 := [(t0, .inr (8, [.ref t1, .int t_length, .int (u_5.2.1 0), .int 2, .int (u_1.2.1 0), .int t_number])), (t1, .inl (cyC, 1000, .inl t_text))]) (pc2 := 160) (lv2 := [(2, .int (u_5.2.1 0)), (1, .int (u_3.2.1 0)), (0, .ref t0)]) (st2 := [.int (u_17.2.1 0), .ref t0]) rfl rfl rfl rfl ?_
          refine j_goto (pc := 160) (tgt := 164) C dX8_advance_160 (by decide) ?_
          refine j_put (pc := 164) (ci := 8) (v := .int (u_17.2.1 0)) (ws' := [(t0, .inr (8, [.ref t1, .int t_length, .int (u_5.2.1 0), .int 2, .int (u_1.2.1 0), .int (u_17.2.1 0)])), (t1, .inl (cyC, 1000, .inl t_text))]) C inw_8 0 rfl rfl 5 (by decide) wd_272 rfl tyX8_ok nmX8 rfl (tyX8_ok 5 (by decide)) rfl rfl (Nat.le_of_ble_eq_true rfl) dX8_advance_164 rfl ?_
          refine j_goto (pc := 167) (tgt := 206) C dX8_advance_167 (by decide) ?_
          have el_2 : (2 : Int32).toInt = 2 := rfl
          have el_2 : (2 : Int32).toInt = 2 := rfl
          exact j_vret (pc := 206) C hr hk (fun i => [].getD i 0, fun i => [(u_5.2.1 0), 2, (u_1.2.1 0), (u_17.2.1 0)].getD i 0, fun i => [].getD i (fun _ => 0), fun i => [].getD i (fun _ => 0)) rfl (show (0 ≤ ((u_5.2.1 0)).toInt ∧ ((u_5.2.1 0)).toInt ≤ 1000) ∧ (0 ≤ ((2 : Int32)).toInt ∧ ((2 : Int32)).toInt ≤ 4) ∧ (0 ≤ ((u_1.2.1 0)).toInt ∧ ((u_1.2.1 0)).toInt ≤ 1000) ∧ (¬ ((2 : Int32)).toInt = 3 ∨ ((u_1.2.1 0)).toInt ≤ 999) from ⟨hw_6_0, by omega, hw_2_0, by omega⟩) [0, 1] (by decide) rfl (by decide) (by decide) dX8_advance_206
    · skip
      rw [i_le] at c_8
      refine j_aload_n (pc := 73) C dX8_advance_73 rfl 2 rfl ?_
      refine j_iload_n (pc := 74) C dX8_advance_74 rfl 1 rfl ?_
      refine j_put (pc := 75) (ci := 8) (v := .int (u_3.2.1 0)) (ws' := [(t0, .inr (8, [.ref t1, .int t_length, .int (u_3.2.1 0), .int t_kind, .int (u_1.2.1 0), .int t_number])), (t1, .inl (cyC, 1000, .inl t_text))]) C inw_8 0 rfl rfl 2 (by decide) wd_256 rfl tyX8_ok nmX8 rfl (tyX8_ok 2 (by decide)) rfl rfl (Nat.le_of_ble_eq_true rfl) dX8_advance_75 rfl ?_
      refine j_aload_n (pc := 78) C dX8_advance_78 rfl 2 rfl ?_
      refine j_aload_n (pc := 79) C dX8_advance_79 rfl 2 rfl ?_
      refine j_get (pc := 80) (ci := 8) (v := .int (u_3.2.1 0)) C inw_8 0 rfl rfl 2 (by decide) wd_256 rfl rfl dX8_advance_80 ?_
      refine j_aload_n (pc := 83) C dX8_advance_83 rfl 2 rfl ?_
      refine j_get (pc := 84) (ci := 8) (v := .int (u_1.2.1 0)) C inw_8 0 rfl rfl 4 (by decide) wd_262 rfl rfl dX8_advance_84 ?_
      obtain ⟨v_19, ev_19⟩ : ∃ z : Int32, (u_3.2.1 0) - (u_1.2.1 0) = z := ⟨_, rfl⟩
      have hv_19 : v_19.toInt = ((u_3.2.1 0)).toInt - ((u_1.2.1 0)).toInt := by rw [← ev_19]; exact fb_subI (by omega) (by omega)
      refine j_isub (pc := 87) (v := v_19) C dX8_advance_87 ev_19 ?_
      refine j_bipush (pc := 88) (v := 8) C dX8_advance_88 (by decide) ?_
      refine j_icmp_gt (pc := 90) (tgt := 97) C dX8_advance_90 (by decide) (fun c_20 => ?_) (fun c_20 => ?_)
      · skip
        have el_8 : (8 : Int32).toInt = 8 := rfl
        rw [i_lt] at c_20
        refine j_iconst (pc := 97) (v := 4) C dX8_advance_97 (by decide) ?_
        refine j_put (pc := 98) (ci := 8) (v := .int 4) (ws' := [(t0, .inr (8, [.ref t1, .int t_length, .int (u_3.2.1 0), .int 4, .int (u_1.2.1 0), .int t_number])), (t1, .inl (cyC, 1000, .inl t_text))]) C inw_8 0 rfl rfl 3 (by decide) wd_271 rfl tyX8_ok nmX8 rfl (tyX8_ok 3 (by decide)) rfl rfl (Nat.le_of_ble_eq_true rfl) dX8_advance_98 rfl ?_
        refine j_goto (pc := 101) (tgt := 206) C dX8_advance_101 (by decide) ?_
        have el_4 : (4 : Int32).toInt = 4 := rfl
        have el_4 : (4 : Int32).toInt = 4 := rfl
        exact j_vret (pc := 206) C hr hk (fun i => [].getD i 0, fun i => [(u_3.2.1 0), 4, (u_1.2.1 0), t_number].getD i 0, fun i => [].getD i (fun _ => 0), fun i => [].getD i (fun _ => 0)) rfl (show (0 ≤ ((u_3.2.1 0)).toInt ∧ ((u_3.2.1 0)).toInt ≤ 1000) ∧ (0 ≤ ((4 : Int32)).toInt ∧ ((4 : Int32)).toInt ≤ 4) ∧ (0 ≤ ((u_1.2.1 0)).toInt ∧ ((u_1.2.1 0)).toInt ≤ 1000) ∧ (¬ ((4 : Int32)).toInt = 3 ∨ ((u_1.2.1 0)).toInt ≤ 999) from ⟨hw_4_0, by omega, hw_2_0, by omega⟩) [0, 1] (by decide) rfl (by decide) (by decide) dX8_advance_206
      · skip
        have el_8 : (8 : Int32).toInt = 8 := rfl
        rw [i_lt] at c_20
        refine j_iconst (pc := 93) (v := 1) C dX8_advance_93 (by decide) ?_
        refine j_goto (pc := 94) (tgt := 98) C dX8_advance_94 (by decide) ?_
        refine j_put (pc := 98) (ci := 8) (v := .int 1) (ws' := [(t0, .inr (8, [.ref t1, .int t_length, .int (u_3.2.1 0), .int 1, .int (u_1.2.1 0), .int t_number])), (t1, .inl (cyC, 1000, .inl t_text))]) C inw_8 0 rfl rfl 3 (by decide) wd_271 rfl tyX8_ok nmX8 rfl (tyX8_ok 3 (by decide)) rfl rfl (Nat.le_of_ble_eq_true rfl) dX8_advance_98 rfl ?_
        refine j_goto (pc := 101) (tgt := 206) C dX8_advance_101 (by decide) ?_
        have el_1 : (1 : Int32).toInt = 1 := rfl
        have el_1 : (1 : Int32).toInt = 1 := rfl
        exact j_vret (pc := 206) C hr hk (fun i => [].getD i 0, fun i => [(u_3.2.1 0), 1, (u_1.2.1 0), t_number].getD i 0, fun i => [].getD i (fun _ => 0), fun i => [].getD i (fun _ => 0)) rfl (show (0 ≤ ((u_3.2.1 0)).toInt ∧ ((u_3.2.1 0)).toInt ≤ 1000) ∧ (0 ≤ ((1 : Int32)).toInt ∧ ((1 : Int32)).toInt ≤ 4) ∧ (0 ≤ ((u_1.2.1 0)).toInt ∧ ((u_1.2.1 0)).toInt ≤ 1000) ∧ (¬ ((1 : Int32)).toInt = 3 ∨ ((u_1.2.1 0)).toInt ≤ 999) from ⟨hw_4_0, by omega, hw_2_0, by omega⟩) [0, 1] (by decide) rfl (by decide) (by decide) dX8_advance_206
  · skip
    rw [i_lt] at c_7
    refine j_aload_n (pc := 49) C dX8_advance_49 rfl 2 rfl ?_
    refine j_aload_n (pc := 50) C dX8_advance_50 rfl 2 rfl ?_
    refine j_get (pc := 51) (ci := 8) (v := .int (u_1.2.1 0)) C inw_8 0 rfl rfl 4 (by decide) wd_262 rfl rfl dX8_advance_51 ?_
    refine j_put (pc := 54) (ci := 8) (v := .int (u_1.2.1 0)) (ws' := [(t0, .inr (8, [.ref t1, .int t_length, .int (u_1.2.1 0), .int t_kind, .int (u_1.2.1 0), .int t_number])), (t1, .inl (cyC, 1000, .inl t_text))]) C inw_8 0 rfl rfl 2 (by decide) wd_256 rfl tyX8_ok nmX8 rfl (tyX8_ok 2 (by decide)) rfl rfl (Nat.le_of_ble_eq_true rfl) dX8_advance_54 rfl ?_
    refine j_aload_n (pc := 57) C dX8_advance_57 rfl 2 rfl ?_
    refine j_iconst (pc := 58) (v := 0) C dX8_advance_58 (by decide) ?_
    refine j_put (pc := 59) (ci := 8) (v := .int 0) (ws' := [(t0, .inr (8, [.ref t1, .int t_length, .int (u_1.2.1 0), .int 0, .int (u_1.2.1 0), .int t_number])), (t1, .inl (cyC, 1000, .inl t_text))]) C inw_8 0 rfl rfl 3 (by decide) wd_271 rfl tyX8_ok nmX8 rfl (tyX8_ok 3 (by decide)) rfl rfl (Nat.le_of_ble_eq_true rfl) dX8_advance_59 rfl ?_
    refine j_goto (pc := 62) (tgt := 206) C dX8_advance_62 (by decide) ?_
    have el_0 : (0 : Int32).toInt = 0 := rfl
    have el_0 : (0 : Int32).toInt = 0 := rfl
    exact j_vret (pc := 206) C hr hk (fun i => [].getD i 0, fun i => [(u_1.2.1 0), 0, (u_1.2.1 0), t_number].getD i 0, fun i => [].getD i (fun _ => 0), fun i => [].getD i (fun _ => 0)) rfl (show (0 ≤ ((u_1.2.1 0)).toInt ∧ ((u_1.2.1 0)).toInt ≤ 1000) ∧ (0 ≤ ((0 : Int32)).toInt ∧ ((0 : Int32)).toInt ≤ 4) ∧ (0 ≤ ((u_1.2.1 0)).toInt ∧ ((u_1.2.1 0)).toInt ≤ 1000) ∧ (¬ ((0 : Int32)).toInt = 3 ∨ ((u_1.2.1 0)).toInt ≤ 999) from ⟨hw_2_0, by omega, hw_2_0, by omega⟩) [0, 1] (by decide) rfl (by decide) (by decide) dX8_advance_206
set_option maxHeartbeats 4000000 in
set_option maxRecDepth 100000 in
theorem c_X8_start (l : Launch) (D : DG) (cyC cyI cyJ cyZ cyO : ClassId) (t0 : Nat) (t1 : Nat) (t_length : Int32) (t_next : Int32) (t_kind : Int32) (t_place : Int32) (t_number : Int32) (t_text : Nat → Int32) (h_t_length : 0 ≤ (t_length).toInt ∧ (t_length).toInt ≤ 1000) (h_t_next : 0 ≤ (t_next).toInt ∧ (t_next).toInt ≤ 1000) (h_t_kind : 0 ≤ (t_kind).toInt ∧ (t_kind).toInt ≤ 4) (h_t_place : 0 ≤ (t_place).toInt ∧ (t_place).toInt ≤ 1000) : KK l D (TY cyC cyI cyJ cyZ cyO) yX8_start cX8_start 1 none ({ frames := 5, cells := 0, slots := 0, locals := 113 } : Room) 0 0 [.ref t0] [(t0, .inr (8, [.ref t1, .int t_length, .int t_next, .int t_kind, .int t_place, .int t_number])), (t1, .inl (cyC, 1000, .inl t_text))] (fun u => none) (fun u => (0 ≤ (u.2.1 0).toInt ∧ (u.2.1 0).toInt ≤ 1000) ∧ (0 ≤ (u.2.1 1).toInt ∧ (u.2.1 1).toInt ≤ 4) ∧ (0 ≤ (u.2.1 2).toInt ∧ (u.2.1 2).toInt ≤ 1000) ∧ (¬ ((u.2.1 1)).toInt = 3 ∨ ((u.2.1 2)).toInt ≤ 999)) (fun u => [(t0, .inr (8, [.ref t1, .int t_length, .int (u.2.1 0), .int (u.2.1 1), .int (u.2.1 2), .int (u.2.1 3)])), (t1, .inl (cyC, 1000, .inl t_text))]) := by
  refine KK.of (lv0 := [(0, .ref t0)]) (by decide) rfl (Nat.le_of_ble_eq_true rfl) ?_
  intro p e s m args below meth c A C hr hk hin
  refine j_aload_n (pc := 0) C dX8_start_0 rfl 0 rfl ?_
  refine j_iconst (pc := 1) (v := 0) C dX8_start_1 (by decide) ?_
  refine j_put (pc := 2) (ci := 8) (v := .int 0) (ws' := [(t0, .inr (8, [.ref t1, .int t_length, .int 0, .int t_kind, .int t_place, .int t_number])), (t1, .inl (cyC, 1000, .inl t_text))]) C inw_8 0 rfl rfl 2 (by decide) wd_256 rfl tyX8_ok nmX8 rfl (tyX8_ok 2 (by decide)) rfl rfl (Nat.le_of_ble_eq_true rfl) dX8_start_2 rfl ?_
  refine j_aload_n (pc := 5) C dX8_start_5 rfl 0 rfl ?_
  refine j_callV (pc := 6) (As := []) (rest := []) (wr := []) C (c_X8_advance l D cyC cyI cyJ cyZ cyO t0 t1 t_length 0 t_kind t_place t_number t_text h_t_length (by decide) h_t_kind h_t_place) wd_277 wd_258 wd_278 wd_279 wd_280 ⟨by decide, by decide, rfl⟩ rfl ⟨rfl, rfl, by decide, by decide⟩ ⟨by decide, by decide⟩ [0, 1] [] rfl rfl ⟨by decide, by decide, by decide⟩ 0 rfl rfl rfl (Nat.le_of_ble_eq_true rfl) dX8_start_6 (fun u_1 hw_2 => ?_)
  refine j_eq (ws2 := [(t0, .inr (8, [.ref t1, .int t_length, .int (u_1.2.1 0), .int (u_1.2.1 1), .int (u_1.2.1 2), .int (u_1.2.1 3)])), (t1, .inl (cyC, 1000, .inl t_text))]) (pc2 := 9) (lv2 := [(0, .ref t0)]) (st2 := []) rfl rfl rfl rfl ?_
  obtain ⟨hw_2_0, hw_2_1, hw_2_2, hw_2_3⟩ := hw_2
  exact j_vret (pc := 9) C hr hk (fun i => [].getD i 0, fun i => [(u_1.2.1 0), (u_1.2.1 1), (u_1.2.1 2), (u_1.2.1 3)].getD i 0, fun i => [].getD i (fun _ => 0), fun i => [].getD i (fun _ => 0)) rfl (show (0 ≤ ((u_1.2.1 0)).toInt ∧ ((u_1.2.1 0)).toInt ≤ 1000) ∧ (0 ≤ ((u_1.2.1 1)).toInt ∧ ((u_1.2.1 1)).toInt ≤ 4) ∧ (0 ≤ ((u_1.2.1 2)).toInt ∧ ((u_1.2.1 2)).toInt ≤ 1000) ∧ (¬ ((u_1.2.1 1)).toInt = 3 ∨ ((u_1.2.1 2)).toInt ≤ 999) from ⟨hw_2_0, hw_2_1, hw_2_2, by omega⟩) [0, 1] (by decide) rfl (by decide) (by decide) dX8_start_9
set_option maxHeartbeats 4000000 in
set_option maxRecDepth 100000 in
theorem c_X8_isSign (l : Launch) (D : DG) (cyC cyI cyJ cyZ cyO : ClassId) (t0 : Nat) (t1 : Nat) (p0 : Int32) (t_length : Int32) (t_next : Int32) (t_kind : Int32) (t_place : Int32) (t_number : Int32) (t_text : Nat → Int32) (h_t_length : 0 ≤ (t_length).toInt ∧ (t_length).toInt ≤ 1000) (h_t_next : 0 ≤ (t_next).toInt ∧ (t_next).toInt ≤ 1000) (h_t_kind : 0 ≤ (t_kind).toInt ∧ (t_kind).toInt ≤ 4) (h_t_place : 0 ≤ (t_place).toInt ∧ (t_place).toInt ≤ 1000) (ht3 : ¬ (t_kind).toInt = 3 ∨ (t_place).toInt ≤ 999) : KK l D (TY cyC cyI cyJ cyZ cyO) yX8_isSign cX8_isSign 2 (some .boolean) ({ frames := 0, cells := 0, slots := 0, locals := 0 } : Room) 0 0 [.ref t0, .int p0] [(t0, .inr (8, [.ref t1, .int t_length, .int t_next, .int t_kind, .int t_place, .int t_number])), (t1, .inl (cyC, 1000, .inl t_text))] (fun u => some (.int (u.2.1 0))) (fun u => (0 ≤ (u.2.1 0).toInt ∧ (u.2.1 0).toInt ≤ 1)) (fun u => [(t0, .inr (8, [.ref t1, .int t_length, .int t_next, .int t_kind, .int t_place, .int t_number])), (t1, .inl (cyC, 1000, .inl t_text))]) := by
  refine KK.of (lv0 := [(0, .ref t0), (1, .int p0)]) (by decide) rfl (Nat.le_of_ble_eq_true rfl) ?_
  intro p e s m args below meth c A C hr hk hin
  refine j_aload_n (pc := 0) C dX8_isSign_0 rfl 0 rfl ?_
  refine j_get (pc := 1) (ci := 8) (v := .int t_kind) C inw_8 0 rfl rfl 3 (by decide) wd_271 rfl rfl dX8_isSign_1 ?_
  refine j_iconst (pc := 4) (v := 3) C dX8_isSign_4 (by decide) ?_
  refine j_icmp_ne (pc := 5) (tgt := 25) C dX8_isSign_5 (by decide) (fun c_1 => ?_) (fun c_1 => ?_)
  · skip
    have el_3 : (3 : Int32).toInt = 3 := rfl
    rw [i_eq] at c_1
    refine j_iconst (pc := 25) (v := 0) C dX8_isSign_25 (by decide) ?_
    have el_0 : (0 : Int32).toInt = 0 := rfl
    exact j_zret (pc := 26) C hr rfl hk (fun i => [].getD i 0, fun i => [0].getD i 0, fun i => [].getD i (fun _ => 0), fun i => [].getD i (fun _ => 0)) rfl (show (0 ≤ ((0 : Int32)).toInt ∧ ((0 : Int32)).toInt ≤ 1) from (by omega)) [0, 1] (by decide) rfl (by decide) (by decide) dX8_isSign_26
  · skip
    have el_3 : (3 : Int32).toInt = 3 := rfl
    rw [i_eq] at c_1
    refine j_aload_n (pc := 8) C dX8_isSign_8 rfl 0 rfl ?_
    refine j_get (pc := 9) (ci := 8) (v := .ref t1) C inw_8 0 rfl rfl 0 (by decide) wd_255 rfl rfl dX8_isSign_9 ?_
    refine j_aload_n (pc := 12) C dX8_isSign_12 rfl 0 rfl ?_
    refine j_get (pc := 13) (ci := 8) (v := .int t_place) C inw_8 0 rfl rfl 4 (by decide) wd_262 rfl rfl dX8_isSign_13 ?_
    obtain ⟨v_2, ev_2⟩ : ∃ z, t_text (t_place).toInt.toNat = z := ⟨_, rfl⟩
    have env_2 : (t_text (t_place).toInt.toNat).toInt = v_2.toInt := by rw [ev_2]
    refine j_cald (pc := 16) (v := v_2) (k := (t_place).toInt.toNat) C 1 0 rfl rfl (i_nn h_t_place.1) rfl (i_lt_n h_t_place.1 (by omega)) ev_2 dX8_isSign_16 ?_
    refine j_iload_n (pc := 17) C dX8_isSign_17 rfl 1 rfl ?_
    refine j_icmp_ne (pc := 18) (tgt := 25) C dX8_isSign_18 (by decide) (fun c_3 => ?_) (fun c_3 => ?_)
    · skip
      rw [i_eq] at c_3
      refine j_iconst (pc := 25) (v := 0) C dX8_isSign_25 (by decide) ?_
      have el_0 : (0 : Int32).toInt = 0 := rfl
      exact j_zret (pc := 26) C hr rfl hk (fun i => [].getD i 0, fun i => [0].getD i 0, fun i => [].getD i (fun _ => 0), fun i => [].getD i (fun _ => 0)) rfl (show (0 ≤ ((0 : Int32)).toInt ∧ ((0 : Int32)).toInt ≤ 1) from (by omega)) [0, 1] (by decide) rfl (by decide) (by decide) dX8_isSign_26
    · skip
      rw [i_eq] at c_3
      refine j_iconst (pc := 21) (v := 1) C dX8_isSign_21 (by decide) ?_
      refine j_goto (pc := 22) (tgt := 26) C dX8_isSign_22 (by decide) ?_
      have el_1 : (1 : Int32).toInt = 1 := rfl
      exact j_zret (pc := 26) C hr rfl hk (fun i => [].getD i 0, fun i => [1].getD i 0, fun i => [].getD i (fun _ => 0), fun i => [].getD i (fun _ => 0)) rfl (show (0 ≤ ((1 : Int32)).toInt ∧ ((1 : Int32)).toInt ≤ 1) from (by omega)) [0, 1] (by decide) rfl (by decide) (by decide) dX8_isSign_26
set_option maxHeartbeats 4000000 in
set_option maxRecDepth 100000 in
theorem c_X8_isWord (l : Launch) (D : DG) (cyC cyI cyJ cyZ cyO : ClassId) (t0 : Nat) (t1 : Nat) (i : Nat) (t_length : Int32) (t_next : Int32) (t_kind : Int32) (t_place : Int32) (t_number : Int32) (t_text : Nat → Int32) (h_t_length : 0 ≤ (t_length).toInt ∧ (t_length).toInt ≤ 1000) (h_t_next : 0 ≤ (t_next).toInt ∧ (t_next).toInt ≤ 1000) (h_t_kind : 0 ≤ (t_kind).toInt ∧ (t_kind).toInt ≤ 4) (h_t_place : 0 ≤ (t_place).toInt ∧ (t_place).toInt ≤ 1000) (hi_lit : i < 43) : KK l D (TY cyC cyI cyJ cyZ cyO) yX8_isWord cX8_isWord 3 (some .boolean) ({ frames := 4, cells := 0, slots := 0, locals := 85 } : Room) 0 0 [.ref t0, .ref (D.2.1 i)] [(t0, .inr (8, [.ref t1, .int t_length, .int t_next, .int t_kind, .int t_place, .int t_number])), (t1, .inl (cyC, 1000, .inl t_text))] (fun u => some (.int (u.2.1 0))) (fun u => (0 ≤ (u.2.1 0).toInt ∧ (u.2.1 0).toInt ≤ 1)) (fun u => [(t0, .inr (8, [.ref t1, .int t_length, .int t_next, .int t_kind, .int t_place, .int t_number])), (t1, .inl (cyC, 1000, .inl t_text))]) := by
  refine KK.of (lv0 := [(0, .ref t0), (1, .ref (D.2.1 i))]) (by decide) rfl (Nat.le_of_ble_eq_true rfl) ?_
  intro p e s m args below meth c A C hr hk hin
  refine j_aload_n (pc := 0) C dX8_isWord_0 rfl 0 rfl ?_
  refine j_get (pc := 1) (ci := 8) (v := .int t_kind) C inw_8 0 rfl rfl 3 (by decide) wd_271 rfl rfl dX8_isWord_1 ?_
  refine j_iconst (pc := 4) (v := 1) C dX8_isWord_4 (by decide) ?_
  refine j_icmp_ne (pc := 5) (tgt := 24) C dX8_isWord_5 (by decide) (fun c_1 => ?_) (fun c_1 => ?_)
  · skip
    have el_1 : (1 : Int32).toInt = 1 := rfl
    rw [i_eq] at c_1
    refine j_iconst (pc := 24) (v := 0) C dX8_isWord_24 (by decide) ?_
    have el_0 : (0 : Int32).toInt = 0 := rfl
    exact j_zret (pc := 25) C hr rfl hk (fun i => [].getD i 0, fun i => [0].getD i 0, fun i => [].getD i (fun _ => 0), fun i => [].getD i (fun _ => 0)) rfl (show (0 ≤ ((0 : Int32)).toInt ∧ ((0 : Int32)).toInt ≤ 1) from (by omega)) [0, 1] (by decide) rfl (by decide) (by decide) dX8_isWord_25
  · skip
    have el_1 : (1 : Int32).toInt = 1 := rfl
    rw [i_eq] at c_1
    refine j_aload_n (pc := 8) C dX8_isWord_8 rfl 0 rfl ?_
    refine j_get (pc := 9) (ci := 8) (v := .int t_next) C inw_8 0 rfl rfl 2 (by decide) wd_256 rfl rfl dX8_isWord_9 ?_
    refine j_aload_n (pc := 12) C dX8_isWord_12 rfl 0 rfl ?_
    refine j_get (pc := 13) (ci := 8) (v := .int t_place) C inw_8 0 rfl rfl 4 (by decide) wd_262 rfl rfl dX8_isWord_13 ?_
    obtain ⟨v_2, ev_2⟩ : ∃ z : Int32, t_next - t_place = z := ⟨_, rfl⟩
    have hv_2 : v_2.toInt = t_next.toInt - t_place.toInt := by rw [← ev_2]; exact fb_subI (by omega) (by omega)
    refine j_isub (pc := 16) (v := v_2) C dX8_isWord_16 ev_2 ?_
    refine j_aload_n (pc := 17) C dX8_isWord_17 rfl 1 rfl ?_
    refine j_callT (pc := 18) (As := []) (rest := [.int v_2]) (wr := [(t0, .inr (8, [.ref t1, .int t_length, .int t_next, .int t_kind, .int t_place, .int t_number])), (t1, .inl (cyC, 1000, .inl t_text))]) C (c_J0_length_8abf5 l D cyC cyI cyJ cyZ cyO i hi_lit) wd_243 wd_220 wd_281 wd_245 wd_246 ⟨by decide, by decide, rfl⟩ rfl ⟨rfl, rfl, by decide, by decide⟩ ⟨by decide, by decide⟩ [] [0, 1] rfl rfl ⟨by decide, by decide, by decide⟩ hi_lit rfl rfl (Nat.le_of_ble_eq_true rfl) dX8_isWord_18 (fun u_3 hw_4 => ?_)
    refine j_eq (ws2 := [(t0, .inr (8, [.ref t1, .int t_length, .int t_next, .int t_kind, .int t_place, .int t_number])), (t1, .inl (cyC, 1000, .inl t_text))]) (pc2 := 21) (lv2 := [(0, .ref t0), (1, .ref (D.2.1 i))]) (st2 := [.int (u_3.2.1 0), .int v_2]) rfl rfl rfl rfl ?_
    obtain ⟨hw_4_0, hw_4_1⟩ := hw_4
    refine j_icmp_eq (pc := 21) (tgt := 26) C dX8_isWord_21 (by decide) (fun c_5 => ?_) (fun c_5 => ?_)
    · skip
      rw [i_eq] at c_5
      refine j_iconst (pc := 26) (v := 0) C dX8_isWord_26 (by decide) ?_
      refine j_istore_n (pc := 27) (lv' := [(2, .int 0), (0, .ref t0), (1, .ref (D.2.1 i))]) C dX8_isWord_27 rfl (by decide) rfl ?_
      have loop_6 : ∀ (k_6 : Nat) (x6_2 : Int32), (0 ≤ (x6_2).toInt ∧ (x6_2).toInt ≤ 20) → (x6_2.toInt ≤ ((sL i : Nat) : Int)) → (20 - x6_2.toInt).toNat < k_6 → J p l e ({ frames := 4, cells := 0, slots := 0, locals := 85 } : Room) s m args below meth c D A 3 0 0 (QX below D (TY cyC cyI cyJ cyZ cyO) A (fun u => some (.int (u.2.1 0))) (fun u => (0 ≤ (u.2.1 0).toInt ∧ (u.2.1 0).toInt ≤ 1)) (fun u => [(t0, .inr (8, [.ref t1, .int t_length, .int t_next, .int t_kind, .int t_place, .int t_number])), (t1, .inl (cyC, 1000, .inl t_text))]) args s 0 0) [(t0, .inr (8, [.ref t1, .int t_length, .int t_next, .int t_kind, .int t_place, .int t_number])), (t1, .inl (cyC, 1000, .inl t_text))] 28 [(2, .int x6_2), (0, .ref t0), (1, .ref (D.2.1 i))] [] := by
        intro k_6
        induction k_6 with
        | zero =>
          intro x6_2 hi_6_0 hr_6 hm_6
          exact absurd hm_6 (Nat.not_lt_zero _)
        | succ k_6 ih_6 =>
          intro x6_2 hi_6_0 hr_6 hm_6
          refine j_iload_n (pc := 28) C dX8_isWord_28 rfl 0 rfl ?_
          refine j_aload_n (pc := 29) C dX8_isWord_29 rfl 2 rfl ?_
          refine j_callT (pc := 30) (As := []) (rest := [.int x6_2]) (wr := [(t0, .inr (8, [.ref t1, .int t_length, .int t_next, .int t_kind, .int t_place, .int t_number])), (t1, .inl (cyC, 1000, .inl t_text))]) C (c_J0_length_8abf5 l D cyC cyI cyJ cyZ cyO i hi_lit) wd_243 wd_220 wd_281 wd_245 wd_246 ⟨by decide, by decide, rfl⟩ rfl ⟨rfl, rfl, by decide, by decide⟩ ⟨by decide, by decide⟩ [] [0, 1] rfl rfl ⟨by decide, by decide, by decide⟩ hi_lit rfl rfl (Nat.le_of_ble_eq_true rfl) dX8_isWord_30 (fun u_7 hw_8 => ?_)
          refine j_eq (ws2 := [(t0, .inr (8, [.ref t1, .int t_length, .int t_next, .int t_kind, .int t_place, .int t_number])), (t1, .inl (cyC, 1000, .inl t_text))]) (pc2 := 33) (lv2 := [(2, .int x6_2), (0, .ref t0), (1, .ref (D.2.1 i))]) (st2 := [.int (u_7.2.1 0), .int x6_2]) rfl rfl rfl rfl ?_
          obtain ⟨hw_8_0, hw_8_1⟩ := hw_8
          refine j_icmp_ge (pc := 33) (tgt := 63) C dX8_isWord_33 (by decide) (fun c_9 => ?_) (fun c_9 => ?_)
          · skip
            rw [i_le] at c_9
            refine j_iconst (pc := 63) (v := 1) C dX8_isWord_63 (by decide) ?_
            have el_1 : (1 : Int32).toInt = 1 := rfl
            exact j_zret (pc := 64) C hr rfl hk (fun i => [].getD i 0, fun i => [1].getD i 0, fun i => [].getD i (fun _ => 0), fun i => [].getD i (fun _ => 0)) rfl (show (0 ≤ ((1 : Int32)).toInt ∧ ((1 : Int32)).toInt ≤ 1) from (by omega)) [0, 1] (by decide) rfl (by decide) (by decide) dX8_isWord_64
          · skip
            rw [i_le] at c_9
            refine j_aload_n (pc := 36) C dX8_isWord_36 rfl 1 rfl ?_
            refine j_get (pc := 37) (ci := 8) (v := .ref t1) C inw_8 0 rfl rfl 0 (by decide) wd_255 rfl rfl dX8_isWord_37 ?_
            refine j_aload_n (pc := 40) C dX8_isWord_40 rfl 1 rfl ?_
            refine j_get (pc := 41) (ci := 8) (v := .int t_place) C inw_8 0 rfl rfl 4 (by decide) wd_262 rfl rfl dX8_isWord_41 ?_
            refine j_iload_n (pc := 44) C dX8_isWord_44 rfl 0 rfl ?_
            obtain ⟨v_10, ev_10⟩ : ∃ z : Int32, t_place + x6_2 = z := ⟨_, rfl⟩
            have hv_10 : v_10.toInt = t_place.toInt + x6_2.toInt := by rw [← ev_10]; exact fb_addI (by omega) (by omega)
            refine j_iadd (pc := 45) (v := v_10) C dX8_isWord_45 ev_10 ?_
            obtain ⟨v_11, ev_11⟩ : ∃ z, t_text (v_10).toInt.toNat = z := ⟨_, rfl⟩
            have env_11 : (t_text (v_10).toInt.toNat).toInt = v_11.toInt := by rw [ev_11]
            refine j_cald (pc := 46) (v := v_11) (k := (v_10).toInt.toNat) C 1 0 rfl rfl (i_nn (by omega)) rfl (i_lt_n (by omega) (by omega)) ev_11 dX8_isWord_46 ?_
            refine j_aload_n (pc := 47) C dX8_isWord_47 rfl 2 rfl ?_
            refine j_iload_n (pc := 48) C dX8_isWord_48 rfl 0 rfl ?_
            refine j_callT (pc := 49) (As := [.int x6_2]) (rest := [.int v_11]) (wr := [(t0, .inr (8, [.ref t1, .int t_length, .int t_next, .int t_kind, .int t_place, .int t_number])), (t1, .inl (cyC, 1000, .inl t_text))]) C (c_J0_charAt_5068e l D cyC cyI cyJ cyZ cyO i x6_2 (by omega) hi_lit (by omega)) wd_282 wd_220 wd_283 wd_284 wd_285 ⟨by decide, by decide, rfl⟩ rfl ⟨rfl, rfl, by decide, by decide⟩ ⟨by decide, by decide⟩ [] [0, 1] rfl rfl ⟨by decide, by decide, by decide⟩ hi_lit rfl rfl (Nat.le_of_ble_eq_true rfl) dX8_isWord_49 (fun u_12 hw_13 => ?_)
            refine j_eq (ws2 := [(t0, .inr (8, [.ref t1, .int t_length, .int t_next, .int t_kind, .int t_place, .int t_number])), (t1, .inl (cyC, 1000, .inl t_text))]) (pc2 := 52) (lv2 := [(2, .int x6_2), (0, .ref t0), (1, .ref (D.2.1 i))]) (st2 := [.int (u_12.2.1 0), .int v_11]) rfl rfl rfl rfl ?_
            have hw_13_0 : 0 ≤ (u_12.2.1 0).toInt ∧ (u_12.2.1 0).toInt ≤ 255 := hw_13
            refine j_icmp_eq (pc := 52) (tgt := 57) C dX8_isWord_52 (by decide) (fun c_14 => ?_) (fun c_14 => ?_)
            · skip
              rw [i_eq] at c_14
              obtain ⟨v_15, ev_15⟩ : ∃ z : Int32, x6_2 + 1 = z := ⟨_, rfl⟩
              have el_1 : (1 : Int32).toInt = 1 := rfl
              have hv_15 : v_15.toInt = x6_2.toInt + (1 : Int32).toInt := by rw [← ev_15]; exact fb_addI (by omega) (by omega)
              refine j_iinc (pc := 57) (v := v_15) (lv' := [(2, .int v_15), (0, .ref t0), (1, .ref (D.2.1 i))]) C dX8_isWord_57 0 rfl ev_15 (by decide) rfl ?_
              refine j_goto (pc := 60) (tgt := 28) C dX8_isWord_60 (by decide) ?_
              exact j_lv [0, 1, 2] rfl (ih_6 v_15 (by omega) (by omega) (by omega))
            · skip
              rw [i_eq] at c_14
              refine j_iconst (pc := 55) (v := 0) C dX8_isWord_55 (by decide) ?_
              have el_0 : (0 : Int32).toInt = 0 := rfl
              exact j_zret (pc := 56) C hr rfl hk (fun i => [].getD i 0, fun i => [0].getD i 0, fun i => [].getD i (fun _ => 0), fun i => [].getD i (fun _ => 0)) rfl (show (0 ≤ ((0 : Int32)).toInt ∧ ((0 : Int32)).toInt ≤ 1) from (by omega)) [0, 1] (by decide) rfl (by decide) (by decide) dX8_isWord_56
      have el_0 : (0 : Int32).toInt = 0 := rfl
      exact j_lv [0, 1, 2] rfl (loop_6 4096 0 (by decide) (by omega) (by omega))
    · skip
      rw [i_eq] at c_5
      refine j_iconst (pc := 24) (v := 0) C dX8_isWord_24 (by decide) ?_
      have el_0 : (0 : Int32).toInt = 0 := rfl
      exact j_zret (pc := 25) C hr rfl hk (fun i => [].getD i 0, fun i => [0].getD i 0, fun i => [].getD i (fun _ => 0), fun i => [].getD i (fun _ => 0)) rfl (show (0 ≤ ((0 : Int32)).toInt ∧ ((0 : Int32)).toInt ≤ 1) from (by omega)) [0, 1] (by decide) rfl (by decide) (by decide) dX8_isWord_25
set_option maxHeartbeats 4000000 in
set_option maxRecDepth 100000 in
theorem c_X8_code (l : Launch) (D : DG) (cyC cyI cyJ cyZ cyO : ClassId) (t0 : Nat) (t1 : Nat) (t_length : Int32) (t_next : Int32) (t_kind : Int32) (t_place : Int32) (t_number : Int32) (t_text : Nat → Int32) (h_t_length : 0 ≤ (t_length).toInt ∧ (t_length).toInt ≤ 1000) (h_t_next : 0 ≤ (t_next).toInt ∧ (t_next).toInt ≤ 1000) (h_t_kind : 0 ≤ (t_kind).toInt ∧ (t_kind).toInt ≤ 4) (h_t_place : 0 ≤ (t_place).toInt ∧ (t_place).toInt ≤ 1000) : KK l D (TY cyC cyI cyJ cyZ cyO) yX8_code cX8_code 4 (some .long) ({ frames := 0, cells := 0, slots := 0, locals := 0 } : Room) 0 0 [.ref t0] [(t0, .inr (8, [.ref t1, .int t_length, .int t_next, .int t_kind, .int t_place, .int t_number])), (t1, .inl (cyC, 1000, .inl t_text))] (fun u => some (.long (u.2.2.2 0 0))) (fun u => True) (fun u => [(t0, .inr (8, [.ref t1, .int t_length, .int t_next, .int t_kind, .int t_place, .int t_number])), (t1, .inl (cyC, 1000, .inl t_text))]) := by
  refine KK.of (lv0 := [(0, .ref t0)]) (by decide) rfl (Nat.le_of_ble_eq_true rfl) ?_
  intro p e s m args below meth c A C hr hk hin
  refine j_lconst (pc := 0) (v := 0) C dX8_code_0 rfl ?_
  refine j_lstore_n (pc := 1) (lv' := [(1, .long 0), (0, .ref t0)]) C dX8_code_1 rfl (by decide) rfl ?_
  refine j_aload_n (pc := 2) C dX8_code_2 rfl 1 rfl ?_
  refine j_get (pc := 3) (ci := 8) (v := .int t_place) C inw_8 0 rfl rfl 4 (by decide) wd_262 rfl rfl dX8_code_3 ?_
  refine j_istore_n (pc := 6) (lv' := [(3, .int t_place), (1, .long 0), (0, .ref t0)]) C dX8_code_6 rfl (by decide) rfl ?_
  have loop_1 : ∀ (k_1 : Nat) (x1_3 : Int32) (x1_1 : Int64), (0 ≤ (x1_3).toInt ∧ (x1_3).toInt ≤ 1000) → (1000 - x1_3.toInt).toNat < k_1 → J p l e ({ frames := 0, cells := 0, slots := 0, locals := 0 } : Room) s m args below meth c D A 4 0 0 (QX below D (TY cyC cyI cyJ cyZ cyO) A (fun u => some (.long (u.2.2.2 0 0))) (fun u => True) (fun u => [(t0, .inr (8, [.ref t1, .int t_length, .int t_next, .int t_kind, .int t_place, .int t_number])), (t1, .inl (cyC, 1000, .inl t_text))]) args s 0 0) [(t0, .inr (8, [.ref t1, .int t_length, .int t_next, .int t_kind, .int t_place, .int t_number])), (t1, .inl (cyC, 1000, .inl t_text))] 7 [(3, .int x1_3), (1, .long x1_1), (0, .ref t0)] [] := by
    intro k_1
    induction k_1 with
    | zero =>
      intro x1_3 x1_1 hi_1_0 hm_1
      exact absurd hm_1 (Nat.not_lt_zero _)
    | succ k_1 ih_1 =>
      intro x1_3 x1_1 hi_1_0 hm_1
      refine j_iload_n (pc := 7) C dX8_code_7 rfl 0 rfl ?_
      refine j_aload_n (pc := 8) C dX8_code_8 rfl 2 rfl ?_
      refine j_get (pc := 9) (ci := 8) (v := .int t_next) C inw_8 0 rfl rfl 2 (by decide) wd_256 rfl rfl dX8_code_9 ?_
      refine j_icmp_ge (pc := 12) (tgt := 41) C dX8_code_12 (by decide) (fun c_2 => ?_) (fun c_2 => ?_)
      · skip
        rw [i_le] at c_2
        refine j_lload_n (pc := 41) C dX8_code_41 rfl 1 rfl ?_
        exact j_lret (pc := 42) C hr hk (fun i => [].getD i 0, fun i => [].getD i 0, fun i => [].getD i (fun _ => 0), fun i => [(fun _ => x1_1)].getD i (fun _ => 0)) rfl trivial [0, 1] (by decide) rfl (by decide) (by decide) dX8_code_42
      · skip
        rw [i_le] at c_2
        refine j_lload_n (pc := 15) C dX8_code_15 rfl 1 rfl ?_
        refine j_ldc2 (pc := 16) C wd_286 dX8_code_16 ?_
        refine j_lmul (pc := 19) C dX8_code_19 rfl ?_
        refine j_aload_n (pc := 20) C dX8_code_20 rfl 2 rfl ?_
        refine j_get (pc := 21) (ci := 8) (v := .ref t1) C inw_8 0 rfl rfl 0 (by decide) wd_255 rfl rfl dX8_code_21 ?_
        refine j_iload_n (pc := 24) C dX8_code_24 rfl 0 rfl ?_
        obtain ⟨v_3, ev_3⟩ : ∃ z, t_text (x1_3).toInt.toNat = z := ⟨_, rfl⟩
        have env_3 : (t_text (x1_3).toInt.toNat).toInt = v_3.toInt := by rw [ev_3]
        refine j_cald (pc := 25) (v := v_3) (k := (x1_3).toInt.toNat) C 1 0 rfl rfl (i_nn hi_1_0.1) rfl (i_lt_n hi_1_0.1 (by omega)) ev_3 dX8_code_25 ?_
        refine j_i2l (pc := 26) C dX8_code_26 rfl ?_
        refine j_ladd (pc := 27) C dX8_code_27 rfl ?_
        refine j_ldc2 (pc := 28) C wd_287 dX8_code_28 ?_
        refine j_lsub (pc := 31) C dX8_code_31 rfl ?_
        refine j_lconst (pc := 32) (v := 1) C dX8_code_32 rfl ?_
        refine j_ladd (pc := 33) C dX8_code_33 rfl ?_
        refine j_lstore_n (pc := 34) (lv' := [(1, .long ((((x1_1 * 32) + (v_3).toInt64) - 97) + 1)), (3, .int x1_3), (0, .ref t0)]) C dX8_code_34 rfl (by decide) rfl ?_
        obtain ⟨v_4, ev_4⟩ : ∃ z : Int32, x1_3 + 1 = z := ⟨_, rfl⟩
        have el_1 : (1 : Int32).toInt = 1 := rfl
        have hv_4 : v_4.toInt = x1_3.toInt + (1 : Int32).toInt := by rw [← ev_4]; exact fb_addI (by omega) (by omega)
        refine j_iinc (pc := 35) (v := v_4) (lv' := [(3, .int v_4), (1, .long ((((x1_1 * 32) + (v_3).toInt64) - 97) + 1)), (0, .ref t0)]) C dX8_code_35 1 rfl ev_4 (by decide) rfl ?_
        refine j_goto (pc := 38) (tgt := 7) C dX8_code_38 (by decide) ?_
        exact j_lv [0, 1, 2] rfl (ih_1 v_4 ((((x1_1 * 32) + (v_3).toInt64) - 97) + 1) (by omega) (by omega))
  have el_0 : (0 : Int32).toInt = 0 := rfl
  exact j_lv [0, 1, 2] rfl (loop_1 4096 t_place 0 h_t_place (by omega))
set_option maxHeartbeats 4000000 in
set_option maxRecDepth 100000 in
theorem c_X8_isName (l : Launch) (D : DG) (cyC cyI cyJ cyZ cyO : ClassId) (t0 : Nat) (t1 : Nat) (t_length : Int32) (t_next : Int32) (t_kind : Int32) (t_place : Int32) (t_number : Int32) (t_text : Nat → Int32) (h_t_length : 0 ≤ (t_length).toInt ∧ (t_length).toInt ≤ 1000) (h_t_next : 0 ≤ (t_next).toInt ∧ (t_next).toInt ≤ 1000) (h_t_kind : 0 ≤ (t_kind).toInt ∧ (t_kind).toInt ≤ 4) (h_t_place : 0 ≤ (t_place).toInt ∧ (t_place).toInt ≤ 1000) : KK l D (TY cyC cyI cyJ cyZ cyO) yX8_isName cX8_isName 4 (some .boolean) ({ frames := 5, cells := 0, slots := 0, locals := 107 } : Room) 0 0 [.ref t0] [(t0, .inr (8, [.ref t1, .int t_length, .int t_next, .int t_kind, .int t_place, .int t_number])), (t1, .inl (cyC, 1000, .inl t_text))] (fun u => some (.int (u.2.1 0))) (fun u => (0 ≤ (u.2.1 0).toInt ∧ (u.2.1 0).toInt ≤ 1)) (fun u => [(t0, .inr (8, [.ref t1, .int t_length, .int t_next, .int t_kind, .int t_place, .int t_number])), (t1, .inl (cyC, 1000, .inl t_text))]) := by
  refine KK.of (lv0 := [(0, .ref t0)]) (by decide) rfl (Nat.le_of_ble_eq_true rfl) ?_
  intro p e s m args below meth c A C hr hk hin
  have join_1 : ∀ xj1 : Int32, 0 ≤ (xj1).toInt ∧ (xj1).toInt ≤ 1 → J p l e ({ frames := 5, cells := 0, slots := 0, locals := 107 } : Room) s m args below meth c D A 4 0 0 (QX below D (TY cyC cyI cyJ cyZ cyO) A (fun u => some (.int (u.2.1 0))) (fun u => (0 ≤ (u.2.1 0).toInt ∧ (u.2.1 0).toInt ≤ 1)) (fun u => [(t0, .inr (8, [.ref t1, .int t_length, .int t_next, .int t_kind, .int t_place, .int t_number])), (t1, .inl (cyC, 1000, .inl t_text))]) args s 0 0) [(t0, .inr (8, [.ref t1, .int t_length, .int t_next, .int t_kind, .int t_place, .int t_number])), (t1, .inl (cyC, 1000, .inl t_text))] 59 [(0, .ref t0)] [.int xj1] := by
    intro xj1 hj1
    refine j_istore_n (pc := 59) (lv' := [(1, .int xj1), (0, .ref t0)]) C dX8_isName_59 rfl (by decide) rfl ?_
    have join_2 : ∀ xj2 : Int32, 0 ≤ (xj2).toInt ∧ (xj2).toInt ≤ 1 → J p l e ({ frames := 5, cells := 0, slots := 0, locals := 107 } : Room) s m args below meth c D A 4 0 0 (QX below D (TY cyC cyI cyJ cyZ cyO) A (fun u => some (.int (u.2.1 0))) (fun u => (0 ≤ (u.2.1 0).toInt ∧ (u.2.1 0).toInt ≤ 1)) (fun u => [(t0, .inr (8, [.ref t1, .int t_length, .int t_next, .int t_kind, .int t_place, .int t_number])), (t1, .inl (cyC, 1000, .inl t_text))]) args s 0 0) [(t0, .inr (8, [.ref t1, .int t_length, .int t_next, .int t_kind, .int t_place, .int t_number])), (t1, .inl (cyC, 1000, .inl t_text))] 137 [(1, .int xj1), (0, .ref t0)] [.int xj2] := by
      intro xj2 hj2
      refine j_istore_n (pc := 137) (lv' := [(2, .int xj2), (1, .int xj1), (0, .ref t0)]) C dX8_isName_137 rfl (by decide) rfl ?_
      have join_3 : ∀ xj3 : Int32, 0 ≤ (xj3).toInt ∧ (xj3).toInt ≤ 1 → J p l e ({ frames := 5, cells := 0, slots := 0, locals := 107 } : Room) s m args below meth c D A 4 0 0 (QX below D (TY cyC cyI cyJ cyZ cyO) A (fun u => some (.int (u.2.1 0))) (fun u => (0 ≤ (u.2.1 0).toInt ∧ (u.2.1 0).toInt ≤ 1)) (fun u => [(t0, .inr (8, [.ref t1, .int t_length, .int t_next, .int t_kind, .int t_place, .int t_number])), (t1, .inl (cyC, 1000, .inl t_text))]) args s 0 0) [(t0, .inr (8, [.ref t1, .int t_length, .int t_next, .int t_kind, .int t_place, .int t_number])), (t1, .inl (cyC, 1000, .inl t_text))] 170 [(2, .int xj2), (1, .int xj1), (0, .ref t0)] [.int xj3] := by
        intro xj3 hj3
        refine j_istore_n (pc := 170) (lv' := [(3, .int xj3), (2, .int xj2), (1, .int xj1), (0, .ref t0)]) C dX8_isName_170 rfl (by decide) rfl ?_
        refine j_aload_n (pc := 171) C dX8_isName_171 rfl 3 rfl ?_
        refine j_get (pc := 172) (ci := 8) (v := .int t_kind) C inw_8 0 rfl rfl 3 (by decide) wd_271 rfl rfl dX8_isName_172 ?_
        refine j_iconst (pc := 175) (v := 1) C dX8_isName_175 (by decide) ?_
        refine j_icmp_ne (pc := 176) (tgt := 195) C dX8_isName_176 (by decide) (fun c_4 => ?_) (fun c_4 => ?_)
        · skip
          have el_1 : (1 : Int32).toInt = 1 := rfl
          rw [i_eq] at c_4
          refine j_iconst (pc := 195) (v := 0) C dX8_isName_195 (by decide) ?_
          have el_0 : (0 : Int32).toInt = 0 := rfl
          exact j_zret (pc := 196) C hr rfl hk (fun i => [].getD i 0, fun i => [0].getD i 0, fun i => [].getD i (fun _ => 0), fun i => [].getD i (fun _ => 0)) rfl (show (0 ≤ ((0 : Int32)).toInt ∧ ((0 : Int32)).toInt ≤ 1) from (by omega)) [0, 1] (by decide) rfl (by decide) (by decide) dX8_isName_196
        · skip
          have el_1 : (1 : Int32).toInt = 1 := rfl
          rw [i_eq] at c_4
          refine j_iload_n (pc := 179) C dX8_isName_179 rfl 2 rfl ?_
          refine j_if_ne (pc := 180) (tgt := 195) C dX8_isName_180 (by decide) (fun c_5 => ?_) (fun c_5 => ?_)
          · skip
            have el_0 : (0 : Int32).toInt = 0 := rfl
            rw [i_eq] at c_5
            have k0c_5 : xj1.toInt = 1 := by omega
            refine j_iconst (pc := 195) (v := 0) C dX8_isName_195 (by decide) ?_
            have el_0 : (0 : Int32).toInt = 0 := rfl
            exact j_zret (pc := 196) C hr rfl hk (fun i => [].getD i 0, fun i => [0].getD i 0, fun i => [].getD i (fun _ => 0), fun i => [].getD i (fun _ => 0)) rfl (show (0 ≤ ((0 : Int32)).toInt ∧ ((0 : Int32)).toInt ≤ 1) from (by omega)) [0, 1] (by decide) rfl (by decide) (by decide) dX8_isName_196
          · skip
            have el_0 : (0 : Int32).toInt = 0 := rfl
            rw [i_eq] at c_5
            refine j_iload_n (pc := 183) C dX8_isName_183 rfl 1 rfl ?_
            refine j_if_ne (pc := 184) (tgt := 195) C dX8_isName_184 (by decide) (fun c_6 => ?_) (fun c_6 => ?_)
            · skip
              have el_0 : (0 : Int32).toInt = 0 := rfl
              rw [i_eq] at c_6
              have k0c_6 : xj2.toInt = 1 := by omega
              refine j_iconst (pc := 195) (v := 0) C dX8_isName_195 (by decide) ?_
              have el_0 : (0 : Int32).toInt = 0 := rfl
              exact j_zret (pc := 196) C hr rfl hk (fun i => [].getD i 0, fun i => [0].getD i 0, fun i => [].getD i (fun _ => 0), fun i => [].getD i (fun _ => 0)) rfl (show (0 ≤ ((0 : Int32)).toInt ∧ ((0 : Int32)).toInt ≤ 1) from (by omega)) [0, 1] (by decide) rfl (by decide) (by decide) dX8_isName_196
            · skip
              have el_0 : (0 : Int32).toInt = 0 := rfl
              rw [i_eq] at c_6
              refine j_iload_n (pc := 187) C dX8_isName_187 rfl 0 rfl ?_
              refine j_if_ne (pc := 188) (tgt := 195) C dX8_isName_188 (by decide) (fun c_7 => ?_) (fun c_7 => ?_)
              · skip
                have el_0 : (0 : Int32).toInt = 0 := rfl
                rw [i_eq] at c_7
                have k0c_7 : xj3.toInt = 1 := by omega
                refine j_iconst (pc := 195) (v := 0) C dX8_isName_195 (by decide) ?_
                have el_0 : (0 : Int32).toInt = 0 := rfl
                exact j_zret (pc := 196) C hr rfl hk (fun i => [].getD i 0, fun i => [0].getD i 0, fun i => [].getD i (fun _ => 0), fun i => [].getD i (fun _ => 0)) rfl (show (0 ≤ ((0 : Int32)).toInt ∧ ((0 : Int32)).toInt ≤ 1) from (by omega)) [0, 1] (by decide) rfl (by decide) (by decide) dX8_isName_196
              · skip
                have el_0 : (0 : Int32).toInt = 0 := rfl
                rw [i_eq] at c_7
                refine j_iconst (pc := 191) (v := 1) C dX8_isName_191 (by decide) ?_
                refine j_goto (pc := 192) (tgt := 196) C dX8_isName_192 (by decide) ?_
                have el_1 : (1 : Int32).toInt = 1 := rfl
                exact j_zret (pc := 196) C hr rfl hk (fun i => [].getD i 0, fun i => [1].getD i 0, fun i => [].getD i (fun _ => 0), fun i => [].getD i (fun _ => 0)) rfl (show (0 ≤ ((1 : Int32)).toInt ∧ ((1 : Int32)).toInt ≤ 1) from (by omega)) [0, 1] (by decide) rfl (by decide) (by decide) dX8_isName_196
      refine j_aload_n (pc := 138) C dX8_isName_138 rfl 2 rfl ?_
      refine j_ldcS (pc := 139) (i := 40) C (by decide) rfl dX8_isName_139 ?_
      refine j_callV (pc := 141) (As := [.ref (D.2.1 40)]) (rest := []) (wr := []) C (c_X8_isWord l D cyC cyI cyJ cyZ cyO t0 t1 40 t_length t_next t_kind t_place t_number t_text h_t_length h_t_next h_t_kind h_t_place (by decide)) wd_288 wd_258 wd_289 wd_290 wd_291 ⟨by decide, by decide, rfl⟩ rfl ⟨rfl, rfl, by decide, by decide⟩ ⟨by decide, by decide⟩ [0, 1] [] rfl rfl ⟨by decide, by decide, by decide⟩ 0 rfl rfl rfl (Nat.le_of_ble_eq_true rfl) dX8_isName_141 (fun u_8 hw_9 => ?_)
      refine j_eq (ws2 := [(t0, .inr (8, [.ref t1, .int t_length, .int t_next, .int t_kind, .int t_place, .int t_number])), (t1, .inl (cyC, 1000, .inl t_text))]) (pc2 := 144) (lv2 := [(2, .int xj2), (1, .int xj1), (0, .ref t0)]) (st2 := [.int (u_8.2.1 0)]) rfl rfl rfl rfl ?_
      have hw_9_0 : 0 ≤ (u_8.2.1 0).toInt ∧ (u_8.2.1 0).toInt ≤ 1 := hw_9
      refine j_if_ne (pc := 144) (tgt := 165) C dX8_isName_144 (by decide) (fun c_10 => ?_) (fun c_10 => ?_)
      · skip
        have el_0 : (0 : Int32).toInt = 0 := rfl
        rw [i_eq] at c_10
        have k0c_10 : ((u_8.2.1 0)).toInt = 1 := by omega
        refine j_iconst (pc := 165) (v := 1) C dX8_isName_165 (by decide) ?_
        refine j_goto (pc := 166) (tgt := 170) C dX8_isName_166 (by decide) ?_
        have el_1 : (1 : Int32).toInt = 1 := rfl
        exact j_lv [0, 1, 2] rfl (join_3 (1) (by omega))
      · skip
        have el_0 : (0 : Int32).toInt = 0 := rfl
        rw [i_eq] at c_10
        refine j_aload_n (pc := 147) C dX8_isName_147 rfl 2 rfl ?_
        refine j_ldcS (pc := 148) (i := 41) C (by decide) rfl dX8_isName_148 ?_
        refine j_callV (pc := 150) (As := [.ref (D.2.1 41)]) (rest := []) (wr := []) C (c_X8_isWord l D cyC cyI cyJ cyZ cyO t0 t1 41 t_length t_next t_kind t_place t_number t_text h_t_length h_t_next h_t_kind h_t_place (by decide)) wd_288 wd_258 wd_289 wd_290 wd_291 ⟨by decide, by decide, rfl⟩ rfl ⟨rfl, rfl, by decide, by decide⟩ ⟨by decide, by decide⟩ [0, 1] [] rfl rfl ⟨by decide, by decide, by decide⟩ 0 rfl rfl rfl (Nat.le_of_ble_eq_true rfl) dX8_isName_150 (fun u_11 hw_12 => ?_)
        refine j_eq (ws2 := [(t0, .inr (8, [.ref t1, .int t_length, .int t_next, .int t_kind, .int t_place, .int t_number])), (t1, .inl (cyC, 1000, .inl t_text))]) (pc2 := 153) (lv2 := [(2, .int xj2), (1, .int xj1), (0, .ref t0)]) (st2 := [.int (u_11.2.1 0)]) rfl rfl rfl rfl ?_
        have hw_12_0 : 0 ≤ (u_11.2.1 0).toInt ∧ (u_11.2.1 0).toInt ≤ 1 := hw_12
        refine j_if_ne (pc := 153) (tgt := 165) C dX8_isName_153 (by decide) (fun c_13 => ?_) (fun c_13 => ?_)
        · skip
          have el_0 : (0 : Int32).toInt = 0 := rfl
          rw [i_eq] at c_13
          have k0c_13 : ((u_11.2.1 0)).toInt = 1 := by omega
          refine j_iconst (pc := 165) (v := 1) C dX8_isName_165 (by decide) ?_
          refine j_goto (pc := 166) (tgt := 170) C dX8_isName_166 (by decide) ?_
          have el_1 : (1 : Int32).toInt = 1 := rfl
          exact j_lv [0, 1, 2] rfl (join_3 (1) (by omega))
        · skip
          have el_0 : (0 : Int32).toInt = 0 := rfl
          rw [i_eq] at c_13
          refine j_aload_n (pc := 156) C dX8_isName_156 rfl 2 rfl ?_
          refine j_ldcS (pc := 157) (i := 42) C (by decide) rfl dX8_isName_157 ?_
          refine j_callV (pc := 159) (As := [.ref (D.2.1 42)]) (rest := []) (wr := []) C (c_X8_isWord l D cyC cyI cyJ cyZ cyO t0 t1 42 t_length t_next t_kind t_place t_number t_text h_t_length h_t_next h_t_kind h_t_place (by decide)) wd_288 wd_258 wd_289 wd_290 wd_291 ⟨by decide, by decide, rfl⟩ rfl ⟨rfl, rfl, by decide, by decide⟩ ⟨by decide, by decide⟩ [0, 1] [] rfl rfl ⟨by decide, by decide, by decide⟩ 0 rfl rfl rfl (Nat.le_of_ble_eq_true rfl) dX8_isName_159 (fun u_14 hw_15 => ?_)
          refine j_eq (ws2 := [(t0, .inr (8, [.ref t1, .int t_length, .int t_next, .int t_kind, .int t_place, .int t_number])), (t1, .inl (cyC, 1000, .inl t_text))]) (pc2 := 162) (lv2 := [(2, .int xj2), (1, .int xj1), (0, .ref t0)]) (st2 := [.int (u_14.2.1 0)]) rfl rfl rfl rfl ?_
          have hw_15_0 : 0 ≤ (u_14.2.1 0).toInt ∧ (u_14.2.1 0).toInt ≤ 1 := hw_15
          refine j_if_eq (pc := 162) (tgt := 169) C dX8_isName_162 (by decide) (fun c_16 => ?_) (fun c_16 => ?_)
          · skip
            have el_0 : (0 : Int32).toInt = 0 := rfl
            rw [i_eq] at c_16
            refine j_iconst (pc := 169) (v := 0) C dX8_isName_169 (by decide) ?_
            have el_0 : (0 : Int32).toInt = 0 := rfl
            exact j_lv [0, 1, 2] rfl (join_3 (0) (by omega))
          · skip
            have el_0 : (0 : Int32).toInt = 0 := rfl
            rw [i_eq] at c_16
            have k0c_16 : ((u_14.2.1 0)).toInt = 1 := by omega
            refine j_iconst (pc := 165) (v := 1) C dX8_isName_165 (by decide) ?_
            refine j_goto (pc := 166) (tgt := 170) C dX8_isName_166 (by decide) ?_
            have el_1 : (1 : Int32).toInt = 1 := rfl
            exact j_lv [0, 1, 2] rfl (join_3 (1) (by omega))
    refine j_aload_n (pc := 60) C dX8_isName_60 rfl 1 rfl ?_
    refine j_ldcS (pc := 61) (i := 32) C (by decide) rfl dX8_isName_61 ?_
    refine j_callV (pc := 63) (As := [.ref (D.2.1 32)]) (rest := []) (wr := []) C (c_X8_isWord l D cyC cyI cyJ cyZ cyO t0 t1 32 t_length t_next t_kind t_place t_number t_text h_t_length h_t_next h_t_kind h_t_place (by decide)) wd_288 wd_258 wd_289 wd_290 wd_291 ⟨by decide, by decide, rfl⟩ rfl ⟨rfl, rfl, by decide, by decide⟩ ⟨by decide, by decide⟩ [0, 1] [] rfl rfl ⟨by decide, by decide, by decide⟩ 0 rfl rfl rfl (Nat.le_of_ble_eq_true rfl) dX8_isName_63 (fun u_17 hw_18 => ?_)
    refine j_eq (ws2 := [(t0, .inr (8, [.ref t1, .int t_length, .int t_next, .int t_kind, .int t_place, .int t_number])), (t1, .inl (cyC, 1000, .inl t_text))]) (pc2 := 66) (lv2 := [(1, .int xj1), (0, .ref t0)]) (st2 := [.int (u_17.2.1 0)]) rfl rfl rfl rfl ?_
    have hw_18_0 : 0 ≤ (u_17.2.1 0).toInt ∧ (u_17.2.1 0).toInt ≤ 1 := hw_18
    refine j_if_ne (pc := 66) (tgt := 132) C dX8_isName_66 (by decide) (fun c_19 => ?_) (fun c_19 => ?_)
    · skip
      have el_0 : (0 : Int32).toInt = 0 := rfl
      rw [i_eq] at c_19
      have k0c_19 : ((u_17.2.1 0)).toInt = 1 := by omega
      refine j_iconst (pc := 132) (v := 1) C dX8_isName_132 (by decide) ?_
      refine j_goto (pc := 133) (tgt := 137) C dX8_isName_133 (by decide) ?_
      have el_1 : (1 : Int32).toInt = 1 := rfl
      exact j_lv [0, 1] rfl (join_2 (1) (by omega))
    · skip
      have el_0 : (0 : Int32).toInt = 0 := rfl
      rw [i_eq] at c_19
      refine j_aload_n (pc := 69) C dX8_isName_69 rfl 1 rfl ?_
      refine j_ldcS (pc := 70) (i := 33) C (by decide) rfl dX8_isName_70 ?_
      refine j_callV (pc := 72) (As := [.ref (D.2.1 33)]) (rest := []) (wr := []) C (c_X8_isWord l D cyC cyI cyJ cyZ cyO t0 t1 33 t_length t_next t_kind t_place t_number t_text h_t_length h_t_next h_t_kind h_t_place (by decide)) wd_288 wd_258 wd_289 wd_290 wd_291 ⟨by decide, by decide, rfl⟩ rfl ⟨rfl, rfl, by decide, by decide⟩ ⟨by decide, by decide⟩ [0, 1] [] rfl rfl ⟨by decide, by decide, by decide⟩ 0 rfl rfl rfl (Nat.le_of_ble_eq_true rfl) dX8_isName_72 (fun u_20 hw_21 => ?_)
      refine j_eq (ws2 := [(t0, .inr (8, [.ref t1, .int t_length, .int t_next, .int t_kind, .int t_place, .int t_number])), (t1, .inl (cyC, 1000, .inl t_text))]) (pc2 := 75) (lv2 := [(1, .int xj1), (0, .ref t0)]) (st2 := [.int (u_20.2.1 0)]) rfl rfl rfl rfl ?_
      have hw_21_0 : 0 ≤ (u_20.2.1 0).toInt ∧ (u_20.2.1 0).toInt ≤ 1 := hw_21
      refine j_if_ne (pc := 75) (tgt := 132) C dX8_isName_75 (by decide) (fun c_22 => ?_) (fun c_22 => ?_)
      · skip
        have el_0 : (0 : Int32).toInt = 0 := rfl
        rw [i_eq] at c_22
        have k0c_22 : ((u_20.2.1 0)).toInt = 1 := by omega
        refine j_iconst (pc := 132) (v := 1) C dX8_isName_132 (by decide) ?_
        refine j_goto (pc := 133) (tgt := 137) C dX8_isName_133 (by decide) ?_
        have el_1 : (1 : Int32).toInt = 1 := rfl
        exact j_lv [0, 1] rfl (join_2 (1) (by omega))
      · skip
        have el_0 : (0 : Int32).toInt = 0 := rfl
        rw [i_eq] at c_22
        refine j_aload_n (pc := 78) C dX8_isName_78 rfl 1 rfl ?_
        refine j_ldcS (pc := 79) (i := 34) C (by decide) rfl dX8_isName_79 ?_
        refine j_callV (pc := 81) (As := [.ref (D.2.1 34)]) (rest := []) (wr := []) C (c_X8_isWord l D cyC cyI cyJ cyZ cyO t0 t1 34 t_length t_next t_kind t_place t_number t_text h_t_length h_t_next h_t_kind h_t_place (by decide)) wd_288 wd_258 wd_289 wd_290 wd_291 ⟨by decide, by decide, rfl⟩ rfl ⟨rfl, rfl, by decide, by decide⟩ ⟨by decide, by decide⟩ [0, 1] [] rfl rfl ⟨by decide, by decide, by decide⟩ 0 rfl rfl rfl (Nat.le_of_ble_eq_true rfl) dX8_isName_81 (fun u_23 hw_24 => ?_)
        refine j_eq (ws2 := [(t0, .inr (8, [.ref t1, .int t_length, .int t_next, .int t_kind, .int t_place, .int t_number])), (t1, .inl (cyC, 1000, .inl t_text))]) (pc2 := 84) (lv2 := [(1, .int xj1), (0, .ref t0)]) (st2 := [.int (u_23.2.1 0)]) rfl rfl rfl rfl ?_
        have hw_24_0 : 0 ≤ (u_23.2.1 0).toInt ∧ (u_23.2.1 0).toInt ≤ 1 := hw_24
        refine j_if_ne (pc := 84) (tgt := 132) C dX8_isName_84 (by decide) (fun c_25 => ?_) (fun c_25 => ?_)
        · skip
          have el_0 : (0 : Int32).toInt = 0 := rfl
          rw [i_eq] at c_25
          have k0c_25 : ((u_23.2.1 0)).toInt = 1 := by omega
          refine j_iconst (pc := 132) (v := 1) C dX8_isName_132 (by decide) ?_
          refine j_goto (pc := 133) (tgt := 137) C dX8_isName_133 (by decide) ?_
          have el_1 : (1 : Int32).toInt = 1 := rfl
          exact j_lv [0, 1] rfl (join_2 (1) (by omega))
        · skip
          have el_0 : (0 : Int32).toInt = 0 := rfl
          rw [i_eq] at c_25
          refine j_aload_n (pc := 87) C dX8_isName_87 rfl 1 rfl ?_
          refine j_ldcS (pc := 88) (i := 35) C (by decide) rfl dX8_isName_88 ?_
          refine j_callV (pc := 90) (As := [.ref (D.2.1 35)]) (rest := []) (wr := []) C (c_X8_isWord l D cyC cyI cyJ cyZ cyO t0 t1 35 t_length t_next t_kind t_place t_number t_text h_t_length h_t_next h_t_kind h_t_place (by decide)) wd_288 wd_258 wd_289 wd_290 wd_291 ⟨by decide, by decide, rfl⟩ rfl ⟨rfl, rfl, by decide, by decide⟩ ⟨by decide, by decide⟩ [0, 1] [] rfl rfl ⟨by decide, by decide, by decide⟩ 0 rfl rfl rfl (Nat.le_of_ble_eq_true rfl) dX8_isName_90 (fun u_26 hw_27 => ?_)
          refine j_eq (ws2 := [(t0, .inr (8, [.ref t1, .int t_length, .int t_next, .int t_kind, .int t_place, .int t_number])), (t1, .inl (cyC, 1000, .inl t_text))]) (pc2 := 93) (lv2 := [(1, .int xj1), (0, .ref t0)]) (st2 := [.int (u_26.2.1 0)]) rfl rfl rfl rfl ?_
          have hw_27_0 : 0 ≤ (u_26.2.1 0).toInt ∧ (u_26.2.1 0).toInt ≤ 1 := hw_27
          refine j_if_ne (pc := 93) (tgt := 132) C dX8_isName_93 (by decide) (fun c_28 => ?_) (fun c_28 => ?_)
          · skip
            have el_0 : (0 : Int32).toInt = 0 := rfl
            rw [i_eq] at c_28
            have k0c_28 : ((u_26.2.1 0)).toInt = 1 := by omega
            refine j_iconst (pc := 132) (v := 1) C dX8_isName_132 (by decide) ?_
            refine j_goto (pc := 133) (tgt := 137) C dX8_isName_133 (by decide) ?_
            have el_1 : (1 : Int32).toInt = 1 := rfl
            exact j_lv [0, 1] rfl (join_2 (1) (by omega))
          · skip
            have el_0 : (0 : Int32).toInt = 0 := rfl
            rw [i_eq] at c_28
            refine j_aload_n (pc := 96) C dX8_isName_96 rfl 1 rfl ?_
            refine j_ldcS (pc := 97) (i := 36) C (by decide) rfl dX8_isName_97 ?_
            refine j_callV (pc := 99) (As := [.ref (D.2.1 36)]) (rest := []) (wr := []) C (c_X8_isWord l D cyC cyI cyJ cyZ cyO t0 t1 36 t_length t_next t_kind t_place t_number t_text h_t_length h_t_next h_t_kind h_t_place (by decide)) wd_288 wd_258 wd_289 wd_290 wd_291 ⟨by decide, by decide, rfl⟩ rfl ⟨rfl, rfl, by decide, by decide⟩ ⟨by decide, by decide⟩ [0, 1] [] rfl rfl ⟨by decide, by decide, by decide⟩ 0 rfl rfl rfl (Nat.le_of_ble_eq_true rfl) dX8_isName_99 (fun u_29 hw_30 => ?_)
            refine j_eq (ws2 := [(t0, .inr (8, [.ref t1, .int t_length, .int t_next, .int t_kind, .int t_place, .int t_number])), (t1, .inl (cyC, 1000, .inl t_text))]) (pc2 := 102) (lv2 := [(1, .int xj1), (0, .ref t0)]) (st2 := [.int (u_29.2.1 0)]) rfl rfl rfl rfl ?_
            have hw_30_0 : 0 ≤ (u_29.2.1 0).toInt ∧ (u_29.2.1 0).toInt ≤ 1 := hw_30
            refine j_if_ne (pc := 102) (tgt := 132) C dX8_isName_102 (by decide) (fun c_31 => ?_) (fun c_31 => ?_)
            · skip
              have el_0 : (0 : Int32).toInt = 0 := rfl
              rw [i_eq] at c_31
              have k0c_31 : ((u_29.2.1 0)).toInt = 1 := by omega
              refine j_iconst (pc := 132) (v := 1) C dX8_isName_132 (by decide) ?_
              refine j_goto (pc := 133) (tgt := 137) C dX8_isName_133 (by decide) ?_
              have el_1 : (1 : Int32).toInt = 1 := rfl
              exact j_lv [0, 1] rfl (join_2 (1) (by omega))
            · skip
              have el_0 : (0 : Int32).toInt = 0 := rfl
              rw [i_eq] at c_31
              refine j_aload_n (pc := 105) C dX8_isName_105 rfl 1 rfl ?_
              refine j_ldcS (pc := 106) (i := 37) C (by decide) rfl dX8_isName_106 ?_
              refine j_callV (pc := 108) (As := [.ref (D.2.1 37)]) (rest := []) (wr := []) C (c_X8_isWord l D cyC cyI cyJ cyZ cyO t0 t1 37 t_length t_next t_kind t_place t_number t_text h_t_length h_t_next h_t_kind h_t_place (by decide)) wd_288 wd_258 wd_289 wd_290 wd_291 ⟨by decide, by decide, rfl⟩ rfl ⟨rfl, rfl, by decide, by decide⟩ ⟨by decide, by decide⟩ [0, 1] [] rfl rfl ⟨by decide, by decide, by decide⟩ 0 rfl rfl rfl (Nat.le_of_ble_eq_true rfl) dX8_isName_108 (fun u_32 hw_33 => ?_)
              refine j_eq (ws2 := [(t0, .inr (8, [.ref t1, .int t_length, .int t_next, .int t_kind, .int t_place, .int t_number])), (t1, .inl (cyC, 1000, .inl t_text))]) (pc2 := 111) (lv2 := [(1, .int xj1), (0, .ref t0)]) (st2 := [.int (u_32.2.1 0)]) rfl rfl rfl rfl ?_
              have hw_33_0 : 0 ≤ (u_32.2.1 0).toInt ∧ (u_32.2.1 0).toInt ≤ 1 := hw_33
              refine j_if_ne (pc := 111) (tgt := 132) C dX8_isName_111 (by decide) (fun c_34 => ?_) (fun c_34 => ?_)
              · skip
                have el_0 : (0 : Int32).toInt = 0 := rfl
                rw [i_eq] at c_34
                have k0c_34 : ((u_32.2.1 0)).toInt = 1 := by omega
                refine j_iconst (pc := 132) (v := 1) C dX8_isName_132 (by decide) ?_
                refine j_goto (pc := 133) (tgt := 137) C dX8_isName_133 (by decide) ?_
                have el_1 : (1 : Int32).toInt = 1 := rfl
                exact j_lv [0, 1] rfl (join_2 (1) (by omega))
              · skip
                have el_0 : (0 : Int32).toInt = 0 := rfl
                rw [i_eq] at c_34
                refine j_aload_n (pc := 114) C dX8_isName_114 rfl 1 rfl ?_
                refine j_ldcS (pc := 115) (i := 38) C (by decide) rfl dX8_isName_115 ?_
                refine j_callV (pc := 117) (As := [.ref (D.2.1 38)]) (rest := []) (wr := []) C (c_X8_isWord l D cyC cyI cyJ cyZ cyO t0 t1 38 t_length t_next t_kind t_place t_number t_text h_t_length h_t_next h_t_kind h_t_place (by decide)) wd_288 wd_258 wd_289 wd_290 wd_291 ⟨by decide, by decide, rfl⟩ rfl ⟨rfl, rfl, by decide, by decide⟩ ⟨by decide, by decide⟩ [0, 1] [] rfl rfl ⟨by decide, by decide, by decide⟩ 0 rfl rfl rfl (Nat.le_of_ble_eq_true rfl) dX8_isName_117 (fun u_35 hw_36 => ?_)
                refine j_eq (ws2 := [(t0, .inr (8, [.ref t1, .int t_length, .int t_next, .int t_kind, .int t_place, .int t_number])), (t1, .inl (cyC, 1000, .inl t_text))]) (pc2 := 120) (lv2 := [(1, .int xj1), (0, .ref t0)]) (st2 := [.int (u_35.2.1 0)]) rfl rfl rfl rfl ?_
                have hw_36_0 : 0 ≤ (u_35.2.1 0).toInt ∧ (u_35.2.1 0).toInt ≤ 1 := hw_36
                refine j_if_ne (pc := 120) (tgt := 132) C dX8_isName_120 (by decide) (fun c_37 => ?_) (fun c_37 => ?_)
                · skip
                  have el_0 : (0 : Int32).toInt = 0 := rfl
                  rw [i_eq] at c_37
                  have k0c_37 : ((u_35.2.1 0)).toInt = 1 := by omega
                  refine j_iconst (pc := 132) (v := 1) C dX8_isName_132 (by decide) ?_
                  refine j_goto (pc := 133) (tgt := 137) C dX8_isName_133 (by decide) ?_
                  have el_1 : (1 : Int32).toInt = 1 := rfl
                  exact j_lv [0, 1] rfl (join_2 (1) (by omega))
                · skip
                  have el_0 : (0 : Int32).toInt = 0 := rfl
                  rw [i_eq] at c_37
                  refine j_aload_n (pc := 123) C dX8_isName_123 rfl 1 rfl ?_
                  refine j_ldcS (pc := 124) (i := 39) C (by decide) rfl dX8_isName_124 ?_
                  refine j_callV (pc := 126) (As := [.ref (D.2.1 39)]) (rest := []) (wr := []) C (c_X8_isWord l D cyC cyI cyJ cyZ cyO t0 t1 39 t_length t_next t_kind t_place t_number t_text h_t_length h_t_next h_t_kind h_t_place (by decide)) wd_288 wd_258 wd_289 wd_290 wd_291 ⟨by decide, by decide, rfl⟩ rfl ⟨rfl, rfl, by decide, by decide⟩ ⟨by decide, by decide⟩ [0, 1] [] rfl rfl ⟨by decide, by decide, by decide⟩ 0 rfl rfl rfl (Nat.le_of_ble_eq_true rfl) dX8_isName_126 (fun u_38 hw_39 => ?_)
                  refine j_eq (ws2 := [(t0, .inr (8, [.ref t1, .int t_length, .int t_next, .int t_kind, .int t_place, .int t_number])), (t1, .inl (cyC, 1000, .inl t_text))]) (pc2 := 129) (lv2 := [(1, .int xj1), (0, .ref t0)]) (st2 := [.int (u_38.2.1 0)]) rfl rfl rfl rfl ?_
                  have hw_39_0 : 0 ≤ (u_38.2.1 0).toInt ∧ (u_38.2.1 0).toInt ≤ 1 := hw_39
                  refine j_if_eq (pc := 129) (tgt := 136) C dX8_isName_129 (by decide) (fun c_40 => ?_) (fun c_40 => ?_)
                  · skip
                    have el_0 : (0 : Int32).toInt = 0 := rfl
                    rw [i_eq] at c_40
                    refine j_iconst (pc := 136) (v := 0) C dX8_isName_136 (by decide) ?_
                    have el_0 : (0 : Int32).toInt = 0 := rfl
                    exact j_lv [0, 1] rfl (join_2 (0) (by omega))
                  · skip
                    have el_0 : (0 : Int32).toInt = 0 := rfl
                    rw [i_eq] at c_40
                    have k0c_40 : ((u_38.2.1 0)).toInt = 1 := by omega
                    refine j_iconst (pc := 132) (v := 1) C dX8_isName_132 (by decide) ?_
                    refine j_goto (pc := 133) (tgt := 137) C dX8_isName_133 (by decide) ?_
                    have el_1 : (1 : Int32).toInt = 1 := rfl
                    exact j_lv [0, 1] rfl (join_2 (1) (by omega))
  refine j_aload_n (pc := 0) C dX8_isName_0 rfl 0 rfl ?_
  refine j_ldcS (pc := 1) (i := 26) C (by decide) rfl dX8_isName_1 ?_
  refine j_callV (pc := 3) (As := [.ref (D.2.1 26)]) (rest := []) (wr := []) C (c_X8_isWord l D cyC cyI cyJ cyZ cyO t0 t1 26 t_length t_next t_kind t_place t_number t_text h_t_length h_t_next h_t_kind h_t_place (by decide)) wd_288 wd_258 wd_289 wd_290 wd_291 ⟨by decide, by decide, rfl⟩ rfl ⟨rfl, rfl, by decide, by decide⟩ ⟨by decide, by decide⟩ [0, 1] [] rfl rfl ⟨by decide, by decide, by decide⟩ 0 rfl rfl rfl (Nat.le_of_ble_eq_true rfl) dX8_isName_3 (fun u_41 hw_42 => ?_)
  refine j_eq (ws2 := [(t0, .inr (8, [.ref t1, .int t_length, .int t_next, .int t_kind, .int t_place, .int t_number])), (t1, .inl (cyC, 1000, .inl t_text))]) (pc2 := 6) (lv2 := [(0, .ref t0)]) (st2 := [.int (u_41.2.1 0)]) rfl rfl rfl rfl ?_
  have hw_42_0 : 0 ≤ (u_41.2.1 0).toInt ∧ (u_41.2.1 0).toInt ≤ 1 := hw_42
  refine j_if_ne (pc := 6) (tgt := 54) C dX8_isName_6 (by decide) (fun c_43 => ?_) (fun c_43 => ?_)
  · skip
    have el_0 : (0 : Int32).toInt = 0 := rfl
    rw [i_eq] at c_43
    have k0c_43 : ((u_41.2.1 0)).toInt = 1 := by omega
    refine j_iconst (pc := 54) (v := 1) C dX8_isName_54 (by decide) ?_
    refine j_goto (pc := 55) (tgt := 59) C dX8_isName_55 (by decide) ?_
    have el_1 : (1 : Int32).toInt = 1 := rfl
    exact j_lv [0] rfl (join_1 (1) (by omega))
  · skip
    have el_0 : (0 : Int32).toInt = 0 := rfl
    rw [i_eq] at c_43
    refine j_aload_n (pc := 9) C dX8_isName_9 rfl 0 rfl ?_
    refine j_ldcS (pc := 10) (i := 27) C (by decide) rfl dX8_isName_10 ?_
    refine j_callV (pc := 12) (As := [.ref (D.2.1 27)]) (rest := []) (wr := []) C (c_X8_isWord l D cyC cyI cyJ cyZ cyO t0 t1 27 t_length t_next t_kind t_place t_number t_text h_t_length h_t_next h_t_kind h_t_place (by decide)) wd_288 wd_258 wd_289 wd_290 wd_291 ⟨by decide, by decide, rfl⟩ rfl ⟨rfl, rfl, by decide, by decide⟩ ⟨by decide, by decide⟩ [0, 1] [] rfl rfl ⟨by decide, by decide, by decide⟩ 0 rfl rfl rfl (Nat.le_of_ble_eq_true rfl) dX8_isName_12 (fun u_44 hw_45 => ?_)
    refine j_eq (ws2 := [(t0, .inr (8, [.ref t1, .int t_length, .int t_next, .int t_kind, .int t_place, .int t_number])), (t1, .inl (cyC, 1000, .inl t_text))]) (pc2 := 15) (lv2 := [(0, .ref t0)]) (st2 := [.int (u_44.2.1 0)]) rfl rfl rfl rfl ?_
    have hw_45_0 : 0 ≤ (u_44.2.1 0).toInt ∧ (u_44.2.1 0).toInt ≤ 1 := hw_45
    refine j_if_ne (pc := 15) (tgt := 54) C dX8_isName_15 (by decide) (fun c_46 => ?_) (fun c_46 => ?_)
    · skip
      have el_0 : (0 : Int32).toInt = 0 := rfl
      rw [i_eq] at c_46
      have k0c_46 : ((u_44.2.1 0)).toInt = 1 := by omega
      refine j_iconst (pc := 54) (v := 1) C dX8_isName_54 (by decide) ?_
      refine j_goto (pc := 55) (tgt := 59) C dX8_isName_55 (by decide) ?_
      have el_1 : (1 : Int32).toInt = 1 := rfl
      exact j_lv [0] rfl (join_1 (1) (by omega))
    · skip
      have el_0 : (0 : Int32).toInt = 0 := rfl
      rw [i_eq] at c_46
      refine j_aload_n (pc := 18) C dX8_isName_18 rfl 0 rfl ?_
      refine j_ldcS (pc := 19) (i := 28) C (by decide) rfl dX8_isName_19 ?_
      refine j_callV (pc := 21) (As := [.ref (D.2.1 28)]) (rest := []) (wr := []) C (c_X8_isWord l D cyC cyI cyJ cyZ cyO t0 t1 28 t_length t_next t_kind t_place t_number t_text h_t_length h_t_next h_t_kind h_t_place (by decide)) wd_288 wd_258 wd_289 wd_290 wd_291 ⟨by decide, by decide, rfl⟩ rfl ⟨rfl, rfl, by decide, by decide⟩ ⟨by decide, by decide⟩ [0, 1] [] rfl rfl ⟨by decide, by decide, by decide⟩ 0 rfl rfl rfl (Nat.le_of_ble_eq_true rfl) dX8_isName_21 (fun u_47 hw_48 => ?_)
      refine j_eq (ws2 := [(t0, .inr (8, [.ref t1, .int t_length, .int t_next, .int t_kind, .int t_place, .int t_number])), (t1, .inl (cyC, 1000, .inl t_text))]) (pc2 := 24) (lv2 := [(0, .ref t0)]) (st2 := [.int (u_47.2.1 0)]) rfl rfl rfl rfl ?_
      have hw_48_0 : 0 ≤ (u_47.2.1 0).toInt ∧ (u_47.2.1 0).toInt ≤ 1 := hw_48
      refine j_if_ne (pc := 24) (tgt := 54) C dX8_isName_24 (by decide) (fun c_49 => ?_) (fun c_49 => ?_)
      · skip
        have el_0 : (0 : Int32).toInt = 0 := rfl
        rw [i_eq] at c_49
        have k0c_49 : ((u_47.2.1 0)).toInt = 1 := by omega
        refine j_iconst (pc := 54) (v := 1) C dX8_isName_54 (by decide) ?_
        refine j_goto (pc := 55) (tgt := 59) C dX8_isName_55 (by decide) ?_
        have el_1 : (1 : Int32).toInt = 1 := rfl
        exact j_lv [0] rfl (join_1 (1) (by omega))
      · skip
        have el_0 : (0 : Int32).toInt = 0 := rfl
        rw [i_eq] at c_49
        refine j_aload_n (pc := 27) C dX8_isName_27 rfl 0 rfl ?_
        refine j_ldcS (pc := 28) (i := 29) C (by decide) rfl dX8_isName_28 ?_
        refine j_callV (pc := 30) (As := [.ref (D.2.1 29)]) (rest := []) (wr := []) C (c_X8_isWord l D cyC cyI cyJ cyZ cyO t0 t1 29 t_length t_next t_kind t_place t_number t_text h_t_length h_t_next h_t_kind h_t_place (by decide)) wd_288 wd_258 wd_289 wd_290 wd_291 ⟨by decide, by decide, rfl⟩ rfl ⟨rfl, rfl, by decide, by decide⟩ ⟨by decide, by decide⟩ [0, 1] [] rfl rfl ⟨by decide, by decide, by decide⟩ 0 rfl rfl rfl (Nat.le_of_ble_eq_true rfl) dX8_isName_30 (fun u_50 hw_51 => ?_)
        refine j_eq (ws2 := [(t0, .inr (8, [.ref t1, .int t_length, .int t_next, .int t_kind, .int t_place, .int t_number])), (t1, .inl (cyC, 1000, .inl t_text))]) (pc2 := 33) (lv2 := [(0, .ref t0)]) (st2 := [.int (u_50.2.1 0)]) rfl rfl rfl rfl ?_
        have hw_51_0 : 0 ≤ (u_50.2.1 0).toInt ∧ (u_50.2.1 0).toInt ≤ 1 := hw_51
        refine j_if_ne (pc := 33) (tgt := 54) C dX8_isName_33 (by decide) (fun c_52 => ?_) (fun c_52 => ?_)
        · skip
          have el_0 : (0 : Int32).toInt = 0 := rfl
          rw [i_eq] at c_52
          have k0c_52 : ((u_50.2.1 0)).toInt = 1 := by omega
          refine j_iconst (pc := 54) (v := 1) C dX8_isName_54 (by decide) ?_
          refine j_goto (pc := 55) (tgt := 59) C dX8_isName_55 (by decide) ?_
          have el_1 : (1 : Int32).toInt = 1 := rfl
          exact j_lv [0] rfl (join_1 (1) (by omega))
        · skip
          have el_0 : (0 : Int32).toInt = 0 := rfl
          rw [i_eq] at c_52
          refine j_aload_n (pc := 36) C dX8_isName_36 rfl 0 rfl ?_
          refine j_ldcS (pc := 37) (i := 30) C (by decide) rfl dX8_isName_37 ?_
          refine j_callV (pc := 39) (As := [.ref (D.2.1 30)]) (rest := []) (wr := []) C (c_X8_isWord l D cyC cyI cyJ cyZ cyO t0 t1 30 t_length t_next t_kind t_place t_number t_text h_t_length h_t_next h_t_kind h_t_place (by decide)) wd_288 wd_258 wd_289 wd_290 wd_291 ⟨by decide, by decide, rfl⟩ rfl ⟨rfl, rfl, by decide, by decide⟩ ⟨by decide, by decide⟩ [0, 1] [] rfl rfl ⟨by decide, by decide, by decide⟩ 0 rfl rfl rfl (Nat.le_of_ble_eq_true rfl) dX8_isName_39 (fun u_53 hw_54 => ?_)
          refine j_eq (ws2 := [(t0, .inr (8, [.ref t1, .int t_length, .int t_next, .int t_kind, .int t_place, .int t_number])), (t1, .inl (cyC, 1000, .inl t_text))]) (pc2 := 42) (lv2 := [(0, .ref t0)]) (st2 := [.int (u_53.2.1 0)]) rfl rfl rfl rfl ?_
          have hw_54_0 : 0 ≤ (u_53.2.1 0).toInt ∧ (u_53.2.1 0).toInt ≤ 1 := hw_54
          refine j_if_ne (pc := 42) (tgt := 54) C dX8_isName_42 (by decide) (fun c_55 => ?_) (fun c_55 => ?_)
          · skip
            have el_0 : (0 : Int32).toInt = 0 := rfl
            rw [i_eq] at c_55
            have k0c_55 : ((u_53.2.1 0)).toInt = 1 := by omega
            refine j_iconst (pc := 54) (v := 1) C dX8_isName_54 (by decide) ?_
            refine j_goto (pc := 55) (tgt := 59) C dX8_isName_55 (by decide) ?_
            have el_1 : (1 : Int32).toInt = 1 := rfl
            exact j_lv [0] rfl (join_1 (1) (by omega))
          · skip
            have el_0 : (0 : Int32).toInt = 0 := rfl
            rw [i_eq] at c_55
            refine j_aload_n (pc := 45) C dX8_isName_45 rfl 0 rfl ?_
            refine j_ldcS (pc := 46) (i := 31) C (by decide) rfl dX8_isName_46 ?_
            refine j_callV (pc := 48) (As := [.ref (D.2.1 31)]) (rest := []) (wr := []) C (c_X8_isWord l D cyC cyI cyJ cyZ cyO t0 t1 31 t_length t_next t_kind t_place t_number t_text h_t_length h_t_next h_t_kind h_t_place (by decide)) wd_288 wd_258 wd_289 wd_290 wd_291 ⟨by decide, by decide, rfl⟩ rfl ⟨rfl, rfl, by decide, by decide⟩ ⟨by decide, by decide⟩ [0, 1] [] rfl rfl ⟨by decide, by decide, by decide⟩ 0 rfl rfl rfl (Nat.le_of_ble_eq_true rfl) dX8_isName_48 (fun u_56 hw_57 => ?_)
            refine j_eq (ws2 := [(t0, .inr (8, [.ref t1, .int t_length, .int t_next, .int t_kind, .int t_place, .int t_number])), (t1, .inl (cyC, 1000, .inl t_text))]) (pc2 := 51) (lv2 := [(0, .ref t0)]) (st2 := [.int (u_56.2.1 0)]) rfl rfl rfl rfl ?_
            have hw_57_0 : 0 ≤ (u_56.2.1 0).toInt ∧ (u_56.2.1 0).toInt ≤ 1 := hw_57
            refine j_if_eq (pc := 51) (tgt := 58) C dX8_isName_51 (by decide) (fun c_58 => ?_) (fun c_58 => ?_)
            · skip
              have el_0 : (0 : Int32).toInt = 0 := rfl
              rw [i_eq] at c_58
              refine j_iconst (pc := 58) (v := 0) C dX8_isName_58 (by decide) ?_
              have el_0 : (0 : Int32).toInt = 0 := rfl
              exact j_lv [0] rfl (join_1 (0) (by omega))
            · skip
              have el_0 : (0 : Int32).toInt = 0 := rfl
              rw [i_eq] at c_58
              have k0c_58 : ((u_56.2.1 0)).toInt = 1 := by omega
              refine j_iconst (pc := 54) (v := 1) C dX8_isName_54 (by decide) ?_
              refine j_goto (pc := 55) (tgt := 59) C dX8_isName_55 (by decide) ?_
              have el_1 : (1 : Int32).toInt = 1 := rfl
              exact j_lv [0] rfl (join_1 (1) (by omega))
set_option maxHeartbeats 4000000 in
set_option maxRecDepth 100000 in
theorem c_X8_pastBlanks_f (l : Launch) (D : DG) (cyC cyI cyJ cyZ cyO : ClassId) (t0 : Nat) (t1 : Nat) (p0 : Int32) (t_length : Int32) (t_next : Int32) (t_kind : Int32) (t_place : Int32) (t_number : Int32) (t_text : Nat → Int32) (h_t_length : 0 ≤ (t_length).toInt ∧ (t_length).toInt ≤ 1000) (h_t_next : 0 ≤ (t_next).toInt ∧ (t_next).toInt ≤ 1000) (h_t_kind : 0 ≤ (t_kind).toInt ∧ (t_kind).toInt ≤ 4) (h_t_place : 0 ≤ (t_place).toInt ∧ (t_place).toInt ≤ 1000) (h_p0 : 0 ≤ (p0).toInt ∧ (p0).toInt ≤ 1000) (h_t_text : Iv 1000 (0) (126) t_text) : KK l D (TY cyC cyI cyJ cyZ cyO) yX8_pastBlanks cX8_pastBlanks 3 (some .int) ({ frames := 0, cells := 0, slots := 0, locals := 0 } : Room) 0 0 [.ref t0, .int p0] [(t0, .inr (8, [.ref t1, .int t_length, .int t_next, .int t_kind, .int t_place, .int t_number])), (t1, .inl (cyC, 1000, .inl t_text))] (fun u => some (.int (u.2.1 0))) (fun u => (0 ≤ (u.2.1 0).toInt ∧ (u.2.1 0).toInt ≤ 1000) ∧ (RE isB t_text (t_length).toInt.toNat (p0).toInt.toNat (u.2.1 0).toInt.toNat) ∧ ((p0).toInt ≤ (u.2.1 0).toInt)) (fun u => [(t0, .inr (8, [.ref t1, .int t_length, .int t_next, .int t_kind, .int t_place, .int t_number])), (t1, .inl (cyC, 1000, .inl t_text))]) := by
  refine KK.of (lv0 := [(0, .ref t0), (1, .int p0)]) (by decide) rfl (Nat.le_of_ble_eq_true rfl) ?_
  intro p e s m args below meth c A C hr hk hin
  refine j_iload_n (pc := 0) C dX8_pastBlanks_0 rfl 1 rfl ?_
  refine j_istore_n (pc := 1) (lv' := [(2, .int p0), (0, .ref t0), (1, .int p0)]) C dX8_pastBlanks_1 rfl (by decide) rfl ?_
  have loop_1 : ∀ (k_1 : Nat) (x1_2 : Int32), (0 ≤ (x1_2).toInt ∧ (x1_2).toInt ≤ 1000) → ((p0).toInt ≤ x1_2.toInt) → (∀ j : Nat, (p0).toInt ≤ (j : Int) → (j : Int) < x1_2.toInt → j < (t_length).toInt.toNat ∧ isB (t_text j) = true) → (1000 - x1_2.toInt).toNat < k_1 → J p l e ({ frames := 0, cells := 0, slots := 0, locals := 0 } : Room) s m args below meth c D A 3 0 0 (QX below D (TY cyC cyI cyJ cyZ cyO) A (fun u => some (.int (u.2.1 0))) (fun u => (0 ≤ (u.2.1 0).toInt ∧ (u.2.1 0).toInt ≤ 1000) ∧ (RE isB t_text (t_length).toInt.toNat (p0).toInt.toNat (u.2.1 0).toInt.toNat) ∧ ((p0).toInt ≤ (u.2.1 0).toInt)) (fun u => [(t0, .inr (8, [.ref t1, .int t_length, .int t_next, .int t_kind, .int t_place, .int t_number])), (t1, .inl (cyC, 1000, .inl t_text))]) args s 0 0) [(t0, .inr (8, [.ref t1, .int t_length, .int t_next, .int t_kind, .int t_place, .int t_number])), (t1, .inl (cyC, 1000, .inl t_text))] 2 [(2, .int x1_2), (0, .ref t0), (1, .int p0)] [] := by
    intro k_1
    induction k_1 with
    | zero =>
      intro x1_2 hi_1_0 hr_1 hq_1_0 hm_1
      exact absurd hm_1 (Nat.not_lt_zero _)
    | succ k_1 ih_1 =>
      intro x1_2 hi_1_0 hr_1 hq_1_0 hm_1
      refine j_iload_n (pc := 2) C dX8_pastBlanks_2 rfl 0 rfl ?_
      refine j_aload_n (pc := 3) C dX8_pastBlanks_3 rfl 1 rfl ?_
      refine j_get (pc := 4) (ci := 8) (v := .int t_length) C inw_8 0 rfl rfl 1 (by decide) wd_254 rfl rfl dX8_pastBlanks_4 ?_
      refine j_icmp_ge (pc := 7) (tgt := 38) C dX8_pastBlanks_7 (by decide) (fun c_2 => ?_) (fun c_2 => ?_)
      · skip
        rw [i_le] at c_2
        refine j_iload_n (pc := 38) C dX8_pastBlanks_38 rfl 0 rfl ?_
        exact j_iret (pc := 39) C hr hk (fun i => [].getD i 0, fun i => [x1_2].getD i 0, fun i => [].getD i (fun _ => 0), fun i => [].getD i (fun _ => 0)) rfl (show (0 ≤ (x1_2).toInt ∧ (x1_2).toInt ≤ 1000) ∧ (RE isB t_text (t_length).toInt.toNat (p0).toInt.toNat x1_2.toInt.toNat) ∧ ((p0).toInt ≤ x1_2.toInt) from ⟨hi_1_0, ⟨by omega, fun j j1 j2 => hq_1_0 j (by omega) (by omega), fun z => absurd z.1 (by omega)⟩, by omega⟩) [0, 1] (by decide) rfl (by decide) (by decide) dX8_pastBlanks_39
      · skip
        rw [i_le] at c_2
        refine j_aload_n (pc := 10) C dX8_pastBlanks_10 rfl 1 rfl ?_
        refine j_get (pc := 11) (ci := 8) (v := .ref t1) C inw_8 0 rfl rfl 0 (by decide) wd_255 rfl rfl dX8_pastBlanks_11 ?_
        refine j_iload_n (pc := 14) C dX8_pastBlanks_14 rfl 0 rfl ?_
        obtain ⟨v_3, ev_3⟩ : ∃ z, t_text (x1_2).toInt.toNat = z := ⟨_, rfl⟩
        have env_3 : (t_text (x1_2).toInt.toNat).toInt = v_3.toInt := by rw [ev_3]
        have hv_3 := h_t_text (x1_2).toInt.toNat (i_lt_n hi_1_0.1 (by omega)); rw [ev_3] at hv_3
        refine j_cald (pc := 15) (v := v_3) (k := (x1_2).toInt.toNat) C 1 0 rfl rfl (i_nn hi_1_0.1) rfl (i_lt_n hi_1_0.1 (by omega)) ev_3 dX8_pastBlanks_15 ?_
        refine j_bipush (pc := 16) (v := 10) C dX8_pastBlanks_16 (by decide) ?_
        refine j_icmp_eq (pc := 18) (tgt := 32) C dX8_pastBlanks_18 (by decide) (fun c_4 => ?_) (fun c_4 => ?_)
        · skip
          have el_10 : (10 : Int32).toInt = 10 := rfl
          rw [i_eq] at c_4
          obtain ⟨v_5, ev_5⟩ : ∃ z : Int32, x1_2 + 1 = z := ⟨_, rfl⟩
          have el_1 : (1 : Int32).toInt = 1 := rfl
          have hv_5 : v_5.toInt = x1_2.toInt + (1 : Int32).toInt := by rw [← ev_5]; exact fb_addI (by omega) (by omega)
          refine j_iinc (pc := 32) (v := v_5) (lv' := [(2, .int v_5), (0, .ref t0), (1, .int p0)]) C dX8_pastBlanks_32 0 rfl ev_5 (by decide) rfl ?_
          refine j_goto (pc := 35) (tgt := 2) C dX8_pastBlanks_35 (by decide) ?_
          exact j_lv [0, 1, 2] rfl (ih_1 v_5 (by omega) (by omega) (fun j j1 j2 => by rcases Int.lt_or_le (j : Int) (x1_2).toInt with q | q; (exact hq_1_0 j j1 q); (have ej : j = (x1_2).toInt.toNat := (by omega); rw [ej]; exact ⟨by omega, by (rw [ev_3]; exact decide_eq_true (by omega))⟩)) (by omega))
        · skip
          have el_10 : (10 : Int32).toInt = 10 := rfl
          rw [i_eq] at c_4
          refine j_aload_n (pc := 21) C dX8_pastBlanks_21 rfl 1 rfl ?_
          refine j_get (pc := 22) (ci := 8) (v := .ref t1) C inw_8 0 rfl rfl 0 (by decide) wd_255 rfl rfl dX8_pastBlanks_22 ?_
          refine j_iload_n (pc := 25) C dX8_pastBlanks_25 rfl 0 rfl ?_
          refine j_cald (pc := 26) (v := v_3) (k := (x1_2).toInt.toNat) C 1 0 rfl rfl (i_nn hi_1_0.1) rfl (i_lt_n hi_1_0.1 (by omega)) ev_3 dX8_pastBlanks_26 ?_
          refine j_bipush (pc := 27) (v := 32) C dX8_pastBlanks_27 (by decide) ?_
          refine j_icmp_ne (pc := 29) (tgt := 38) C dX8_pastBlanks_29 (by decide) (fun c_6 => ?_) (fun c_6 => ?_)
          · skip
            have el_32 : (32 : Int32).toInt = 32 := rfl
            rw [i_eq] at c_6
            refine j_iload_n (pc := 38) C dX8_pastBlanks_38 rfl 0 rfl ?_
            exact j_iret (pc := 39) C hr hk (fun i => [].getD i 0, fun i => [x1_2].getD i 0, fun i => [].getD i (fun _ => 0), fun i => [].getD i (fun _ => 0)) rfl (show (0 ≤ (x1_2).toInt ∧ (x1_2).toInt ≤ 1000) ∧ (RE isB t_text (t_length).toInt.toNat (p0).toInt.toNat x1_2.toInt.toNat) ∧ ((p0).toInt ≤ x1_2.toInt) from ⟨hi_1_0, ⟨by omega, fun j j1 j2 => hq_1_0 j (by omega) (by omega), fun z => by (have z2 := of_decide_eq_true z.2; rw [ev_3] at z2; omega)⟩, by omega⟩) [0, 1] (by decide) rfl (by decide) (by decide) dX8_pastBlanks_39
          · skip
            have el_32 : (32 : Int32).toInt = 32 := rfl
            rw [i_eq] at c_6
            obtain ⟨v_7, ev_7⟩ : ∃ z : Int32, x1_2 + 1 = z := ⟨_, rfl⟩
            have el_1 : (1 : Int32).toInt = 1 := rfl
            have hv_7 : v_7.toInt = x1_2.toInt + (1 : Int32).toInt := by rw [← ev_7]; exact fb_addI (by omega) (by omega)
            refine j_iinc (pc := 32) (v := v_7) (lv' := [(2, .int v_7), (0, .ref t0), (1, .int p0)]) C dX8_pastBlanks_32 0 rfl ev_7 (by decide) rfl ?_
            refine j_goto (pc := 35) (tgt := 2) C dX8_pastBlanks_35 (by decide) ?_
            exact j_lv [0, 1, 2] rfl (ih_1 v_7 (by omega) (by omega) (fun j j1 j2 => by rcases Int.lt_or_le (j : Int) (x1_2).toInt with q | q; (exact hq_1_0 j j1 q); (have ej : j = (x1_2).toInt.toNat := (by omega); rw [ej]; exact ⟨by omega, by (rw [ev_3]; exact decide_eq_true (by omega))⟩)) (by omega))
  exact j_lv [0, 1, 2] rfl (loop_1 4096 p0 h_p0 (by omega) (fun j j1 j2 => absurd j2 (by omega)) (by omega))
set_option maxHeartbeats 4000000 in
set_option maxRecDepth 100000 in
theorem c_X8_pastRun_f (l : Launch) (D : DG) (cyC cyI cyJ cyZ cyO : ClassId) (t0 : Nat) (t1 : Nat) (p0 : Int32) (p1 : Int32) (p2 : Int32) (t_length : Int32) (t_next : Int32) (t_kind : Int32) (t_place : Int32) (t_number : Int32) (t_text : Nat → Int32) (h_t_length : 0 ≤ (t_length).toInt ∧ (t_length).toInt ≤ 1000) (h_t_next : 0 ≤ (t_next).toInt ∧ (t_next).toInt ≤ 1000) (h_t_kind : 0 ≤ (t_kind).toInt ∧ (t_kind).toInt ≤ 4) (h_t_place : 0 ≤ (t_place).toInt ∧ (t_place).toInt ≤ 1000) (h_p0 : 0 ≤ (p0).toInt ∧ (p0).toInt ≤ 1000) (h_t_text : Iv 1000 (0) (126) t_text) : KK l D (TY cyC cyI cyJ cyZ cyO) yX8_pastRun cX8_pastRun 5 (some .int) ({ frames := 0, cells := 0, slots := 0, locals := 0 } : Room) 0 0 [.ref t0, .int p0, .int p1, .int p2] [(t0, .inr (8, [.ref t1, .int t_length, .int t_next, .int t_kind, .int t_place, .int t_number])), (t1, .inl (cyC, 1000, .inl t_text))] (fun u => some (.int (u.2.1 0))) (fun u => (0 ≤ (u.2.1 0).toInt ∧ (u.2.1 0).toInt ≤ 1000) ∧ (RE (isR p1 p2) t_text (t_length).toInt.toNat (p0).toInt.toNat (u.2.1 0).toInt.toNat) ∧ ((p0).toInt ≤ (u.2.1 0).toInt)) (fun u => [(t0, .inr (8, [.ref t1, .int t_length, .int t_next, .int t_kind, .int t_place, .int t_number])), (t1, .inl (cyC, 1000, .inl t_text))]) := by
  refine KK.of (lv0 := [(0, .ref t0), (1, .int p0), (2, .int p1), (3, .int p2)]) (by decide) rfl (Nat.le_of_ble_eq_true rfl) ?_
  intro p e s m args below meth c A C hr hk hin
  refine j_iload_n (pc := 0) C dX8_pastRun_0 rfl 1 rfl ?_
  refine j_istore (pc := 1) (lv' := [(4, .int p0), (0, .ref t0), (1, .int p0), (2, .int p1), (3, .int p2)]) C dX8_pastRun_1 (by decide) rfl ?_
  have loop_1 : ∀ (k_1 : Nat) (x1_4 : Int32), (0 ≤ (x1_4).toInt ∧ (x1_4).toInt ≤ 1000) → ((p0).toInt ≤ x1_4.toInt) → (∀ j : Nat, (p0).toInt ≤ (j : Int) → (j : Int) < x1_4.toInt → j < (t_length).toInt.toNat ∧ isR p1 p2 (t_text j) = true) → (1000 - x1_4.toInt).toNat < k_1 → J p l e ({ frames := 0, cells := 0, slots := 0, locals := 0 } : Room) s m args below meth c D A 5 0 0 (QX below D (TY cyC cyI cyJ cyZ cyO) A (fun u => some (.int (u.2.1 0))) (fun u => (0 ≤ (u.2.1 0).toInt ∧ (u.2.1 0).toInt ≤ 1000) ∧ (RE (isR p1 p2) t_text (t_length).toInt.toNat (p0).toInt.toNat (u.2.1 0).toInt.toNat) ∧ ((p0).toInt ≤ (u.2.1 0).toInt)) (fun u => [(t0, .inr (8, [.ref t1, .int t_length, .int t_next, .int t_kind, .int t_place, .int t_number])), (t1, .inl (cyC, 1000, .inl t_text))]) args s 0 0) [(t0, .inr (8, [.ref t1, .int t_length, .int t_next, .int t_kind, .int t_place, .int t_number])), (t1, .inl (cyC, 1000, .inl t_text))] 3 [(4, .int x1_4), (0, .ref t0), (1, .int p0), (2, .int p1), (3, .int p2)] [] := by
    intro k_1
    induction k_1 with
    | zero =>
      intro x1_4 hi_1_0 hr_1 hq_1_0 hm_1
      exact absurd hm_1 (Nat.not_lt_zero _)
    | succ k_1 ih_1 =>
      intro x1_4 hi_1_0 hr_1 hq_1_0 hm_1
      refine j_iload (pc := 3) C dX8_pastRun_3 0 rfl ?_
      refine j_aload_n (pc := 5) C dX8_pastRun_5 rfl 1 rfl ?_
      refine j_get (pc := 6) (ci := 8) (v := .int t_length) C inw_8 0 rfl rfl 1 (by decide) wd_254 rfl rfl dX8_pastRun_6 ?_
      refine j_icmp_ge (pc := 9) (tgt := 40) C dX8_pastRun_9 (by decide) (fun c_2 => ?_) (fun c_2 => ?_)
      · skip
        rw [i_le] at c_2
        refine j_iload (pc := 40) C dX8_pastRun_40 0 rfl ?_
        exact j_iret (pc := 42) C hr hk (fun i => [].getD i 0, fun i => [x1_4].getD i 0, fun i => [].getD i (fun _ => 0), fun i => [].getD i (fun _ => 0)) rfl (show (0 ≤ (x1_4).toInt ∧ (x1_4).toInt ≤ 1000) ∧ (RE (isR p1 p2) t_text (t_length).toInt.toNat (p0).toInt.toNat x1_4.toInt.toNat) ∧ ((p0).toInt ≤ x1_4.toInt) from ⟨hi_1_0, ⟨by omega, fun j j1 j2 => hq_1_0 j (by omega) (by omega), fun z => absurd z.1 (by omega)⟩, by omega⟩) [0, 1] (by decide) rfl (by decide) (by decide) dX8_pastRun_42
      · skip
        rw [i_le] at c_2
        refine j_aload_n (pc := 12) C dX8_pastRun_12 rfl 1 rfl ?_
        refine j_get (pc := 13) (ci := 8) (v := .ref t1) C inw_8 0 rfl rfl 0 (by decide) wd_255 rfl rfl dX8_pastRun_13 ?_
        refine j_iload (pc := 16) C dX8_pastRun_16 0 rfl ?_
        obtain ⟨v_3, ev_3⟩ : ∃ z, t_text (x1_4).toInt.toNat = z := ⟨_, rfl⟩
        have env_3 : (t_text (x1_4).toInt.toNat).toInt = v_3.toInt := by rw [ev_3]
        have hv_3 := h_t_text (x1_4).toInt.toNat (i_lt_n hi_1_0.1 (by omega)); rw [ev_3] at hv_3
        refine j_cald (pc := 18) (v := v_3) (k := (x1_4).toInt.toNat) C 1 0 rfl rfl (i_nn hi_1_0.1) rfl (i_lt_n hi_1_0.1 (by omega)) ev_3 dX8_pastRun_18 ?_
        refine j_iload_n (pc := 19) C dX8_pastRun_19 rfl 3 rfl ?_
        refine j_icmp_lt (pc := 20) (tgt := 40) C dX8_pastRun_20 (by decide) (fun c_4 => ?_) (fun c_4 => ?_)
        · skip
          rw [i_lt] at c_4
          refine j_iload (pc := 40) C dX8_pastRun_40 0 rfl ?_
          exact j_iret (pc := 42) C hr hk (fun i => [].getD i 0, fun i => [x1_4].getD i 0, fun i => [].getD i (fun _ => 0), fun i => [].getD i (fun _ => 0)) rfl (show (0 ≤ (x1_4).toInt ∧ (x1_4).toInt ≤ 1000) ∧ (RE (isR p1 p2) t_text (t_length).toInt.toNat (p0).toInt.toNat x1_4.toInt.toNat) ∧ ((p0).toInt ≤ x1_4.toInt) from ⟨hi_1_0, ⟨by omega, fun j j1 j2 => hq_1_0 j (by omega) (by omega), fun z => by (have z2 := of_decide_eq_true z.2; rw [ev_3] at z2; omega)⟩, by omega⟩) [0, 1] (by decide) rfl (by decide) (by decide) dX8_pastRun_42
        · skip
          rw [i_lt] at c_4
          refine j_aload_n (pc := 23) C dX8_pastRun_23 rfl 1 rfl ?_
          refine j_get (pc := 24) (ci := 8) (v := .ref t1) C inw_8 0 rfl rfl 0 (by decide) wd_255 rfl rfl dX8_pastRun_24 ?_
          refine j_iload (pc := 27) C dX8_pastRun_27 0 rfl ?_
          refine j_cald (pc := 29) (v := v_3) (k := (x1_4).toInt.toNat) C 1 0 rfl rfl (i_nn hi_1_0.1) rfl (i_lt_n hi_1_0.1 (by omega)) ev_3 dX8_pastRun_29 ?_
          refine j_iload_n (pc := 30) C dX8_pastRun_30 rfl 4 rfl ?_
          refine j_icmp_gt (pc := 31) (tgt := 40) C dX8_pastRun_31 (by decide) (fun c_5 => ?_) (fun c_5 => ?_)
          · skip
            rw [i_lt] at c_5
            refine j_iload (pc := 40) C dX8_pastRun_40 0 rfl ?_
            exact j_iret (pc := 42) C hr hk (fun i => [].getD i 0, fun i => [x1_4].getD i 0, fun i => [].getD i (fun _ => 0), fun i => [].getD i (fun _ => 0)) rfl (show (0 ≤ (x1_4).toInt ∧ (x1_4).toInt ≤ 1000) ∧ (RE (isR p1 p2) t_text (t_length).toInt.toNat (p0).toInt.toNat x1_4.toInt.toNat) ∧ ((p0).toInt ≤ x1_4.toInt) from ⟨hi_1_0, ⟨by omega, fun j j1 j2 => hq_1_0 j (by omega) (by omega), fun z => by (have z2 := of_decide_eq_true z.2; rw [ev_3] at z2; omega)⟩, by omega⟩) [0, 1] (by decide) rfl (by decide) (by decide) dX8_pastRun_42
          · skip
            rw [i_lt] at c_5
            obtain ⟨v_6, ev_6⟩ : ∃ z : Int32, x1_4 + 1 = z := ⟨_, rfl⟩
            have el_1 : (1 : Int32).toInt = 1 := rfl
            have hv_6 : v_6.toInt = x1_4.toInt + (1 : Int32).toInt := by rw [← ev_6]; exact fb_addI (by omega) (by omega)
            refine j_iinc (pc := 34) (v := v_6) (lv' := [(4, .int v_6), (0, .ref t0), (1, .int p0), (2, .int p1), (3, .int p2)]) C dX8_pastRun_34 0 rfl ev_6 (by decide) rfl ?_
            refine j_goto (pc := 37) (tgt := 3) C dX8_pastRun_37 (by decide) ?_
            exact j_lv [0, 1, 2, 3, 4] rfl (ih_1 v_6 (by omega) (by omega) (fun j j1 j2 => by rcases Int.lt_or_le (j : Int) (x1_4).toInt with q | q; (exact hq_1_0 j j1 q); (have ej : j = (x1_4).toInt.toNat := (by omega); rw [ej]; exact ⟨by omega, by (rw [ev_3]; exact decide_eq_true (by omega))⟩)) (by omega))
  exact j_lv [0, 1, 2, 3, 4] rfl (loop_1 4096 p0 h_p0 (by omega) (fun j j1 j2 => absurd j2 (by omega)) (by omega))
