theorem wd_190 : Cond.fieldLink RX1 21 "BowlShelf$Nests" "size" "I" ∈ WALL := wl_in (by decide +kernel) (by decide +kernel)
theorem wd_191 : Cond.fieldLink RX1 25 "BowlShelf$Nests" "nests" "I" ∈ WALL := wl_in (by decide +kernel) (by decide +kernel)
theorem wd_192 : Cond.fieldLink RX1 9 "BowlShelf$Nests" "steps" "[I" ∈ WALL := wl_in (by decide +kernel) (by decide +kernel)
theorem wd_193 : Cond.fieldLink RX1 15 "BowlShelf$Nests" "end" "[I" ∈ WALL := wl_in (by decide +kernel) (by decide +kernel)
theorem wd_194 : Cond.fieldLink RX1 54 "BowlShelf$Told" "lids" "I" ∈ WALL := wl_in (by decide +kernel) (by decide +kernel)
theorem wd_195 : Cond.fieldLink RX1 51 "BowlShelf$Told" "weight" "[I" ∈ WALL := wl_in (by decide +kernel) (by decide +kernel)
theorem wd_196 : Cond.fieldLink RX1 48 "BowlShelf$Told" "deep" "[I" ∈ WALL := wl_in (by decide +kernel) (by decide +kernel)
theorem wd_197 : Cond.fieldLink RX1 33 "BowlShelf$Told" "wide" "[I" ∈ WALL := wl_in (by decide +kernel) (by decide +kernel)
theorem wd_198 : Cond.fieldLink RX1 18 "BowlShelf$Nests" "values" "[I" ∈ WALL := wl_in (by decide +kernel) (by decide +kernel)
theorem wd_199 : Cond.code yX1_fact cX1_fact 4 (some .int) ∈ WALL := wl_in (by decide +kernel) (by decide +kernel)
theorem wd_200 : Cond.initialized RX1 ∈ WALL := wl_in (by decide +kernel) (by decide +kernel)
theorem wd_201 : Cond.methodLink RX1 40 yX1_fact ∈ WALL := wl_in (by decide +kernel) (by decide +kernel)
theorem wd_202 : Cond.static yX1_fact ∈ WALL := wl_in (by decide +kernel) (by decide +kernel)
theorem wd_203 : Cond.code yX1_join cX1_join 3 (some .int) ∈ WALL := wl_in (by decide +kernel) (by decide +kernel)
theorem wd_204 : Cond.methodLink RX1 44 yX1_join ∈ WALL := wl_in (by decide +kernel) (by decide +kernel)
theorem wd_205 : Cond.static yX1_join ∈ WALL := wl_in (by decide +kernel) (by decide +kernel)
theorem wd_206 : Cond.fieldLink RX1 28 "BowlShelf$Told" "tops" "I" ∈ WALL := wl_in (by decide +kernel) (by decide +kernel)
theorem wd_207 : Cond.code yX1_value cX1_value 9 (some .int) ∈ WALL := wl_in (by decide +kernel) (by decide +kernel)
theorem wd_208 : Cond.methodLink RX1 36 yX1_value ∈ WALL := wl_in (by decide +kernel) (by decide +kernel)
theorem wd_209 : Cond.instanceMethod yX1_value ∈ WALL := wl_in (by decide +kernel) (by decide +kernel)
theorem wd_210 : Cond.selects RX1 yX1_value yX1_value ∈ WALL := wl_in (by decide +kernel) (by decide +kernel)
theorem dX1_empty_0 : decode cX1_empty 0 = .ok (.aload_n 0, 1) := by decide +kernel
theorem dX1_empty_1 : decode cX1_empty 1 = .ok (.iconst 0, 1) := by decide +kernel
theorem dX1_empty_2 : decode cX1_empty 2 = .ok (.putfield 21, 3) := by decide +kernel
theorem dX1_empty_5 : decode cX1_empty 5 = .ok (.aload_n 0, 1) := by decide +kernel
theorem dX1_empty_6 : decode cX1_empty 6 = .ok (.iconst 0, 1) := by decide +kernel
theorem dX1_empty_7 : decode cX1_empty 7 = .ok (.putfield 25, 3) := by decide +kernel
theorem dX1_empty_10 : decode cX1_empty 10 = .ok (.return_, 1) := by decide +kernel
theorem dX1_add_0 : decode cX1_add 0 = .ok (.aload_n 0, 1) := by decide +kernel
theorem dX1_add_1 : decode cX1_add 1 = .ok (.getfield 21, 3) := by decide +kernel
theorem dX1_add_4 : decode cX1_add 4 = .ok (.sipush 1000, 3) := by decide +kernel
theorem dX1_add_7 : decode cX1_add 7 = .ok (.if_icmp .ge 23, 3) := by decide +kernel
theorem dX1_add_10 : decode cX1_add 10 = .ok (.aload_n 0, 1) := by decide +kernel
theorem dX1_add_11 : decode cX1_add 11 = .ok (.getfield 9, 3) := by decide +kernel
theorem dX1_add_14 : decode cX1_add 14 = .ok (.aload_n 0, 1) := by decide +kernel
theorem dX1_add_15 : decode cX1_add 15 = .ok (.getfield 21, 3) := by decide +kernel
theorem dX1_add_18 : decode cX1_add 18 = .ok (.iload_n 1, 1) := by decide +kernel
theorem dX1_add_19 : decode cX1_add 19 = .ok (.iastore, 1) := by decide +kernel
theorem dX1_add_20 : decode cX1_add 20 = .ok (.aload_n 0, 1) := by decide +kernel
theorem dX1_add_21 : decode cX1_add 21 = .ok (.dup, 1) := by decide +kernel
theorem dX1_add_22 : decode cX1_add 22 = .ok (.getfield 21, 3) := by decide +kernel
theorem dX1_add_25 : decode cX1_add 25 = .ok (.iconst 1, 1) := by decide +kernel
theorem dX1_add_26 : decode cX1_add 26 = .ok (.iadd, 1) := by decide +kernel
theorem dX1_add_27 : decode cX1_add 27 = .ok (.putfield 21, 3) := by decide +kernel
theorem dX1_add_30 : decode cX1_add 30 = .ok (.return_, 1) := by decide +kernel
theorem dX1_close_0 : decode cX1_close 0 = .ok (.aload_n 0, 1) := by decide +kernel
theorem dX1_close_1 : decode cX1_close 1 = .ok (.getfield 25, 3) := by decide +kernel
theorem dX1_close_4 : decode cX1_close 4 = .ok (.iconst 4, 1) := by decide +kernel
theorem dX1_close_5 : decode cX1_close 5 = .ok (.if_icmp .ge 26, 3) := by decide +kernel
theorem dX1_close_8 : decode cX1_close 8 = .ok (.aload_n 0, 1) := by decide +kernel
theorem dX1_close_9 : decode cX1_close 9 = .ok (.getfield 15, 3) := by decide +kernel
theorem dX1_close_12 : decode cX1_close 12 = .ok (.aload_n 0, 1) := by decide +kernel
theorem dX1_close_13 : decode cX1_close 13 = .ok (.getfield 25, 3) := by decide +kernel
theorem dX1_close_16 : decode cX1_close 16 = .ok (.aload_n 0, 1) := by decide +kernel
theorem dX1_close_17 : decode cX1_close 17 = .ok (.getfield 21, 3) := by decide +kernel
theorem dX1_close_20 : decode cX1_close 20 = .ok (.iastore, 1) := by decide +kernel
theorem dX1_close_21 : decode cX1_close 21 = .ok (.aload_n 0, 1) := by decide +kernel
theorem dX1_close_22 : decode cX1_close 22 = .ok (.dup, 1) := by decide +kernel
theorem dX1_close_23 : decode cX1_close 23 = .ok (.getfield 25, 3) := by decide +kernel
theorem dX1_close_26 : decode cX1_close 26 = .ok (.iconst 1, 1) := by decide +kernel
theorem dX1_close_27 : decode cX1_close 27 = .ok (.iadd, 1) := by decide +kernel
theorem dX1_close_28 : decode cX1_close 28 = .ok (.putfield 25, 3) := by decide +kernel
theorem dX1_close_31 : decode cX1_close 31 = .ok (.return_, 1) := by decide +kernel
theorem dX1_join_0 : decode cX1_join 0 = .ok (.iload_n 2, 1) := by decide +kernel
theorem dX1_join_1 : decode cX1_join 1 = .ok (.tableswitch 97 (-15) (-10) #[93, 89, 78, 67, 53, 39], 39) := by decide +kernel
theorem dX1_join_40 : decode cX1_join 40 = .ok (.iload_n 0, 1) := by decide +kernel
theorem dX1_join_41 : decode cX1_join 41 = .ok (.ifCond .eq 11, 3) := by decide +kernel
theorem dX1_join_44 : decode cX1_join 44 = .ok (.iload_n 1, 1) := by decide +kernel
theorem dX1_join_45 : decode cX1_join 45 = .ok (.ifCond .eq 7, 3) := by decide +kernel
theorem dX1_join_48 : decode cX1_join 48 = .ok (.iconst 1, 1) := by decide +kernel
theorem dX1_join_49 : decode cX1_join 49 = .ok (.goto 4, 3) := by decide +kernel
theorem dX1_join_52 : decode cX1_join 52 = .ok (.iconst 0, 1) := by decide +kernel
theorem dX1_join_53 : decode cX1_join 53 = .ok (.ireturn, 1) := by decide +kernel
theorem dX1_join_54 : decode cX1_join 54 = .ok (.iload_n 0, 1) := by decide +kernel
theorem dX1_join_55 : decode cX1_join 55 = .ok (.ifCond .ne 7, 3) := by decide +kernel
theorem dX1_join_58 : decode cX1_join 58 = .ok (.iload_n 1, 1) := by decide +kernel
theorem dX1_join_59 : decode cX1_join 59 = .ok (.ifCond .eq 7, 3) := by decide +kernel
theorem dX1_join_62 : decode cX1_join 62 = .ok (.iconst 1, 1) := by decide +kernel
theorem dX1_join_63 : decode cX1_join 63 = .ok (.goto 4, 3) := by decide +kernel
theorem dX1_join_66 : decode cX1_join 66 = .ok (.iconst 0, 1) := by decide +kernel
theorem dX1_join_67 : decode cX1_join 67 = .ok (.ireturn, 1) := by decide +kernel
theorem dX1_join_68 : decode cX1_join 68 = .ok (.iload_n 0, 1) := by decide +kernel
theorem dX1_join_69 : decode cX1_join 69 = .ok (.iload_n 1, 1) := by decide +kernel
theorem dX1_join_70 : decode cX1_join 70 = .ok (.if_icmp .ge 7, 3) := by decide +kernel
theorem dX1_join_73 : decode cX1_join 73 = .ok (.iconst 1, 1) := by decide +kernel
theorem dX1_join_74 : decode cX1_join 74 = .ok (.goto 4, 3) := by decide +kernel
theorem dX1_join_77 : decode cX1_join 77 = .ok (.iconst 0, 1) := by decide +kernel
theorem dX1_join_78 : decode cX1_join 78 = .ok (.ireturn, 1) := by decide +kernel
theorem dX1_join_79 : decode cX1_join 79 = .ok (.iload_n 0, 1) := by decide +kernel
theorem dX1_join_80 : decode cX1_join 80 = .ok (.iload_n 1, 1) := by decide +kernel
theorem dX1_join_81 : decode cX1_join 81 = .ok (.if_icmp .ne 7, 3) := by decide +kernel
theorem dX1_join_84 : decode cX1_join 84 = .ok (.iconst 1, 1) := by decide +kernel
theorem dX1_join_85 : decode cX1_join 85 = .ok (.goto 4, 3) := by decide +kernel
theorem dX1_join_88 : decode cX1_join 88 = .ok (.iconst 0, 1) := by decide +kernel
theorem dX1_join_89 : decode cX1_join 89 = .ok (.ireturn, 1) := by decide +kernel
theorem dX1_join_90 : decode cX1_join 90 = .ok (.iload_n 0, 1) := by decide +kernel
theorem dX1_join_91 : decode cX1_join 91 = .ok (.iload_n 1, 1) := by decide +kernel
theorem dX1_join_92 : decode cX1_join 92 = .ok (.iadd, 1) := by decide +kernel
theorem dX1_join_93 : decode cX1_join 93 = .ok (.ireturn, 1) := by decide +kernel
theorem dX1_join_94 : decode cX1_join 94 = .ok (.iload_n 0, 1) := by decide +kernel
theorem dX1_join_95 : decode cX1_join 95 = .ok (.iload_n 1, 1) := by decide +kernel
theorem dX1_join_96 : decode cX1_join 96 = .ok (.isub, 1) := by decide +kernel
theorem dX1_join_97 : decode cX1_join 97 = .ok (.ireturn, 1) := by decide +kernel
theorem dX1_join_98 : decode cX1_join 98 = .ok (.iload_n 0, 1) := by decide +kernel
theorem dX1_join_99 : decode cX1_join 99 = .ok (.iload_n 1, 1) := by decide +kernel
theorem dX1_join_100 : decode cX1_join 100 = .ok (.imul, 1) := by decide +kernel
theorem dX1_join_101 : decode cX1_join 101 = .ok (.ireturn, 1) := by decide +kernel
theorem dX1_fact_0 : decode cX1_fact 0 = .ok (.iload_n 3, 1) := by decide +kernel
theorem dX1_fact_1 : decode cX1_fact 1 = .ok (.tableswitch 94 (-7) (-1) #[85, 78, 71, 64, 57, 50, 43], 43) := by decide +kernel
theorem dX1_fact_44 : decode cX1_fact 44 = .ok (.aload_n 0, 1) := by decide +kernel
theorem dX1_fact_45 : decode cX1_fact 45 = .ok (.getfield 33, 3) := by decide +kernel
theorem dX1_fact_48 : decode cX1_fact 48 = .ok (.iload_n 1, 1) := by decide +kernel
theorem dX1_fact_49 : decode cX1_fact 49 = .ok (.iaload, 1) := by decide +kernel
theorem dX1_fact_50 : decode cX1_fact 50 = .ok (.ireturn, 1) := by decide +kernel
theorem dX1_fact_51 : decode cX1_fact 51 = .ok (.aload_n 0, 1) := by decide +kernel
theorem dX1_fact_52 : decode cX1_fact 52 = .ok (.getfield 33, 3) := by decide +kernel
theorem dX1_fact_55 : decode cX1_fact 55 = .ok (.iload_n 2, 1) := by decide +kernel
theorem dX1_fact_56 : decode cX1_fact 56 = .ok (.iaload, 1) := by decide +kernel
theorem dX1_fact_57 : decode cX1_fact 57 = .ok (.ireturn, 1) := by decide +kernel
theorem dX1_fact_58 : decode cX1_fact 58 = .ok (.aload_n 0, 1) := by decide +kernel
theorem dX1_fact_59 : decode cX1_fact 59 = .ok (.getfield 48, 3) := by decide +kernel
theorem dX1_fact_62 : decode cX1_fact 62 = .ok (.iload_n 1, 1) := by decide +kernel
theorem dX1_fact_63 : decode cX1_fact 63 = .ok (.iaload, 1) := by decide +kernel
theorem dX1_fact_64 : decode cX1_fact 64 = .ok (.ireturn, 1) := by decide +kernel
theorem dX1_fact_65 : decode cX1_fact 65 = .ok (.aload_n 0, 1) := by decide +kernel
theorem dX1_fact_66 : decode cX1_fact 66 = .ok (.getfield 48, 3) := by decide +kernel
theorem dX1_fact_69 : decode cX1_fact 69 = .ok (.iload_n 2, 1) := by decide +kernel
theorem dX1_fact_70 : decode cX1_fact 70 = .ok (.iaload, 1) := by decide +kernel
theorem dX1_fact_71 : decode cX1_fact 71 = .ok (.ireturn, 1) := by decide +kernel
theorem dX1_fact_72 : decode cX1_fact 72 = .ok (.aload_n 0, 1) := by decide +kernel
theorem dX1_fact_73 : decode cX1_fact 73 = .ok (.getfield 51, 3) := by decide +kernel
theorem dX1_fact_76 : decode cX1_fact 76 = .ok (.iload_n 1, 1) := by decide +kernel
theorem dX1_fact_77 : decode cX1_fact 77 = .ok (.iaload, 1) := by decide +kernel
theorem dX1_fact_78 : decode cX1_fact 78 = .ok (.ireturn, 1) := by decide +kernel
theorem dX1_fact_79 : decode cX1_fact 79 = .ok (.aload_n 0, 1) := by decide +kernel
theorem dX1_fact_80 : decode cX1_fact 80 = .ok (.getfield 51, 3) := by decide +kernel
theorem dX1_fact_83 : decode cX1_fact 83 = .ok (.iload_n 2, 1) := by decide +kernel
theorem dX1_fact_84 : decode cX1_fact 84 = .ok (.iaload, 1) := by decide +kernel
theorem dX1_fact_85 : decode cX1_fact 85 = .ok (.ireturn, 1) := by decide +kernel
theorem dX1_fact_86 : decode cX1_fact 86 = .ok (.aload_n 0, 1) := by decide +kernel
theorem dX1_fact_87 : decode cX1_fact 87 = .ok (.getfield 54, 3) := by decide +kernel
theorem dX1_fact_90 : decode cX1_fact 90 = .ok (.iload_n 1, 1) := by decide +kernel
theorem dX1_fact_91 : decode cX1_fact 91 = .ok (.iushr, 1) := by decide +kernel
theorem dX1_fact_92 : decode cX1_fact 92 = .ok (.iconst 1, 1) := by decide +kernel
theorem dX1_fact_93 : decode cX1_fact 93 = .ok (.iand, 1) := by decide +kernel
theorem dX1_fact_94 : decode cX1_fact 94 = .ok (.ireturn, 1) := by decide +kernel
theorem dX1_fact_95 : decode cX1_fact 95 = .ok (.aload_n 0, 1) := by decide +kernel
theorem dX1_fact_96 : decode cX1_fact 96 = .ok (.getfield 54, 3) := by decide +kernel
theorem dX1_fact_99 : decode cX1_fact 99 = .ok (.iload_n 2, 1) := by decide +kernel
theorem dX1_fact_100 : decode cX1_fact 100 = .ok (.iushr, 1) := by decide +kernel
theorem dX1_fact_101 : decode cX1_fact 101 = .ok (.iconst 1, 1) := by decide +kernel
theorem dX1_fact_102 : decode cX1_fact 102 = .ok (.iand, 1) := by decide +kernel
theorem dX1_fact_103 : decode cX1_fact 103 = .ok (.ireturn, 1) := by decide +kernel
theorem dX1_value_0 : decode cX1_value 0 = .ok (.iconst 0, 1) := by decide +kernel
theorem dX1_value_1 : decode cX1_value 1 = .ok (.istore 6, 2) := by decide +kernel
theorem dX1_value_3 : decode cX1_value 3 = .ok (.iload 4, 2) := by decide +kernel
theorem dX1_value_5 : decode cX1_value 5 = .ok (.istore 7, 2) := by decide +kernel
theorem dX1_value_7 : decode cX1_value 7 = .ok (.iload 7, 2) := by decide +kernel
theorem dX1_value_9 : decode cX1_value 9 = .ok (.iload 5, 2) := by decide +kernel
theorem dX1_value_11 : decode cX1_value 11 = .ok (.if_icmp .ge 151, 3) := by decide +kernel
theorem dX1_value_14 : decode cX1_value 14 = .ok (.aload_n 0, 1) := by decide +kernel
theorem dX1_value_15 : decode cX1_value 15 = .ok (.getfield 9, 3) := by decide +kernel
theorem dX1_value_18 : decode cX1_value 18 = .ok (.iload 7, 2) := by decide +kernel
theorem dX1_value_20 : decode cX1_value 20 = .ok (.iaload, 1) := by decide +kernel
theorem dX1_value_21 : decode cX1_value 21 = .ok (.istore 8, 2) := by decide +kernel
theorem dX1_value_23 : decode cX1_value 23 = .ok (.iload 8, 2) := by decide +kernel
theorem dX1_value_25 : decode cX1_value 25 = .ok (.bipush (-8), 2) := by decide +kernel
theorem dX1_value_27 : decode cX1_value 27 = .ok (.if_icmp .lt 41, 3) := by decide +kernel
theorem dX1_value_30 : decode cX1_value 30 = .ok (.iload 6, 2) := by decide +kernel
theorem dX1_value_32 : decode cX1_value 32 = .ok (.bipush 32, 2) := by decide +kernel
theorem dX1_value_34 : decode cX1_value 34 = .ok (.if_icmp .ge 34, 3) := by decide +kernel
theorem dX1_value_37 : decode cX1_value 37 = .ok (.aload_n 0, 1) := by decide +kernel
theorem dX1_value_38 : decode cX1_value 38 = .ok (.getfield 18, 3) := by decide +kernel
theorem dX1_value_41 : decode cX1_value 41 = .ok (.iload 6, 2) := by decide +kernel
theorem dX1_value_43 : decode cX1_value 43 = .ok (.iload 8, 2) := by decide +kernel
theorem dX1_value_45 : decode cX1_value 45 = .ok (.ifCond .lt 8, 3) := by decide +kernel
theorem dX1_value_48 : decode cX1_value 48 = .ok (.iload 8, 2) := by decide +kernel
theorem dX1_value_50 : decode cX1_value 50 = .ok (.goto 11, 3) := by decide +kernel
theorem dX1_value_53 : decode cX1_value 53 = .ok (.aload_n 1, 1) := by decide +kernel
theorem dX1_value_54 : decode cX1_value 54 = .ok (.iload_n 2, 1) := by decide +kernel
theorem dX1_value_55 : decode cX1_value 55 = .ok (.iload_n 3, 1) := by decide +kernel
theorem dX1_value_56 : decode cX1_value 56 = .ok (.iload 8, 2) := by decide +kernel
theorem dX1_value_58 : decode cX1_value 58 = .ok (.invokestatic 40, 3) := by decide +kernel
theorem dX1_value_61 : decode cX1_value 61 = .ok (.iastore, 1) := by decide +kernel
theorem dX1_value_62 : decode cX1_value 62 = .ok (.iinc 6 1, 3) := by decide +kernel
theorem dX1_value_65 : decode cX1_value 65 = .ok (.goto 91, 3) := by decide +kernel
theorem dX1_value_68 : decode cX1_value 68 = .ok (.iload 8, 2) := by decide +kernel
theorem dX1_value_70 : decode cX1_value 70 = .ok (.bipush (-9), 2) := by decide +kernel
theorem dX1_value_72 : decode cX1_value 72 = .ok (.if_icmp .ne 38, 3) := by decide +kernel
theorem dX1_value_75 : decode cX1_value 75 = .ok (.iload 6, 2) := by decide +kernel
theorem dX1_value_77 : decode cX1_value 77 = .ok (.iconst 1, 1) := by decide +kernel
theorem dX1_value_78 : decode cX1_value 78 = .ok (.if_icmp .lt 32, 3) := by decide +kernel
theorem dX1_value_81 : decode cX1_value 81 = .ok (.aload_n 0, 1) := by decide +kernel
theorem dX1_value_82 : decode cX1_value 82 = .ok (.getfield 18, 3) := by decide +kernel
theorem dX1_value_85 : decode cX1_value 85 = .ok (.iload 6, 2) := by decide +kernel
theorem dX1_value_87 : decode cX1_value 87 = .ok (.iconst 1, 1) := by decide +kernel
theorem dX1_value_88 : decode cX1_value 88 = .ok (.isub, 1) := by decide +kernel
theorem dX1_value_89 : decode cX1_value 89 = .ok (.aload_n 0, 1) := by decide +kernel
theorem dX1_value_90 : decode cX1_value 90 = .ok (.getfield 18, 3) := by decide +kernel
theorem dX1_value_93 : decode cX1_value 93 = .ok (.iload 6, 2) := by decide +kernel
theorem dX1_value_95 : decode cX1_value 95 = .ok (.iconst 1, 1) := by decide +kernel
theorem dX1_value_96 : decode cX1_value 96 = .ok (.isub, 1) := by decide +kernel
theorem dX1_value_97 : decode cX1_value 97 = .ok (.iaload, 1) := by decide +kernel
theorem dX1_value_98 : decode cX1_value 98 = .ok (.ifCond .ne 7, 3) := by decide +kernel
theorem dX1_value_101 : decode cX1_value 101 = .ok (.iconst 1, 1) := by decide +kernel
theorem dX1_value_102 : decode cX1_value 102 = .ok (.goto 4, 3) := by decide +kernel
theorem dX1_value_105 : decode cX1_value 105 = .ok (.iconst 0, 1) := by decide +kernel
theorem dX1_value_106 : decode cX1_value 106 = .ok (.iastore, 1) := by decide +kernel
theorem dX1_value_107 : decode cX1_value 107 = .ok (.goto 49, 3) := by decide +kernel
theorem dX1_value_110 : decode cX1_value 110 = .ok (.iload 8, 2) := by decide +kernel
theorem dX1_value_112 : decode cX1_value 112 = .ok (.bipush (-9), 2) := by decide +kernel
theorem dX1_value_114 : decode cX1_value 114 = .ok (.if_icmp .ge 42, 3) := by decide +kernel
theorem dX1_value_117 : decode cX1_value 117 = .ok (.iload 6, 2) := by decide +kernel
theorem dX1_value_119 : decode cX1_value 119 = .ok (.iconst 2, 1) := by decide +kernel
theorem dX1_value_120 : decode cX1_value 120 = .ok (.if_icmp .lt 36, 3) := by decide +kernel
theorem dX1_value_123 : decode cX1_value 123 = .ok (.iinc 6 (-1), 3) := by decide +kernel
theorem dX1_value_126 : decode cX1_value 126 = .ok (.aload_n 0, 1) := by decide +kernel
theorem dX1_value_127 : decode cX1_value 127 = .ok (.getfield 18, 3) := by decide +kernel
theorem dX1_value_130 : decode cX1_value 130 = .ok (.iload 6, 2) := by decide +kernel
theorem dX1_value_132 : decode cX1_value 132 = .ok (.iconst 1, 1) := by decide +kernel
theorem dX1_value_133 : decode cX1_value 133 = .ok (.isub, 1) := by decide +kernel
theorem dX1_value_134 : decode cX1_value 134 = .ok (.aload_n 0, 1) := by decide +kernel
theorem dX1_value_135 : decode cX1_value 135 = .ok (.getfield 18, 3) := by decide +kernel
theorem dX1_value_138 : decode cX1_value 138 = .ok (.iload 6, 2) := by decide +kernel
theorem dX1_value_140 : decode cX1_value 140 = .ok (.iconst 1, 1) := by decide +kernel
theorem dX1_value_141 : decode cX1_value 141 = .ok (.isub, 1) := by decide +kernel
theorem dX1_value_142 : decode cX1_value 142 = .ok (.iaload, 1) := by decide +kernel
theorem dX1_value_143 : decode cX1_value 143 = .ok (.aload_n 0, 1) := by decide +kernel
theorem dX1_value_144 : decode cX1_value 144 = .ok (.getfield 18, 3) := by decide +kernel
theorem dX1_value_147 : decode cX1_value 147 = .ok (.iload 6, 2) := by decide +kernel
theorem dX1_value_149 : decode cX1_value 149 = .ok (.iaload, 1) := by decide +kernel
theorem dX1_value_150 : decode cX1_value 150 = .ok (.iload 8, 2) := by decide +kernel
theorem dX1_value_152 : decode cX1_value 152 = .ok (.invokestatic 44, 3) := by decide +kernel
theorem dX1_value_155 : decode cX1_value 155 = .ok (.iastore, 1) := by decide +kernel
theorem dX1_value_156 : decode cX1_value 156 = .ok (.iinc 7 1, 3) := by decide +kernel
theorem dX1_value_159 : decode cX1_value 159 = .ok (.goto (-152), 3) := by decide +kernel
theorem dX1_value_162 : decode cX1_value 162 = .ok (.aload_n 0, 1) := by decide +kernel
theorem dX1_value_163 : decode cX1_value 163 = .ok (.getfield 18, 3) := by decide +kernel
theorem dX1_value_166 : decode cX1_value 166 = .ok (.iconst 0, 1) := by decide +kernel
theorem dX1_value_167 : decode cX1_value 167 = .ok (.iaload, 1) := by decide +kernel
theorem dX1_value_168 : decode cX1_value 168 = .ok (.ireturn, 1) := by decide +kernel
theorem dX1_allow_0 : decode cX1_allow 0 = .ok (.aload_n 1, 1) := by decide +kernel
theorem dX1_allow_1 : decode cX1_allow 1 = .ok (.getfield 28, 3) := by decide +kernel
theorem dX1_allow_4 : decode cX1_allow 4 = .ok (.iload_n 3, 1) := by decide +kernel
theorem dX1_allow_5 : decode cX1_allow 5 = .ok (.iushr, 1) := by decide +kernel
theorem dX1_allow_6 : decode cX1_allow 6 = .ok (.iconst 1, 1) := by decide +kernel
theorem dX1_allow_7 : decode cX1_allow 7 = .ok (.iand, 1) := by decide +kernel
theorem dX1_allow_8 : decode cX1_allow 8 = .ok (.iconst 1, 1) := by decide +kernel
theorem dX1_allow_9 : decode cX1_allow 9 = .ok (.if_icmp .ne 5, 3) := by decide +kernel
theorem dX1_allow_12 : decode cX1_allow 12 = .ok (.iconst 0, 1) := by decide +kernel
theorem dX1_allow_13 : decode cX1_allow 13 = .ok (.ireturn, 1) := by decide +kernel
theorem dX1_allow_14 : decode cX1_allow 14 = .ok (.aload_n 0, 1) := by decide +kernel
theorem dX1_allow_15 : decode cX1_allow 15 = .ok (.getfield 25, 3) := by decide +kernel
theorem dX1_allow_18 : decode cX1_allow 18 = .ok (.ifCond .ne 24, 3) := by decide +kernel
theorem dX1_allow_21 : decode cX1_allow 21 = .ok (.aload_n 1, 1) := by decide +kernel
theorem dX1_allow_22 : decode cX1_allow 22 = .ok (.getfield 33, 3) := by decide +kernel
theorem dX1_allow_25 : decode cX1_allow 25 = .ok (.iload_n 2, 1) := by decide +kernel
theorem dX1_allow_26 : decode cX1_allow 26 = .ok (.iaload, 1) := by decide +kernel
theorem dX1_allow_27 : decode cX1_allow 27 = .ok (.aload_n 1, 1) := by decide +kernel
theorem dX1_allow_28 : decode cX1_allow 28 = .ok (.getfield 33, 3) := by decide +kernel
theorem dX1_allow_31 : decode cX1_allow 31 = .ok (.iload_n 3, 1) := by decide +kernel
theorem dX1_allow_32 : decode cX1_allow 32 = .ok (.iaload, 1) := by decide +kernel
theorem dX1_allow_33 : decode cX1_allow 33 = .ok (.if_icmp .ge 7, 3) := by decide +kernel
theorem dX1_allow_36 : decode cX1_allow 36 = .ok (.iconst 1, 1) := by decide +kernel
theorem dX1_allow_37 : decode cX1_allow 37 = .ok (.goto 4, 3) := by decide +kernel
theorem dX1_allow_40 : decode cX1_allow 40 = .ok (.iconst 0, 1) := by decide +kernel
theorem dX1_allow_41 : decode cX1_allow 41 = .ok (.ireturn, 1) := by decide +kernel
theorem dX1_allow_42 : decode cX1_allow 42 = .ok (.iconst 0, 1) := by decide +kernel
theorem dX1_allow_43 : decode cX1_allow 43 = .ok (.istore 4, 2) := by decide +kernel
theorem dX1_allow_45 : decode cX1_allow 45 = .ok (.iload 4, 2) := by decide +kernel
theorem dX1_allow_47 : decode cX1_allow 47 = .ok (.aload_n 0, 1) := by decide +kernel
theorem dX1_allow_48 : decode cX1_allow 48 = .ok (.getfield 25, 3) := by decide +kernel
theorem dX1_allow_51 : decode cX1_allow 51 = .ok (.if_icmp .ge 50, 3) := by decide +kernel
theorem dX1_allow_54 : decode cX1_allow 54 = .ok (.iload 4, 2) := by decide +kernel
theorem dX1_allow_56 : decode cX1_allow 56 = .ok (.ifCond .ne 7, 3) := by decide +kernel
theorem dX1_allow_59 : decode cX1_allow 59 = .ok (.iconst 0, 1) := by decide +kernel
theorem dX1_allow_60 : decode cX1_allow 60 = .ok (.goto 12, 3) := by decide +kernel
theorem dX1_allow_63 : decode cX1_allow 63 = .ok (.aload_n 0, 1) := by decide +kernel
theorem dX1_allow_64 : decode cX1_allow 64 = .ok (.getfield 15, 3) := by decide +kernel
theorem dX1_allow_67 : decode cX1_allow 67 = .ok (.iload 4, 2) := by decide +kernel
theorem dX1_allow_69 : decode cX1_allow 69 = .ok (.iconst 1, 1) := by decide +kernel
theorem dX1_allow_70 : decode cX1_allow 70 = .ok (.isub, 1) := by decide +kernel
theorem dX1_allow_71 : decode cX1_allow 71 = .ok (.iaload, 1) := by decide +kernel
theorem dX1_allow_72 : decode cX1_allow 72 = .ok (.istore 5, 2) := by decide +kernel
theorem dX1_allow_74 : decode cX1_allow 74 = .ok (.aload_n 0, 1) := by decide +kernel
theorem dX1_allow_75 : decode cX1_allow 75 = .ok (.aload_n 1, 1) := by decide +kernel
theorem dX1_allow_76 : decode cX1_allow 76 = .ok (.iload_n 2, 1) := by decide +kernel
theorem dX1_allow_77 : decode cX1_allow 77 = .ok (.iload_n 3, 1) := by decide +kernel
theorem dX1_allow_78 : decode cX1_allow 78 = .ok (.iload 5, 2) := by decide +kernel
theorem dX1_allow_80 : decode cX1_allow 80 = .ok (.aload_n 0, 1) := by decide +kernel
theorem dX1_allow_81 : decode cX1_allow 81 = .ok (.getfield 15, 3) := by decide +kernel
theorem dX1_allow_84 : decode cX1_allow 84 = .ok (.iload 4, 2) := by decide +kernel
theorem dX1_allow_86 : decode cX1_allow 86 = .ok (.iaload, 1) := by decide +kernel
theorem dX1_allow_87 : decode cX1_allow 87 = .ok (.invokevirtual 36, 3) := by decide +kernel
theorem dX1_allow_90 : decode cX1_allow 90 = .ok (.ifCond .ne 5, 3) := by decide +kernel
theorem dX1_allow_93 : decode cX1_allow 93 = .ok (.iconst 0, 1) := by decide +kernel
theorem dX1_allow_94 : decode cX1_allow 94 = .ok (.ireturn, 1) := by decide +kernel
theorem dX1_allow_95 : decode cX1_allow 95 = .ok (.iinc 4 1, 3) := by decide +kernel
theorem dX1_allow_98 : decode cX1_allow 98 = .ok (.goto (-53), 3) := by decide +kernel
theorem dX1_allow_101 : decode cX1_allow 101 = .ok (.iconst 1, 1) := by decide +kernel
theorem dX1_allow_102 : decode cX1_allow 102 = .ok (.ireturn, 1) := by decide +kernel
/-- how the steps grow: hidden from the searches -/
def SZ1 (a b : Int) : Prop := a ≤ 999 → b = a + 1
def SZD (r a b c : Int) : Prop := r = 0 ∨ b ≤ a ∨ b ≤ c
set_option maxHeartbeats 4000000 in
set_option maxRecDepth 100000 in
theorem c_X1_empty (l : Launch) (D : DG) (cyC cyI cyJ cyZ cyO : ClassId) (e0 : Nat) (e1 : Nat) (e2 : Nat) (e3 : Nat) (e_size : Int32) (e_nests : Int32) (h_e_size : 0 ≤ (e_size).toInt ∧ (e_size).toInt ≤ 1000) (h_e_nests : 0 ≤ (e_nests).toInt ∧ (e_nests).toInt ≤ 4) : KK l D (TY cyC cyI cyJ cyZ cyO) yX1_empty cX1_empty 1 none ({ frames := 0, cells := 0, slots := 0, locals := 0 } : Room) 0 0 [.ref e0] [(e0, .inr (1, [.int e_size, .int e_nests, .ref e1, .ref e2, .ref e3]))] (fun u => none) (fun u => True) (fun u => [(e0, .inr (1, [.int 0, .int 0, .ref e1, .ref e2, .ref e3]))]) := by
  refine KK.of (lv0 := [(0, .ref e0)]) (by decide) rfl (Nat.le_of_ble_eq_true rfl) ?_
  intro p e s m args below meth c A C hr hk hin
  refine j_aload_n (pc := 0) C dX1_empty_0 rfl 0 rfl ?_
  refine j_iconst (pc := 1) (v := 0) C dX1_empty_1 (by decide) ?_
  refine j_put (pc := 2) (ci := 1) (v := .int 0) (ws' := [(e0, .inr (1, [.int 0, .int e_nests, .ref e1, .ref e2, .ref e3]))]) C inw_1 0 rfl rfl 0 (by decide) wd_190 rfl tyX1_ok nmX1 rfl (tyX1_ok 0 (by decide)) rfl rfl (Nat.le_of_ble_eq_true rfl) dX1_empty_2 rfl ?_
  refine j_aload_n (pc := 5) C dX1_empty_5 rfl 0 rfl ?_
  refine j_iconst (pc := 6) (v := 0) C dX1_empty_6 (by decide) ?_
  refine j_put (pc := 7) (ci := 1) (v := .int 0) (ws' := [(e0, .inr (1, [.int 0, .int 0, .ref e1, .ref e2, .ref e3]))]) C inw_1 0 rfl rfl 1 (by decide) wd_191 rfl tyX1_ok nmX1 rfl (tyX1_ok 1 (by decide)) rfl rfl (Nat.le_of_ble_eq_true rfl) dX1_empty_7 rfl ?_
  exact j_vret (pc := 10) C hr hk (fun i => [].getD i 0, fun i => [].getD i 0, fun i => [].getD i (fun _ => 0), fun i => [].getD i (fun _ => 0)) rfl trivial [0] (by decide) rfl (by decide) (by decide) dX1_empty_10
set_option maxHeartbeats 4000000 in
set_option maxRecDepth 100000 in
theorem c_X1_add (l : Launch) (D : DG) (cyC cyI cyJ cyZ cyO : ClassId) (e0 : Nat) (e1 : Nat) (e2 : Nat) (e3 : Nat) (p0 : Int32) (e_size : Int32) (e_nests : Int32) (e_steps : Nat → Int32) (h_e_size : 0 ≤ (e_size).toInt ∧ (e_size).toInt ≤ 1000) (h_e_nests : 0 ≤ (e_nests).toInt ∧ (e_nests).toInt ≤ 4) : KK l D (TY cyC cyI cyJ cyZ cyO) yX1_add cX1_add 2 none ({ frames := 0, cells := 0, slots := 0, locals := 0 } : Room) 0 0 [.ref e0, .int p0] [(e0, .inr (1, [.int e_size, .int e_nests, .ref e1, .ref e2, .ref e3])), (e1, .inl (cyI, 1000, .inl e_steps))] (fun u => none) (fun u => (0 ≤ (u.2.1 0).toInt ∧ (u.2.1 0).toInt ≤ 1000) ∧ ((e_size).toInt ≤ ((u.2.1 0)).toInt) ∧ (((u.2.1 0)).toInt ≤ (e_size).toInt + 1) ∧ (SZ1 (e_size).toInt ((u.2.1 0)).toInt) ∧ (IM ((e_size).toInt ≤ 999) (AD1 e_steps (u.2.2.1 0) (e_size).toInt.toNat p0))) (fun u => [(e0, .inr (1, [.int (u.2.1 0), .int e_nests, .ref e1, .ref e2, .ref e3])), (e1, .inl (cyI, 1000, .inl (u.2.2.1 0)))]) := by
  refine KK.of (lv0 := [(0, .ref e0), (1, .int p0)]) (by decide) rfl (Nat.le_of_ble_eq_true rfl) ?_
  intro p e s m args below meth c A C hr hk hin
  refine j_aload_n (pc := 0) C dX1_add_0 rfl 0 rfl ?_
  refine j_get (pc := 1) (ci := 1) (v := .int e_size) C inw_1 0 rfl rfl 0 (by decide) wd_190 rfl rfl dX1_add_1 ?_
  refine j_sipush (pc := 4) (v := 1000) C dX1_add_4 (by decide) ?_
  refine j_icmp_ge (pc := 7) (tgt := 30) C dX1_add_7 (by decide) (fun c_1 => ?_) (fun c_1 => ?_)
  · skip
    have el_1000 : (1000 : Int32).toInt = 1000 := rfl
    rw [i_le] at c_1
    have k0c_1 : e_size.toInt = 1000 := by omega
    exact j_vret (pc := 30) C hr hk (fun i => [].getD i 0, fun i => [e_size].getD i 0, fun i => [e_steps].getD i (fun _ => 0), fun i => [].getD i (fun _ => 0)) rfl (show (0 ≤ (e_size).toInt ∧ (e_size).toInt ≤ 1000) ∧ ((e_size).toInt ≤ (e_size).toInt) ∧ ((e_size).toInt ≤ (e_size).toInt + 1) ∧ (SZ1 (e_size).toInt (e_size).toInt) ∧ (IM ((e_size).toInt ≤ 999) (AD1 e_steps e_steps (e_size).toInt.toNat p0)) from ⟨h_e_size, by omega, by omega, (fun z9 => by omega), (fun h => absurd h (by omega))⟩) [0, 1] (by decide) rfl (by decide) (by decide) dX1_add_30
  · skip
    have el_1000 : (1000 : Int32).toInt = 1000 := rfl
    rw [i_le] at c_1
    refine j_aload_n (pc := 10) C dX1_add_10 rfl 0 rfl ?_
    refine j_get (pc := 11) (ci := 1) (v := .ref e1) C inw_1 0 rfl rfl 2 (by decide) wd_192 rfl rfl dX1_add_11 ?_
    refine j_aload_n (pc := 14) C dX1_add_14 rfl 0 rfl ?_
    refine j_get (pc := 15) (ci := 1) (v := .int e_size) C inw_1 0 rfl rfl 0 (by decide) wd_190 rfl rfl dX1_add_15 ?_
    refine j_iload_n (pc := 18) C dX1_add_18 rfl 1 rfl ?_
    obtain ⟨f_2, ef_2⟩ : ∃ z, z = upd e_steps (e_size).toInt.toNat p0 := ⟨_, rfl⟩
    refine j_iast (pc := 19) (k := (e_size).toInt.toNat) (ws' := [(e0, .inr (1, [.int e_size, .int e_nests, .ref e1, .ref e2, .ref e3])), (e1, .inl (cyI, 1000, .inl f_2))]) C 1 1 rfl rfl (i_nn h_e_size.1) rfl (i_lt_n h_e_size.1 (by omega)) dX1_add_19 (by rw [ef_2]; rfl) ?_
    refine j_aload_n (pc := 20) C dX1_add_20 rfl 0 rfl ?_
    refine j_dup (pc := 21) C dX1_add_21 rfl ?_
    refine j_get (pc := 22) (ci := 1) (v := .int e_size) C inw_1 0 rfl rfl 0 (by decide) wd_190 rfl rfl dX1_add_22 ?_
    refine j_iconst (pc := 25) (v := 1) C dX1_add_25 (by decide) ?_
    obtain ⟨v_3, ev_3⟩ : ∃ z : Int32, e_size + 1 = z := ⟨_, rfl⟩
    have el_1 : (1 : Int32).toInt = 1 := rfl
    have hv_3 : v_3.toInt = e_size.toInt + (1 : Int32).toInt := by rw [← ev_3]; exact fb_addI (by omega) (by omega)
    refine j_iadd (pc := 26) (v := v_3) C dX1_add_26 ev_3 ?_
    refine j_put (pc := 27) (ci := 1) (v := .int v_3) (ws' := [(e0, .inr (1, [.int v_3, .int e_nests, .ref e1, .ref e2, .ref e3])), (e1, .inl (cyI, 1000, .inl f_2))]) C inw_1 0 rfl rfl 0 (by decide) wd_190 rfl tyX1_ok nmX1 rfl (tyX1_ok 0 (by decide)) rfl rfl (Nat.le_of_ble_eq_true rfl) dX1_add_27 rfl ?_
    exact j_vret (pc := 30) C hr hk (fun i => [].getD i 0, fun i => [v_3].getD i 0, fun i => [f_2].getD i (fun _ => 0), fun i => [].getD i (fun _ => 0)) rfl (show (0 ≤ (v_3).toInt ∧ (v_3).toInt ≤ 1000) ∧ ((e_size).toInt ≤ (v_3).toInt) ∧ ((v_3).toInt ≤ (e_size).toInt + 1) ∧ (SZ1 (e_size).toInt (v_3).toInt) ∧ (IM ((e_size).toInt ≤ 999) (AD1 e_steps f_2 (e_size).toInt.toNat p0)) from ⟨by omega, by omega, by omega, (fun z9 => by omega), (fun _ => ⟨fun j hj => by rw [ef_2]; exact pk_un hj, by rw [ef_2, pk_us]⟩)⟩) [0, 1] (by decide) rfl (by decide) (by decide) dX1_add_30
set_option maxHeartbeats 4000000 in
set_option maxRecDepth 100000 in
theorem c_X1_close (l : Launch) (D : DG) (cyC cyI cyJ cyZ cyO : ClassId) (e0 : Nat) (e2 : Nat) (e1 : Nat) (e3 : Nat) (e_size : Int32) (e_nests : Int32) (e_end : Nat → Int32) (h_e_size : 0 ≤ (e_size).toInt ∧ (e_size).toInt ≤ 1000) (h_e_nests : 0 ≤ (e_nests).toInt ∧ (e_nests).toInt ≤ 4) (h_e_end : Iv 4 (0) (1000) e_end) : KK l D (TY cyC cyI cyJ cyZ cyO) yX1_close cX1_close 1 none ({ frames := 0, cells := 0, slots := 0, locals := 0 } : Room) 0 0 [.ref e0] [(e0, .inr (1, [.int e_size, .int e_nests, .ref e1, .ref e2, .ref e3])), (e2, .inl (cyI, 4, .inl e_end))] (fun u => none) (fun u => (0 ≤ (u.2.1 0).toInt ∧ (u.2.1 0).toInt ≤ 4) ∧ (Iv 4 (0) (1000) (u.2.2.1 0)) ∧ (4 ≤ (e_nests).toInt ∨ ((u.2.1 0)).toInt = (e_nests).toInt + 1) ∧ (IM ((e_nests).toInt ≤ 3) (AD1 e_end (u.2.2.1 0) (e_nests).toInt.toNat e_size))) (fun u => [(e0, .inr (1, [.int e_size, .int (u.2.1 0), .ref e1, .ref e2, .ref e3])), (e2, .inl (cyI, 4, .inl (u.2.2.1 0)))]) := by
  refine KK.of (lv0 := [(0, .ref e0)]) (by decide) rfl (Nat.le_of_ble_eq_true rfl) ?_
  intro p e s m args below meth c A C hr hk hin
  refine j_aload_n (pc := 0) C dX1_close_0 rfl 0 rfl ?_
  refine j_get (pc := 1) (ci := 1) (v := .int e_nests) C inw_1 0 rfl rfl 1 (by decide) wd_191 rfl rfl dX1_close_1 ?_
  refine j_iconst (pc := 4) (v := 4) C dX1_close_4 (by decide) ?_
  refine j_icmp_ge (pc := 5) (tgt := 31) C dX1_close_5 (by decide) (fun c_1 => ?_) (fun c_1 => ?_)
  · skip
    have el_4 : (4 : Int32).toInt = 4 := rfl
    rw [i_le] at c_1
    have k0c_1 : e_nests.toInt = 4 := by omega
    exact j_vret (pc := 31) C hr hk (fun i => [].getD i 0, fun i => [e_nests].getD i 0, fun i => [e_end].getD i (fun _ => 0), fun i => [].getD i (fun _ => 0)) rfl (show (0 ≤ (e_nests).toInt ∧ (e_nests).toInt ≤ 4) ∧ (Iv 4 (0) (1000) e_end) ∧ (4 ≤ (e_nests).toInt ∨ (e_nests).toInt = (e_nests).toInt + 1) ∧ (IM ((e_nests).toInt ≤ 3) (AD1 e_end e_end (e_nests).toInt.toNat e_size)) from ⟨h_e_nests, h_e_end, by omega, (fun h => absurd h (by omega))⟩) [0, 1] (by decide) rfl (by decide) (by decide) dX1_close_31
  · skip
    have el_4 : (4 : Int32).toInt = 4 := rfl
    rw [i_le] at c_1
    refine j_aload_n (pc := 8) C dX1_close_8 rfl 0 rfl ?_
    refine j_get (pc := 9) (ci := 1) (v := .ref e2) C inw_1 0 rfl rfl 3 (by decide) wd_193 rfl rfl dX1_close_9 ?_
    refine j_aload_n (pc := 12) C dX1_close_12 rfl 0 rfl ?_
    refine j_get (pc := 13) (ci := 1) (v := .int e_nests) C inw_1 0 rfl rfl 1 (by decide) wd_191 rfl rfl dX1_close_13 ?_
    refine j_aload_n (pc := 16) C dX1_close_16 rfl 0 rfl ?_
    refine j_get (pc := 17) (ci := 1) (v := .int e_size) C inw_1 0 rfl rfl 0 (by decide) wd_190 rfl rfl dX1_close_17 ?_
    obtain ⟨f_2, ef_2⟩ : ∃ z, z = upd e_end (e_nests).toInt.toNat e_size := ⟨_, rfl⟩
    have hf_2 : Iv 4 (0) (1000) f_2 := by rw [ef_2]; exact Iv.upd h_e_end (by omega) (by omega)
    refine j_iast (pc := 20) (k := (e_nests).toInt.toNat) (ws' := [(e0, .inr (1, [.int e_size, .int e_nests, .ref e1, .ref e2, .ref e3])), (e2, .inl (cyI, 4, .inl f_2))]) C 1 1 rfl rfl (i_nn h_e_nests.1) rfl (i_lt_n h_e_nests.1 (by omega)) dX1_close_20 (by rw [ef_2]; rfl) ?_
    refine j_aload_n (pc := 21) C dX1_close_21 rfl 0 rfl ?_
    refine j_dup (pc := 22) C dX1_close_22 rfl ?_
    refine j_get (pc := 23) (ci := 1) (v := .int e_nests) C inw_1 0 rfl rfl 1 (by decide) wd_191 rfl rfl dX1_close_23 ?_
    refine j_iconst (pc := 26) (v := 1) C dX1_close_26 (by decide) ?_
    obtain ⟨v_3, ev_3⟩ : ∃ z : Int32, e_nests + 1 = z := ⟨_, rfl⟩
    have el_1 : (1 : Int32).toInt = 1 := rfl
    have hv_3 : v_3.toInt = e_nests.toInt + (1 : Int32).toInt := by rw [← ev_3]; exact fb_addI (by omega) (by omega)
    refine j_iadd (pc := 27) (v := v_3) C dX1_close_27 ev_3 ?_
    refine j_put (pc := 28) (ci := 1) (v := .int v_3) (ws' := [(e0, .inr (1, [.int e_size, .int v_3, .ref e1, .ref e2, .ref e3])), (e2, .inl (cyI, 4, .inl f_2))]) C inw_1 0 rfl rfl 1 (by decide) wd_191 rfl tyX1_ok nmX1 rfl (tyX1_ok 1 (by decide)) rfl rfl (Nat.le_of_ble_eq_true rfl) dX1_close_28 rfl ?_
    exact j_vret (pc := 31) C hr hk (fun i => [].getD i 0, fun i => [v_3].getD i 0, fun i => [f_2].getD i (fun _ => 0), fun i => [].getD i (fun _ => 0)) rfl (show (0 ≤ (v_3).toInt ∧ (v_3).toInt ≤ 4) ∧ (Iv 4 (0) (1000) f_2) ∧ (4 ≤ (e_nests).toInt ∨ (v_3).toInt = (e_nests).toInt + 1) ∧ (IM ((e_nests).toInt ≤ 3) (AD1 e_end f_2 (e_nests).toInt.toNat e_size)) from ⟨by omega, hf_2, by omega, (fun _ => ⟨fun j hj => by rw [ef_2]; exact pk_un hj, by rw [ef_2, pk_us]⟩)⟩) [0, 1] (by decide) rfl (by decide) (by decide) dX1_close_31
set_option maxHeartbeats 4000000 in
set_option maxRecDepth 100000 in
theorem c_X1_join (l : Launch) (D : DG) (cyC cyI cyJ cyZ cyO : ClassId) (p0 : Int32) (p1 : Int32) (p2 : Int32) : KK l D (TY cyC cyI cyJ cyZ cyO) yX1_join cX1_join 3 (some .int) ({ frames := 0, cells := 0, slots := 0, locals := 0 } : Room) 0 0 [.int p0, .int p1, .int p2] [] (fun u => some (.int (u.2.1 0))) (fun u => ((u.2.1 0) = jn6 (p2).toInt p0 p1)) (fun u => []) := by
  refine KK.of (lv0 := [(0, .int p0), (1, .int p1), (2, .int p2)]) (by decide) rfl (Nat.le_of_ble_eq_true rfl) ?_
  intro p e s m args below meth c A C hr hk hin
  refine j_iload_n (pc := 0) C dX1_join_0 rfl 2 rfl ?_
  rcases (by omega : p2.toInt = -15 ∨ p2.toInt = -14 ∨ p2.toInt = -13 ∨ p2.toInt = -12 ∨ p2.toInt = -11 ∨ p2.toInt = -10 ∨ (¬ p2.toInt = -15 ∧ ¬ p2.toInt = -14 ∧ ¬ p2.toInt = -13 ∧ ¬ p2.toInt = -12 ∧ ¬ p2.toInt = -11 ∧ ¬ p2.toInt = -10)) with sw_1 | sw_1 | sw_1 | sw_1 | sw_1 | sw_1 | sw_1
  · skip
    refine j_tin (pc := 1) (off := 93) (tgt := 94) C dX1_join_1 (by omega) (by omega) (by rw [sw_1]; decide) (by decide) ?_
    refine j_iload_n (pc := 94) C dX1_join_94 rfl 0 rfl ?_
    refine j_iload_n (pc := 95) C dX1_join_95 rfl 1 rfl ?_
    obtain ⟨v_2, ev_2⟩ : ∃ z : Int32, p0 - p1 = z := ⟨_, rfl⟩
    refine j_isub (pc := 96) (v := v_2) C dX1_join_96 ev_2 ?_
    have el_0 : (0 : Int32).toInt = 0 := rfl
    exact j_iret (pc := 97) C hr hk (fun i => [].getD i 0, fun i => [v_2].getD i 0, fun i => [].getD i (fun _ => 0), fun i => [].getD i (fun _ => 0)) rfl (show (v_2 = jn6 (p2).toInt p0 p1) from ((by unfold jn6; rw [if_neg (by omega), if_neg (by omega), if_neg (by omega), if_neg (by omega), if_neg (by omega), if_pos (by omega)]; exact ev_2.symm))) [] (by decide) rfl (by decide) (by decide) dX1_join_97
  · skip
    refine j_tin (pc := 1) (off := 89) (tgt := 90) C dX1_join_1 (by omega) (by omega) (by rw [sw_1]; decide) (by decide) ?_
    refine j_iload_n (pc := 90) C dX1_join_90 rfl 0 rfl ?_
    refine j_iload_n (pc := 91) C dX1_join_91 rfl 1 rfl ?_
    obtain ⟨v_3, ev_3⟩ : ∃ z : Int32, p0 + p1 = z := ⟨_, rfl⟩
    refine j_iadd (pc := 92) (v := v_3) C dX1_join_92 ev_3 ?_
    have el_0 : (0 : Int32).toInt = 0 := rfl
    exact j_iret (pc := 93) C hr hk (fun i => [].getD i 0, fun i => [v_3].getD i 0, fun i => [].getD i (fun _ => 0), fun i => [].getD i (fun _ => 0)) rfl (show (v_3 = jn6 (p2).toInt p0 p1) from ((by unfold jn6; rw [if_neg (by omega), if_neg (by omega), if_neg (by omega), if_neg (by omega), if_pos (by omega)]; exact ev_3.symm))) [] (by decide) rfl (by decide) (by decide) dX1_join_93
  · skip
    refine j_tin (pc := 1) (off := 78) (tgt := 79) C dX1_join_1 (by omega) (by omega) (by rw [sw_1]; decide) (by decide) ?_
    refine j_iload_n (pc := 79) C dX1_join_79 rfl 0 rfl ?_
    refine j_iload_n (pc := 80) C dX1_join_80 rfl 1 rfl ?_
    refine j_icmp_ne (pc := 81) (tgt := 88) C dX1_join_81 (by decide) (fun c_4 => ?_) (fun c_4 => ?_)
    · skip
      rw [i_eq] at c_4
      refine j_iconst (pc := 88) (v := 0) C dX1_join_88 (by decide) ?_
      have el_0 : (0 : Int32).toInt = 0 := rfl
      have el_0 : (0 : Int32).toInt = 0 := rfl
      exact j_iret (pc := 89) C hr hk (fun i => [].getD i 0, fun i => [0].getD i 0, fun i => [].getD i (fun _ => 0), fun i => [].getD i (fun _ => 0)) rfl (show ((0 : Int32) = jn6 (p2).toInt p0 p1) from ((by unfold jn6; rw [if_neg (by omega), if_neg (by omega), if_neg (by omega), if_pos (by omega)]; rw [if_neg (by rw [i_eq]; omega)]))) [] (by decide) rfl (by decide) (by decide) dX1_join_89
    · skip
      rw [i_eq] at c_4
      refine j_iconst (pc := 84) (v := 1) C dX1_join_84 (by decide) ?_
      refine j_goto (pc := 85) (tgt := 89) C dX1_join_85 (by decide) ?_
      have el_1 : (1 : Int32).toInt = 1 := rfl
      have el_0 : (0 : Int32).toInt = 0 := rfl
      exact j_iret (pc := 89) C hr hk (fun i => [].getD i 0, fun i => [1].getD i 0, fun i => [].getD i (fun _ => 0), fun i => [].getD i (fun _ => 0)) rfl (show ((1 : Int32) = jn6 (p2).toInt p0 p1) from ((by unfold jn6; rw [if_neg (by omega), if_neg (by omega), if_neg (by omega), if_pos (by omega)]; rw [if_pos ((i_eq _ _).mpr (by omega))]))) [] (by decide) rfl (by decide) (by decide) dX1_join_89
  · skip
    refine j_tin (pc := 1) (off := 67) (tgt := 68) C dX1_join_1 (by omega) (by omega) (by rw [sw_1]; decide) (by decide) ?_
    refine j_iload_n (pc := 68) C dX1_join_68 rfl 0 rfl ?_
    refine j_iload_n (pc := 69) C dX1_join_69 rfl 1 rfl ?_
    refine j_icmp_ge (pc := 70) (tgt := 77) C dX1_join_70 (by decide) (fun c_5 => ?_) (fun c_5 => ?_)
    · skip
      rw [i_le] at c_5
      refine j_iconst (pc := 77) (v := 0) C dX1_join_77 (by decide) ?_
      have el_0 : (0 : Int32).toInt = 0 := rfl
      have el_0 : (0 : Int32).toInt = 0 := rfl
      exact j_iret (pc := 78) C hr hk (fun i => [].getD i 0, fun i => [0].getD i 0, fun i => [].getD i (fun _ => 0), fun i => [].getD i (fun _ => 0)) rfl (show ((0 : Int32) = jn6 (p2).toInt p0 p1) from ((by unfold jn6; rw [if_neg (by omega), if_neg (by omega), if_pos (by omega)]; rw [if_neg (by rw [i_lt]; omega)]))) [] (by decide) rfl (by decide) (by decide) dX1_join_78
    · skip
      rw [i_le] at c_5
      refine j_iconst (pc := 73) (v := 1) C dX1_join_73 (by decide) ?_
      refine j_goto (pc := 74) (tgt := 78) C dX1_join_74 (by decide) ?_
      have el_1 : (1 : Int32).toInt = 1 := rfl
      have el_0 : (0 : Int32).toInt = 0 := rfl
      exact j_iret (pc := 78) C hr hk (fun i => [].getD i 0, fun i => [1].getD i 0, fun i => [].getD i (fun _ => 0), fun i => [].getD i (fun _ => 0)) rfl (show ((1 : Int32) = jn6 (p2).toInt p0 p1) from ((by unfold jn6; rw [if_neg (by omega), if_neg (by omega), if_pos (by omega)]; rw [if_pos ((i_lt _ _).mpr (by omega))]))) [] (by decide) rfl (by decide) (by decide) dX1_join_78
  · skip
    refine j_tin (pc := 1) (off := 53) (tgt := 54) C dX1_join_1 (by omega) (by omega) (by rw [sw_1]; decide) (by decide) ?_
    refine j_iload_n (pc := 54) C dX1_join_54 rfl 0 rfl ?_
    refine j_if_ne (pc := 55) (tgt := 62) C dX1_join_55 (by decide) (fun c_6 => ?_) (fun c_6 => ?_)
    · skip
      have el_0 : (0 : Int32).toInt = 0 := rfl
      rw [i_eq] at c_6
      refine j_iconst (pc := 62) (v := 1) C dX1_join_62 (by decide) ?_
      refine j_goto (pc := 63) (tgt := 67) C dX1_join_63 (by decide) ?_
      have el_1 : (1 : Int32).toInt = 1 := rfl
      have el_0 : (0 : Int32).toInt = 0 := rfl
      exact j_iret (pc := 67) C hr hk (fun i => [].getD i 0, fun i => [1].getD i 0, fun i => [].getD i (fun _ => 0), fun i => [].getD i (fun _ => 0)) rfl (show ((1 : Int32) = jn6 (p2).toInt p0 p1) from ((by unfold jn6; rw [if_neg (by omega), if_pos (by omega)]; rw [if_pos (by rw [i_eq, i_eq]; omega)]))) [] (by decide) rfl (by decide) (by decide) dX1_join_67
    · skip
      have el_0 : (0 : Int32).toInt = 0 := rfl
      rw [i_eq] at c_6
      refine j_iload_n (pc := 58) C dX1_join_58 rfl 1 rfl ?_
      refine j_if_eq (pc := 59) (tgt := 66) C dX1_join_59 (by decide) (fun c_7 => ?_) (fun c_7 => ?_)
      · skip
        have el_0 : (0 : Int32).toInt = 0 := rfl
        rw [i_eq] at c_7
        refine j_iconst (pc := 66) (v := 0) C dX1_join_66 (by decide) ?_
        have el_0 : (0 : Int32).toInt = 0 := rfl
        have el_0 : (0 : Int32).toInt = 0 := rfl
        exact j_iret (pc := 67) C hr hk (fun i => [].getD i 0, fun i => [0].getD i 0, fun i => [].getD i (fun _ => 0), fun i => [].getD i (fun _ => 0)) rfl (show ((0 : Int32) = jn6 (p2).toInt p0 p1) from ((by unfold jn6; rw [if_neg (by omega), if_pos (by omega)]; rw [if_neg (by rw [i_eq, i_eq]; omega)]))) [] (by decide) rfl (by decide) (by decide) dX1_join_67
      · skip
        have el_0 : (0 : Int32).toInt = 0 := rfl
        rw [i_eq] at c_7
        refine j_iconst (pc := 62) (v := 1) C dX1_join_62 (by decide) ?_
        refine j_goto (pc := 63) (tgt := 67) C dX1_join_63 (by decide) ?_
        have el_1 : (1 : Int32).toInt = 1 := rfl
        have el_0 : (0 : Int32).toInt = 0 := rfl
        exact j_iret (pc := 67) C hr hk (fun i => [].getD i 0, fun i => [1].getD i 0, fun i => [].getD i (fun _ => 0), fun i => [].getD i (fun _ => 0)) rfl (show ((1 : Int32) = jn6 (p2).toInt p0 p1) from ((by unfold jn6; rw [if_neg (by omega), if_pos (by omega)]; rw [if_pos (by rw [i_eq, i_eq]; omega)]))) [] (by decide) rfl (by decide) (by decide) dX1_join_67
  · skip
    refine j_tin (pc := 1) (off := 39) (tgt := 40) C dX1_join_1 (by omega) (by omega) (by rw [sw_1]; decide) (by decide) ?_
    refine j_iload_n (pc := 40) C dX1_join_40 rfl 0 rfl ?_
    refine j_if_eq (pc := 41) (tgt := 52) C dX1_join_41 (by decide) (fun c_8 => ?_) (fun c_8 => ?_)
    · skip
      have el_0 : (0 : Int32).toInt = 0 := rfl
      rw [i_eq] at c_8
      refine j_iconst (pc := 52) (v := 0) C dX1_join_52 (by decide) ?_
      have el_0 : (0 : Int32).toInt = 0 := rfl
      have el_0 : (0 : Int32).toInt = 0 := rfl
      exact j_iret (pc := 53) C hr hk (fun i => [].getD i 0, fun i => [0].getD i 0, fun i => [].getD i (fun _ => 0), fun i => [].getD i (fun _ => 0)) rfl (show ((0 : Int32) = jn6 (p2).toInt p0 p1) from ((by unfold jn6; rw [if_pos (by omega)]; rw [if_neg (by rw [i_eq, i_eq]; omega)]))) [] (by decide) rfl (by decide) (by decide) dX1_join_53
    · skip
      have el_0 : (0 : Int32).toInt = 0 := rfl
      rw [i_eq] at c_8
      refine j_iload_n (pc := 44) C dX1_join_44 rfl 1 rfl ?_
      refine j_if_eq (pc := 45) (tgt := 52) C dX1_join_45 (by decide) (fun c_9 => ?_) (fun c_9 => ?_)
      · skip
        have el_0 : (0 : Int32).toInt = 0 := rfl
        rw [i_eq] at c_9
        refine j_iconst (pc := 52) (v := 0) C dX1_join_52 (by decide) ?_
        have el_0 : (0 : Int32).toInt = 0 := rfl
        have el_0 : (0 : Int32).toInt = 0 := rfl
        exact j_iret (pc := 53) C hr hk (fun i => [].getD i 0, fun i => [0].getD i 0, fun i => [].getD i (fun _ => 0), fun i => [].getD i (fun _ => 0)) rfl (show ((0 : Int32) = jn6 (p2).toInt p0 p1) from ((by unfold jn6; rw [if_pos (by omega)]; rw [if_neg (by rw [i_eq, i_eq]; omega)]))) [] (by decide) rfl (by decide) (by decide) dX1_join_53
      · skip
        have el_0 : (0 : Int32).toInt = 0 := rfl
        rw [i_eq] at c_9
        refine j_iconst (pc := 48) (v := 1) C dX1_join_48 (by decide) ?_
        refine j_goto (pc := 49) (tgt := 53) C dX1_join_49 (by decide) ?_
        have el_1 : (1 : Int32).toInt = 1 := rfl
        have el_0 : (0 : Int32).toInt = 0 := rfl
        exact j_iret (pc := 53) C hr hk (fun i => [].getD i 0, fun i => [1].getD i 0, fun i => [].getD i (fun _ => 0), fun i => [].getD i (fun _ => 0)) rfl (show ((1 : Int32) = jn6 (p2).toInt p0 p1) from ((by unfold jn6; rw [if_pos (by omega)]; rw [if_pos ⟨by rw [i_eq]; omega, by rw [i_eq]; omega⟩]))) [] (by decide) rfl (by decide) (by decide) dX1_join_53
  · skip
    refine j_tout (pc := 1) (tgt := 98) C dX1_join_1 (by omega) (by decide) ?_
    refine j_iload_n (pc := 98) C dX1_join_98 rfl 0 rfl ?_
    refine j_iload_n (pc := 99) C dX1_join_99 rfl 1 rfl ?_
    obtain ⟨v_10, ev_10⟩ : ∃ z : Int32, p0 * p1 = z := ⟨_, rfl⟩
    refine j_imul (pc := 100) (v := v_10) C dX1_join_100 ev_10 ?_
    have el_0 : (0 : Int32).toInt = 0 := rfl
    exact j_iret (pc := 101) C hr hk (fun i => [].getD i 0, fun i => [v_10].getD i 0, fun i => [].getD i (fun _ => 0), fun i => [].getD i (fun _ => 0)) rfl (show (v_10 = jn6 (p2).toInt p0 p1) from ((by unfold jn6; rw [if_neg (by omega), if_neg (by omega), if_neg (by omega), if_neg (by omega), if_neg (by omega), if_neg (by omega)]; exact ev_10.symm))) [] (by decide) rfl (by decide) (by decide) dX1_join_101
set_option maxHeartbeats 4000000 in
set_option maxRecDepth 100000 in
theorem c_X1_fact (l : Launch) (D : DG) (cyC cyI cyJ cyZ cyO : ClassId) (a0 : Nat) (a1 : Nat) (a2 : Nat) (a3 : Nat) (a4 : Nat) (a5 : Nat) (a6 : Nat) (a7 : Nat) (a8 : Nat) (a9 : Nat) (a10 : Nat) (p0 : Int32) (p1 : Int32) (p2 : Int32) (a_wares : Int32) (a_shelves : Int32) (a_nests : Int32) (a_lids : Int32) (a_tops : Int32) (a_wide : Nat → Int32) (a_deep : Nat → Int32) (a_weight : Nat → Int32) (h_a_wares : 0 ≤ (a_wares).toInt ∧ (a_wares).toInt ≤ 12) (h_a_shelves : 0 ≤ (a_shelves).toInt ∧ (a_shelves).toInt ≤ 4) (h_a_nests : 0 ≤ (a_nests).toInt ∧ (a_nests).toInt ≤ 4) (h_p0 : 0 ≤ (p0).toInt ∧ (p0).toInt ≤ 11) (h_p1 : 0 ≤ (p1).toInt ∧ (p1).toInt ≤ 11) (h_p2 : -8 ≤ (p2).toInt ∧ (p2).toInt ≤ -1) : KK l D (TY cyC cyI cyJ cyZ cyO) yX1_fact cX1_fact 4 (some .int) ({ frames := 0, cells := 0, slots := 0, locals := 0 } : Room) 0 0 [.ref a0, .int p0, .int p1, .int p2] [(a0, .inr (9, [.int a_wares, .int a_shelves, .int a_nests, .ref a1, .ref a2, .ref a3, .ref a4, .ref a5, .ref a6, .int a_lids, .int a_tops, .ref a7, .ref a8, .ref a9, .ref a10])), (a1, .inl (cyI, 12, .inl a_wide)), (a2, .inl (cyI, 12, .inl a_deep)), (a3, .inl (cyI, 12, .inl a_weight))] (fun u => some (.int (u.2.1 0))) (fun u => ((u.2.1 0) = (fcC a_wide a_deep a_weight a_lids (p0).toInt.toNat (p1).toInt.toNat) (-1 - (p2).toInt).toNat)) (fun u => [(a0, .inr (9, [.int a_wares, .int a_shelves, .int a_nests, .ref a1, .ref a2, .ref a3, .ref a4, .ref a5, .ref a6, .int a_lids, .int a_tops, .ref a7, .ref a8, .ref a9, .ref a10])), (a1, .inl (cyI, 12, .inl a_wide)), (a2, .inl (cyI, 12, .inl a_deep)), (a3, .inl (cyI, 12, .inl a_weight))]) := by
  refine KK.of (lv0 := [(0, .ref a0), (1, .int p0), (2, .int p1), (3, .int p2)]) (by decide) rfl (Nat.le_of_ble_eq_true rfl) ?_
  intro p e s m args below meth c A C hr hk hin
  refine j_iload_n (pc := 0) C dX1_fact_0 rfl 3 rfl ?_
  rcases (by omega : p2.toInt = -7 ∨ p2.toInt = -6 ∨ p2.toInt = -5 ∨ p2.toInt = -4 ∨ p2.toInt = -3 ∨ p2.toInt = -2 ∨ p2.toInt = -1 ∨ (¬ p2.toInt = -7 ∧ ¬ p2.toInt = -6 ∧ ¬ p2.toInt = -5 ∧ ¬ p2.toInt = -4 ∧ ¬ p2.toInt = -3 ∧ ¬ p2.toInt = -2 ∧ ¬ p2.toInt = -1)) with sw_1 | sw_1 | sw_1 | sw_1 | sw_1 | sw_1 | sw_1 | sw_1
  · skip
    refine j_tin (pc := 1) (off := 85) (tgt := 86) C dX1_fact_1 (by omega) (by omega) (by rw [sw_1]; decide) (by decide) ?_
    refine j_aload_n (pc := 86) C dX1_fact_86 rfl 0 rfl ?_
    refine j_get (pc := 87) (ci := 9) (v := .int a_lids) C inw_9 0 rfl rfl 9 (by decide) wd_194 rfl rfl dX1_fact_87 ?_
    refine j_iload_n (pc := 90) C dX1_fact_90 rfl 1 rfl ?_
    obtain ⟨v_2, ev_2⟩ : ∃ z : Int32, ((a_lids : Int32).toUInt32 >>> ((p0 : Int32).toUInt32 &&& Int32.toUInt32 31)).toInt32 = z := ⟨_, rfl⟩
    refine j_iushr (pc := 91) (v := v_2) C dX1_fact_91 ev_2 ?_
    refine j_iconst (pc := 92) (v := 1) C dX1_fact_92 (by decide) ?_
    obtain ⟨v_3, ev_3⟩ : ∃ z : Int32, v_2 &&& 1 = z := ⟨_, rfl⟩
    have el_1 : (1 : Int32).toInt = 1 := rfl
    have hv_3 : 0 ≤ v_3.toInt ∧ v_3.toInt ≤ 1 := by rw [← ev_3]; exact and1_r _
    refine j_iand (pc := 93) (v := v_3) C dX1_fact_93 ev_3 ?_
    exact j_iret (pc := 94) C hr hk (fun i => [].getD i 0, fun i => [v_3].getD i 0, fun i => [].getD i (fun _ => 0), fun i => [].getD i (fun _ => 0)) rfl (show (v_3 = (fcC a_wide a_deep a_weight a_lids (p0).toInt.toNat (p1).toInt.toNat) (-1 - (p2).toInt).toNat) from ((by rw [show (-1 - (p2).toInt).toNat = 6 from (by omega)]; show _ = (if BT a_lids (p0).toInt.toNat = true then (1 : Int32) else 0); rw [← ev_3, ← ev_2]; exact bt_rd32 (by omega) (by omega)))) [0, 1, 2, 3] (by decide) rfl (by decide) (by decide) dX1_fact_94
  · skip
    refine j_tin (pc := 1) (off := 78) (tgt := 79) C dX1_fact_1 (by omega) (by omega) (by rw [sw_1]; decide) (by decide) ?_
    refine j_aload_n (pc := 79) C dX1_fact_79 rfl 0 rfl ?_
    refine j_get (pc := 80) (ci := 9) (v := .ref a3) C inw_9 0 rfl rfl 5 (by decide) wd_195 rfl rfl dX1_fact_80 ?_
    refine j_iload_n (pc := 83) C dX1_fact_83 rfl 2 rfl ?_
    obtain ⟨v_4, ev_4⟩ : ∃ z, a_weight (p1).toInt.toNat = z := ⟨_, rfl⟩
    have env_4 : (a_weight (p1).toInt.toNat).toInt = v_4.toInt := by rw [ev_4]
    refine j_iald (pc := 84) (v := v_4) (k := (p1).toInt.toNat) C 3 1 rfl rfl (i_nn h_p1.1) rfl (i_lt_n h_p1.1 (Int.lt_of_le_of_lt h_p1.2 (by decide))) ev_4 dX1_fact_84 ?_
    exact j_iret (pc := 85) C hr hk (fun i => [].getD i 0, fun i => [v_4].getD i 0, fun i => [].getD i (fun _ => 0), fun i => [].getD i (fun _ => 0)) rfl (show (v_4 = (fcC a_wide a_deep a_weight a_lids (p0).toInt.toNat (p1).toInt.toNat) (-1 - (p2).toInt).toNat) from ((by rw [show (-1 - (p2).toInt).toNat = 5 from (by omega)]; exact ev_4.symm))) [0, 1, 2, 3] (by decide) rfl (by decide) (by decide) dX1_fact_85
  · skip
    refine j_tin (pc := 1) (off := 71) (tgt := 72) C dX1_fact_1 (by omega) (by omega) (by rw [sw_1]; decide) (by decide) ?_
    refine j_aload_n (pc := 72) C dX1_fact_72 rfl 0 rfl ?_
    refine j_get (pc := 73) (ci := 9) (v := .ref a3) C inw_9 0 rfl rfl 5 (by decide) wd_195 rfl rfl dX1_fact_73 ?_
    refine j_iload_n (pc := 76) C dX1_fact_76 rfl 1 rfl ?_
    obtain ⟨v_5, ev_5⟩ : ∃ z, a_weight (p0).toInt.toNat = z := ⟨_, rfl⟩
    have env_5 : (a_weight (p0).toInt.toNat).toInt = v_5.toInt := by rw [ev_5]
    refine j_iald (pc := 77) (v := v_5) (k := (p0).toInt.toNat) C 3 1 rfl rfl (i_nn h_p0.1) rfl (i_lt_n h_p0.1 (Int.lt_of_le_of_lt h_p0.2 (by decide))) ev_5 dX1_fact_77 ?_
    exact j_iret (pc := 78) C hr hk (fun i => [].getD i 0, fun i => [v_5].getD i 0, fun i => [].getD i (fun _ => 0), fun i => [].getD i (fun _ => 0)) rfl (show (v_5 = (fcC a_wide a_deep a_weight a_lids (p0).toInt.toNat (p1).toInt.toNat) (-1 - (p2).toInt).toNat) from ((by rw [show (-1 - (p2).toInt).toNat = 4 from (by omega)]; exact ev_5.symm))) [0, 1, 2, 3] (by decide) rfl (by decide) (by decide) dX1_fact_78
  · skip
    refine j_tin (pc := 1) (off := 64) (tgt := 65) C dX1_fact_1 (by omega) (by omega) (by rw [sw_1]; decide) (by decide) ?_
    refine j_aload_n (pc := 65) C dX1_fact_65 rfl 0 rfl ?_
    refine j_get (pc := 66) (ci := 9) (v := .ref a2) C inw_9 0 rfl rfl 4 (by decide) wd_196 rfl rfl dX1_fact_66 ?_
    refine j_iload_n (pc := 69) C dX1_fact_69 rfl 2 rfl ?_
    obtain ⟨v_6, ev_6⟩ : ∃ z, a_deep (p1).toInt.toNat = z := ⟨_, rfl⟩
    have env_6 : (a_deep (p1).toInt.toNat).toInt = v_6.toInt := by rw [ev_6]
    refine j_iald (pc := 70) (v := v_6) (k := (p1).toInt.toNat) C 2 1 rfl rfl (i_nn h_p1.1) rfl (i_lt_n h_p1.1 (Int.lt_of_le_of_lt h_p1.2 (by decide))) ev_6 dX1_fact_70 ?_
    exact j_iret (pc := 71) C hr hk (fun i => [].getD i 0, fun i => [v_6].getD i 0, fun i => [].getD i (fun _ => 0), fun i => [].getD i (fun _ => 0)) rfl (show (v_6 = (fcC a_wide a_deep a_weight a_lids (p0).toInt.toNat (p1).toInt.toNat) (-1 - (p2).toInt).toNat) from ((by rw [show (-1 - (p2).toInt).toNat = 3 from (by omega)]; exact ev_6.symm))) [0, 1, 2, 3] (by decide) rfl (by decide) (by decide) dX1_fact_71
  · skip
    refine j_tin (pc := 1) (off := 57) (tgt := 58) C dX1_fact_1 (by omega) (by omega) (by rw [sw_1]; decide) (by decide) ?_
    refine j_aload_n (pc := 58) C dX1_fact_58 rfl 0 rfl ?_
    refine j_get (pc := 59) (ci := 9) (v := .ref a2) C inw_9 0 rfl rfl 4 (by decide) wd_196 rfl rfl dX1_fact_59 ?_
    refine j_iload_n (pc := 62) C dX1_fact_62 rfl 1 rfl ?_
    obtain ⟨v_7, ev_7⟩ : ∃ z, a_deep (p0).toInt.toNat = z := ⟨_, rfl⟩
    have env_7 : (a_deep (p0).toInt.toNat).toInt = v_7.toInt := by rw [ev_7]
    refine j_iald (pc := 63) (v := v_7) (k := (p0).toInt.toNat) C 2 1 rfl rfl (i_nn h_p0.1) rfl (i_lt_n h_p0.1 (Int.lt_of_le_of_lt h_p0.2 (by decide))) ev_7 dX1_fact_63 ?_
    exact j_iret (pc := 64) C hr hk (fun i => [].getD i 0, fun i => [v_7].getD i 0, fun i => [].getD i (fun _ => 0), fun i => [].getD i (fun _ => 0)) rfl (show (v_7 = (fcC a_wide a_deep a_weight a_lids (p0).toInt.toNat (p1).toInt.toNat) (-1 - (p2).toInt).toNat) from ((by rw [show (-1 - (p2).toInt).toNat = 2 from (by omega)]; exact ev_7.symm))) [0, 1, 2, 3] (by decide) rfl (by decide) (by decide) dX1_fact_64
  · skip
    refine j_tin (pc := 1) (off := 50) (tgt := 51) C dX1_fact_1 (by omega) (by omega) (by rw [sw_1]; decide) (by decide) ?_
    refine j_aload_n (pc := 51) C dX1_fact_51 rfl 0 rfl ?_
    refine j_get (pc := 52) (ci := 9) (v := .ref a1) C inw_9 0 rfl rfl 3 (by decide) wd_197 rfl rfl dX1_fact_52 ?_
    refine j_iload_n (pc := 55) C dX1_fact_55 rfl 2 rfl ?_
    obtain ⟨v_8, ev_8⟩ : ∃ z, a_wide (p1).toInt.toNat = z := ⟨_, rfl⟩
    have env_8 : (a_wide (p1).toInt.toNat).toInt = v_8.toInt := by rw [ev_8]
    refine j_iald (pc := 56) (v := v_8) (k := (p1).toInt.toNat) C 1 1 rfl rfl (i_nn h_p1.1) rfl (i_lt_n h_p1.1 (Int.lt_of_le_of_lt h_p1.2 (by decide))) ev_8 dX1_fact_56 ?_
    exact j_iret (pc := 57) C hr hk (fun i => [].getD i 0, fun i => [v_8].getD i 0, fun i => [].getD i (fun _ => 0), fun i => [].getD i (fun _ => 0)) rfl (show (v_8 = (fcC a_wide a_deep a_weight a_lids (p0).toInt.toNat (p1).toInt.toNat) (-1 - (p2).toInt).toNat) from ((by rw [show (-1 - (p2).toInt).toNat = 1 from (by omega)]; exact ev_8.symm))) [0, 1, 2, 3] (by decide) rfl (by decide) (by decide) dX1_fact_57
  · skip
    refine j_tin (pc := 1) (off := 43) (tgt := 44) C dX1_fact_1 (by omega) (by omega) (by rw [sw_1]; decide) (by decide) ?_
    refine j_aload_n (pc := 44) C dX1_fact_44 rfl 0 rfl ?_
    refine j_get (pc := 45) (ci := 9) (v := .ref a1) C inw_9 0 rfl rfl 3 (by decide) wd_197 rfl rfl dX1_fact_45 ?_
    refine j_iload_n (pc := 48) C dX1_fact_48 rfl 1 rfl ?_
    obtain ⟨v_9, ev_9⟩ : ∃ z, a_wide (p0).toInt.toNat = z := ⟨_, rfl⟩
    have env_9 : (a_wide (p0).toInt.toNat).toInt = v_9.toInt := by rw [ev_9]
    refine j_iald (pc := 49) (v := v_9) (k := (p0).toInt.toNat) C 1 1 rfl rfl (i_nn h_p0.1) rfl (i_lt_n h_p0.1 (Int.lt_of_le_of_lt h_p0.2 (by decide))) ev_9 dX1_fact_49 ?_
    exact j_iret (pc := 50) C hr hk (fun i => [].getD i 0, fun i => [v_9].getD i 0, fun i => [].getD i (fun _ => 0), fun i => [].getD i (fun _ => 0)) rfl (show (v_9 = (fcC a_wide a_deep a_weight a_lids (p0).toInt.toNat (p1).toInt.toNat) (-1 - (p2).toInt).toNat) from ((by rw [show (-1 - (p2).toInt).toNat = 0 from (by omega)]; exact ev_9.symm))) [0, 1, 2, 3] (by decide) rfl (by decide) (by decide) dX1_fact_50
  · skip
    refine j_tout (pc := 1) (tgt := 95) C dX1_fact_1 (by omega) (by decide) ?_
    refine j_aload_n (pc := 95) C dX1_fact_95 rfl 0 rfl ?_
    refine j_get (pc := 96) (ci := 9) (v := .int a_lids) C inw_9 0 rfl rfl 9 (by decide) wd_194 rfl rfl dX1_fact_96 ?_
    refine j_iload_n (pc := 99) C dX1_fact_99 rfl 2 rfl ?_
    obtain ⟨v_10, ev_10⟩ : ∃ z : Int32, ((a_lids : Int32).toUInt32 >>> ((p1 : Int32).toUInt32 &&& Int32.toUInt32 31)).toInt32 = z := ⟨_, rfl⟩
    refine j_iushr (pc := 100) (v := v_10) C dX1_fact_100 ev_10 ?_
    refine j_iconst (pc := 101) (v := 1) C dX1_fact_101 (by decide) ?_
    obtain ⟨v_11, ev_11⟩ : ∃ z : Int32, v_10 &&& 1 = z := ⟨_, rfl⟩
    have el_1 : (1 : Int32).toInt = 1 := rfl
    have hv_11 : 0 ≤ v_11.toInt ∧ v_11.toInt ≤ 1 := by rw [← ev_11]; exact and1_r _
    refine j_iand (pc := 102) (v := v_11) C dX1_fact_102 ev_11 ?_
    exact j_iret (pc := 103) C hr hk (fun i => [].getD i 0, fun i => [v_11].getD i 0, fun i => [].getD i (fun _ => 0), fun i => [].getD i (fun _ => 0)) rfl (show (v_11 = (fcC a_wide a_deep a_weight a_lids (p0).toInt.toNat (p1).toInt.toNat) (-1 - (p2).toInt).toNat) from ((by rw [show (-1 - (p2).toInt).toNat = 7 from (by omega)]; show _ = (if BT a_lids (p1).toInt.toNat = true then (1 : Int32) else 0); rw [← ev_11, ← ev_10]; exact bt_rd32 (by omega) (by omega)))) [0, 1, 2, 3] (by decide) rfl (by decide) (by decide) dX1_fact_103
set_option maxHeartbeats 4000000 in
set_option maxRecDepth 100000 in
theorem c_X1_value (l : Launch) (D : DG) (cyC cyI cyJ cyZ cyO : ClassId) (e0 : Nat) (e1 : Nat) (e3 : Nat) (a0 : Nat) (a1 : Nat) (a2 : Nat) (a3 : Nat) (e2 : Nat) (a4 : Nat) (a5 : Nat) (a6 : Nat) (a7 : Nat) (a8 : Nat) (a9 : Nat) (a10 : Nat) (p0 : Int32) (p1 : Int32) (p2 : Int32) (p3 : Int32) (e_size : Int32) (e_nests : Int32) (a_wares : Int32) (a_shelves : Int32) (a_nests : Int32) (a_lids : Int32) (a_tops : Int32) (e_steps : Nat → Int32) (e_values : Nat → Int32) (a_wide : Nat → Int32) (a_deep : Nat → Int32) (a_weight : Nat → Int32) (h_e_size : 0 ≤ (e_size).toInt ∧ (e_size).toInt ≤ 1000) (h_e_nests : 0 ≤ (e_nests).toInt ∧ (e_nests).toInt ≤ 4) (h_a_wares : 0 ≤ (a_wares).toInt ∧ (a_wares).toInt ≤ 12) (h_a_shelves : 0 ≤ (a_shelves).toInt ∧ (a_shelves).toInt ≤ 4) (h_a_nests : 0 ≤ (a_nests).toInt ∧ (a_nests).toInt ≤ 4) (h_p0 : 0 ≤ (p0).toInt ∧ (p0).toInt ≤ 11) (h_p1 : 0 ≤ (p1).toInt ∧ (p1).toInt ≤ 11) (h_p2 : 0 ≤ (p2).toInt ∧ (p2).toInt ≤ 1000) (h_p3 : 0 ≤ (p3).toInt ∧ (p3).toInt ≤ 1000) (hst6 : (p2).toInt ≤ (p3).toInt) : KK l D (TY cyC cyI cyJ cyZ cyO) yX1_value cX1_value 9 (some .int) ({ frames := 1, cells := 0, slots := 0, locals := 23 } : Room) 0 0 [.ref e0, .ref a0, .int p0, .int p1, .int p2, .int p3] [(e0, .inr (1, [.int e_size, .int e_nests, .ref e1, .ref e2, .ref e3])), (e1, .inl (cyI, 1000, .inl e_steps)), (e3, .inl (cyI, 32, .inl e_values)), (a0, .inr (9, [.int a_wares, .int a_shelves, .int a_nests, .ref a1, .ref a2, .ref a3, .ref a4, .ref a5, .ref a6, .int a_lids, .int a_tops, .ref a7, .ref a8, .ref a9, .ref a10])), (a1, .inl (cyI, 12, .inl a_wide)), (a2, .inl (cyI, 12, .inl a_deep)), (a3, .inl (cyI, 12, .inl a_weight))] (fun u => some (.int (u.2.1 0))) (fun u => (∀ V : (Nat → Int32) → Int32, CSeg e_steps (p2).toInt.toNat (p3).toInt.toNat 25 V → (u.2.1 0) = V (fcC a_wide a_deep a_weight a_lids (p0).toInt.toNat (p1).toInt.toNat))) (fun u => [(e0, .inr (1, [.int e_size, .int e_nests, .ref e1, .ref e2, .ref e3])), (e1, .inl (cyI, 1000, .inl e_steps)), (e3, .inl (cyI, 32, .inl (u.2.2.1 0))), (a0, .inr (9, [.int a_wares, .int a_shelves, .int a_nests, .ref a1, .ref a2, .ref a3, .ref a4, .ref a5, .ref a6, .int a_lids, .int a_tops, .ref a7, .ref a8, .ref a9, .ref a10])), (a1, .inl (cyI, 12, .inl a_wide)), (a2, .inl (cyI, 12, .inl a_deep)), (a3, .inl (cyI, 12, .inl a_weight))]) := by
  refine KK.of (lv0 := [(0, .ref e0), (1, .ref a0), (2, .int p0), (3, .int p1), (4, .int p2), (5, .int p3)]) (by decide) rfl (Nat.le_of_ble_eq_true rfl) ?_
  intro p e s m args below meth c A C hr hk hin
  refine j_iconst (pc := 0) (v := 0) C dX1_value_0 (by decide) ?_
  refine j_istore (pc := 1) (lv' := [(6, .int 0), (0, .ref e0), (1, .ref a0), (2, .int p0), (3, .int p1), (4, .int p2), (5, .int p3)]) C dX1_value_1 (by decide) rfl ?_
  refine j_iload (pc := 3) C dX1_value_3 5 rfl ?_
  refine j_istore (pc := 5) (lv' := [(7, .int p2), (6, .int 0), (0, .ref e0), (1, .ref a0), (2, .int p0), (3, .int p1), (4, .int p2), (5, .int p3)]) C dX1_value_5 (by decide) rfl ?_
  have loop_1 : ∀ (k_1 : Nat) (x1_7 : Int32) (x1_6 : Int32) (g1_e3 : Nat → Int32), (0 ≤ (x1_7).toInt ∧ (x1_7).toInt ≤ 1000) → (0 ≤ (x1_6).toInt ∧ (x1_6).toInt ≤ 32) → ((p2).toInt ≤ x1_7.toInt ∧ x1_7.toInt ≤ (p3).toInt) → (crun (fcC a_wide a_deep a_weight a_lids (p0).toInt.toNat (p1).toInt.toNat) e_steps (x1_7.toInt - (p2).toInt).toNat (p2).toInt.toNat (0, e_values) = ((x1_6.toInt).toNat, g1_e3)) → (1000 - x1_7.toInt).toNat < k_1 → J p l e ({ frames := 1, cells := 0, slots := 0, locals := 23 } : Room) s m args below meth c D A 9 0 0 (QX below D (TY cyC cyI cyJ cyZ cyO) A (fun u => some (.int (u.2.1 0))) (fun u => (∀ V : (Nat → Int32) → Int32, CSeg e_steps (p2).toInt.toNat (p3).toInt.toNat 25 V → (u.2.1 0) = V (fcC a_wide a_deep a_weight a_lids (p0).toInt.toNat (p1).toInt.toNat))) (fun u => [(e0, .inr (1, [.int e_size, .int e_nests, .ref e1, .ref e2, .ref e3])), (e1, .inl (cyI, 1000, .inl e_steps)), (e3, .inl (cyI, 32, .inl (u.2.2.1 0))), (a0, .inr (9, [.int a_wares, .int a_shelves, .int a_nests, .ref a1, .ref a2, .ref a3, .ref a4, .ref a5, .ref a6, .int a_lids, .int a_tops, .ref a7, .ref a8, .ref a9, .ref a10])), (a1, .inl (cyI, 12, .inl a_wide)), (a2, .inl (cyI, 12, .inl a_deep)), (a3, .inl (cyI, 12, .inl a_weight))]) args s 0 0) [(e0, .inr (1, [.int e_size, .int e_nests, .ref e1, .ref e2, .ref e3])), (e1, .inl (cyI, 1000, .inl e_steps)), (e3, .inl (cyI, 32, .inl g1_e3)), (a0, .inr (9, [.int a_wares, .int a_shelves, .int a_nests, .ref a1, .ref a2, .ref a3, .ref a4, .ref a5, .ref a6, .int a_lids, .int a_tops, .ref a7, .ref a8, .ref a9, .ref a10])), (a1, .inl (cyI, 12, .inl a_wide)), (a2, .inl (cyI, 12, .inl a_deep)), (a3, .inl (cyI, 12, .inl a_weight))] 7 [(7, .int x1_7), (6, .int x1_6), (0, .ref e0), (1, .ref a0), (2, .int p0), (3, .int p1), (4, .int p2), (5, .int p3)] [] := by
    intro k_1
    induction k_1 with
    | zero =>
      intro x1_7 x1_6 g1_e3 hi_1_0 hi_1_1 hr_1 hq_1_0 hm_1
      exact absurd hm_1 (Nat.not_lt_zero _)
    | succ k_1 ih_1 =>
      intro x1_7 x1_6 g1_e3 hi_1_0 hi_1_1 hr_1 hq_1_0 hm_1
      refine j_iload (pc := 7) C dX1_value_7 0 rfl ?_
      refine j_iload (pc := 9) C dX1_value_9 7 rfl ?_
      refine j_icmp_ge (pc := 11) (tgt := 162) C dX1_value_11 (by decide) (fun c_2 => ?_) (fun c_2 => ?_)
      · skip
        rw [i_le] at c_2
        refine j_aload_n (pc := 162) C dX1_value_162 rfl 2 rfl ?_
        refine j_get (pc := 163) (ci := 1) (v := .ref e3) C inw_1 0 rfl rfl 4 (by decide) wd_198 rfl rfl dX1_value_163 ?_
        refine j_iconst (pc := 166) (v := 0) C dX1_value_166 (by decide) ?_
        obtain ⟨v_3, ev_3⟩ : ∃ z, g1_e3 0 = z := ⟨_, rfl⟩
        have env_3 : (g1_e3 0).toInt = v_3.toInt := by rw [ev_3]
        refine j_iald (pc := 167) (v := v_3) (k := 0) C 2 1 rfl rfl (by decide) (by decide) (by decide) ev_3 dX1_value_167 ?_
        exact j_iret (pc := 168) C hr hk (fun i => [].getD i 0, fun i => [v_3].getD i 0, fun i => [g1_e3].getD i (fun _ => 0), fun i => [].getD i (fun _ => 0)) rfl (show (∀ V : (Nat → Int32) → Int32, CSeg e_steps (p2).toInt.toNat (p3).toInt.toNat 25 V → v_3 = V (fcC a_wide a_deep a_weight a_lids (p0).toInt.toNat (p1).toInt.toNat)) from ((fun V hV => by have y := (hV.2 (fcC a_wide a_deep a_weight a_lids (p0).toInt.toNat (p1).toInt.toNat) (0, e_values) (show (0 : Nat) + 25 ≤ 32 from by decide)).2.1; rw [show (p3).toInt.toNat - (p2).toInt.toNat = (x1_7.toInt - (p2).toInt).toNat from (by omega), hq_1_0] at y; exact ev_3.symm.trans y))) [0, 1, 2, 3, 4, 5, 6] (by decide) rfl (by decide) (by decide) dX1_value_168
      · skip
        rw [i_le] at c_2
        refine j_aload_n (pc := 14) C dX1_value_14 rfl 2 rfl ?_
        refine j_get (pc := 15) (ci := 1) (v := .ref e1) C inw_1 0 rfl rfl 2 (by decide) wd_192 rfl rfl dX1_value_15 ?_
        refine j_iload (pc := 18) C dX1_value_18 0 rfl ?_
        obtain ⟨v_4, ev_4⟩ : ∃ z, e_steps (x1_7).toInt.toNat = z := ⟨_, rfl⟩
        have env_4 : (e_steps (x1_7).toInt.toNat).toInt = v_4.toInt := by rw [ev_4]
        refine j_iald (pc := 20) (v := v_4) (k := (x1_7).toInt.toNat) C 1 1 rfl rfl (i_nn hi_1_0.1) rfl (i_lt_n hi_1_0.1 (by omega)) ev_4 dX1_value_20 ?_
        refine j_istore (pc := 21) (lv' := [(8, .int v_4), (7, .int x1_7), (6, .int x1_6), (0, .ref e0), (1, .ref a0), (2, .int p0), (3, .int p1), (4, .int p2), (5, .int p3)]) C dX1_value_21 (by decide) rfl ?_
        refine j_iload (pc := 23) C dX1_value_23 0 rfl ?_
        refine j_bipush (pc := 25) (v := (-8)) C dX1_value_25 (by decide) ?_
        refine j_icmp_lt (pc := 27) (tgt := 68) C dX1_value_27 (by decide) (fun c_5 => ?_) (fun c_5 => ?_)
        · skip
          have el_m8 : ((-8) : Int32).toInt = (-8) := rfl
          rw [i_lt] at c_5
          refine j_iload (pc := 68) C dX1_value_68 0 rfl ?_
          refine j_bipush (pc := 70) (v := (-9)) C dX1_value_70 (by decide) ?_
          refine j_icmp_ne (pc := 72) (tgt := 110) C dX1_value_72 (by decide) (fun c_6 => ?_) (fun c_6 => ?_)
          · skip
            have el_m9 : ((-9) : Int32).toInt = (-9) := rfl
            rw [i_eq] at c_6
            refine j_iload (pc := 110) C dX1_value_110 0 rfl ?_
            refine j_bipush (pc := 112) (v := (-9)) C dX1_value_112 (by decide) ?_
            have el_m9 : ((-9) : Int32).toInt = (-9) := rfl
            refine j_icmp_ge_f (pc := 114) (tgt := 156) C dX1_value_114 (by decide) (by rw [i_le]; omega) ?_
            refine j_iload (pc := 117) C dX1_value_117 2 rfl ?_
            refine j_iconst (pc := 119) (v := 2) C dX1_value_119 (by decide) ?_
            refine j_icmp_lt (pc := 120) (tgt := 156) C dX1_value_120 (by decide) (fun c_7 => ?_) (fun c_7 => ?_)
            · skip
              have el_2 : (2 : Int32).toInt = 2 := rfl
              rw [i_lt] at c_7
              obtain ⟨v_8, ev_8⟩ : ∃ z : Int32, x1_7 + 1 = z := ⟨_, rfl⟩
              have el_1 : (1 : Int32).toInt = 1 := rfl
              have hv_8 : v_8.toInt = x1_7.toInt + (1 : Int32).toInt := by rw [← ev_8]; exact fb_addI (by omega) (by omega)
              refine j_iinc (pc := 156) (v := v_8) (lv' := [(7, .int v_8), (8, .int v_4), (6, .int x1_6), (0, .ref e0), (1, .ref a0), (2, .int p0), (3, .int p1), (4, .int p2), (5, .int p3)]) C dX1_value_156 1 rfl ev_8 (by decide) rfl ?_
              refine j_goto (pc := 159) (tgt := 7) C dX1_value_159 (by decide) ?_
              exact j_lv [0, 2, 3, 4, 5, 6, 7, 8] rfl (ih_1 v_8 x1_6 g1_e3 (by omega) hi_1_1 (by omega) (by rw [show (v_8.toInt - (p2).toInt).toNat = (x1_7.toInt - (p2).toInt).toNat + 1 from (by omega), crun_snoc hq_1_0 (x := v_4) (by rw [show (p2).toInt.toNat + (x1_7.toInt - (p2).toInt).toNat = (x1_7).toInt.toNat from (by omega)]; exact ev_4)]; exact cst_bin0 (by omega) (by omega) (by omega)) (by omega))
            · skip
              have el_2 : (2 : Int32).toInt = 2 := rfl
              rw [i_lt] at c_7
              obtain ⟨v_9, ev_9⟩ : ∃ z : Int32, x1_6 + (-1) = z := ⟨_, rfl⟩
              have el_m1 : ((-1) : Int32).toInt = (-1) := rfl
              have hv_9 : v_9.toInt = x1_6.toInt + ((-1) : Int32).toInt := by rw [← ev_9]; exact fb_addI (by omega) (by omega)
              refine j_iinc (pc := 123) (v := v_9) (lv' := [(6, .int v_9), (8, .int v_4), (7, .int x1_7), (0, .ref e0), (1, .ref a0), (2, .int p0), (3, .int p1), (4, .int p2), (5, .int p3)]) C dX1_value_123 2 rfl ev_9 (by decide) rfl ?_
              refine j_aload_n (pc := 126) C dX1_value_126 rfl 3 rfl ?_
              refine j_get (pc := 127) (ci := 1) (v := .ref e3) C inw_1 0 rfl rfl 4 (by decide) wd_198 rfl rfl dX1_value_127 ?_
              refine j_iload (pc := 130) C dX1_value_130 0 rfl ?_
              refine j_iconst (pc := 132) (v := 1) C dX1_value_132 (by decide) ?_
              obtain ⟨v_10, ev_10⟩ : ∃ z : Int32, v_9 - 1 = z := ⟨_, rfl⟩
              have el_1 : (1 : Int32).toInt = 1 := rfl
              have hv_10 : v_10.toInt = v_9.toInt - (1 : Int32).toInt := by rw [← ev_10]; exact fb_subI (by omega) (by omega)
              refine j_isub (pc := 133) (v := v_10) C dX1_value_133 ev_10 ?_
              refine j_aload_n (pc := 134) C dX1_value_134 rfl 3 rfl ?_
              refine j_get (pc := 135) (ci := 1) (v := .ref e3) C inw_1 0 rfl rfl 4 (by decide) wd_198 rfl rfl dX1_value_135 ?_
              refine j_iload (pc := 138) C dX1_value_138 0 rfl ?_
              refine j_iconst (pc := 140) (v := 1) C dX1_value_140 (by decide) ?_
              obtain ⟨v_11, ev_11⟩ : ∃ z : Int32, v_9 - 1 = z := ⟨_, rfl⟩
              have el_1 : (1 : Int32).toInt = 1 := rfl
              have hv_11 : v_11.toInt = v_9.toInt - (1 : Int32).toInt := by rw [← ev_11]; exact fb_subI (by omega) (by omega)
              refine j_isub (pc := 141) (v := v_11) C dX1_value_141 ev_11 ?_
              obtain ⟨v_12, ev_12⟩ : ∃ z, g1_e3 (v_11).toInt.toNat = z := ⟨_, rfl⟩
              have env_12 : (g1_e3 (v_11).toInt.toNat).toInt = v_12.toInt := by rw [ev_12]
              refine j_iald (pc := 142) (v := v_12) (k := (v_11).toInt.toNat) C 2 1 rfl rfl (i_nn (by omega)) rfl (i_lt_n (by omega) (by omega)) ev_12 dX1_value_142 ?_
              refine j_aload_n (pc := 143) C dX1_value_143 rfl 3 rfl ?_
              refine j_get (pc := 144) (ci := 1) (v := .ref e3) C inw_1 0 rfl rfl 4 (by decide) wd_198 rfl rfl dX1_value_144 ?_
              refine j_iload (pc := 147) C dX1_value_147 0 rfl ?_
              obtain ⟨v_13, ev_13⟩ : ∃ z, g1_e3 (v_9).toInt.toNat = z := ⟨_, rfl⟩
              have env_13 : (g1_e3 (v_9).toInt.toNat).toInt = v_13.toInt := by rw [ev_13]
              refine j_iald (pc := 149) (v := v_13) (k := (v_9).toInt.toNat) C 2 1 rfl rfl (i_nn (by omega)) rfl (i_lt_n (by omega) (by omega)) ev_13 dX1_value_149 ?_
              refine j_iload (pc := 150) C dX1_value_150 1 rfl ?_
              refine j_callS (pc := 152) (As := [.int v_12, .int v_13, .int v_4]) (rest := [.int v_10, .ref e3]) (wr := [(e0, .inr (1, [.int e_size, .int e_nests, .ref e1, .ref e2, .ref e3])), (e1, .inl (cyI, 1000, .inl e_steps)), (e3, .inl (cyI, 32, .inl g1_e3)), (a0, .inr (9, [.int a_wares, .int a_shelves, .int a_nests, .ref a1, .ref a2, .ref a3, .ref a4, .ref a5, .ref a6, .int a_lids, .int a_tops, .ref a7, .ref a8, .ref a9, .ref a10])), (a1, .inl (cyI, 12, .inl a_wide)), (a2, .inl (cyI, 12, .inl a_deep)), (a3, .inl (cyI, 12, .inl a_weight))]) C (c_X1_join l D cyC cyI cyJ cyZ cyO v_12 v_13 v_4) wd_203 wd_200 wd_204 wd_205 ⟨by decide, by decide, rfl⟩ rfl ⟨rfl, rfl, by decide, by decide⟩ ⟨by decide, by decide⟩ [] [0, 1, 2, 3, 4, 5, 6] rfl rfl ⟨by decide, by decide, by decide⟩ rfl (Nat.le_of_ble_eq_true rfl) dX1_value_152 (fun u_14 hw_15 => ?_)
              refine j_eq (ws2 := [(e0, .inr (1, [.int e_size, .int e_nests, .ref e1, .ref e2, .ref e3])), (e1, .inl (cyI, 1000, .inl e_steps)), (e3, .inl (cyI, 32, .inl g1_e3)), (a0, .inr (9, [.int a_wares, .int a_shelves, .int a_nests, .ref a1, .ref a2, .ref a3, .ref a4, .ref a5, .ref a6, .int a_lids, .int a_tops, .ref a7, .ref a8, .ref a9, .ref a10])), (a1, .inl (cyI, 12, .inl a_wide)), (a2, .inl (cyI, 12, .inl a_deep)), (a3, .inl (cyI, 12, .inl a_weight))]) (pc2 := 155) (lv2 := [(6, .int v_9), (8, .int v_4), (7, .int x1_7), (0, .ref e0), (1, .ref a0), (2, .int p0), (3, .int p1), (4, .int p2), (5, .int p3)]) (st2 := [.int (u_14.2.1 0), .int v_10, .ref e3]) rfl rfl rfl rfl ?_
              have hw_15_0 : (u_14.2.1 0) = jn6 (v_4).toInt v_12 v_13 := hw_15
              obtain ⟨f_16, ef_16⟩ : ∃ z, z = upd g1_e3 (v_10).toInt.toNat (u_14.2.1 0) := ⟨_, rfl⟩
              refine j_iast (pc := 155) (k := (v_10).toInt.toNat) (ws' := [(e0, .inr (1, [.int e_size, .int e_nests, .ref e1, .ref e2, .ref e3])), (e1, .inl (cyI, 1000, .inl e_steps)), (e3, .inl (cyI, 32, .inl f_16)), (a0, .inr (9, [.int a_wares, .int a_shelves, .int a_nests, .ref a1, .ref a2, .ref a3, .ref a4, .ref a5, .ref a6, .int a_lids, .int a_tops, .ref a7, .ref a8, .ref a9, .ref a10])), (a1, .inl (cyI, 12, .inl a_wide)), (a2, .inl (cyI, 12, .inl a_deep)), (a3, .inl (cyI, 12, .inl a_weight))]) C 2 1 rfl rfl (i_nn (by omega)) rfl (i_lt_n (by omega) (by omega)) dX1_value_155 (by rw [ef_16]; rfl) ?_
              obtain ⟨v_17, ev_17⟩ : ∃ z : Int32, x1_7 + 1 = z := ⟨_, rfl⟩
              have el_1 : (1 : Int32).toInt = 1 := rfl
              have hv_17 : v_17.toInt = x1_7.toInt + (1 : Int32).toInt := by rw [← ev_17]; exact fb_addI (by omega) (by omega)
              refine j_iinc (pc := 156) (v := v_17) (lv' := [(7, .int v_17), (6, .int v_9), (8, .int v_4), (0, .ref e0), (1, .ref a0), (2, .int p0), (3, .int p1), (4, .int p2), (5, .int p3)]) C dX1_value_156 2 rfl ev_17 (by decide) rfl ?_
              refine j_goto (pc := 159) (tgt := 7) C dX1_value_159 (by decide) ?_
              exact j_lv [0, 1, 3, 4, 5, 6, 7, 8] rfl (ih_1 v_17 v_9 f_16 (by omega) (by omega) (by omega) (by rw [show (v_17.toInt - (p2).toInt).toNat = (x1_7.toInt - (p2).toInt).toNat + 1 from (by omega), crun_snoc hq_1_0 (x := v_4) (by rw [show (p2).toInt.toNat + (x1_7.toInt - (p2).toInt).toNat = (x1_7).toInt.toNat from (by omega)]; exact ev_4)]; exact cst_bin (m := (v_10).toInt.toNat) (k := (v_9).toInt.toNat) (by omega) (by omega) (by omega) (by omega) (by omega) (by rw [show (v_10).toInt.toNat = (v_11).toInt.toNat from (by omega), ev_12, ev_13]; exact hw_15_0) ef_16) (by omega))
          · skip
            have el_m9 : ((-9) : Int32).toInt = (-9) := rfl
            rw [i_eq] at c_6
            refine j_iload (pc := 75) C dX1_value_75 2 rfl ?_
            refine j_iconst (pc := 77) (v := 1) C dX1_value_77 (by decide) ?_
            refine j_icmp_lt (pc := 78) (tgt := 110) C dX1_value_78 (by decide) (fun c_18 => ?_) (fun c_18 => ?_)
            · skip
              have el_1 : (1 : Int32).toInt = 1 := rfl
              rw [i_lt] at c_18
              have k0c_18 : x1_6.toInt = 0 := by omega
              refine j_iload (pc := 110) C dX1_value_110 0 rfl ?_
              refine j_bipush (pc := 112) (v := (-9)) C dX1_value_112 (by decide) ?_
              have el_m9 : ((-9) : Int32).toInt = (-9) := rfl
              refine j_icmp_ge_t (pc := 114) (tgt := 156) C dX1_value_114 (by decide) (by rw [i_le]; omega) ?_
              obtain ⟨v_19, ev_19⟩ : ∃ z : Int32, x1_7 + 1 = z := ⟨_, rfl⟩
              have el_1 : (1 : Int32).toInt = 1 := rfl
              have hv_19 : v_19.toInt = x1_7.toInt + (1 : Int32).toInt := by rw [← ev_19]; exact fb_addI (by omega) (by omega)
              refine j_iinc (pc := 156) (v := v_19) (lv' := [(7, .int v_19), (8, .int v_4), (6, .int x1_6), (0, .ref e0), (1, .ref a0), (2, .int p0), (3, .int p1), (4, .int p2), (5, .int p3)]) C dX1_value_156 1 rfl ev_19 (by decide) rfl ?_
              refine j_goto (pc := 159) (tgt := 7) C dX1_value_159 (by decide) ?_
              exact j_lv [0, 2, 3, 4, 5, 6, 7, 8] rfl (ih_1 v_19 x1_6 g1_e3 (by omega) hi_1_1 (by omega) (by rw [show (v_19.toInt - (p2).toInt).toNat = (x1_7.toInt - (p2).toInt).toNat + 1 from (by omega), crun_snoc hq_1_0 (x := v_4) (by rw [show (p2).toInt.toNat + (x1_7.toInt - (p2).toInt).toNat = (x1_7).toInt.toNat from (by omega)]; exact ev_4)]; exact cst_neg0 (by omega) (by omega) (by omega)) (by omega))
            · skip
              have el_1 : (1 : Int32).toInt = 1 := rfl
              rw [i_lt] at c_18
              refine j_aload_n (pc := 81) C dX1_value_81 rfl 3 rfl ?_
              refine j_get (pc := 82) (ci := 1) (v := .ref e3) C inw_1 0 rfl rfl 4 (by decide) wd_198 rfl rfl dX1_value_82 ?_
              refine j_iload (pc := 85) C dX1_value_85 2 rfl ?_
              refine j_iconst (pc := 87) (v := 1) C dX1_value_87 (by decide) ?_
              obtain ⟨v_20, ev_20⟩ : ∃ z : Int32, x1_6 - 1 = z := ⟨_, rfl⟩
              have el_1 : (1 : Int32).toInt = 1 := rfl
              have hv_20 : v_20.toInt = x1_6.toInt - (1 : Int32).toInt := by rw [← ev_20]; exact fb_subI (by omega) (by omega)
              refine j_isub (pc := 88) (v := v_20) C dX1_value_88 ev_20 ?_
              refine j_aload_n (pc := 89) C dX1_value_89 rfl 3 rfl ?_
              refine j_get (pc := 90) (ci := 1) (v := .ref e3) C inw_1 0 rfl rfl 4 (by decide) wd_198 rfl rfl dX1_value_90 ?_
              refine j_iload (pc := 93) C dX1_value_93 2 rfl ?_
              refine j_iconst (pc := 95) (v := 1) C dX1_value_95 (by decide) ?_
              obtain ⟨v_21, ev_21⟩ : ∃ z : Int32, x1_6 - 1 = z := ⟨_, rfl⟩
              have el_1 : (1 : Int32).toInt = 1 := rfl
              have hv_21 : v_21.toInt = x1_6.toInt - (1 : Int32).toInt := by rw [← ev_21]; exact fb_subI (by omega) (by omega)
              refine j_isub (pc := 96) (v := v_21) C dX1_value_96 ev_21 ?_
              obtain ⟨v_22, ev_22⟩ : ∃ z, g1_e3 (v_21).toInt.toNat = z := ⟨_, rfl⟩
              have env_22 : (g1_e3 (v_21).toInt.toNat).toInt = v_22.toInt := by rw [ev_22]
              refine j_iald (pc := 97) (v := v_22) (k := (v_21).toInt.toNat) C 2 1 rfl rfl (i_nn (by omega)) rfl (i_lt_n (by omega) (by omega)) ev_22 dX1_value_97 ?_
              refine j_if_ne (pc := 98) (tgt := 105) C dX1_value_98 (by decide) (fun c_23 => ?_) (fun c_23 => ?_)
              · skip
                have el_0 : (0 : Int32).toInt = 0 := rfl
                rw [i_eq] at c_23
                refine j_iconst (pc := 105) (v := 0) C dX1_value_105 (by decide) ?_
                obtain ⟨f_24, ef_24⟩ : ∃ z, z = upd g1_e3 (v_20).toInt.toNat 0 := ⟨_, rfl⟩
                refine j_iast (pc := 106) (k := (v_20).toInt.toNat) (ws' := [(e0, .inr (1, [.int e_size, .int e_nests, .ref e1, .ref e2, .ref e3])), (e1, .inl (cyI, 1000, .inl e_steps)), (e3, .inl (cyI, 32, .inl f_24)), (a0, .inr (9, [.int a_wares, .int a_shelves, .int a_nests, .ref a1, .ref a2, .ref a3, .ref a4, .ref a5, .ref a6, .int a_lids, .int a_tops, .ref a7, .ref a8, .ref a9, .ref a10])), (a1, .inl (cyI, 12, .inl a_wide)), (a2, .inl (cyI, 12, .inl a_deep)), (a3, .inl (cyI, 12, .inl a_weight))]) C 2 1 rfl rfl (i_nn (by omega)) rfl (i_lt_n (by omega) (by omega)) dX1_value_106 (by rw [ef_24]; rfl) ?_
                refine j_goto (pc := 107) (tgt := 156) C dX1_value_107 (by decide) ?_
                obtain ⟨v_25, ev_25⟩ : ∃ z : Int32, x1_7 + 1 = z := ⟨_, rfl⟩
                have el_1 : (1 : Int32).toInt = 1 := rfl
                have hv_25 : v_25.toInt = x1_7.toInt + (1 : Int32).toInt := by rw [← ev_25]; exact fb_addI (by omega) (by omega)
                refine j_iinc (pc := 156) (v := v_25) (lv' := [(7, .int v_25), (8, .int v_4), (6, .int x1_6), (0, .ref e0), (1, .ref a0), (2, .int p0), (3, .int p1), (4, .int p2), (5, .int p3)]) C dX1_value_156 1 rfl ev_25 (by decide) rfl ?_
                refine j_goto (pc := 159) (tgt := 7) C dX1_value_159 (by decide) ?_
                exact j_lv [0, 2, 3, 4, 5, 6, 7, 8] rfl (ih_1 v_25 x1_6 f_24 (by omega) hi_1_1 (by omega) (by rw [show (v_25.toInt - (p2).toInt).toNat = (x1_7.toInt - (p2).toInt).toNat + 1 from (by omega), crun_snoc hq_1_0 (x := v_4) (by rw [show (p2).toInt.toNat + (x1_7.toInt - (p2).toInt).toNat = (x1_7).toInt.toNat from (by omega)]; exact ev_4)]; exact cst_neg (m := (v_20).toInt.toNat) (r := v_22) (by omega) (by omega) (by omega) (by omega) (by rw [show (v_20).toInt.toNat = (v_21).toInt.toNat from (by omega)]; exact ev_22) ((if_neg (by rw [i_eq]; omega)).symm) ef_24) (by omega))
              · skip
                have el_0 : (0 : Int32).toInt = 0 := rfl
                rw [i_eq] at c_23
                refine j_iconst (pc := 101) (v := 1) C dX1_value_101 (by decide) ?_
                refine j_goto (pc := 102) (tgt := 106) C dX1_value_102 (by decide) ?_
                obtain ⟨f_26, ef_26⟩ : ∃ z, z = upd g1_e3 (v_20).toInt.toNat 1 := ⟨_, rfl⟩
                refine j_iast (pc := 106) (k := (v_20).toInt.toNat) (ws' := [(e0, .inr (1, [.int e_size, .int e_nests, .ref e1, .ref e2, .ref e3])), (e1, .inl (cyI, 1000, .inl e_steps)), (e3, .inl (cyI, 32, .inl f_26)), (a0, .inr (9, [.int a_wares, .int a_shelves, .int a_nests, .ref a1, .ref a2, .ref a3, .ref a4, .ref a5, .ref a6, .int a_lids, .int a_tops, .ref a7, .ref a8, .ref a9, .ref a10])), (a1, .inl (cyI, 12, .inl a_wide)), (a2, .inl (cyI, 12, .inl a_deep)), (a3, .inl (cyI, 12, .inl a_weight))]) C 2 1 rfl rfl (i_nn (by omega)) rfl (i_lt_n (by omega) (by omega)) dX1_value_106 (by rw [ef_26]; rfl) ?_
                refine j_goto (pc := 107) (tgt := 156) C dX1_value_107 (by decide) ?_
                obtain ⟨v_27, ev_27⟩ : ∃ z : Int32, x1_7 + 1 = z := ⟨_, rfl⟩
                have el_1 : (1 : Int32).toInt = 1 := rfl
                have hv_27 : v_27.toInt = x1_7.toInt + (1 : Int32).toInt := by rw [← ev_27]; exact fb_addI (by omega) (by omega)
                refine j_iinc (pc := 156) (v := v_27) (lv' := [(7, .int v_27), (8, .int v_4), (6, .int x1_6), (0, .ref e0), (1, .ref a0), (2, .int p0), (3, .int p1), (4, .int p2), (5, .int p3)]) C dX1_value_156 1 rfl ev_27 (by decide) rfl ?_
                refine j_goto (pc := 159) (tgt := 7) C dX1_value_159 (by decide) ?_
                exact j_lv [0, 2, 3, 4, 5, 6, 7, 8] rfl (ih_1 v_27 x1_6 f_26 (by omega) hi_1_1 (by omega) (by rw [show (v_27.toInt - (p2).toInt).toNat = (x1_7.toInt - (p2).toInt).toNat + 1 from (by omega), crun_snoc hq_1_0 (x := v_4) (by rw [show (p2).toInt.toNat + (x1_7.toInt - (p2).toInt).toNat = (x1_7).toInt.toNat from (by omega)]; exact ev_4)]; exact cst_neg (m := (v_20).toInt.toNat) (r := v_22) (by omega) (by omega) (by omega) (by omega) (by rw [show (v_20).toInt.toNat = (v_21).toInt.toNat from (by omega)]; exact ev_22) ((if_pos ((i_eq _ _).mpr (by omega))).symm) ef_26) (by omega))
        · skip
          have el_m8 : ((-8) : Int32).toInt = (-8) := rfl
          rw [i_lt] at c_5
          refine j_iload (pc := 30) C dX1_value_30 2 rfl ?_
          refine j_bipush (pc := 32) (v := 32) C dX1_value_32 (by decide) ?_
          refine j_icmp_ge (pc := 34) (tgt := 68) C dX1_value_34 (by decide) (fun c_28 => ?_) (fun c_28 => ?_)
          · skip
            have el_32 : (32 : Int32).toInt = 32 := rfl
            rw [i_le] at c_28
            have k0c_28 : x1_6.toInt = 32 := by omega
            refine j_iload (pc := 68) C dX1_value_68 0 rfl ?_
            refine j_bipush (pc := 70) (v := (-9)) C dX1_value_70 (by decide) ?_
            have el_m9 : ((-9) : Int32).toInt = (-9) := rfl
            refine j_icmp_ne_t (pc := 72) (tgt := 110) C dX1_value_72 (by decide) (by rw [i_eq]; omega) ?_
            refine j_iload (pc := 110) C dX1_value_110 0 rfl ?_
            refine j_bipush (pc := 112) (v := (-9)) C dX1_value_112 (by decide) ?_
            have el_m9 : ((-9) : Int32).toInt = (-9) := rfl
            refine j_icmp_ge_t (pc := 114) (tgt := 156) C dX1_value_114 (by decide) (by rw [i_le]; omega) ?_
            obtain ⟨v_29, ev_29⟩ : ∃ z : Int32, x1_7 + 1 = z := ⟨_, rfl⟩
            have el_1 : (1 : Int32).toInt = 1 := rfl
            have hv_29 : v_29.toInt = x1_7.toInt + (1 : Int32).toInt := by rw [← ev_29]; exact fb_addI (by omega) (by omega)
            refine j_iinc (pc := 156) (v := v_29) (lv' := [(7, .int v_29), (8, .int v_4), (6, .int x1_6), (0, .ref e0), (1, .ref a0), (2, .int p0), (3, .int p1), (4, .int p2), (5, .int p3)]) C dX1_value_156 1 rfl ev_29 (by decide) rfl ?_
            refine j_goto (pc := 159) (tgt := 7) C dX1_value_159 (by decide) ?_
            exact j_lv [0, 2, 3, 4, 5, 6, 7, 8] rfl (ih_1 v_29 x1_6 g1_e3 (by omega) hi_1_1 (by omega) (by rw [show (v_29.toInt - (p2).toInt).toNat = (x1_7.toInt - (p2).toInt).toNat + 1 from (by omega), crun_snoc hq_1_0 (x := v_4) (by rw [show (p2).toInt.toNat + (x1_7.toInt - (p2).toInt).toNat = (x1_7).toInt.toNat from (by omega)]; exact ev_4)]; exact cst_full (by omega) (by omega) (by omega)) (by omega))
          · skip
            have el_32 : (32 : Int32).toInt = 32 := rfl
            rw [i_le] at c_28
            refine j_aload_n (pc := 37) C dX1_value_37 rfl 3 rfl ?_
            refine j_get (pc := 38) (ci := 1) (v := .ref e3) C inw_1 0 rfl rfl 4 (by decide) wd_198 rfl rfl dX1_value_38 ?_
            refine j_iload (pc := 41) C dX1_value_41 2 rfl ?_
            refine j_iload (pc := 43) C dX1_value_43 0 rfl ?_
            refine j_if_lt (pc := 45) (tgt := 53) C dX1_value_45 (by decide) (fun c_30 => ?_) (fun c_30 => ?_)
            · skip
              have el_0 : (0 : Int32).toInt = 0 := rfl
              rw [i_lt] at c_30
              refine j_aload_n (pc := 53) C dX1_value_53 rfl 4 rfl ?_
              refine j_iload_n (pc := 54) C dX1_value_54 rfl 5 rfl ?_
              refine j_iload_n (pc := 55) C dX1_value_55 rfl 6 rfl ?_
              refine j_iload (pc := 56) C dX1_value_56 0 rfl ?_
              refine j_callS (pc := 58) (As := [.ref a0, .int p0, .int p1, .int v_4]) (rest := [.int x1_6, .ref e3]) (wr := [(e0, .inr (1, [.int e_size, .int e_nests, .ref e1, .ref e2, .ref e3])), (e1, .inl (cyI, 1000, .inl e_steps)), (e3, .inl (cyI, 32, .inl g1_e3))]) C (c_X1_fact l D cyC cyI cyJ cyZ cyO a0 a1 a2 a3 a4 a5 a6 a7 a8 a9 a10 p0 p1 v_4 a_wares a_shelves a_nests a_lids a_tops a_wide a_deep a_weight h_a_wares h_a_shelves h_a_nests h_p0 h_p1 (by omega)) wd_199 wd_200 wd_201 wd_202 ⟨by decide, by decide, rfl⟩ rfl ⟨rfl, rfl, by decide, by decide⟩ ⟨by decide, by decide⟩ [3, 4, 5, 6] [0, 1, 2] rfl rfl ⟨by decide, by decide, by decide⟩ rfl (Nat.le_of_ble_eq_true rfl) dX1_value_58 (fun u_31 hw_32 => ?_)
              refine j_eq (ws2 := [(e0, .inr (1, [.int e_size, .int e_nests, .ref e1, .ref e2, .ref e3])), (e1, .inl (cyI, 1000, .inl e_steps)), (e3, .inl (cyI, 32, .inl g1_e3)), (a0, .inr (9, [.int a_wares, .int a_shelves, .int a_nests, .ref a1, .ref a2, .ref a3, .ref a4, .ref a5, .ref a6, .int a_lids, .int a_tops, .ref a7, .ref a8, .ref a9, .ref a10])), (a1, .inl (cyI, 12, .inl a_wide)), (a2, .inl (cyI, 12, .inl a_deep)), (a3, .inl (cyI, 12, .inl a_weight))]) (pc2 := 61) (lv2 := [(8, .int v_4), (7, .int x1_7), (6, .int x1_6), (0, .ref e0), (1, .ref a0), (2, .int p0), (3, .int p1), (4, .int p2), (5, .int p3)]) (st2 := [.int (u_31.2.1 0), .int x1_6, .ref e3]) rfl rfl rfl rfl ?_
              have hw_32_0 : (u_31.2.1 0) = (fcC a_wide a_deep a_weight a_lids (p0).toInt.toNat (p1).toInt.toNat) (-1 - (v_4).toInt).toNat := hw_32
              obtain ⟨f_33, ef_33⟩ : ∃ z, z = upd g1_e3 (x1_6).toInt.toNat (u_31.2.1 0) := ⟨_, rfl⟩
              refine j_iast (pc := 61) (k := (x1_6).toInt.toNat) (ws' := [(e0, .inr (1, [.int e_size, .int e_nests, .ref e1, .ref e2, .ref e3])), (e1, .inl (cyI, 1000, .inl e_steps)), (e3, .inl (cyI, 32, .inl f_33)), (a0, .inr (9, [.int a_wares, .int a_shelves, .int a_nests, .ref a1, .ref a2, .ref a3, .ref a4, .ref a5, .ref a6, .int a_lids, .int a_tops, .ref a7, .ref a8, .ref a9, .ref a10])), (a1, .inl (cyI, 12, .inl a_wide)), (a2, .inl (cyI, 12, .inl a_deep)), (a3, .inl (cyI, 12, .inl a_weight))]) C 2 1 rfl rfl (i_nn hi_1_1.1) rfl (i_lt_n hi_1_1.1 (by omega)) dX1_value_61 (by rw [ef_33]; rfl) ?_
              obtain ⟨v_34, ev_34⟩ : ∃ z : Int32, x1_6 + 1 = z := ⟨_, rfl⟩
              have el_1 : (1 : Int32).toInt = 1 := rfl
              have hv_34 : v_34.toInt = x1_6.toInt + (1 : Int32).toInt := by rw [← ev_34]; exact fb_addI (by omega) (by omega)
              refine j_iinc (pc := 62) (v := v_34) (lv' := [(6, .int v_34), (8, .int v_4), (7, .int x1_7), (0, .ref e0), (1, .ref a0), (2, .int p0), (3, .int p1), (4, .int p2), (5, .int p3)]) C dX1_value_62 2 rfl ev_34 (by decide) rfl ?_
              refine j_goto (pc := 65) (tgt := 156) C dX1_value_65 (by decide) ?_
              obtain ⟨v_35, ev_35⟩ : ∃ z : Int32, x1_7 + 1 = z := ⟨_, rfl⟩
              have el_1 : (1 : Int32).toInt = 1 := rfl
              have hv_35 : v_35.toInt = x1_7.toInt + (1 : Int32).toInt := by rw [← ev_35]; exact fb_addI (by omega) (by omega)
              refine j_iinc (pc := 156) (v := v_35) (lv' := [(7, .int v_35), (6, .int v_34), (8, .int v_4), (0, .ref e0), (1, .ref a0), (2, .int p0), (3, .int p1), (4, .int p2), (5, .int p3)]) C dX1_value_156 2 rfl ev_35 (by decide) rfl ?_
              refine j_goto (pc := 159) (tgt := 7) C dX1_value_159 (by decide) ?_
              exact j_lv [0, 1, 3, 4, 5, 6, 7, 8] rfl (ih_1 v_35 v_34 f_33 (by omega) (by omega) (by omega) (by rw [show (v_35.toInt - (p2).toInt).toNat = (x1_7.toInt - (p2).toInt).toNat + 1 from (by omega), crun_snoc hq_1_0 (x := v_4) (by rw [show (p2).toInt.toNat + (x1_7.toInt - (p2).toInt).toNat = (x1_7).toInt.toNat from (by omega)]; exact ev_4)]; exact cst_fct (by omega) (by omega) (by omega) (by omega) hw_32_0 ef_33) (by omega))
            · skip
              have el_0 : (0 : Int32).toInt = 0 := rfl
              rw [i_lt] at c_30
              refine j_iload (pc := 48) C dX1_value_48 0 rfl ?_
              refine j_goto (pc := 50) (tgt := 61) C dX1_value_50 (by decide) ?_
              obtain ⟨f_36, ef_36⟩ : ∃ z, z = upd g1_e3 (x1_6).toInt.toNat v_4 := ⟨_, rfl⟩
              refine j_iast (pc := 61) (k := (x1_6).toInt.toNat) (ws' := [(e0, .inr (1, [.int e_size, .int e_nests, .ref e1, .ref e2, .ref e3])), (e1, .inl (cyI, 1000, .inl e_steps)), (e3, .inl (cyI, 32, .inl f_36)), (a0, .inr (9, [.int a_wares, .int a_shelves, .int a_nests, .ref a1, .ref a2, .ref a3, .ref a4, .ref a5, .ref a6, .int a_lids, .int a_tops, .ref a7, .ref a8, .ref a9, .ref a10])), (a1, .inl (cyI, 12, .inl a_wide)), (a2, .inl (cyI, 12, .inl a_deep)), (a3, .inl (cyI, 12, .inl a_weight))]) C 2 1 rfl rfl (i_nn hi_1_1.1) rfl (i_lt_n hi_1_1.1 (by omega)) dX1_value_61 (by rw [ef_36]; rfl) ?_
              obtain ⟨v_37, ev_37⟩ : ∃ z : Int32, x1_6 + 1 = z := ⟨_, rfl⟩
              have el_1 : (1 : Int32).toInt = 1 := rfl
              have hv_37 : v_37.toInt = x1_6.toInt + (1 : Int32).toInt := by rw [← ev_37]; exact fb_addI (by omega) (by omega)
              refine j_iinc (pc := 62) (v := v_37) (lv' := [(6, .int v_37), (8, .int v_4), (7, .int x1_7), (0, .ref e0), (1, .ref a0), (2, .int p0), (3, .int p1), (4, .int p2), (5, .int p3)]) C dX1_value_62 2 rfl ev_37 (by decide) rfl ?_
              refine j_goto (pc := 65) (tgt := 156) C dX1_value_65 (by decide) ?_
              obtain ⟨v_38, ev_38⟩ : ∃ z : Int32, x1_7 + 1 = z := ⟨_, rfl⟩
              have el_1 : (1 : Int32).toInt = 1 := rfl
              have hv_38 : v_38.toInt = x1_7.toInt + (1 : Int32).toInt := by rw [← ev_38]; exact fb_addI (by omega) (by omega)
              refine j_iinc (pc := 156) (v := v_38) (lv' := [(7, .int v_38), (6, .int v_37), (8, .int v_4), (0, .ref e0), (1, .ref a0), (2, .int p0), (3, .int p1), (4, .int p2), (5, .int p3)]) C dX1_value_156 2 rfl ev_38 (by decide) rfl ?_
              refine j_goto (pc := 159) (tgt := 7) C dX1_value_159 (by decide) ?_
              exact j_lv [0, 1, 3, 4, 5, 6, 7, 8] rfl (ih_1 v_38 v_37 f_36 (by omega) (by omega) (by omega) (by rw [show (v_38.toInt - (p2).toInt).toNat = (x1_7.toInt - (p2).toInt).toNat + 1 from (by omega), crun_snoc hq_1_0 (x := v_4) (by rw [show (p2).toInt.toNat + (x1_7.toInt - (p2).toInt).toNat = (x1_7).toInt.toNat from (by omega)]; exact ev_4)]; exact cst_num (by omega) (by omega) (by omega) ef_36) (by omega))
  have el_0 : (0 : Int32).toInt = 0 := rfl
  exact j_lv [0, 1, 2, 3, 4, 5, 6, 7] rfl (loop_1 4096 p2 0 e_values h_p2 (by decide) (by omega) (by rw [show (p2.toInt - (p2).toInt).toNat = 0 from (by omega)]; rfl) (by omega))
set_option maxHeartbeats 4000000 in
set_option maxRecDepth 100000 in
theorem c_X1_allow (l : Launch) (D : DG) (cyC cyI cyJ cyZ cyO : ClassId) (e0 : Nat) (e1 : Nat) (e2 : Nat) (e3 : Nat) (a0 : Nat) (a1 : Nat) (a2 : Nat) (a3 : Nat) (a4 : Nat) (a5 : Nat) (a6 : Nat) (a7 : Nat) (a8 : Nat) (a9 : Nat) (a10 : Nat) (p0 : Int32) (p1 : Int32) (e_size : Int32) (e_nests : Int32) (a_wares : Int32) (a_shelves : Int32) (a_nests : Int32) (a_lids : Int32) (a_tops : Int32) (e_steps : Nat → Int32) (e_end : Nat → Int32) (e_values : Nat → Int32) (a_wide : Nat → Int32) (a_deep : Nat → Int32) (a_weight : Nat → Int32) (E : (Nat → (Nat → Int32) → Int32)) (h_e_size : 0 ≤ (e_size).toInt ∧ (e_size).toInt ≤ 1000) (h_e_nests : 0 ≤ (e_nests).toInt ∧ (e_nests).toInt ≤ 4) (h_a_wares : 0 ≤ (a_wares).toInt ∧ (a_wares).toInt ≤ 12) (h_a_shelves : 0 ≤ (a_shelves).toInt ∧ (a_shelves).toInt ≤ 4) (h_a_nests : 0 ≤ (a_nests).toInt ∧ (a_nests).toInt ≤ 4) (h_p0 : 0 ≤ (p0).toInt ∧ (p0).toInt ≤ 11) (h_p1 : 0 ≤ (p1).toInt ∧ (p1).toInt ≤ 11) (h_e_end : Iv 4 (0) (1000) e_end) (hCE : CE0 e_steps e_end (e_nests).toInt E) : KK l D (TY cyC cyI cyJ cyZ cyO) yX1_allow cX1_allow 6 (some .boolean) ({ frames := 2, cells := 0, slots := 0, locals := 51 } : Room) 0 0 [.ref e0, .ref a0, .int p0, .int p1] [(e0, .inr (1, [.int e_size, .int e_nests, .ref e1, .ref e2, .ref e3])), (e1, .inl (cyI, 1000, .inl e_steps)), (e2, .inl (cyI, 4, .inl e_end)), (e3, .inl (cyI, 32, .inl e_values)), (a0, .inr (9, [.int a_wares, .int a_shelves, .int a_nests, .ref a1, .ref a2, .ref a3, .ref a4, .ref a5, .ref a6, .int a_lids, .int a_tops, .ref a7, .ref a8, .ref a9, .ref a10])), (a1, .inl (cyI, 12, .inl a_wide)), (a2, .inl (cyI, 12, .inl a_deep)), (a3, .inl (cyI, 12, .inl a_weight))] (fun u => some (.int (u.2.1 0))) (fun u => (0 ≤ (u.2.1 0).toInt ∧ (u.2.1 0).toInt ≤ 1) ∧ ((u.2.1 0).toInt = if mayP (e_nests).toInt.toNat E (fcC a_wide a_deep a_weight a_lids (p0).toInt.toNat (p1).toInt.toNat) (decide ((a_wide (p0).toInt.toNat).toInt < (a_wide (p1).toInt.toNat).toInt)) (BT a_tops (p1).toInt.toNat) = true then 1 else 0)) (fun u => [(e0, .inr (1, [.int e_size, .int e_nests, .ref e1, .ref e2, .ref e3])), (e1, .inl (cyI, 1000, .inl e_steps)), (e2, .inl (cyI, 4, .inl e_end)), (e3, .inl (cyI, 32, .inl (u.2.2.1 0))), (a0, .inr (9, [.int a_wares, .int a_shelves, .int a_nests, .ref a1, .ref a2, .ref a3, .ref a4, .ref a5, .ref a6, .int a_lids, .int a_tops, .ref a7, .ref a8, .ref a9, .ref a10])), (a1, .inl (cyI, 12, .inl a_wide)), (a2, .inl (cyI, 12, .inl a_deep)), (a3, .inl (cyI, 12, .inl a_weight))]) := by
  refine KK.of (lv0 := [(0, .ref e0), (1, .ref a0), (2, .int p0), (3, .int p1)]) (by decide) rfl (Nat.le_of_ble_eq_true rfl) ?_
  intro p e s m args below meth c A C hr hk hin
  refine j_aload_n (pc := 0) C dX1_allow_0 rfl 1 rfl ?_
  refine j_get (pc := 1) (ci := 9) (v := .int a_tops) C inw_9 4 rfl rfl 10 (by decide) wd_206 rfl rfl dX1_allow_1 ?_
  refine j_iload_n (pc := 4) C dX1_allow_4 rfl 3 rfl ?_
  obtain ⟨v_1, ev_1⟩ : ∃ z : Int32, ((a_tops : Int32).toUInt32 >>> ((p1 : Int32).toUInt32 &&& Int32.toUInt32 31)).toInt32 = z := ⟨_, rfl⟩
  refine j_iushr (pc := 5) (v := v_1) C dX1_allow_5 ev_1 ?_
  refine j_iconst (pc := 6) (v := 1) C dX1_allow_6 (by decide) ?_
  obtain ⟨v_2, ev_2⟩ : ∃ z : Int32, v_1 &&& 1 = z := ⟨_, rfl⟩
  have el_1 : (1 : Int32).toInt = 1 := rfl
  have hv_2 : 0 ≤ v_2.toInt ∧ v_2.toInt ≤ 1 := by rw [← ev_2]; exact and1_r _
  refine j_iand (pc := 7) (v := v_2) C dX1_allow_7 ev_2 ?_
  have hb9 : v_2.toInt = if BT a_tops (p1).toInt.toNat = true then 1 else 0 := by rw [← ev_2, ← ev_1]; exact bt_rd (by omega) (by omega)
  refine j_iconst (pc := 8) (v := 1) C dX1_allow_8 (by decide) ?_
  refine j_icmp_ne (pc := 9) (tgt := 14) C dX1_allow_9 (by decide) (fun c_3 => ?_) (fun c_3 => ?_)
  · skip
    have el_1 : (1 : Int32).toInt = 1 := rfl
    rw [i_eq] at c_3
    have k0c_3 : v_2.toInt = 0 := by omega
    refine j_aload_n (pc := 14) C dX1_allow_14 rfl 0 rfl ?_
    refine j_get (pc := 15) (ci := 1) (v := .int e_nests) C inw_1 0 rfl rfl 1 (by decide) wd_191 rfl rfl dX1_allow_15 ?_
    refine j_if_ne (pc := 18) (tgt := 42) C dX1_allow_18 (by decide) (fun c_4 => ?_) (fun c_4 => ?_)
    · skip
      have el_0 : (0 : Int32).toInt = 0 := rfl
      rw [i_eq] at c_4
      refine j_iconst (pc := 42) (v := 0) C dX1_allow_42 (by decide) ?_
      refine j_istore (pc := 43) (lv' := [(4, .int 0), (0, .ref e0), (1, .ref a0), (2, .int p0), (3, .int p1)]) C dX1_allow_43 (by decide) rfl ?_
      have loop_5 : ∀ (k_5 : Nat) (x5_4 : Int32) (g5_e3 : Nat → Int32), (0 ≤ (x5_4).toInt ∧ (x5_4).toInt ≤ 4) → (∀ i : Nat, (i : Int) < x5_4.toInt → ¬ E i (fcC a_wide a_deep a_weight a_lids (p0).toInt.toNat (p1).toInt.toNat) = 0) → (4 - x5_4.toInt).toNat < k_5 → J p l e ({ frames := 2, cells := 0, slots := 0, locals := 51 } : Room) s m args below meth c D A 6 0 0 (QX below D (TY cyC cyI cyJ cyZ cyO) A (fun u => some (.int (u.2.1 0))) (fun u => (0 ≤ (u.2.1 0).toInt ∧ (u.2.1 0).toInt ≤ 1) ∧ ((u.2.1 0).toInt = if mayP (e_nests).toInt.toNat E (fcC a_wide a_deep a_weight a_lids (p0).toInt.toNat (p1).toInt.toNat) (decide ((a_wide (p0).toInt.toNat).toInt < (a_wide (p1).toInt.toNat).toInt)) (BT a_tops (p1).toInt.toNat) = true then 1 else 0)) (fun u => [(e0, .inr (1, [.int e_size, .int e_nests, .ref e1, .ref e2, .ref e3])), (e1, .inl (cyI, 1000, .inl e_steps)), (e2, .inl (cyI, 4, .inl e_end)), (e3, .inl (cyI, 32, .inl (u.2.2.1 0))), (a0, .inr (9, [.int a_wares, .int a_shelves, .int a_nests, .ref a1, .ref a2, .ref a3, .ref a4, .ref a5, .ref a6, .int a_lids, .int a_tops, .ref a7, .ref a8, .ref a9, .ref a10])), (a1, .inl (cyI, 12, .inl a_wide)), (a2, .inl (cyI, 12, .inl a_deep)), (a3, .inl (cyI, 12, .inl a_weight))]) args s 0 0) [(e0, .inr (1, [.int e_size, .int e_nests, .ref e1, .ref e2, .ref e3])), (e1, .inl (cyI, 1000, .inl e_steps)), (e2, .inl (cyI, 4, .inl e_end)), (e3, .inl (cyI, 32, .inl g5_e3)), (a0, .inr (9, [.int a_wares, .int a_shelves, .int a_nests, .ref a1, .ref a2, .ref a3, .ref a4, .ref a5, .ref a6, .int a_lids, .int a_tops, .ref a7, .ref a8, .ref a9, .ref a10])), (a1, .inl (cyI, 12, .inl a_wide)), (a2, .inl (cyI, 12, .inl a_deep)), (a3, .inl (cyI, 12, .inl a_weight))] 45 [(4, .int x5_4), (0, .ref e0), (1, .ref a0), (2, .int p0), (3, .int p1)] [] := by
        intro k_5
        induction k_5 with
        | zero =>
          intro x5_4 g5_e3 hi_5_0 hq_5_0 hm_5
          exact absurd hm_5 (Nat.not_lt_zero _)
        | succ k_5 ih_5 =>
          intro x5_4 g5_e3 hi_5_0 hq_5_0 hm_5
          refine j_iload (pc := 45) C dX1_allow_45 0 rfl ?_
          refine j_aload_n (pc := 47) C dX1_allow_47 rfl 1 rfl ?_
          refine j_get (pc := 48) (ci := 1) (v := .int e_nests) C inw_1 0 rfl rfl 1 (by decide) wd_191 rfl rfl dX1_allow_48 ?_
          refine j_icmp_ge (pc := 51) (tgt := 101) C dX1_allow_51 (by decide) (fun c_6 => ?_) (fun c_6 => ?_)
          · skip
            rw [i_le] at c_6
            refine j_iconst (pc := 101) (v := 1) C dX1_allow_101 (by decide) ?_
            have el_1 : (1 : Int32).toInt = 1 := rfl
            have el_1 : (1 : Int32).toInt = 1 := rfl
            have el_0 : (0 : Int32).toInt = 0 := rfl
            exact j_zret (pc := 102) C hr rfl hk (fun i => [].getD i 0, fun i => [1].getD i 0, fun i => [g5_e3].getD i (fun _ => 0), fun i => [].getD i (fun _ => 0)) rfl (show (0 ≤ ((1 : Int32)).toInt ∧ ((1 : Int32)).toInt ≤ 1) ∧ ((1 : Int32).toInt = if mayP (e_nests).toInt.toNat E (fcC a_wide a_deep a_weight a_lids (p0).toInt.toNat (p1).toInt.toNat) (decide ((a_wide (p0).toInt.toNat).toInt < (a_wide (p1).toInt.toNat).toInt)) (BT a_tops (p1).toInt.toNat) = true then 1 else 0) from ⟨by omega, (by rw [if_pos (mayP_iff.mpr ⟨(by by_cases q : BT a_tops (p1).toInt.toNat = true; (rw [if_pos q] at hb9; exfalso; omega); (exact Bool.eq_false_iff.mpr q)), (fun h => absurd h (by omega)), (fun i hi => hq_5_0 i (by omega))⟩)]; rfl)⟩) [0, 1, 2, 3, 4, 5, 6, 7] (by decide) rfl (by decide) (by decide) dX1_allow_102
          · skip
            rw [i_le] at c_6
            refine j_iload (pc := 54) C dX1_allow_54 0 rfl ?_
            refine j_if_ne (pc := 56) (tgt := 63) C dX1_allow_56 (by decide) (fun c_7 => ?_) (fun c_7 => ?_)
            · skip
              have el_0 : (0 : Int32).toInt = 0 := rfl
              rw [i_eq] at c_7
              refine j_aload_n (pc := 63) C dX1_allow_63 rfl 1 rfl ?_
              refine j_get (pc := 64) (ci := 1) (v := .ref e2) C inw_1 0 rfl rfl 3 (by decide) wd_193 rfl rfl dX1_allow_64 ?_
              refine j_iload (pc := 67) C dX1_allow_67 0 rfl ?_
              refine j_iconst (pc := 69) (v := 1) C dX1_allow_69 (by decide) ?_
              obtain ⟨v_8, ev_8⟩ : ∃ z : Int32, x5_4 - 1 = z := ⟨_, rfl⟩
              have el_1 : (1 : Int32).toInt = 1 := rfl
              have hv_8 : v_8.toInt = x5_4.toInt - (1 : Int32).toInt := by rw [← ev_8]; exact fb_subI (by omega) (by omega)
              refine j_isub (pc := 70) (v := v_8) C dX1_allow_70 ev_8 ?_
              obtain ⟨v_9, ev_9⟩ : ∃ z, e_end (v_8).toInt.toNat = z := ⟨_, rfl⟩
              have env_9 : (e_end (v_8).toInt.toNat).toInt = v_9.toInt := by rw [ev_9]
              have hv_9 := h_e_end (v_8).toInt.toNat (i_lt_n (by omega) (by omega)); rw [ev_9] at hv_9
              refine j_iald (pc := 71) (v := v_9) (k := (v_8).toInt.toNat) C 2 1 rfl rfl (i_nn (by omega)) rfl (i_lt_n (by omega) (by omega)) ev_9 dX1_allow_71 ?_
              refine j_istore (pc := 72) (lv' := [(5, .int v_9), (4, .int x5_4), (0, .ref e0), (1, .ref a0), (2, .int p0), (3, .int p1)]) C dX1_allow_72 (by decide) rfl ?_
              refine j_aload_n (pc := 74) C dX1_allow_74 rfl 2 rfl ?_
              refine j_aload_n (pc := 75) C dX1_allow_75 rfl 3 rfl ?_
              refine j_iload_n (pc := 76) C dX1_allow_76 rfl 4 rfl ?_
              refine j_iload_n (pc := 77) C dX1_allow_77 rfl 5 rfl ?_
              refine j_iload (pc := 78) C dX1_allow_78 0 rfl ?_
              refine j_aload_n (pc := 80) C dX1_allow_80 rfl 2 rfl ?_
              refine j_get (pc := 81) (ci := 1) (v := .ref e2) C inw_1 0 rfl rfl 3 (by decide) wd_193 rfl rfl dX1_allow_81 ?_
              refine j_iload (pc := 84) C dX1_allow_84 1 rfl ?_
              obtain ⟨v_10, ev_10⟩ : ∃ z, e_end (x5_4).toInt.toNat = z := ⟨_, rfl⟩
              have env_10 : (e_end (x5_4).toInt.toNat).toInt = v_10.toInt := by rw [ev_10]
              have hv_10 := h_e_end (x5_4).toInt.toNat (i_lt_n hi_5_0.1 (by omega)); rw [ev_10] at hv_10
              refine j_iald (pc := 86) (v := v_10) (k := (x5_4).toInt.toNat) C 2 1 rfl rfl (i_nn hi_5_0.1) rfl (i_lt_n hi_5_0.1 (by omega)) ev_10 dX1_allow_86 ?_
              have hs9 : sC e_end (x5_4).toInt.toNat = (v_9).toInt.toNat := by unfold sC; rw [if_neg (by omega), show (x5_4).toInt.toNat - 1 = (v_8).toInt.toNat from (by omega), ev_9]
              have hv9 : CSeg e_steps (v_9).toInt.toNat (v_10).toInt.toNat 25 (E (x5_4).toInt.toNat) := by rw [← hs9, ← ev_10]; exact hCE (x5_4).toInt.toNat (by omega)
              have hl9 := hv9.1
              refine j_callV (pc := 87) (As := [.ref a0, .int p0, .int p1, .int v_9, .int v_10]) (rest := []) (wr := [(e2, .inl (cyI, 4, .inl e_end))]) C (c_X1_value l D cyC cyI cyJ cyZ cyO e0 e1 e3 a0 a1 a2 a3 e2 a4 a5 a6 a7 a8 a9 a10 p0 p1 v_9 v_10 e_size e_nests a_wares a_shelves a_nests a_lids a_tops e_steps g5_e3 a_wide a_deep a_weight h_e_size h_e_nests h_a_wares h_a_shelves h_a_nests h_p0 h_p1 hv_9 hv_10 (by omega)) wd_207 wd_200 wd_208 wd_209 wd_210 ⟨by decide, by decide, rfl⟩ rfl ⟨rfl, rfl, by decide, by decide⟩ ⟨by decide, by decide⟩ [0, 1, 3, 4, 5, 6, 7] [2] rfl rfl ⟨by decide, by decide, by decide⟩ 0 rfl rfl rfl (Nat.le_of_ble_eq_true rfl) dX1_allow_87 (fun u_11 hw_12 => ?_)
              refine j_eq (ws2 := [(e2, .inl (cyI, 4, .inl e_end)), (e0, .inr (1, [.int e_size, .int e_nests, .ref e1, .ref e2, .ref e3])), (e1, .inl (cyI, 1000, .inl e_steps)), (e3, .inl (cyI, 32, .inl (u_11.2.2.1 0))), (a0, .inr (9, [.int a_wares, .int a_shelves, .int a_nests, .ref a1, .ref a2, .ref a3, .ref a4, .ref a5, .ref a6, .int a_lids, .int a_tops, .ref a7, .ref a8, .ref a9, .ref a10])), (a1, .inl (cyI, 12, .inl a_wide)), (a2, .inl (cyI, 12, .inl a_deep)), (a3, .inl (cyI, 12, .inl a_weight))]) (pc2 := 90) (lv2 := [(5, .int v_9), (4, .int x5_4), (0, .ref e0), (1, .ref a0), (2, .int p0), (3, .int p1)]) (st2 := [.int (u_11.2.1 0)]) rfl rfl rfl rfl ?_
              have hw_12_0 : ∀ V : (Nat → Int32) → Int32, CSeg e_steps (v_9).toInt.toNat (v_10).toInt.toNat 25 V → (u_11.2.1 0) = V (fcC a_wide a_deep a_weight a_lids (p0).toInt.toNat (p1).toInt.toNat) := hw_12
              refine j_if_ne (pc := 90) (tgt := 95) C dX1_allow_90 (by decide) (fun c_13 => ?_) (fun c_13 => ?_)
              · skip
                have el_0 : (0 : Int32).toInt = 0 := rfl
                rw [i_eq] at c_13
                obtain ⟨v_14, ev_14⟩ : ∃ z : Int32, x5_4 + 1 = z := ⟨_, rfl⟩
                have el_1 : (1 : Int32).toInt = 1 := rfl
                have hv_14 : v_14.toInt = x5_4.toInt + (1 : Int32).toInt := by rw [← ev_14]; exact fb_addI (by omega) (by omega)
                refine j_iinc (pc := 95) (v := v_14) (lv' := [(4, .int v_14), (5, .int v_9), (0, .ref e0), (1, .ref a0), (2, .int p0), (3, .int p1)]) C dX1_allow_95 1 rfl ev_14 (by decide) rfl ?_
                refine j_goto (pc := 98) (tgt := 45) C dX1_allow_98 (by decide) ?_
                refine j_subG (ws' := [(e0, .inr (1, [.int e_size, .int e_nests, .ref e1, .ref e2, .ref e3])), (e1, .inl (cyI, 1000, .inl e_steps)), (e2, .inl (cyI, 4, .inl e_end)), (e3, .inl (cyI, 32, .inl (u_11.2.2.1 0))), (a0, .inr (9, [.int a_wares, .int a_shelves, .int a_nests, .ref a1, .ref a2, .ref a3, .ref a4, .ref a5, .ref a6, .int a_lids, .int a_tops, .ref a7, .ref a8, .ref a9, .ref a10])), (a1, .inl (cyI, 12, .inl a_wide)), (a2, .inl (cyI, 12, .inl a_deep)), (a3, .inl (cyI, 12, .inl a_weight))]) [1, 2, 0, 3, 4, 5, 6, 7] (by decide) rfl ?_
                exact j_lv [0, 2, 3, 4, 5] rfl (ih_5 v_14 (u_11.2.2.1 0) (by omega) (fun i hi => by rcases Int.lt_or_le (i : Int) (x5_4).toInt with q | q; (exact hq_5_0 i q); (rw [show i = (x5_4).toInt.toNat from (by omega), ← hw_12_0 _ hv9, i_eq]; omega)) (by omega))
              · skip
                have el_0 : (0 : Int32).toInt = 0 := rfl
                rw [i_eq] at c_13
                refine j_iconst (pc := 93) (v := 0) C dX1_allow_93 (by decide) ?_
                have el_0 : (0 : Int32).toInt = 0 := rfl
                have el_0 : (0 : Int32).toInt = 0 := rfl
                have el_0 : (0 : Int32).toInt = 0 := rfl
                exact j_zret (pc := 94) C hr rfl hk (fun i => [].getD i 0, fun i => [0].getD i 0, fun i => [(u_11.2.2.1 0)].getD i (fun _ => 0), fun i => [].getD i (fun _ => 0)) rfl (show (0 ≤ ((0 : Int32)).toInt ∧ ((0 : Int32)).toInt ≤ 1) ∧ ((0 : Int32).toInt = if mayP (e_nests).toInt.toNat E (fcC a_wide a_deep a_weight a_lids (p0).toInt.toNat (p1).toInt.toNat) (decide ((a_wide (p0).toInt.toNat).toInt < (a_wide (p1).toInt.toNat).toInt)) (BT a_tops (p1).toInt.toNat) = true then 1 else 0) from ⟨by omega, (by rw [if_neg (fun z => (mayP_iff.mp z).2.2 (x5_4).toInt.toNat (by omega) (by rw [← hw_12_0 _ hv9, i_eq]; omega))]; rfl)⟩) [1, 2, 0, 3, 4, 5, 6, 7] (by decide) rfl (by decide) (by decide) dX1_allow_94
            · skip
              have el_0 : (0 : Int32).toInt = 0 := rfl
              rw [i_eq] at c_7
              refine j_iconst (pc := 59) (v := 0) C dX1_allow_59 (by decide) ?_
              refine j_goto (pc := 60) (tgt := 72) C dX1_allow_60 (by decide) ?_
              refine j_istore (pc := 72) (lv' := [(5, .int 0), (4, .int x5_4), (0, .ref e0), (1, .ref a0), (2, .int p0), (3, .int p1)]) C dX1_allow_72 (by decide) rfl ?_
              refine j_aload_n (pc := 74) C dX1_allow_74 rfl 2 rfl ?_
              refine j_aload_n (pc := 75) C dX1_allow_75 rfl 3 rfl ?_
              refine j_iload_n (pc := 76) C dX1_allow_76 rfl 4 rfl ?_
              refine j_iload_n (pc := 77) C dX1_allow_77 rfl 5 rfl ?_
              refine j_iload (pc := 78) C dX1_allow_78 0 rfl ?_
              refine j_aload_n (pc := 80) C dX1_allow_80 rfl 2 rfl ?_
              refine j_get (pc := 81) (ci := 1) (v := .ref e2) C inw_1 0 rfl rfl 3 (by decide) wd_193 rfl rfl dX1_allow_81 ?_
              refine j_iload (pc := 84) C dX1_allow_84 1 rfl ?_
              obtain ⟨v_15, ev_15⟩ : ∃ z, e_end (x5_4).toInt.toNat = z := ⟨_, rfl⟩
              have env_15 : (e_end (x5_4).toInt.toNat).toInt = v_15.toInt := by rw [ev_15]
              have hv_15 := h_e_end (x5_4).toInt.toNat (i_lt_n hi_5_0.1 (by omega)); rw [ev_15] at hv_15
              refine j_iald (pc := 86) (v := v_15) (k := (x5_4).toInt.toNat) C 2 1 rfl rfl (i_nn hi_5_0.1) rfl (i_lt_n hi_5_0.1 (by omega)) ev_15 dX1_allow_86 ?_
              have el_0 : (0 : Int32).toInt = 0 := rfl
              have hs9 : sC e_end (x5_4).toInt.toNat = (0 : Int32).toInt.toNat := by rw [show (x5_4).toInt.toNat = 0 from (by omega)]; rfl
              have hv9 : CSeg e_steps ((0 : Int32)).toInt.toNat (v_15).toInt.toNat 25 (E (x5_4).toInt.toNat) := by rw [← hs9, ← ev_15]; exact hCE (x5_4).toInt.toNat (by omega)
              have hl9 := hv9.1
              refine j_callV (pc := 87) (As := [.ref a0, .int p0, .int p1, .int 0, .int v_15]) (rest := []) (wr := [(e2, .inl (cyI, 4, .inl e_end))]) C (c_X1_value l D cyC cyI cyJ cyZ cyO e0 e1 e3 a0 a1 a2 a3 e2 a4 a5 a6 a7 a8 a9 a10 p0 p1 0 v_15 e_size e_nests a_wares a_shelves a_nests a_lids a_tops e_steps g5_e3 a_wide a_deep a_weight h_e_size h_e_nests h_a_wares h_a_shelves h_a_nests h_p0 h_p1 (by decide) hv_15 (by omega)) wd_207 wd_200 wd_208 wd_209 wd_210 ⟨by decide, by decide, rfl⟩ rfl ⟨rfl, rfl, by decide, by decide⟩ ⟨by decide, by decide⟩ [0, 1, 3, 4, 5, 6, 7] [2] rfl rfl ⟨by decide, by decide, by decide⟩ 0 rfl rfl rfl (Nat.le_of_ble_eq_true rfl) dX1_allow_87 (fun u_16 hw_17 => ?_)
              refine j_eq (ws2 := [(e2, .inl (cyI, 4, .inl e_end)), (e0, .inr (1, [.int e_size, .int e_nests, .ref e1, .ref e2, .ref e3])), (e1, .inl (cyI, 1000, .inl e_steps)), (e3, .inl (cyI, 32, .inl (u_16.2.2.1 0))), (a0, .inr (9, [.int a_wares, .int a_shelves, .int a_nests, .ref a1, .ref a2, .ref a3, .ref a4, .ref a5, .ref a6, .int a_lids, .int a_tops, .ref a7, .ref a8, .ref a9, .ref a10])), (a1, .inl (cyI, 12, .inl a_wide)), (a2, .inl (cyI, 12, .inl a_deep)), (a3, .inl (cyI, 12, .inl a_weight))]) (pc2 := 90) (lv2 := [(5, .int 0), (4, .int x5_4), (0, .ref e0), (1, .ref a0), (2, .int p0), (3, .int p1)]) (st2 := [.int (u_16.2.1 0)]) rfl rfl rfl rfl ?_
              have hw_17_0 : ∀ V : (Nat → Int32) → Int32, CSeg e_steps ((0 : Int32)).toInt.toNat (v_15).toInt.toNat 25 V → (u_16.2.1 0) = V (fcC a_wide a_deep a_weight a_lids (p0).toInt.toNat (p1).toInt.toNat) := hw_17
              refine j_if_ne (pc := 90) (tgt := 95) C dX1_allow_90 (by decide) (fun c_18 => ?_) (fun c_18 => ?_)
              · skip
                have el_0 : (0 : Int32).toInt = 0 := rfl
                rw [i_eq] at c_18
                obtain ⟨v_19, ev_19⟩ : ∃ z : Int32, x5_4 + 1 = z := ⟨_, rfl⟩
                have el_1 : (1 : Int32).toInt = 1 := rfl
                have hv_19 : v_19.toInt = x5_4.toInt + (1 : Int32).toInt := by rw [← ev_19]; exact fb_addI (by omega) (by omega)
                refine j_iinc (pc := 95) (v := v_19) (lv' := [(4, .int v_19), (5, .int 0), (0, .ref e0), (1, .ref a0), (2, .int p0), (3, .int p1)]) C dX1_allow_95 1 rfl ev_19 (by decide) rfl ?_
                refine j_goto (pc := 98) (tgt := 45) C dX1_allow_98 (by decide) ?_
                refine j_subG (ws' := [(e0, .inr (1, [.int e_size, .int e_nests, .ref e1, .ref e2, .ref e3])), (e1, .inl (cyI, 1000, .inl e_steps)), (e2, .inl (cyI, 4, .inl e_end)), (e3, .inl (cyI, 32, .inl (u_16.2.2.1 0))), (a0, .inr (9, [.int a_wares, .int a_shelves, .int a_nests, .ref a1, .ref a2, .ref a3, .ref a4, .ref a5, .ref a6, .int a_lids, .int a_tops, .ref a7, .ref a8, .ref a9, .ref a10])), (a1, .inl (cyI, 12, .inl a_wide)), (a2, .inl (cyI, 12, .inl a_deep)), (a3, .inl (cyI, 12, .inl a_weight))]) [1, 2, 0, 3, 4, 5, 6, 7] (by decide) rfl ?_
                exact j_lv [0, 2, 3, 4, 5] rfl (ih_5 v_19 (u_16.2.2.1 0) (by omega) (fun i hi => by rcases Int.lt_or_le (i : Int) (x5_4).toInt with q | q; (exact hq_5_0 i q); (rw [show i = (x5_4).toInt.toNat from (by omega), ← hw_17_0 _ hv9, i_eq]; omega)) (by omega))
              · skip
                have el_0 : (0 : Int32).toInt = 0 := rfl
                rw [i_eq] at c_18
                refine j_iconst (pc := 93) (v := 0) C dX1_allow_93 (by decide) ?_
                have el_0 : (0 : Int32).toInt = 0 := rfl
                have el_0 : (0 : Int32).toInt = 0 := rfl
                have el_0 : (0 : Int32).toInt = 0 := rfl
                exact j_zret (pc := 94) C hr rfl hk (fun i => [].getD i 0, fun i => [0].getD i 0, fun i => [(u_16.2.2.1 0)].getD i (fun _ => 0), fun i => [].getD i (fun _ => 0)) rfl (show (0 ≤ ((0 : Int32)).toInt ∧ ((0 : Int32)).toInt ≤ 1) ∧ ((0 : Int32).toInt = if mayP (e_nests).toInt.toNat E (fcC a_wide a_deep a_weight a_lids (p0).toInt.toNat (p1).toInt.toNat) (decide ((a_wide (p0).toInt.toNat).toInt < (a_wide (p1).toInt.toNat).toInt)) (BT a_tops (p1).toInt.toNat) = true then 1 else 0) from ⟨by omega, (by rw [if_neg (fun z => (mayP_iff.mp z).2.2 (x5_4).toInt.toNat (by omega) (by rw [← hw_17_0 _ hv9, i_eq]; omega))]; rfl)⟩) [1, 2, 0, 3, 4, 5, 6, 7] (by decide) rfl (by decide) (by decide) dX1_allow_94
      have el_0 : (0 : Int32).toInt = 0 := rfl
      exact j_lv [0, 1, 2, 3, 4] rfl (loop_5 4096 0 e_values (by decide) (fun i hi => absurd hi (by omega)) (by omega))
    · skip
      have el_0 : (0 : Int32).toInt = 0 := rfl
      rw [i_eq] at c_4
      refine j_aload_n (pc := 21) C dX1_allow_21 rfl 1 rfl ?_
      refine j_get (pc := 22) (ci := 9) (v := .ref a1) C inw_9 4 rfl rfl 3 (by decide) wd_197 rfl rfl dX1_allow_22 ?_
      refine j_iload_n (pc := 25) C dX1_allow_25 rfl 2 rfl ?_
      obtain ⟨v_20, ev_20⟩ : ∃ z, a_wide (p0).toInt.toNat = z := ⟨_, rfl⟩
      have env_20 : (a_wide (p0).toInt.toNat).toInt = v_20.toInt := by rw [ev_20]
      refine j_iald (pc := 26) (v := v_20) (k := (p0).toInt.toNat) C 5 1 rfl rfl (i_nn h_p0.1) rfl (i_lt_n h_p0.1 (Int.lt_of_le_of_lt h_p0.2 (by decide))) ev_20 dX1_allow_26 ?_
      refine j_aload_n (pc := 27) C dX1_allow_27 rfl 1 rfl ?_
      refine j_get (pc := 28) (ci := 9) (v := .ref a1) C inw_9 4 rfl rfl 3 (by decide) wd_197 rfl rfl dX1_allow_28 ?_
      refine j_iload_n (pc := 31) C dX1_allow_31 rfl 3 rfl ?_
      obtain ⟨v_21, ev_21⟩ : ∃ z, a_wide (p1).toInt.toNat = z := ⟨_, rfl⟩
      have env_21 : (a_wide (p1).toInt.toNat).toInt = v_21.toInt := by rw [ev_21]
      refine j_iald (pc := 32) (v := v_21) (k := (p1).toInt.toNat) C 5 1 rfl rfl (i_nn h_p1.1) rfl (i_lt_n h_p1.1 (Int.lt_of_le_of_lt h_p1.2 (by decide))) ev_21 dX1_allow_32 ?_
      refine j_icmp_ge (pc := 33) (tgt := 40) C dX1_allow_33 (by decide) (fun c_22 => ?_) (fun c_22 => ?_)
      · skip
        rw [i_le] at c_22
        refine j_iconst (pc := 40) (v := 0) C dX1_allow_40 (by decide) ?_
        have el_0 : (0 : Int32).toInt = 0 := rfl
        have el_0 : (0 : Int32).toInt = 0 := rfl
        have el_0 : (0 : Int32).toInt = 0 := rfl
        exact j_zret (pc := 41) C hr rfl hk (fun i => [].getD i 0, fun i => [0].getD i 0, fun i => [e_values].getD i (fun _ => 0), fun i => [].getD i (fun _ => 0)) rfl (show (0 ≤ ((0 : Int32)).toInt ∧ ((0 : Int32)).toInt ≤ 1) ∧ ((0 : Int32).toInt = if mayP (e_nests).toInt.toNat E (fcC a_wide a_deep a_weight a_lids (p0).toInt.toNat (p1).toInt.toNat) (decide ((a_wide (p0).toInt.toNat).toInt < (a_wide (p1).toInt.toNat).toInt)) (BT a_tops (p1).toInt.toNat) = true then 1 else 0) from ⟨by omega, (by rw [if_neg (fun z => by have y := of_decide_eq_true ((mayP_iff.mp z).2.1 (by omega)); omega)]; rfl)⟩) [0, 1, 2, 3, 4, 5, 6, 7] (by decide) rfl (by decide) (by decide) dX1_allow_41
      · skip
        rw [i_le] at c_22
        refine j_iconst (pc := 36) (v := 1) C dX1_allow_36 (by decide) ?_
        refine j_goto (pc := 37) (tgt := 41) C dX1_allow_37 (by decide) ?_
        have el_1 : (1 : Int32).toInt = 1 := rfl
        have el_1 : (1 : Int32).toInt = 1 := rfl
        have el_0 : (0 : Int32).toInt = 0 := rfl
        exact j_zret (pc := 41) C hr rfl hk (fun i => [].getD i 0, fun i => [1].getD i 0, fun i => [e_values].getD i (fun _ => 0), fun i => [].getD i (fun _ => 0)) rfl (show (0 ≤ ((1 : Int32)).toInt ∧ ((1 : Int32)).toInt ≤ 1) ∧ ((1 : Int32).toInt = if mayP (e_nests).toInt.toNat E (fcC a_wide a_deep a_weight a_lids (p0).toInt.toNat (p1).toInt.toNat) (decide ((a_wide (p0).toInt.toNat).toInt < (a_wide (p1).toInt.toNat).toInt)) (BT a_tops (p1).toInt.toNat) = true then 1 else 0) from ⟨by omega, (by rw [if_pos (mayP_iff.mpr ⟨(by by_cases q : BT a_tops (p1).toInt.toNat = true; (rw [if_pos q] at hb9; exfalso; omega); (exact Bool.eq_false_iff.mpr q)), (fun _ => decide_eq_true (by omega)), (fun i hi => absurd hi (by omega))⟩)]; rfl)⟩) [0, 1, 2, 3, 4, 5, 6, 7] (by decide) rfl (by decide) (by decide) dX1_allow_41
  · skip
    have el_1 : (1 : Int32).toInt = 1 := rfl
    rw [i_eq] at c_3
    refine j_iconst (pc := 12) (v := 0) C dX1_allow_12 (by decide) ?_
    have el_0 : (0 : Int32).toInt = 0 := rfl
    have el_0 : (0 : Int32).toInt = 0 := rfl
    have el_0 : (0 : Int32).toInt = 0 := rfl
    exact j_zret (pc := 13) C hr rfl hk (fun i => [].getD i 0, fun i => [0].getD i 0, fun i => [e_values].getD i (fun _ => 0), fun i => [].getD i (fun _ => 0)) rfl (show (0 ≤ ((0 : Int32)).toInt ∧ ((0 : Int32)).toInt ≤ 1) ∧ ((0 : Int32).toInt = if mayP (e_nests).toInt.toNat E (fcC a_wide a_deep a_weight a_lids (p0).toInt.toNat (p1).toInt.toNat) (decide ((a_wide (p0).toInt.toNat).toInt < (a_wide (p1).toInt.toNat).toInt)) (BT a_tops (p1).toInt.toNat) = true then 1 else 0) from ⟨by omega, (by rw [if_neg (fun z => by have y := (mayP_iff.mp z).1; rw [y, if_neg (by decide)] at hb9; omega)]; rfl)⟩) [0, 1, 2, 3, 4, 5, 6, 7] (by decide) rfl (by decide) (by decide) dX1_allow_13
