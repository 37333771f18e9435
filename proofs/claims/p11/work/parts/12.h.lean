theorem wd_153 : Cond.fieldLink RX0 57 "BowlShelf$Told" "deep" "[I" ∈ WALL := wl_in (by decide +kernel) (by decide +kernel)
theorem wd_154 : Cond.fieldLink RX0 60 "BowlShelf$Told" "mayOn" "[I" ∈ WALL := wl_in (by decide +kernel) (by decide +kernel)
theorem wd_155 : Cond.constant RX0 40 (1000000) ∈ WALL := wl_in (by decide +kernel) (by decide +kernel)
theorem wd_156 : Cond.fieldLink RX0 31 "BowlShelf$Heights" "wares" "I" ∈ WALL := wl_in (by decide +kernel) (by decide +kernel)
theorem wd_157 : Cond.methodLink RX0 66 Lib.Math.max.name ∈ WALL := wl_in (by decide +kernel) (by decide +kernel)
theorem wd_158 : Cond.methodLink RX0 63 yX9_rise ∈ WALL := wl_in (by decide +kernel) (by decide +kernel)
theorem wd_159 : Cond.fieldLink RX0 9 "BowlShelf$Heights" "leastRim" "[I" ∈ WALL := wl_in (by decide +kernel) (by decide +kernel)
theorem wd_160 : Cond.methodLink RX0 51 Lib.Math.min.name ∈ WALL := wl_in (by decide +kernel) (by decide +kernel)
theorem wd_161 : Cond.methodLink RX0 36 yX9_weightOf ∈ WALL := wl_in (by decide +kernel) (by decide +kernel)
theorem wd_162 : Cond.fieldLink RX0 15 "BowlShelf$Heights" "least" "[I" ∈ WALL := wl_in (by decide +kernel) (by decide +kernel)
theorem wd_163 : Cond.fieldLink RX0 41 "BowlShelf$Told" "weight" "[I" ∈ WALL := wl_in (by decide +kernel) (by decide +kernel)
theorem wd_164 : Cond.fieldLink RX0 44 "BowlShelf$Told" "bears" "[I" ∈ WALL := wl_in (by decide +kernel) (by decide +kernel)
theorem wd_165 : Cond.code yX0_rimOver cX0_rimOver 8 (some .int) ∈ WALL := wl_in (by decide +kernel) (by decide +kernel)
theorem wd_166 : Cond.initialized RX0 ∈ WALL := wl_in (by decide +kernel) (by decide +kernel)
theorem wd_167 : Cond.methodLink RX0 47 yX0_rimOver ∈ WALL := wl_in (by decide +kernel) (by decide +kernel)
theorem wd_168 : Cond.instanceMethod yX0_rimOver ∈ WALL := wl_in (by decide +kernel) (by decide +kernel)
theorem wd_169 : Cond.selects RX0 yX0_rimOver yX0_rimOver ∈ WALL := wl_in (by decide +kernel) (by decide +kernel)
theorem wd_170 : Cond.code yX0_firstOn cX0_firstOn 9 (some .int) ∈ WALL := wl_in (by decide +kernel) (by decide +kernel)
theorem wd_171 : Cond.methodLink RX0 80 yX0_firstOn ∈ WALL := wl_in (by decide +kernel) (by decide +kernel)
theorem wd_172 : Cond.instanceMethod yX0_firstOn ∈ WALL := wl_in (by decide +kernel) (by decide +kernel)
theorem wd_173 : Cond.selects RX0 yX0_firstOn yX0_firstOn ∈ WALL := wl_in (by decide +kernel) (by decide +kernel)
theorem wd_174 : Cond.code yJ6_lowestOneBit_0f7a4 cJ6_lowestOneBit_0f7a4 1 (some .int) ∈ WALL := wl_in (by decide +kernel) (by decide +kernel)
theorem wd_175 : Cond.methodLink RX0 72 yJ6_lowestOneBit_0f7a4 ∈ WALL := wl_in (by decide +kernel) (by decide +kernel)
theorem wd_176 : Cond.static yJ6_lowestOneBit_0f7a4 ∈ WALL := wl_in (by decide +kernel) (by decide +kernel)
theorem wd_177 : Cond.methodLink RX0 77 yJ6_bitCount_0f7a4 ∈ WALL := wl_in (by decide +kernel) (by decide +kernel)
theorem wd_178 : Cond.fieldLink RX0 18 "BowlShelf$Heights" "stacks" "[I" ∈ WALL := wl_in (by decide +kernel) (by decide +kernel)
theorem wd_179 : Cond.code yX0_fewestOf cX0_fewestOf 8 (some .int) ∈ WALL := wl_in (by decide +kernel) (by decide +kernel)
theorem wd_180 : Cond.methodLink RX0 69 yX0_fewestOf ∈ WALL := wl_in (by decide +kernel) (by decide +kernel)
theorem wd_181 : Cond.instanceMethod yX0_fewestOf ∈ WALL := wl_in (by decide +kernel) (by decide +kernel)
theorem wd_182 : Cond.selects RX0 yX0_fewestOf yX0_fewestOf ∈ WALL := wl_in (by decide +kernel) (by decide +kernel)
theorem dJ6_lowestOneBit_0f7a4_0 : decode cJ6_lowestOneBit_0f7a4 0 = .ok (.iload_n 0, 1) := by decide +kernel
theorem dJ6_lowestOneBit_0f7a4_1 : decode cJ6_lowestOneBit_0f7a4 1 = .ok (.iload_n 0, 1) := by decide +kernel
theorem dJ6_lowestOneBit_0f7a4_2 : decode cJ6_lowestOneBit_0f7a4 2 = .ok (.ineg, 1) := by decide +kernel
theorem dJ6_lowestOneBit_0f7a4_3 : decode cJ6_lowestOneBit_0f7a4 3 = .ok (.iand, 1) := by decide +kernel
theorem dJ6_lowestOneBit_0f7a4_4 : decode cJ6_lowestOneBit_0f7a4 4 = .ok (.ireturn, 1) := by decide +kernel
theorem dX0_rimOver_0 : decode cX0_rimOver 0 = .ok (.aload_n 1, 1) := by decide +kernel
theorem dX0_rimOver_1 : decode cX0_rimOver 1 = .ok (.getfield 57, 3) := by decide +kernel
theorem dX0_rimOver_4 : decode cX0_rimOver 4 = .ok (.iload_n 2, 1) := by decide +kernel
theorem dX0_rimOver_5 : decode cX0_rimOver 5 = .ok (.iaload, 1) := by decide +kernel
theorem dX0_rimOver_6 : decode cX0_rimOver 6 = .ok (.istore 4, 2) := by decide +kernel
theorem dX0_rimOver_8 : decode cX0_rimOver 8 = .ok (.iload_n 3, 1) := by decide +kernel
theorem dX0_rimOver_9 : decode cX0_rimOver 9 = .ok (.ifCond .ne 6, 3) := by decide +kernel
theorem dX0_rimOver_12 : decode cX0_rimOver 12 = .ok (.iload 4, 2) := by decide +kernel
theorem dX0_rimOver_14 : decode cX0_rimOver 14 = .ok (.ireturn, 1) := by decide +kernel
theorem dX0_rimOver_15 : decode cX0_rimOver 15 = .ok (.iload_n 3, 1) := by decide +kernel
theorem dX0_rimOver_16 : decode cX0_rimOver 16 = .ok (.aload_n 1, 1) := by decide +kernel
theorem dX0_rimOver_17 : decode cX0_rimOver 17 = .ok (.getfield 60, 3) := by decide +kernel
theorem dX0_rimOver_20 : decode cX0_rimOver 20 = .ok (.iload_n 2, 1) := by decide +kernel
theorem dX0_rimOver_21 : decode cX0_rimOver 21 = .ok (.iaload, 1) := by decide +kernel
theorem dX0_rimOver_22 : decode cX0_rimOver 22 = .ok (.iand, 1) := by decide +kernel
theorem dX0_rimOver_23 : decode cX0_rimOver 23 = .ok (.istore 5, 2) := by decide +kernel
theorem dX0_rimOver_25 : decode cX0_rimOver 25 = .ok (.ldc 40, 2) := by decide +kernel
theorem dX0_rimOver_27 : decode cX0_rimOver 27 = .ok (.istore 6, 2) := by decide +kernel
theorem dX0_rimOver_29 : decode cX0_rimOver 29 = .ok (.iconst 0, 1) := by decide +kernel
theorem dX0_rimOver_30 : decode cX0_rimOver 30 = .ok (.istore 7, 2) := by decide +kernel
theorem dX0_rimOver_32 : decode cX0_rimOver 32 = .ok (.iload 7, 2) := by decide +kernel
theorem dX0_rimOver_34 : decode cX0_rimOver 34 = .ok (.aload_n 0, 1) := by decide +kernel
theorem dX0_rimOver_35 : decode cX0_rimOver 35 = .ok (.getfield 31, 3) := by decide +kernel
theorem dX0_rimOver_38 : decode cX0_rimOver 38 = .ok (.if_icmp .ge 49, 3) := by decide +kernel
theorem dX0_rimOver_41 : decode cX0_rimOver 41 = .ok (.iload 5, 2) := by decide +kernel
theorem dX0_rimOver_43 : decode cX0_rimOver 43 = .ok (.iload 7, 2) := by decide +kernel
theorem dX0_rimOver_45 : decode cX0_rimOver 45 = .ok (.iushr, 1) := by decide +kernel
theorem dX0_rimOver_46 : decode cX0_rimOver 46 = .ok (.iconst 1, 1) := by decide +kernel
theorem dX0_rimOver_47 : decode cX0_rimOver 47 = .ok (.iand, 1) := by decide +kernel
theorem dX0_rimOver_48 : decode cX0_rimOver 48 = .ok (.iconst 1, 1) := by decide +kernel
theorem dX0_rimOver_49 : decode cX0_rimOver 49 = .ok (.if_icmp .ne 32, 3) := by decide +kernel
theorem dX0_rimOver_52 : decode cX0_rimOver 52 = .ok (.iload 6, 2) := by decide +kernel
theorem dX0_rimOver_54 : decode cX0_rimOver 54 = .ok (.aload_n 1, 1) := by decide +kernel
theorem dX0_rimOver_55 : decode cX0_rimOver 55 = .ok (.iload 7, 2) := by decide +kernel
theorem dX0_rimOver_57 : decode cX0_rimOver 57 = .ok (.iload_n 2, 1) := by decide +kernel
theorem dX0_rimOver_58 : decode cX0_rimOver 58 = .ok (.invokevirtual 63, 3) := by decide +kernel
theorem dX0_rimOver_61 : decode cX0_rimOver 61 = .ok (.aload_n 0, 1) := by decide +kernel
theorem dX0_rimOver_62 : decode cX0_rimOver 62 = .ok (.getfield 9, 3) := by decide +kernel
theorem dX0_rimOver_65 : decode cX0_rimOver 65 = .ok (.iload_n 3, 1) := by decide +kernel
theorem dX0_rimOver_66 : decode cX0_rimOver 66 = .ok (.aload_n 0, 1) := by decide +kernel
theorem dX0_rimOver_67 : decode cX0_rimOver 67 = .ok (.getfield 31, 3) := by decide +kernel
theorem dX0_rimOver_70 : decode cX0_rimOver 70 = .ok (.imul, 1) := by decide +kernel
theorem dX0_rimOver_71 : decode cX0_rimOver 71 = .ok (.iload 7, 2) := by decide +kernel
theorem dX0_rimOver_73 : decode cX0_rimOver 73 = .ok (.iadd, 1) := by decide +kernel
theorem dX0_rimOver_74 : decode cX0_rimOver 74 = .ok (.iaload, 1) := by decide +kernel
theorem dX0_rimOver_75 : decode cX0_rimOver 75 = .ok (.iadd, 1) := by decide +kernel
theorem dX0_rimOver_76 : decode cX0_rimOver 76 = .ok (.invokestatic 51, 3) := by decide +kernel
theorem dX0_rimOver_79 : decode cX0_rimOver 79 = .ok (.istore 6, 2) := by decide +kernel
theorem dX0_rimOver_81 : decode cX0_rimOver 81 = .ok (.iinc 7 1, 3) := by decide +kernel
theorem dX0_rimOver_84 : decode cX0_rimOver 84 = .ok (.goto (-52), 3) := by decide +kernel
theorem dX0_rimOver_87 : decode cX0_rimOver 87 = .ok (.iload 4, 2) := by decide +kernel
theorem dX0_rimOver_89 : decode cX0_rimOver 89 = .ok (.iload 6, 2) := by decide +kernel
theorem dX0_rimOver_91 : decode cX0_rimOver 91 = .ok (.invokestatic 66, 3) := by decide +kernel
theorem dX0_rimOver_94 : decode cX0_rimOver 94 = .ok (.ireturn, 1) := by decide +kernel
theorem dX0_settleSet_0 : decode cX0_settleSet 0 = .ok (.aload_n 1, 1) := by decide +kernel
theorem dX0_settleSet_1 : decode cX0_settleSet 1 = .ok (.iload_n 2, 1) := by decide +kernel
theorem dX0_settleSet_2 : decode cX0_settleSet 2 = .ok (.invokevirtual 36, 3) := by decide +kernel
theorem dX0_settleSet_5 : decode cX0_settleSet 5 = .ok (.istore_n 3, 1) := by decide +kernel
theorem dX0_settleSet_6 : decode cX0_settleSet 6 = .ok (.ldc 40, 2) := by decide +kernel
theorem dX0_settleSet_8 : decode cX0_settleSet 8 = .ok (.istore 4, 2) := by decide +kernel
theorem dX0_settleSet_10 : decode cX0_settleSet 10 = .ok (.iconst 0, 1) := by decide +kernel
theorem dX0_settleSet_11 : decode cX0_settleSet 11 = .ok (.istore 5, 2) := by decide +kernel
theorem dX0_settleSet_13 : decode cX0_settleSet 13 = .ok (.iload 5, 2) := by decide +kernel
theorem dX0_settleSet_15 : decode cX0_settleSet 15 = .ok (.aload_n 0, 1) := by decide +kernel
theorem dX0_settleSet_16 : decode cX0_settleSet 16 = .ok (.getfield 31, 3) := by decide +kernel
theorem dX0_settleSet_19 : decode cX0_settleSet 19 = .ok (.if_icmp .ge 95, 3) := by decide +kernel
theorem dX0_settleSet_22 : decode cX0_settleSet 22 = .ok (.iload_n 2, 1) := by decide +kernel
theorem dX0_settleSet_23 : decode cX0_settleSet 23 = .ok (.iload 5, 2) := by decide +kernel
theorem dX0_settleSet_25 : decode cX0_settleSet 25 = .ok (.iushr, 1) := by decide +kernel
theorem dX0_settleSet_26 : decode cX0_settleSet 26 = .ok (.iconst 1, 1) := by decide +kernel
theorem dX0_settleSet_27 : decode cX0_settleSet 27 = .ok (.iand, 1) := by decide +kernel
theorem dX0_settleSet_28 : decode cX0_settleSet 28 = .ok (.iconst 1, 1) := by decide +kernel
theorem dX0_settleSet_29 : decode cX0_settleSet 29 = .ok (.if_icmp .ne 79, 3) := by decide +kernel
theorem dX0_settleSet_32 : decode cX0_settleSet 32 = .ok (.iload_n 3, 1) := by decide +kernel
theorem dX0_settleSet_33 : decode cX0_settleSet 33 = .ok (.aload_n 1, 1) := by decide +kernel
theorem dX0_settleSet_34 : decode cX0_settleSet 34 = .ok (.getfield 41, 3) := by decide +kernel
theorem dX0_settleSet_37 : decode cX0_settleSet 37 = .ok (.iload 5, 2) := by decide +kernel
theorem dX0_settleSet_39 : decode cX0_settleSet 39 = .ok (.iaload, 1) := by decide +kernel
theorem dX0_settleSet_40 : decode cX0_settleSet 40 = .ok (.isub, 1) := by decide +kernel
theorem dX0_settleSet_41 : decode cX0_settleSet 41 = .ok (.aload_n 1, 1) := by decide +kernel
theorem dX0_settleSet_42 : decode cX0_settleSet 42 = .ok (.getfield 44, 3) := by decide +kernel
theorem dX0_settleSet_45 : decode cX0_settleSet 45 = .ok (.iload 5, 2) := by decide +kernel
theorem dX0_settleSet_47 : decode cX0_settleSet 47 = .ok (.iaload, 1) := by decide +kernel
theorem dX0_settleSet_48 : decode cX0_settleSet 48 = .ok (.if_icmp .gt 7, 3) := by decide +kernel
theorem dX0_settleSet_51 : decode cX0_settleSet 51 = .ok (.iconst 1, 1) := by decide +kernel
theorem dX0_settleSet_52 : decode cX0_settleSet 52 = .ok (.goto 4, 3) := by decide +kernel
theorem dX0_settleSet_55 : decode cX0_settleSet 55 = .ok (.iconst 0, 1) := by decide +kernel
theorem dX0_settleSet_56 : decode cX0_settleSet 56 = .ok (.istore 6, 2) := by decide +kernel
theorem dX0_settleSet_58 : decode cX0_settleSet 58 = .ok (.iload 6, 2) := by decide +kernel
theorem dX0_settleSet_60 : decode cX0_settleSet 60 = .ok (.ifCond .eq 19, 3) := by decide +kernel
theorem dX0_settleSet_63 : decode cX0_settleSet 63 = .ok (.aload_n 0, 1) := by decide +kernel
theorem dX0_settleSet_64 : decode cX0_settleSet 64 = .ok (.aload_n 1, 1) := by decide +kernel
theorem dX0_settleSet_65 : decode cX0_settleSet 65 = .ok (.iload 5, 2) := by decide +kernel
theorem dX0_settleSet_67 : decode cX0_settleSet 67 = .ok (.iload_n 2, 1) := by decide +kernel
theorem dX0_settleSet_68 : decode cX0_settleSet 68 = .ok (.iconst 1, 1) := by decide +kernel
theorem dX0_settleSet_69 : decode cX0_settleSet 69 = .ok (.iload 5, 2) := by decide +kernel
theorem dX0_settleSet_71 : decode cX0_settleSet 71 = .ok (.ishl, 1) := by decide +kernel
theorem dX0_settleSet_72 : decode cX0_settleSet 72 = .ok (.ixor, 1) := by decide +kernel
theorem dX0_settleSet_73 : decode cX0_settleSet 73 = .ok (.invokevirtual 47, 3) := by decide +kernel
theorem dX0_settleSet_76 : decode cX0_settleSet 76 = .ok (.goto 5, 3) := by decide +kernel
theorem dX0_settleSet_79 : decode cX0_settleSet 79 = .ok (.ldc 40, 2) := by decide +kernel
theorem dX0_settleSet_81 : decode cX0_settleSet 81 = .ok (.istore 7, 2) := by decide +kernel
theorem dX0_settleSet_83 : decode cX0_settleSet 83 = .ok (.aload_n 0, 1) := by decide +kernel
theorem dX0_settleSet_84 : decode cX0_settleSet 84 = .ok (.getfield 9, 3) := by decide +kernel
theorem dX0_settleSet_87 : decode cX0_settleSet 87 = .ok (.iload_n 2, 1) := by decide +kernel
theorem dX0_settleSet_88 : decode cX0_settleSet 88 = .ok (.aload_n 0, 1) := by decide +kernel
theorem dX0_settleSet_89 : decode cX0_settleSet 89 = .ok (.getfield 31, 3) := by decide +kernel
theorem dX0_settleSet_92 : decode cX0_settleSet 92 = .ok (.imul, 1) := by decide +kernel
theorem dX0_settleSet_93 : decode cX0_settleSet 93 = .ok (.iload 5, 2) := by decide +kernel
theorem dX0_settleSet_95 : decode cX0_settleSet 95 = .ok (.iadd, 1) := by decide +kernel
theorem dX0_settleSet_96 : decode cX0_settleSet 96 = .ok (.iload 7, 2) := by decide +kernel
theorem dX0_settleSet_98 : decode cX0_settleSet 98 = .ok (.iastore, 1) := by decide +kernel
theorem dX0_settleSet_99 : decode cX0_settleSet 99 = .ok (.iload 4, 2) := by decide +kernel
theorem dX0_settleSet_101 : decode cX0_settleSet 101 = .ok (.iload 7, 2) := by decide +kernel
theorem dX0_settleSet_103 : decode cX0_settleSet 103 = .ok (.invokestatic 51, 3) := by decide +kernel
theorem dX0_settleSet_106 : decode cX0_settleSet 106 = .ok (.istore 4, 2) := by decide +kernel
theorem dX0_settleSet_108 : decode cX0_settleSet 108 = .ok (.iinc 5 1, 3) := by decide +kernel
theorem dX0_settleSet_111 : decode cX0_settleSet 111 = .ok (.goto (-98), 3) := by decide +kernel
theorem dX0_settleSet_114 : decode cX0_settleSet 114 = .ok (.aload_n 0, 1) := by decide +kernel
theorem dX0_settleSet_115 : decode cX0_settleSet 115 = .ok (.getfield 15, 3) := by decide +kernel
theorem dX0_settleSet_118 : decode cX0_settleSet 118 = .ok (.iload_n 2, 1) := by decide +kernel
theorem dX0_settleSet_119 : decode cX0_settleSet 119 = .ok (.iload 4, 2) := by decide +kernel
theorem dX0_settleSet_121 : decode cX0_settleSet 121 = .ok (.iastore, 1) := by decide +kernel
theorem dX0_settleSet_122 : decode cX0_settleSet 122 = .ok (.return_, 1) := by decide +kernel
theorem dX0_firstOn_0 : decode cX0_firstOn 0 = .ok (.iload_n 3, 1) := by decide +kernel
theorem dX0_firstOn_1 : decode cX0_firstOn 1 = .ok (.iconst (-1), 1) := by decide +kernel
theorem dX0_firstOn_2 : decode cX0_firstOn 2 = .ok (.if_icmp .ne 7, 3) := by decide +kernel
theorem dX0_firstOn_5 : decode cX0_firstOn 5 = .ok (.iload_n 2, 1) := by decide +kernel
theorem dX0_firstOn_6 : decode cX0_firstOn 6 = .ok (.goto 11, 3) := by decide +kernel
theorem dX0_firstOn_9 : decode cX0_firstOn 9 = .ok (.iload_n 2, 1) := by decide +kernel
theorem dX0_firstOn_10 : decode cX0_firstOn 10 = .ok (.aload_n 1, 1) := by decide +kernel
theorem dX0_firstOn_11 : decode cX0_firstOn 11 = .ok (.getfield 60, 3) := by decide +kernel
theorem dX0_firstOn_14 : decode cX0_firstOn 14 = .ok (.iload_n 3, 1) := by decide +kernel
theorem dX0_firstOn_15 : decode cX0_firstOn 15 = .ok (.iaload, 1) := by decide +kernel
theorem dX0_firstOn_16 : decode cX0_firstOn 16 = .ok (.iand, 1) := by decide +kernel
theorem dX0_firstOn_17 : decode cX0_firstOn 17 = .ok (.istore 5, 2) := by decide +kernel
theorem dX0_firstOn_19 : decode cX0_firstOn 19 = .ok (.iconst 0, 1) := by decide +kernel
theorem dX0_firstOn_20 : decode cX0_firstOn 20 = .ok (.istore 6, 2) := by decide +kernel
theorem dX0_firstOn_22 : decode cX0_firstOn 22 = .ok (.iload 6, 2) := by decide +kernel
theorem dX0_firstOn_24 : decode cX0_firstOn 24 = .ok (.aload_n 0, 1) := by decide +kernel
theorem dX0_firstOn_25 : decode cX0_firstOn 25 = .ok (.getfield 31, 3) := by decide +kernel
theorem dX0_firstOn_28 : decode cX0_firstOn 28 = .ok (.if_icmp .ge 74, 3) := by decide +kernel
theorem dX0_firstOn_31 : decode cX0_firstOn 31 = .ok (.iload 5, 2) := by decide +kernel
theorem dX0_firstOn_33 : decode cX0_firstOn 33 = .ok (.iload 6, 2) := by decide +kernel
theorem dX0_firstOn_35 : decode cX0_firstOn 35 = .ok (.iushr, 1) := by decide +kernel
theorem dX0_firstOn_36 : decode cX0_firstOn 36 = .ok (.iconst 1, 1) := by decide +kernel
theorem dX0_firstOn_37 : decode cX0_firstOn 37 = .ok (.iand, 1) := by decide +kernel
theorem dX0_firstOn_38 : decode cX0_firstOn 38 = .ok (.iconst 1, 1) := by decide +kernel
theorem dX0_firstOn_39 : decode cX0_firstOn 39 = .ok (.if_icmp .ne 57, 3) := by decide +kernel
theorem dX0_firstOn_42 : decode cX0_firstOn 42 = .ok (.iload_n 3, 1) := by decide +kernel
theorem dX0_firstOn_43 : decode cX0_firstOn 43 = .ok (.iconst (-1), 1) := by decide +kernel
theorem dX0_firstOn_44 : decode cX0_firstOn 44 = .ok (.if_icmp .ne 7, 3) := by decide +kernel
theorem dX0_firstOn_47 : decode cX0_firstOn 47 = .ok (.iconst 0, 1) := by decide +kernel
theorem dX0_firstOn_48 : decode cX0_firstOn 48 = .ok (.goto 10, 3) := by decide +kernel
theorem dX0_firstOn_51 : decode cX0_firstOn 51 = .ok (.aload_n 1, 1) := by decide +kernel
theorem dX0_firstOn_52 : decode cX0_firstOn 52 = .ok (.iload 6, 2) := by decide +kernel
theorem dX0_firstOn_54 : decode cX0_firstOn 54 = .ok (.iload_n 3, 1) := by decide +kernel
theorem dX0_firstOn_55 : decode cX0_firstOn 55 = .ok (.invokevirtual 63, 3) := by decide +kernel
theorem dX0_firstOn_58 : decode cX0_firstOn 58 = .ok (.istore 7, 2) := by decide +kernel
theorem dX0_firstOn_60 : decode cX0_firstOn 60 = .ok (.aload_n 0, 1) := by decide +kernel
theorem dX0_firstOn_61 : decode cX0_firstOn 61 = .ok (.getfield 9, 3) := by decide +kernel
theorem dX0_firstOn_64 : decode cX0_firstOn 64 = .ok (.iload_n 2, 1) := by decide +kernel
theorem dX0_firstOn_65 : decode cX0_firstOn 65 = .ok (.aload_n 0, 1) := by decide +kernel
theorem dX0_firstOn_66 : decode cX0_firstOn 66 = .ok (.getfield 31, 3) := by decide +kernel
theorem dX0_firstOn_69 : decode cX0_firstOn 69 = .ok (.imul, 1) := by decide +kernel
theorem dX0_firstOn_70 : decode cX0_firstOn 70 = .ok (.iload 6, 2) := by decide +kernel
theorem dX0_firstOn_72 : decode cX0_firstOn 72 = .ok (.iadd, 1) := by decide +kernel
theorem dX0_firstOn_73 : decode cX0_firstOn 73 = .ok (.iaload, 1) := by decide +kernel
theorem dX0_firstOn_74 : decode cX0_firstOn 74 = .ok (.istore 8, 2) := by decide +kernel
theorem dX0_firstOn_76 : decode cX0_firstOn 76 = .ok (.iload 8, 2) := by decide +kernel
theorem dX0_firstOn_78 : decode cX0_firstOn 78 = .ok (.ldc 40, 2) := by decide +kernel
theorem dX0_firstOn_80 : decode cX0_firstOn 80 = .ok (.if_icmp .ge 16, 3) := by decide +kernel
theorem dX0_firstOn_83 : decode cX0_firstOn 83 = .ok (.iload 7, 2) := by decide +kernel
theorem dX0_firstOn_85 : decode cX0_firstOn 85 = .ok (.iload 8, 2) := by decide +kernel
theorem dX0_firstOn_87 : decode cX0_firstOn 87 = .ok (.iadd, 1) := by decide +kernel
theorem dX0_firstOn_88 : decode cX0_firstOn 88 = .ok (.iload 4, 2) := by decide +kernel
theorem dX0_firstOn_90 : decode cX0_firstOn 90 = .ok (.if_icmp .gt 6, 3) := by decide +kernel
theorem dX0_firstOn_93 : decode cX0_firstOn 93 = .ok (.iload 6, 2) := by decide +kernel
theorem dX0_firstOn_95 : decode cX0_firstOn 95 = .ok (.ireturn, 1) := by decide +kernel
theorem dX0_firstOn_96 : decode cX0_firstOn 96 = .ok (.iinc 6 1, 3) := by decide +kernel
theorem dX0_firstOn_99 : decode cX0_firstOn 99 = .ok (.goto (-77), 3) := by decide +kernel
theorem dX0_firstOn_102 : decode cX0_firstOn 102 = .ok (.iconst (-1), 1) := by decide +kernel
theorem dX0_firstOn_103 : decode cX0_firstOn 103 = .ok (.ireturn, 1) := by decide +kernel
theorem dX0_inOrder_0 : decode cX0_inOrder 0 = .ok (.iload_n 2, 1) := by decide +kernel
theorem dX0_inOrder_1 : decode cX0_inOrder 1 = .ok (.istore 5, 2) := by decide +kernel
theorem dX0_inOrder_3 : decode cX0_inOrder 3 = .ok (.iload_n 3, 1) := by decide +kernel
theorem dX0_inOrder_4 : decode cX0_inOrder 4 = .ok (.istore 6, 2) := by decide +kernel
theorem dX0_inOrder_6 : decode cX0_inOrder 6 = .ok (.iconst (-1), 1) := by decide +kernel
theorem dX0_inOrder_7 : decode cX0_inOrder 7 = .ok (.istore 7, 2) := by decide +kernel
theorem dX0_inOrder_9 : decode cX0_inOrder 9 = .ok (.iconst 0, 1) := by decide +kernel
theorem dX0_inOrder_10 : decode cX0_inOrder 10 = .ok (.istore 8, 2) := by decide +kernel
theorem dX0_inOrder_12 : decode cX0_inOrder 12 = .ok (.iload 8, 2) := by decide +kernel
theorem dX0_inOrder_14 : decode cX0_inOrder 14 = .ok (.iload 4, 2) := by decide +kernel
theorem dX0_inOrder_16 : decode cX0_inOrder 16 = .ok (.if_icmp .gt 66, 3) := by decide +kernel
theorem dX0_inOrder_19 : decode cX0_inOrder 19 = .ok (.aload_n 0, 1) := by decide +kernel
theorem dX0_inOrder_20 : decode cX0_inOrder 20 = .ok (.aload_n 1, 1) := by decide +kernel
theorem dX0_inOrder_21 : decode cX0_inOrder 21 = .ok (.iload 5, 2) := by decide +kernel
theorem dX0_inOrder_23 : decode cX0_inOrder 23 = .ok (.iload 7, 2) := by decide +kernel
theorem dX0_inOrder_25 : decode cX0_inOrder 25 = .ok (.iload 6, 2) := by decide +kernel
theorem dX0_inOrder_27 : decode cX0_inOrder 27 = .ok (.invokevirtual 80, 3) := by decide +kernel
theorem dX0_inOrder_30 : decode cX0_inOrder 30 = .ok (.istore 9, 2) := by decide +kernel
theorem dX0_inOrder_32 : decode cX0_inOrder 32 = .ok (.iload 9, 2) := by decide +kernel
theorem dX0_inOrder_34 : decode cX0_inOrder 34 = .ok (.iconst (-1), 1) := by decide +kernel
theorem dX0_inOrder_35 : decode cX0_inOrder 35 = .ok (.if_icmp .ne 5, 3) := by decide +kernel
theorem dX0_inOrder_38 : decode cX0_inOrder 38 = .ok (.iconst (-1), 1) := by decide +kernel
theorem dX0_inOrder_39 : decode cX0_inOrder 39 = .ok (.ireturn, 1) := by decide +kernel
theorem dX0_inOrder_40 : decode cX0_inOrder 40 = .ok (.iload 6, 2) := by decide +kernel
theorem dX0_inOrder_42 : decode cX0_inOrder 42 = .ok (.iload 7, 2) := by decide +kernel
theorem dX0_inOrder_44 : decode cX0_inOrder 44 = .ok (.iconst (-1), 1) := by decide +kernel
theorem dX0_inOrder_45 : decode cX0_inOrder 45 = .ok (.if_icmp .ne 7, 3) := by decide +kernel
theorem dX0_inOrder_48 : decode cX0_inOrder 48 = .ok (.iconst 0, 1) := by decide +kernel
theorem dX0_inOrder_49 : decode cX0_inOrder 49 = .ok (.goto 11, 3) := by decide +kernel
theorem dX0_inOrder_52 : decode cX0_inOrder 52 = .ok (.aload_n 1, 1) := by decide +kernel
theorem dX0_inOrder_53 : decode cX0_inOrder 53 = .ok (.iload 9, 2) := by decide +kernel
theorem dX0_inOrder_55 : decode cX0_inOrder 55 = .ok (.iload 7, 2) := by decide +kernel
theorem dX0_inOrder_57 : decode cX0_inOrder 57 = .ok (.invokevirtual 63, 3) := by decide +kernel
theorem dX0_inOrder_60 : decode cX0_inOrder 60 = .ok (.isub, 1) := by decide +kernel
theorem dX0_inOrder_61 : decode cX0_inOrder 61 = .ok (.istore 6, 2) := by decide +kernel
theorem dX0_inOrder_63 : decode cX0_inOrder 63 = .ok (.iload 5, 2) := by decide +kernel
theorem dX0_inOrder_65 : decode cX0_inOrder 65 = .ok (.iconst 1, 1) := by decide +kernel
theorem dX0_inOrder_66 : decode cX0_inOrder 66 = .ok (.iload 9, 2) := by decide +kernel
theorem dX0_inOrder_68 : decode cX0_inOrder 68 = .ok (.ishl, 1) := by decide +kernel
theorem dX0_inOrder_69 : decode cX0_inOrder 69 = .ok (.ixor, 1) := by decide +kernel
theorem dX0_inOrder_70 : decode cX0_inOrder 70 = .ok (.istore 5, 2) := by decide +kernel
theorem dX0_inOrder_72 : decode cX0_inOrder 72 = .ok (.iload 9, 2) := by decide +kernel
theorem dX0_inOrder_74 : decode cX0_inOrder 74 = .ok (.istore 7, 2) := by decide +kernel
theorem dX0_inOrder_76 : decode cX0_inOrder 76 = .ok (.iinc 8 1, 3) := by decide +kernel
theorem dX0_inOrder_79 : decode cX0_inOrder 79 = .ok (.goto (-67), 3) := by decide +kernel
theorem dX0_inOrder_82 : decode cX0_inOrder 82 = .ok (.iload 7, 2) := by decide +kernel
theorem dX0_inOrder_84 : decode cX0_inOrder 84 = .ok (.ireturn, 1) := by decide +kernel
theorem dX0_fewestOf_0 : decode cX0_fewestOf 0 = .ok (.iload_n 1, 1) := by decide +kernel
theorem dX0_fewestOf_1 : decode cX0_fewestOf 1 = .ok (.invokestatic 72, 3) := by decide +kernel
theorem dX0_fewestOf_4 : decode cX0_fewestOf 4 = .ok (.istore_n 3, 1) := by decide +kernel
theorem dX0_fewestOf_5 : decode cX0_fewestOf 5 = .ok (.iload_n 1, 1) := by decide +kernel
theorem dX0_fewestOf_6 : decode cX0_fewestOf 6 = .ok (.iload_n 3, 1) := by decide +kernel
theorem dX0_fewestOf_7 : decode cX0_fewestOf 7 = .ok (.ixor, 1) := by decide +kernel
theorem dX0_fewestOf_8 : decode cX0_fewestOf 8 = .ok (.istore 4, 2) := by decide +kernel
theorem dX0_fewestOf_10 : decode cX0_fewestOf 10 = .ok (.bipush 12, 2) := by decide +kernel
theorem dX0_fewestOf_12 : decode cX0_fewestOf 12 = .ok (.istore 5, 2) := by decide +kernel
theorem dX0_fewestOf_14 : decode cX0_fewestOf 14 = .ok (.iload 4, 2) := by decide +kernel
theorem dX0_fewestOf_16 : decode cX0_fewestOf 16 = .ok (.istore 6, 2) := by decide +kernel
theorem dX0_fewestOf_18 : decode cX0_fewestOf 18 = .ok (.iconst 1, 1) := by decide +kernel
theorem dX0_fewestOf_19 : decode cX0_fewestOf 19 = .ok (.iload 4, 2) := by decide +kernel
theorem dX0_fewestOf_21 : decode cX0_fewestOf 21 = .ok (.invokestatic 77, 3) := by decide +kernel
theorem dX0_fewestOf_24 : decode cX0_fewestOf 24 = .ok (.ishl, 1) := by decide +kernel
theorem dX0_fewestOf_25 : decode cX0_fewestOf 25 = .ok (.istore 7, 2) := by decide +kernel
theorem dX0_fewestOf_27 : decode cX0_fewestOf 27 = .ok (.iload 7, 2) := by decide +kernel
theorem dX0_fewestOf_29 : decode cX0_fewestOf 29 = .ok (.ifCond .le 56, 3) := by decide +kernel
theorem dX0_fewestOf_32 : decode cX0_fewestOf 32 = .ok (.aload_n 0, 1) := by decide +kernel
theorem dX0_fewestOf_33 : decode cX0_fewestOf 33 = .ok (.getfield 18, 3) := by decide +kernel
theorem dX0_fewestOf_36 : decode cX0_fewestOf 36 = .ok (.iload 6, 2) := by decide +kernel
theorem dX0_fewestOf_38 : decode cX0_fewestOf 38 = .ok (.iaload, 1) := by decide +kernel
theorem dX0_fewestOf_39 : decode cX0_fewestOf 39 = .ok (.iconst 1, 1) := by decide +kernel
theorem dX0_fewestOf_40 : decode cX0_fewestOf 40 = .ok (.iadd, 1) := by decide +kernel
theorem dX0_fewestOf_41 : decode cX0_fewestOf 41 = .ok (.iload 5, 2) := by decide +kernel
theorem dX0_fewestOf_43 : decode cX0_fewestOf 43 = .ok (.if_icmp .ge 27, 3) := by decide +kernel
theorem dX0_fewestOf_46 : decode cX0_fewestOf 46 = .ok (.aload_n 0, 1) := by decide +kernel
theorem dX0_fewestOf_47 : decode cX0_fewestOf 47 = .ok (.getfield 15, 3) := by decide +kernel
theorem dX0_fewestOf_50 : decode cX0_fewestOf 50 = .ok (.iload_n 1, 1) := by decide +kernel
theorem dX0_fewestOf_51 : decode cX0_fewestOf 51 = .ok (.iload 6, 2) := by decide +kernel
theorem dX0_fewestOf_53 : decode cX0_fewestOf 53 = .ok (.ixor, 1) := by decide +kernel
theorem dX0_fewestOf_54 : decode cX0_fewestOf 54 = .ok (.iaload, 1) := by decide +kernel
theorem dX0_fewestOf_55 : decode cX0_fewestOf 55 = .ok (.iload_n 2, 1) := by decide +kernel
theorem dX0_fewestOf_56 : decode cX0_fewestOf 56 = .ok (.if_icmp .gt 14, 3) := by decide +kernel
theorem dX0_fewestOf_59 : decode cX0_fewestOf 59 = .ok (.aload_n 0, 1) := by decide +kernel
theorem dX0_fewestOf_60 : decode cX0_fewestOf 60 = .ok (.getfield 18, 3) := by decide +kernel
theorem dX0_fewestOf_63 : decode cX0_fewestOf 63 = .ok (.iload 6, 2) := by decide +kernel
theorem dX0_fewestOf_65 : decode cX0_fewestOf 65 = .ok (.iaload, 1) := by decide +kernel
theorem dX0_fewestOf_66 : decode cX0_fewestOf 66 = .ok (.iconst 1, 1) := by decide +kernel
theorem dX0_fewestOf_67 : decode cX0_fewestOf 67 = .ok (.iadd, 1) := by decide +kernel
theorem dX0_fewestOf_68 : decode cX0_fewestOf 68 = .ok (.istore 5, 2) := by decide +kernel
theorem dX0_fewestOf_70 : decode cX0_fewestOf 70 = .ok (.iload 6, 2) := by decide +kernel
theorem dX0_fewestOf_72 : decode cX0_fewestOf 72 = .ok (.iconst 1, 1) := by decide +kernel
theorem dX0_fewestOf_73 : decode cX0_fewestOf 73 = .ok (.isub, 1) := by decide +kernel
theorem dX0_fewestOf_74 : decode cX0_fewestOf 74 = .ok (.iload 4, 2) := by decide +kernel
theorem dX0_fewestOf_76 : decode cX0_fewestOf 76 = .ok (.iand, 1) := by decide +kernel
theorem dX0_fewestOf_77 : decode cX0_fewestOf 77 = .ok (.istore 6, 2) := by decide +kernel
theorem dX0_fewestOf_79 : decode cX0_fewestOf 79 = .ok (.iinc 7 (-1), 3) := by decide +kernel
theorem dX0_fewestOf_82 : decode cX0_fewestOf 82 = .ok (.goto (-55), 3) := by decide +kernel
theorem dX0_fewestOf_85 : decode cX0_fewestOf 85 = .ok (.iload 5, 2) := by decide +kernel
theorem dX0_fewestOf_87 : decode cX0_fewestOf 87 = .ok (.ireturn, 1) := by decide +kernel
theorem dX0_fewestStacks_0 : decode cX0_fewestStacks 0 = .ok (.iconst 1, 1) := by decide +kernel
theorem dX0_fewestStacks_1 : decode cX0_fewestStacks 1 = .ok (.aload_n 0, 1) := by decide +kernel
theorem dX0_fewestStacks_2 : decode cX0_fewestStacks 2 = .ok (.getfield 31, 3) := by decide +kernel
theorem dX0_fewestStacks_5 : decode cX0_fewestStacks 5 = .ok (.ishl, 1) := by decide +kernel
theorem dX0_fewestStacks_6 : decode cX0_fewestStacks 6 = .ok (.iconst 1, 1) := by decide +kernel
theorem dX0_fewestStacks_7 : decode cX0_fewestStacks 7 = .ok (.isub, 1) := by decide +kernel
theorem dX0_fewestStacks_8 : decode cX0_fewestStacks 8 = .ok (.istore_n 2, 1) := by decide +kernel
theorem dX0_fewestStacks_9 : decode cX0_fewestStacks 9 = .ok (.aload_n 0, 1) := by decide +kernel
theorem dX0_fewestStacks_10 : decode cX0_fewestStacks 10 = .ok (.getfield 18, 3) := by decide +kernel
theorem dX0_fewestStacks_13 : decode cX0_fewestStacks 13 = .ok (.iconst 0, 1) := by decide +kernel
theorem dX0_fewestStacks_14 : decode cX0_fewestStacks 14 = .ok (.iconst 0, 1) := by decide +kernel
theorem dX0_fewestStacks_15 : decode cX0_fewestStacks 15 = .ok (.iastore, 1) := by decide +kernel
theorem dX0_fewestStacks_16 : decode cX0_fewestStacks 16 = .ok (.iconst 1, 1) := by decide +kernel
theorem dX0_fewestStacks_17 : decode cX0_fewestStacks 17 = .ok (.istore_n 3, 1) := by decide +kernel
theorem dX0_fewestStacks_18 : decode cX0_fewestStacks 18 = .ok (.iload_n 3, 1) := by decide +kernel
theorem dX0_fewestStacks_19 : decode cX0_fewestStacks 19 = .ok (.iload_n 2, 1) := by decide +kernel
theorem dX0_fewestStacks_20 : decode cX0_fewestStacks 20 = .ok (.if_icmp .gt 32, 3) := by decide +kernel
theorem dX0_fewestStacks_23 : decode cX0_fewestStacks 23 = .ok (.iload_n 3, 1) := by decide +kernel
theorem dX0_fewestStacks_24 : decode cX0_fewestStacks 24 = .ok (.iconst 1, 1) := by decide +kernel
theorem dX0_fewestStacks_25 : decode cX0_fewestStacks 25 = .ok (.iand, 1) := by decide +kernel
theorem dX0_fewestStacks_26 : decode cX0_fewestStacks 26 = .ok (.ifCond .eq 8, 3) := by decide +kernel
theorem dX0_fewestStacks_29 : decode cX0_fewestStacks 29 = .ok (.iload_n 3, 1) := by decide +kernel
theorem dX0_fewestStacks_30 : decode cX0_fewestStacks 30 = .ok (.iload_n 2, 1) := by decide +kernel
theorem dX0_fewestStacks_31 : decode cX0_fewestStacks 31 = .ok (.if_icmp .ne 15, 3) := by decide +kernel
theorem dX0_fewestStacks_34 : decode cX0_fewestStacks 34 = .ok (.aload_n 0, 1) := by decide +kernel
theorem dX0_fewestStacks_35 : decode cX0_fewestStacks 35 = .ok (.getfield 18, 3) := by decide +kernel
theorem dX0_fewestStacks_38 : decode cX0_fewestStacks 38 = .ok (.iload_n 3, 1) := by decide +kernel
theorem dX0_fewestStacks_39 : decode cX0_fewestStacks 39 = .ok (.aload_n 0, 1) := by decide +kernel
theorem dX0_fewestStacks_40 : decode cX0_fewestStacks 40 = .ok (.iload_n 3, 1) := by decide +kernel
theorem dX0_fewestStacks_41 : decode cX0_fewestStacks 41 = .ok (.iload_n 1, 1) := by decide +kernel
theorem dX0_fewestStacks_42 : decode cX0_fewestStacks 42 = .ok (.invokevirtual 69, 3) := by decide +kernel
theorem dX0_fewestStacks_45 : decode cX0_fewestStacks 45 = .ok (.iastore, 1) := by decide +kernel
theorem dX0_fewestStacks_46 : decode cX0_fewestStacks 46 = .ok (.iinc 3 1, 3) := by decide +kernel
theorem dX0_fewestStacks_49 : decode cX0_fewestStacks 49 = .ok (.goto (-31), 3) := by decide +kernel
theorem dX0_fewestStacks_52 : decode cX0_fewestStacks 52 = .ok (.aload_n 0, 1) := by decide +kernel
theorem dX0_fewestStacks_53 : decode cX0_fewestStacks 53 = .ok (.getfield 18, 3) := by decide +kernel
theorem dX0_fewestStacks_56 : decode cX0_fewestStacks 56 = .ok (.iload_n 2, 1) := by decide +kernel
theorem dX0_fewestStacks_57 : decode cX0_fewestStacks 57 = .ok (.iaload, 1) := by decide +kernel
theorem dX0_fewestStacks_58 : decode cX0_fewestStacks 58 = .ok (.ireturn, 1) := by decide +kernel
set_option maxHeartbeats 4000000 in
set_option maxRecDepth 100000 in
theorem c_J6_lowestOneBit_0f7a4 (l : Launch) (D : DG) (cyC cyI cyJ cyZ cyO : ClassId) (p0 : Int32) (h_p0 : 0 ≤ (p0).toInt ∧ (p0).toInt ≤ 4095) : KK l D (TY cyC cyI cyJ cyZ cyO) yJ6_lowestOneBit_0f7a4 cJ6_lowestOneBit_0f7a4 1 (some .int) ({ frames := 0, cells := 0, slots := 0, locals := 0 } : Room) 0 0 [.int p0] [] (fun u => some (.int (u.2.1 0))) (fun u => (0 ≤ (u.2.1 0).toInt ∧ (u.2.1 0).toInt ≤ 4095) ∧ ((u.2.1 0).toInt ≤ (p0).toInt)) (fun u => []) := by
  refine KK.of (lv0 := [(0, .int p0)]) (by decide) rfl (Nat.le_of_ble_eq_true rfl) ?_
  intro p e s m args below meth c A C hr hk hin
  refine j_iload_n (pc := 0) C dJ6_lowestOneBit_0f7a4_0 rfl 0 rfl ?_
  refine j_iload_n (pc := 1) C dJ6_lowestOneBit_0f7a4_1 rfl 0 rfl ?_
  obtain ⟨v_1, ev_1⟩ : ∃ z : Int32, -p0 = z := ⟨_, rfl⟩
  refine j_ineg (pc := 2) (v := v_1) C dJ6_lowestOneBit_0f7a4_2 ev_1 ?_
  obtain ⟨v_2, ev_2⟩ : ∃ z : Int32, p0 &&& v_1 = z := ⟨_, rfl⟩
  have hv_2 : 0 ≤ v_2.toInt ∧ v_2.toInt ≤ p0.toInt := by rw [← ev_2]; exact andb_l (by omega)
  refine j_iand (pc := 3) (v := v_2) C dJ6_lowestOneBit_0f7a4_3 ev_2 ?_
  exact j_iret (pc := 4) C hr hk (fun i => [].getD i 0, fun i => [v_2].getD i 0, fun i => [].getD i (fun _ => 0), fun i => [].getD i (fun _ => 0)) rfl (show (0 ≤ (v_2).toInt ∧ (v_2).toInt ≤ 4095) ∧ (v_2.toInt ≤ (p0).toInt) from ⟨by omega, by omega⟩) [] (by decide) rfl (by decide) (by decide) dJ6_lowestOneBit_0f7a4_4
set_option maxHeartbeats 4000000 in
set_option maxRecDepth 100000 in
theorem c_X0_rimOver (l : Launch) (D : DG) (cyC cyI cyJ cyZ cyO : ClassId) (h0 : Nat) (h1 : Nat) (a0 : Nat) (a1 : Nat) (a2 : Nat) (a7 : Nat) (h2 : Nat) (h3 : Nat) (a3 : Nat) (a4 : Nat) (a5 : Nat) (a6 : Nat) (a8 : Nat) (a9 : Nat) (a10 : Nat) (h_r : Nat) (p1 : Int32) (p2 : Int32) (h_known : Int32) (h_wares : Int32) (a_wares : Int32) (a_shelves : Int32) (a_nests : Int32) (a_lids : Int32) (a_tops : Int32) (h_leastRim : Nat → Int32) (a_wide : Nat → Int32) (a_deep : Nat → Int32) (a_mayOn : Nat → Int32) (h_h_known : 0 ≤ (h_known).toInt ∧ (h_known).toInt ≤ 1) (h_h_wares : 0 ≤ (h_wares).toInt ∧ (h_wares).toInt ≤ 12) (h_a_wares : 0 ≤ (a_wares).toInt ∧ (a_wares).toInt ≤ 12) (h_a_shelves : 0 ≤ (a_shelves).toInt ∧ (a_shelves).toInt ≤ 4) (h_a_nests : 0 ≤ (a_nests).toInt ∧ (a_nests).toInt ≤ 4) (h_p1 : 0 ≤ (p1).toInt ∧ (p1).toInt ≤ 11) (h_p2 : 0 ≤ (p2).toInt ∧ (p2).toInt ≤ 4095) (hlr : (2 : Int) ^ (h_wares).toInt.toNat * (h_wares).toInt ≤ (h_r : Int)) (hbr : h_r ≤ 49152) (hset : (p2).toInt < (2 : Int) ^ (h_wares).toInt.toNat) : KK l D (TY cyC cyI cyJ cyZ cyO) yX0_rimOver cX0_rimOver 8 (some .int) ({ frames := 1, cells := 0, slots := 0, locals := 23 } : Room) 0 0 [.ref h0, .ref a0, .int p1, .int p2] [(h0, .inr (0, [.int h_known, .int h_wares, .ref h1, .ref h2, .ref h3])), (h1, .inl (cyI, h_r, .inl h_leastRim)), (a0, .inr (9, [.int a_wares, .int a_shelves, .int a_nests, .ref a1, .ref a2, .ref a3, .ref a4, .ref a5, .ref a6, .int a_lids, .int a_tops, .ref a7, .ref a8, .ref a9, .ref a10])), (a1, .inl (cyI, 12, .inl a_wide)), (a2, .inl (cyI, 12, .inl a_deep)), (a7, .inl (cyI, 12, .inl a_mayOn))] (fun u => some (.int (u.2.1 0))) (fun u => True) (fun u => [(h0, .inr (0, [.int h_known, .int h_wares, .ref h1, .ref h2, .ref h3])), (h1, .inl (cyI, h_r, .inl h_leastRim)), (a0, .inr (9, [.int a_wares, .int a_shelves, .int a_nests, .ref a1, .ref a2, .ref a3, .ref a4, .ref a5, .ref a6, .int a_lids, .int a_tops, .ref a7, .ref a8, .ref a9, .ref a10])), (a1, .inl (cyI, 12, .inl a_wide)), (a2, .inl (cyI, 12, .inl a_deep)), (a7, .inl (cyI, 12, .inl a_mayOn))]) := by
  refine KK.of (lv0 := [(0, .ref h0), (1, .ref a0), (2, .int p1), (3, .int p2)]) (by decide) rfl (Nat.le_of_ble_eq_true rfl) ?_
  intro p e s m args below meth c A C hr hk hin
  have hpw1 := pw1 (h_wares).toInt.toNat
  refine j_aload_n (pc := 0) C dX0_rimOver_0 rfl 1 rfl ?_
  refine j_get (pc := 1) (ci := 9) (v := .ref a2) C inw_9 2 rfl rfl 4 (by decide) wd_153 rfl rfl dX0_rimOver_1 ?_
  refine j_iload_n (pc := 4) C dX0_rimOver_4 rfl 2 rfl ?_
  obtain ⟨v_1, ev_1⟩ : ∃ z, a_deep (p1).toInt.toNat = z := ⟨_, rfl⟩
  have env_1 : (a_deep (p1).toInt.toNat).toInt = v_1.toInt := by rw [ev_1]
  refine j_iald (pc := 5) (v := v_1) (k := (p1).toInt.toNat) C 4 1 rfl rfl (i_nn h_p1.1) rfl (i_lt_n h_p1.1 (Int.lt_of_le_of_lt h_p1.2 (by decide))) ev_1 dX0_rimOver_5 ?_
  refine j_istore (pc := 6) (lv' := [(4, .int v_1), (0, .ref h0), (1, .ref a0), (2, .int p1), (3, .int p2)]) C dX0_rimOver_6 (by decide) rfl ?_
  refine j_iload_n (pc := 8) C dX0_rimOver_8 rfl 4 rfl ?_
  refine j_if_ne (pc := 9) (tgt := 15) C dX0_rimOver_9 (by decide) (fun c_2 => ?_) (fun c_2 => ?_)
  · skip
    have el_0 : (0 : Int32).toInt = 0 := rfl
    rw [i_eq] at c_2
    refine j_iload_n (pc := 15) C dX0_rimOver_15 rfl 4 rfl ?_
    refine j_aload_n (pc := 16) C dX0_rimOver_16 rfl 2 rfl ?_
    refine j_get (pc := 17) (ci := 9) (v := .ref a7) C inw_9 2 rfl rfl 11 (by decide) wd_154 rfl rfl dX0_rimOver_17 ?_
    refine j_iload_n (pc := 20) C dX0_rimOver_20 rfl 3 rfl ?_
    obtain ⟨v_3, ev_3⟩ : ∃ z, a_mayOn (p1).toInt.toNat = z := ⟨_, rfl⟩
    have env_3 : (a_mayOn (p1).toInt.toNat).toInt = v_3.toInt := by rw [ev_3]
    refine j_iald (pc := 21) (v := v_3) (k := (p1).toInt.toNat) C 5 1 rfl rfl (i_nn h_p1.1) rfl (i_lt_n h_p1.1 (Int.lt_of_le_of_lt h_p1.2 (by decide))) ev_3 dX0_rimOver_21 ?_
    obtain ⟨v_4, ev_4⟩ : ∃ z : Int32, p2 &&& v_3 = z := ⟨_, rfl⟩
    have hv_4 : 0 ≤ v_4.toInt ∧ v_4.toInt ≤ p2.toInt := by rw [← ev_4]; exact andb_l (by omega)
    refine j_iand (pc := 22) (v := v_4) C dX0_rimOver_22 ev_4 ?_
    refine j_istore (pc := 23) (lv' := [(5, .int v_4), (4, .int v_1), (0, .ref h0), (1, .ref a0), (2, .int p1), (3, .int p2)]) C dX0_rimOver_23 (by decide) rfl ?_
    refine j_ldc (pc := 25) C wd_155 dX0_rimOver_25 ?_
    refine j_istore (pc := 27) (lv' := [(6, .int 1000000), (5, .int v_4), (4, .int v_1), (0, .ref h0), (1, .ref a0), (2, .int p1), (3, .int p2)]) C dX0_rimOver_27 (by decide) rfl ?_
    refine j_iconst (pc := 29) (v := 0) C dX0_rimOver_29 (by decide) ?_
    refine j_istore (pc := 30) (lv' := [(7, .int 0), (6, .int 1000000), (5, .int v_4), (4, .int v_1), (0, .ref h0), (1, .ref a0), (2, .int p1), (3, .int p2)]) C dX0_rimOver_30 (by decide) rfl ?_
    have loop_5 : ∀ (k_5 : Nat) (x5_7 : Int32) (x5_6 : Int32), (0 ≤ (x5_7).toInt ∧ (x5_7).toInt ≤ 12) → (12 - x5_7.toInt).toNat < k_5 → J p l e ({ frames := 1, cells := 0, slots := 0, locals := 23 } : Room) s m args below meth c D A 8 0 0 (QX below D (TY cyC cyI cyJ cyZ cyO) A (fun u => some (.int (u.2.1 0))) (fun u => True) (fun u => [(h0, .inr (0, [.int h_known, .int h_wares, .ref h1, .ref h2, .ref h3])), (h1, .inl (cyI, h_r, .inl h_leastRim)), (a0, .inr (9, [.int a_wares, .int a_shelves, .int a_nests, .ref a1, .ref a2, .ref a3, .ref a4, .ref a5, .ref a6, .int a_lids, .int a_tops, .ref a7, .ref a8, .ref a9, .ref a10])), (a1, .inl (cyI, 12, .inl a_wide)), (a2, .inl (cyI, 12, .inl a_deep)), (a7, .inl (cyI, 12, .inl a_mayOn))]) args s 0 0) [(h0, .inr (0, [.int h_known, .int h_wares, .ref h1, .ref h2, .ref h3])), (h1, .inl (cyI, h_r, .inl h_leastRim)), (a0, .inr (9, [.int a_wares, .int a_shelves, .int a_nests, .ref a1, .ref a2, .ref a3, .ref a4, .ref a5, .ref a6, .int a_lids, .int a_tops, .ref a7, .ref a8, .ref a9, .ref a10])), (a1, .inl (cyI, 12, .inl a_wide)), (a2, .inl (cyI, 12, .inl a_deep)), (a7, .inl (cyI, 12, .inl a_mayOn))] 32 [(7, .int x5_7), (6, .int x5_6), (5, .int v_4), (4, .int v_1), (0, .ref h0), (1, .ref a0), (2, .int p1), (3, .int p2)] [] := by
      intro k_5
      induction k_5 with
      | zero =>
        intro x5_7 x5_6 hi_5_0 hm_5
        exact absurd hm_5 (Nat.not_lt_zero _)
      | succ k_5 ih_5 =>
        intro x5_7 x5_6 hi_5_0 hm_5
        refine j_iload (pc := 32) C dX0_rimOver_32 0 rfl ?_
        refine j_aload_n (pc := 34) C dX0_rimOver_34 rfl 4 rfl ?_
        refine j_get (pc := 35) (ci := 0) (v := .int h_wares) C inw_0 0 rfl rfl 1 (by decide) wd_156 rfl rfl dX0_rimOver_35 ?_
        refine j_icmp_ge (pc := 38) (tgt := 87) C dX0_rimOver_38 (by decide) (fun c_6 => ?_) (fun c_6 => ?_)
        · skip
          rw [i_le] at c_6
          refine j_iload (pc := 87) C dX0_rimOver_87 3 rfl ?_
          refine j_iload (pc := 89) C dX0_rimOver_89 1 rfl ?_
          obtain ⟨v_7, ev_7⟩ : ∃ z : Int32, (if (v_1 : Int32) < x5_6 then x5_6 else v_1) = z := ⟨_, rfl⟩
          refine j_mmax (pc := 91) (v := v_7) C wd_157 wd_5 wd_6 wd_7 (by decide) (Nat.le_of_ble_eq_true rfl) (by decide) (by decide) ev_7 dX0_rimOver_91 ?_
          exact j_iret (pc := 94) C hr hk (fun i => [].getD i 0, fun i => [v_7].getD i 0, fun i => [].getD i (fun _ => 0), fun i => [].getD i (fun _ => 0)) rfl trivial [0, 1, 2, 3, 4, 5] (by decide) rfl (by decide) (by decide) dX0_rimOver_94
        · skip
          rw [i_le] at c_6
          refine j_iload (pc := 41) C dX0_rimOver_41 2 rfl ?_
          refine j_iload (pc := 43) C dX0_rimOver_43 0 rfl ?_
          obtain ⟨v_8, ev_8⟩ : ∃ z : Int32, ((v_4 : Int32).toUInt32 >>> ((x5_7 : Int32).toUInt32 &&& Int32.toUInt32 31)).toInt32 = z := ⟨_, rfl⟩
          refine j_iushr (pc := 45) (v := v_8) C dX0_rimOver_45 ev_8 ?_
          refine j_iconst (pc := 46) (v := 1) C dX0_rimOver_46 (by decide) ?_
          obtain ⟨v_9, ev_9⟩ : ∃ z : Int32, v_8 &&& 1 = z := ⟨_, rfl⟩
          have el_1 : (1 : Int32).toInt = 1 := rfl
          have hv_9 : 0 ≤ v_9.toInt ∧ v_9.toInt ≤ 1 := by rw [← ev_9]; exact and1_r _
          refine j_iand (pc := 47) (v := v_9) C dX0_rimOver_47 ev_9 ?_
          refine j_iconst (pc := 48) (v := 1) C dX0_rimOver_48 (by decide) ?_
          refine j_icmp_ne (pc := 49) (tgt := 81) C dX0_rimOver_49 (by decide) (fun c_10 => ?_) (fun c_10 => ?_)
          · skip
            have el_1 : (1 : Int32).toInt = 1 := rfl
            rw [i_eq] at c_10
            have k0c_10 : v_9.toInt = 0 := by omega
            obtain ⟨v_11, ev_11⟩ : ∃ z : Int32, x5_7 + 1 = z := ⟨_, rfl⟩
            have el_1 : (1 : Int32).toInt = 1 := rfl
            have hv_11 : v_11.toInt = x5_7.toInt + (1 : Int32).toInt := by rw [← ev_11]; exact fb_addI (by omega) (by omega)
            refine j_iinc (pc := 81) (v := v_11) (lv' := [(7, .int v_11), (6, .int x5_6), (5, .int v_4), (4, .int v_1), (0, .ref h0), (1, .ref a0), (2, .int p1), (3, .int p2)]) C dX0_rimOver_81 0 rfl ev_11 (by decide) rfl ?_
            refine j_goto (pc := 84) (tgt := 32) C dX0_rimOver_84 (by decide) ?_
            exact j_lv [0, 1, 2, 3, 4, 5, 6, 7] rfl (ih_5 v_11 x5_6 (by omega) (by omega))
          · skip
            have el_1 : (1 : Int32).toInt = 1 := rfl
            rw [i_eq] at c_10
            refine j_iload (pc := 52) C dX0_rimOver_52 1 rfl ?_
            refine j_aload_n (pc := 54) C dX0_rimOver_54 rfl 5 rfl ?_
            refine j_iload (pc := 55) C dX0_rimOver_55 0 rfl ?_
            refine j_iload_n (pc := 57) C dX0_rimOver_57 rfl 6 rfl ?_
            refine j_callV (pc := 58) (As := [.int x5_7, .int p1]) (rest := [.int x5_6]) (wr := [(h0, .inr (0, [.int h_known, .int h_wares, .ref h1, .ref h2, .ref h3])), (h1, .inl (cyI, h_r, .inl h_leastRim)), (a7, .inl (cyI, 12, .inl a_mayOn))]) C (c_X9_rise l D cyC cyI cyJ cyZ cyO a0 a1 a2 a3 a4 a5 a6 a7 a8 a9 a10 x5_7 p1 a_wares a_shelves a_nests a_lids a_tops a_wide a_deep h_a_wares h_a_shelves h_a_nests (by omega) h_p1) wd_32 wd_33 wd_158 wd_35 wd_36 ⟨by decide, by decide, rfl⟩ rfl ⟨rfl, rfl, by decide, by decide⟩ ⟨by decide, by decide⟩ [2, 3, 4] [0, 1, 5] rfl rfl ⟨by decide, by decide, by decide⟩ 2 rfl rfl rfl (Nat.le_of_ble_eq_true rfl) dX0_rimOver_58 (fun u_12 hw_13 => ?_)
            refine j_eq (ws2 := [(h0, .inr (0, [.int h_known, .int h_wares, .ref h1, .ref h2, .ref h3])), (h1, .inl (cyI, h_r, .inl h_leastRim)), (a7, .inl (cyI, 12, .inl a_mayOn)), (a0, .inr (9, [.int a_wares, .int a_shelves, .int a_nests, .ref a1, .ref a2, .ref a3, .ref a4, .ref a5, .ref a6, .int a_lids, .int a_tops, .ref a7, .ref a8, .ref a9, .ref a10])), (a1, .inl (cyI, 12, .inl a_wide)), (a2, .inl (cyI, 12, .inl a_deep))]) (pc2 := 61) (lv2 := [(7, .int x5_7), (6, .int x5_6), (5, .int v_4), (4, .int v_1), (0, .ref h0), (1, .ref a0), (2, .int p1), (3, .int p2)]) (st2 := [.int (u_12.2.1 0), .int x5_6]) rfl rfl rfl rfl ?_
            have hw_13_0 : (u_12.2.1 0) = (rsC a_wide a_deep a_lids) (x5_7).toInt.toNat (p1).toInt.toNat := hw_13
            refine j_aload_n (pc := 61) C dX0_rimOver_61 rfl 4 rfl ?_
            refine j_get (pc := 62) (ci := 0) (v := .ref h1) C inw_0 0 rfl rfl 2 (by decide) wd_159 rfl rfl dX0_rimOver_62 ?_
            refine j_iload_n (pc := 65) C dX0_rimOver_65 rfl 7 rfl ?_
            refine j_aload_n (pc := 66) C dX0_rimOver_66 rfl 4 rfl ?_
            refine j_get (pc := 67) (ci := 0) (v := .int h_wares) C inw_0 0 rfl rfl 1 (by decide) wd_156 rfl rfl dX0_rimOver_67 ?_
            obtain ⟨v_14, ev_14⟩ : ∃ z : Int32, p2 * h_wares = z := ⟨_, rfl⟩
            obtain ⟨hv_14, hv_14a, hv_14b⟩ := mulS (x := p2) (y := h_wares) (by omega) (by omega) (by omega) (by omega)
            rw [ev_14] at hv_14
            have hv_14c := ix_mul (x := p2.toInt) (w := h_wares.toInt) (S := 2 ^ (h_wares).toInt.toNat) (r := (h_r : Nat)) (by omega) (by omega) (by omega) (by omega)
            refine j_imul (pc := 70) (v := v_14) C dX0_rimOver_70 ev_14 ?_
            refine j_iload (pc := 71) C dX0_rimOver_71 0 rfl ?_
            obtain ⟨v_15, ev_15⟩ : ∃ z : Int32, v_14 + x5_7 = z := ⟨_, rfl⟩
            have hv_15 : v_15.toInt = v_14.toInt + x5_7.toInt := by rw [← ev_15]; exact fb_addI (by omega) (by omega)
            refine j_iadd (pc := 73) (v := v_15) C dX0_rimOver_73 ev_15 ?_
            obtain ⟨v_16, ev_16⟩ : ∃ z, h_leastRim (v_15).toInt.toNat = z := ⟨_, rfl⟩
            have env_16 : (h_leastRim (v_15).toInt.toNat).toInt = v_16.toInt := by rw [ev_16]
            refine j_iald (pc := 74) (v := v_16) (k := (v_15).toInt.toNat) C 1 1 rfl rfl (i_nn (by omega)) rfl (i_lt_n (by omega) (by omega)) ev_16 dX0_rimOver_74 ?_
            obtain ⟨v_17, ev_17⟩ : ∃ z : Int32, (u_12.2.1 0) + v_16 = z := ⟨_, rfl⟩
            refine j_iadd (pc := 75) (v := v_17) C dX0_rimOver_75 ev_17 ?_
            obtain ⟨v_18, ev_18⟩ : ∃ z : Int32, (if (v_17 : Int32) < x5_6 then v_17 else x5_6) = z := ⟨_, rfl⟩
            refine j_mmin (pc := 76) (v := v_18) C wd_160 wd_139 wd_6 wd_140 (by decide) (Nat.le_of_ble_eq_true rfl) (by decide) (by decide) ev_18 dX0_rimOver_76 ?_
            refine j_istore (pc := 79) (lv' := [(6, .int v_18), (7, .int x5_7), (5, .int v_4), (4, .int v_1), (0, .ref h0), (1, .ref a0), (2, .int p1), (3, .int p2)]) C dX0_rimOver_79 (by decide) rfl ?_
            obtain ⟨v_19, ev_19⟩ : ∃ z : Int32, x5_7 + 1 = z := ⟨_, rfl⟩
            have el_1 : (1 : Int32).toInt = 1 := rfl
            have hv_19 : v_19.toInt = x5_7.toInt + (1 : Int32).toInt := by rw [← ev_19]; exact fb_addI (by omega) (by omega)
            refine j_iinc (pc := 81) (v := v_19) (lv' := [(7, .int v_19), (6, .int v_18), (5, .int v_4), (4, .int v_1), (0, .ref h0), (1, .ref a0), (2, .int p1), (3, .int p2)]) C dX0_rimOver_81 1 rfl ev_19 (by decide) rfl ?_
            refine j_goto (pc := 84) (tgt := 32) C dX0_rimOver_84 (by decide) ?_
            refine j_subG (ws' := [(h0, .inr (0, [.int h_known, .int h_wares, .ref h1, .ref h2, .ref h3])), (h1, .inl (cyI, h_r, .inl h_leastRim)), (a0, .inr (9, [.int a_wares, .int a_shelves, .int a_nests, .ref a1, .ref a2, .ref a3, .ref a4, .ref a5, .ref a6, .int a_lids, .int a_tops, .ref a7, .ref a8, .ref a9, .ref a10])), (a1, .inl (cyI, 12, .inl a_wide)), (a2, .inl (cyI, 12, .inl a_deep)), (a7, .inl (cyI, 12, .inl a_mayOn))]) [0, 1, 3, 4, 5, 2] (by decide) rfl ?_
            exact j_lv [0, 1, 2, 3, 4, 5, 6, 7] rfl (ih_5 v_19 v_18 (by omega) (by omega))
    have el_0 : (0 : Int32).toInt = 0 := rfl
    have el_1000000 : (1000000 : Int32).toInt = 1000000 := rfl
    exact j_lv [0, 1, 2, 3, 4, 5, 6, 7] rfl (loop_5 4096 0 1000000 (by decide) (by omega))
  · skip
    have el_0 : (0 : Int32).toInt = 0 := rfl
    rw [i_eq] at c_2
    refine j_iload (pc := 12) C dX0_rimOver_12 0 rfl ?_
    exact j_iret (pc := 14) C hr hk (fun i => [].getD i 0, fun i => [v_1].getD i 0, fun i => [].getD i (fun _ => 0), fun i => [].getD i (fun _ => 0)) rfl trivial [0, 1, 2, 3, 4, 5] (by decide) rfl (by decide) (by decide) dX0_rimOver_14
set_option maxHeartbeats 4000000 in
set_option maxRecDepth 100000 in
theorem c_X0_settleSet (l : Launch) (D : DG) (cyC cyI cyJ cyZ cyO : ClassId) (h0 : Nat) (h1 : Nat) (h2 : Nat) (a0 : Nat) (a1 : Nat) (a2 : Nat) (a3 : Nat) (a4 : Nat) (a7 : Nat) (h3 : Nat) (a5 : Nat) (a6 : Nat) (a8 : Nat) (a9 : Nat) (a10 : Nat) (h_r : Nat) (h_n : Nat) (p1 : Int32) (h_known : Int32) (h_wares : Int32) (a_wares : Int32) (a_shelves : Int32) (a_nests : Int32) (a_lids : Int32) (a_tops : Int32) (h_leastRim : Nat → Int32) (h_least : Nat → Int32) (a_wide : Nat → Int32) (a_deep : Nat → Int32) (a_weight : Nat → Int32) (a_bears : Nat → Int32) (a_mayOn : Nat → Int32) (h_h_known : 0 ≤ (h_known).toInt ∧ (h_known).toInt ≤ 1) (h_h_wares : 0 ≤ (h_wares).toInt ∧ (h_wares).toInt ≤ 12) (h_a_wares : 0 ≤ (a_wares).toInt ∧ (a_wares).toInt ≤ 12) (h_a_shelves : 0 ≤ (a_shelves).toInt ∧ (a_shelves).toInt ≤ 4) (h_a_nests : 0 ≤ (a_nests).toInt ∧ (a_nests).toInt ≤ 4) (h_p1 : 1 ≤ (p1).toInt ∧ (p1).toInt ≤ 4095) (hln : (2 : Int) ^ (h_wares).toInt.toNat ≤ (h_n : Int)) (hlr : (2 : Int) ^ (h_wares).toInt.toNat * (h_wares).toInt ≤ (h_r : Int)) (hbn : h_n ≤ 4096) (hbr : h_r ≤ 49152) (hset : (p1).toInt < (2 : Int) ^ (h_wares).toInt.toNat) : KK l D (TY cyC cyI cyJ cyZ cyO) yX0_settleSet cX0_settleSet 8 none ({ frames := 2, cells := 0, slots := 0, locals := 50 } : Room) 0 0 [.ref h0, .ref a0, .int p1] [(h0, .inr (0, [.int h_known, .int h_wares, .ref h1, .ref h2, .ref h3])), (h1, .inl (cyI, h_r, .inl h_leastRim)), (h2, .inl (cyI, h_n, .inl h_least)), (a0, .inr (9, [.int a_wares, .int a_shelves, .int a_nests, .ref a1, .ref a2, .ref a3, .ref a4, .ref a5, .ref a6, .int a_lids, .int a_tops, .ref a7, .ref a8, .ref a9, .ref a10])), (a1, .inl (cyI, 12, .inl a_wide)), (a2, .inl (cyI, 12, .inl a_deep)), (a3, .inl (cyI, 12, .inl a_weight)), (a4, .inl (cyI, 12, .inl a_bears)), (a7, .inl (cyI, 12, .inl a_mayOn))] (fun u => none) (fun u => True) (fun u => [(h0, .inr (0, [.int h_known, .int h_wares, .ref h1, .ref h2, .ref h3])), (h1, .inl (cyI, h_r, .inl (u.2.2.1 0))), (h2, .inl (cyI, h_n, .inl (u.2.2.1 1))), (a0, .inr (9, [.int a_wares, .int a_shelves, .int a_nests, .ref a1, .ref a2, .ref a3, .ref a4, .ref a5, .ref a6, .int a_lids, .int a_tops, .ref a7, .ref a8, .ref a9, .ref a10])), (a1, .inl (cyI, 12, .inl a_wide)), (a2, .inl (cyI, 12, .inl a_deep)), (a3, .inl (cyI, 12, .inl a_weight)), (a4, .inl (cyI, 12, .inl a_bears)), (a7, .inl (cyI, 12, .inl a_mayOn))]) := by
  refine KK.of (lv0 := [(0, .ref h0), (1, .ref a0), (2, .int p1)]) (by decide) rfl (Nat.le_of_ble_eq_true rfl) ?_
  intro p e s m args below meth c A C hr hk hin
  have hpw1 := pw1 (h_wares).toInt.toNat
  refine j_aload_n (pc := 0) C dX0_settleSet_0 rfl 1 rfl ?_
  refine j_iload_n (pc := 1) C dX0_settleSet_1 rfl 2 rfl ?_
  refine j_callV (pc := 2) (As := [.int p1]) (rest := []) (wr := [(h0, .inr (0, [.int h_known, .int h_wares, .ref h1, .ref h2, .ref h3])), (h1, .inl (cyI, h_r, .inl h_leastRim)), (h2, .inl (cyI, h_n, .inl h_least)), (a1, .inl (cyI, 12, .inl a_wide)), (a2, .inl (cyI, 12, .inl a_deep)), (a4, .inl (cyI, 12, .inl a_bears)), (a7, .inl (cyI, 12, .inl a_mayOn))]) C (c_X9_weightOf l D cyC cyI cyJ cyZ cyO a0 a3 a1 a2 a4 a5 a6 a7 a8 a9 a10 p1 a_wares a_shelves a_nests a_lids a_tops a_weight h_a_wares h_a_shelves h_a_nests) wd_110 wd_33 wd_161 wd_112 wd_113 ⟨by decide, by decide, rfl⟩ rfl ⟨rfl, rfl, by decide, by decide⟩ ⟨by decide, by decide⟩ [3, 6] [0, 1, 2, 4, 5, 7, 8] rfl rfl ⟨by decide, by decide, by decide⟩ 3 rfl rfl rfl (Nat.le_of_ble_eq_true rfl) dX0_settleSet_2 (fun u_1 hw_2 => ?_)
  refine j_eq (ws2 := [(h0, .inr (0, [.int h_known, .int h_wares, .ref h1, .ref h2, .ref h3])), (h1, .inl (cyI, h_r, .inl h_leastRim)), (h2, .inl (cyI, h_n, .inl h_least)), (a1, .inl (cyI, 12, .inl a_wide)), (a2, .inl (cyI, 12, .inl a_deep)), (a4, .inl (cyI, 12, .inl a_bears)), (a7, .inl (cyI, 12, .inl a_mayOn)), (a0, .inr (9, [.int a_wares, .int a_shelves, .int a_nests, .ref a1, .ref a2, .ref a3, .ref a4, .ref a5, .ref a6, .int a_lids, .int a_tops, .ref a7, .ref a8, .ref a9, .ref a10])), (a3, .inl (cyI, 12, .inl a_weight))]) (pc2 := 5) (lv2 := [(0, .ref h0), (1, .ref a0), (2, .int p1)]) (st2 := [.int (u_1.2.1 0)]) rfl rfl rfl rfl ?_
  refine j_istore_n (pc := 5) (lv' := [(3, .int (u_1.2.1 0)), (0, .ref h0), (1, .ref a0), (2, .int p1)]) C dX0_settleSet_5 rfl (by decide) rfl ?_
  refine j_ldc (pc := 6) C wd_155 dX0_settleSet_6 ?_
  refine j_istore (pc := 8) (lv' := [(4, .int 1000000), (3, .int (u_1.2.1 0)), (0, .ref h0), (1, .ref a0), (2, .int p1)]) C dX0_settleSet_8 (by decide) rfl ?_
  refine j_iconst (pc := 10) (v := 0) C dX0_settleSet_10 (by decide) ?_
  refine j_istore (pc := 11) (lv' := [(5, .int 0), (4, .int 1000000), (3, .int (u_1.2.1 0)), (0, .ref h0), (1, .ref a0), (2, .int p1)]) C dX0_settleSet_11 (by decide) rfl ?_
  have loop_3 : ∀ (k_3 : Nat) (x3_5 : Int32) (x3_4 : Int32) (g3_h1 : Nat → Int32), (0 ≤ (x3_5).toInt ∧ (x3_5).toInt ≤ 12) → (12 - x3_5.toInt).toNat < k_3 → J p l e ({ frames := 2, cells := 0, slots := 0, locals := 50 } : Room) s m args below meth c D A 8 0 0 (QX below D (TY cyC cyI cyJ cyZ cyO) A (fun u => none) (fun u => True) (fun u => [(h0, .inr (0, [.int h_known, .int h_wares, .ref h1, .ref h2, .ref h3])), (h1, .inl (cyI, h_r, .inl (u.2.2.1 0))), (h2, .inl (cyI, h_n, .inl (u.2.2.1 1))), (a0, .inr (9, [.int a_wares, .int a_shelves, .int a_nests, .ref a1, .ref a2, .ref a3, .ref a4, .ref a5, .ref a6, .int a_lids, .int a_tops, .ref a7, .ref a8, .ref a9, .ref a10])), (a1, .inl (cyI, 12, .inl a_wide)), (a2, .inl (cyI, 12, .inl a_deep)), (a3, .inl (cyI, 12, .inl a_weight)), (a4, .inl (cyI, 12, .inl a_bears)), (a7, .inl (cyI, 12, .inl a_mayOn))]) args s 0 0) [(h0, .inr (0, [.int h_known, .int h_wares, .ref h1, .ref h2, .ref h3])), (h1, .inl (cyI, h_r, .inl g3_h1)), (h2, .inl (cyI, h_n, .inl h_least)), (a1, .inl (cyI, 12, .inl a_wide)), (a2, .inl (cyI, 12, .inl a_deep)), (a4, .inl (cyI, 12, .inl a_bears)), (a7, .inl (cyI, 12, .inl a_mayOn)), (a0, .inr (9, [.int a_wares, .int a_shelves, .int a_nests, .ref a1, .ref a2, .ref a3, .ref a4, .ref a5, .ref a6, .int a_lids, .int a_tops, .ref a7, .ref a8, .ref a9, .ref a10])), (a3, .inl (cyI, 12, .inl a_weight))] 13 [(5, .int x3_5), (4, .int x3_4), (3, .int (u_1.2.1 0)), (0, .ref h0), (1, .ref a0), (2, .int p1)] [] := by
    intro k_3
    induction k_3 with
    | zero =>
      intro x3_5 x3_4 g3_h1 hi_3_0 hm_3
      exact absurd hm_3 (Nat.not_lt_zero _)
    | succ k_3 ih_3 =>
      intro x3_5 x3_4 g3_h1 hi_3_0 hm_3
      refine j_iload (pc := 13) C dX0_settleSet_13 0 rfl ?_
      refine j_aload_n (pc := 15) C dX0_settleSet_15 rfl 3 rfl ?_
      refine j_get (pc := 16) (ci := 0) (v := .int h_wares) C inw_0 0 rfl rfl 1 (by decide) wd_156 rfl rfl dX0_settleSet_16 ?_
      refine j_icmp_ge (pc := 19) (tgt := 114) C dX0_settleSet_19 (by decide) (fun c_4 => ?_) (fun c_4 => ?_)
      · skip
        rw [i_le] at c_4
        refine j_aload_n (pc := 114) C dX0_settleSet_114 rfl 3 rfl ?_
        refine j_get (pc := 115) (ci := 0) (v := .ref h2) C inw_0 0 rfl rfl 3 (by decide) wd_162 rfl rfl dX0_settleSet_115 ?_
        refine j_iload_n (pc := 118) C dX0_settleSet_118 rfl 5 rfl ?_
        refine j_iload (pc := 119) C dX0_settleSet_119 1 rfl ?_
        obtain ⟨f_5, ef_5⟩ : ∃ z, z = upd h_least (p1).toInt.toNat x3_4 := ⟨_, rfl⟩
        refine j_iast (pc := 121) (k := (p1).toInt.toNat) (ws' := [(h0, .inr (0, [.int h_known, .int h_wares, .ref h1, .ref h2, .ref h3])), (h1, .inl (cyI, h_r, .inl g3_h1)), (h2, .inl (cyI, h_n, .inl f_5)), (a1, .inl (cyI, 12, .inl a_wide)), (a2, .inl (cyI, 12, .inl a_deep)), (a4, .inl (cyI, 12, .inl a_bears)), (a7, .inl (cyI, 12, .inl a_mayOn)), (a0, .inr (9, [.int a_wares, .int a_shelves, .int a_nests, .ref a1, .ref a2, .ref a3, .ref a4, .ref a5, .ref a6, .int a_lids, .int a_tops, .ref a7, .ref a8, .ref a9, .ref a10])), (a3, .inl (cyI, 12, .inl a_weight))]) C 2 1 rfl rfl (i_nn (Int.le_trans (by decide) h_p1.1)) rfl (i_lt_n (Int.le_trans (by decide) h_p1.1) (by omega)) dX0_settleSet_121 (by rw [ef_5]; rfl) ?_
        exact j_vret (pc := 122) C hr hk (fun i => [].getD i 0, fun i => [].getD i 0, fun i => [g3_h1, f_5].getD i (fun _ => 0), fun i => [].getD i (fun _ => 0)) rfl trivial [0, 1, 2, 7, 3, 4, 8, 5, 6] (by decide) rfl (by decide) (by decide) dX0_settleSet_122
      · skip
        rw [i_le] at c_4
        refine j_iload_n (pc := 22) C dX0_settleSet_22 rfl 5 rfl ?_
        refine j_iload (pc := 23) C dX0_settleSet_23 0 rfl ?_
        obtain ⟨v_6, ev_6⟩ : ∃ z : Int32, ((p1 : Int32).toUInt32 >>> ((x3_5 : Int32).toUInt32 &&& Int32.toUInt32 31)).toInt32 = z := ⟨_, rfl⟩
        refine j_iushr (pc := 25) (v := v_6) C dX0_settleSet_25 ev_6 ?_
        refine j_iconst (pc := 26) (v := 1) C dX0_settleSet_26 (by decide) ?_
        obtain ⟨v_7, ev_7⟩ : ∃ z : Int32, v_6 &&& 1 = z := ⟨_, rfl⟩
        have el_1 : (1 : Int32).toInt = 1 := rfl
        have hv_7 : 0 ≤ v_7.toInt ∧ v_7.toInt ≤ 1 := by rw [← ev_7]; exact and1_r _
        refine j_iand (pc := 27) (v := v_7) C dX0_settleSet_27 ev_7 ?_
        refine j_iconst (pc := 28) (v := 1) C dX0_settleSet_28 (by decide) ?_
        refine j_icmp_ne (pc := 29) (tgt := 108) C dX0_settleSet_29 (by decide) (fun c_8 => ?_) (fun c_8 => ?_)
        · skip
          have el_1 : (1 : Int32).toInt = 1 := rfl
          rw [i_eq] at c_8
          have k0c_8 : v_7.toInt = 0 := by omega
          obtain ⟨v_9, ev_9⟩ : ∃ z : Int32, x3_5 + 1 = z := ⟨_, rfl⟩
          have el_1 : (1 : Int32).toInt = 1 := rfl
          have hv_9 : v_9.toInt = x3_5.toInt + (1 : Int32).toInt := by rw [← ev_9]; exact fb_addI (by omega) (by omega)
          refine j_iinc (pc := 108) (v := v_9) (lv' := [(5, .int v_9), (4, .int x3_4), (3, .int (u_1.2.1 0)), (0, .ref h0), (1, .ref a0), (2, .int p1)]) C dX0_settleSet_108 0 rfl ev_9 (by decide) rfl ?_
          refine j_goto (pc := 111) (tgt := 13) C dX0_settleSet_111 (by decide) ?_
          exact j_lv [0, 1, 2, 3, 4, 5] rfl (ih_3 v_9 x3_4 g3_h1 (by omega) (by omega))
        · skip
          have el_1 : (1 : Int32).toInt = 1 := rfl
          rw [i_eq] at c_8
          refine j_iload_n (pc := 32) C dX0_settleSet_32 rfl 2 rfl ?_
          refine j_aload_n (pc := 33) C dX0_settleSet_33 rfl 4 rfl ?_
          refine j_get (pc := 34) (ci := 9) (v := .ref a3) C inw_9 7 rfl rfl 5 (by decide) wd_163 rfl rfl dX0_settleSet_34 ?_
          refine j_iload (pc := 37) C dX0_settleSet_37 0 rfl ?_
          obtain ⟨v_10, ev_10⟩ : ∃ z, a_weight (x3_5).toInt.toNat = z := ⟨_, rfl⟩
          have env_10 : (a_weight (x3_5).toInt.toNat).toInt = v_10.toInt := by rw [ev_10]
          refine j_iald (pc := 39) (v := v_10) (k := (x3_5).toInt.toNat) C 8 1 rfl rfl (i_nn hi_3_0.1) rfl (i_lt_n hi_3_0.1 (by omega)) ev_10 dX0_settleSet_39 ?_
          obtain ⟨v_11, ev_11⟩ : ∃ z : Int32, (u_1.2.1 0) - v_10 = z := ⟨_, rfl⟩
          refine j_isub (pc := 40) (v := v_11) C dX0_settleSet_40 ev_11 ?_
          refine j_aload_n (pc := 41) C dX0_settleSet_41 rfl 4 rfl ?_
          refine j_get (pc := 42) (ci := 9) (v := .ref a4) C inw_9 7 rfl rfl 6 (by decide) wd_164 rfl rfl dX0_settleSet_42 ?_
          refine j_iload (pc := 45) C dX0_settleSet_45 0 rfl ?_
          obtain ⟨v_12, ev_12⟩ : ∃ z, a_bears (x3_5).toInt.toNat = z := ⟨_, rfl⟩
          have env_12 : (a_bears (x3_5).toInt.toNat).toInt = v_12.toInt := by rw [ev_12]
          refine j_iald (pc := 47) (v := v_12) (k := (x3_5).toInt.toNat) C 5 1 rfl rfl (i_nn hi_3_0.1) rfl (i_lt_n hi_3_0.1 (by omega)) ev_12 dX0_settleSet_47 ?_
          refine j_icmp_gt (pc := 48) (tgt := 55) C dX0_settleSet_48 (by decide) (fun c_13 => ?_) (fun c_13 => ?_)
          · skip
            rw [i_lt] at c_13
            refine j_iconst (pc := 55) (v := 0) C dX0_settleSet_55 (by decide) ?_
            refine j_istore (pc := 56) (lv' := [(6, .int 0), (5, .int x3_5), (4, .int x3_4), (3, .int (u_1.2.1 0)), (0, .ref h0), (1, .ref a0), (2, .int p1)]) C dX0_settleSet_56 (by decide) rfl ?_
            refine j_iload (pc := 58) C dX0_settleSet_58 0 rfl ?_
            refine j_if_eq_t (pc := 60) (tgt := 79) C dX0_settleSet_60 (by decide) (by decide) ?_
            refine j_ldc (pc := 79) C wd_155 dX0_settleSet_79 ?_
            refine j_istore (pc := 81) (lv' := [(7, .int 1000000), (6, .int 0), (5, .int x3_5), (4, .int x3_4), (3, .int (u_1.2.1 0)), (0, .ref h0), (1, .ref a0), (2, .int p1)]) C dX0_settleSet_81 (by decide) rfl ?_
            refine j_aload_n (pc := 83) C dX0_settleSet_83 rfl 5 rfl ?_
            refine j_get (pc := 84) (ci := 0) (v := .ref h1) C inw_0 0 rfl rfl 2 (by decide) wd_159 rfl rfl dX0_settleSet_84 ?_
            refine j_iload_n (pc := 87) C dX0_settleSet_87 rfl 7 rfl ?_
            refine j_aload_n (pc := 88) C dX0_settleSet_88 rfl 5 rfl ?_
            refine j_get (pc := 89) (ci := 0) (v := .int h_wares) C inw_0 0 rfl rfl 1 (by decide) wd_156 rfl rfl dX0_settleSet_89 ?_
            obtain ⟨v_14, ev_14⟩ : ∃ z : Int32, p1 * h_wares = z := ⟨_, rfl⟩
            obtain ⟨hv_14, hv_14a, hv_14b⟩ := mulS (x := p1) (y := h_wares) (by omega) (by omega) (by omega) (by omega)
            rw [ev_14] at hv_14
            have hv_14c := ix_mul (x := p1.toInt) (w := h_wares.toInt) (S := 2 ^ (h_wares).toInt.toNat) (r := (h_r : Nat)) (by omega) (by omega) (by omega) (by omega)
            refine j_imul (pc := 92) (v := v_14) C dX0_settleSet_92 ev_14 ?_
            refine j_iload (pc := 93) C dX0_settleSet_93 2 rfl ?_
            obtain ⟨v_15, ev_15⟩ : ∃ z : Int32, v_14 + x3_5 = z := ⟨_, rfl⟩
            have hv_15 : v_15.toInt = v_14.toInt + x3_5.toInt := by rw [← ev_15]; exact fb_addI (by omega) (by omega)
            refine j_iadd (pc := 95) (v := v_15) C dX0_settleSet_95 ev_15 ?_
            refine j_iload (pc := 96) C dX0_settleSet_96 0 rfl ?_
            obtain ⟨f_16, ef_16⟩ : ∃ z, z = upd g3_h1 (v_15).toInt.toNat 1000000 := ⟨_, rfl⟩
            refine j_iast (pc := 98) (k := (v_15).toInt.toNat) (ws' := [(h0, .inr (0, [.int h_known, .int h_wares, .ref h1, .ref h2, .ref h3])), (h1, .inl (cyI, h_r, .inl f_16)), (h2, .inl (cyI, h_n, .inl h_least)), (a1, .inl (cyI, 12, .inl a_wide)), (a2, .inl (cyI, 12, .inl a_deep)), (a4, .inl (cyI, 12, .inl a_bears)), (a7, .inl (cyI, 12, .inl a_mayOn)), (a0, .inr (9, [.int a_wares, .int a_shelves, .int a_nests, .ref a1, .ref a2, .ref a3, .ref a4, .ref a5, .ref a6, .int a_lids, .int a_tops, .ref a7, .ref a8, .ref a9, .ref a10])), (a3, .inl (cyI, 12, .inl a_weight))]) C 1 1 rfl rfl (i_nn (by omega)) rfl (i_lt_n (by omega) (by omega)) dX0_settleSet_98 (by rw [ef_16]; rfl) ?_
            refine j_iload (pc := 99) C dX0_settleSet_99 3 rfl ?_
            refine j_iload (pc := 101) C dX0_settleSet_101 0 rfl ?_
            have el_1000000 : (1000000 : Int32).toInt = 1000000 := rfl
            obtain ⟨v_17, ev_17⟩ : ∃ z : Int32, (if (1000000 : Int32) < x3_4 then 1000000 else x3_4) = z := ⟨_, rfl⟩
            refine j_mmin (pc := 103) (v := v_17) C wd_160 wd_139 wd_6 wd_140 (by decide) (Nat.le_of_ble_eq_true rfl) (by decide) (by decide) ev_17 dX0_settleSet_103 ?_
            refine j_istore (pc := 106) (lv' := [(4, .int v_17), (7, .int 1000000), (6, .int 0), (5, .int x3_5), (3, .int (u_1.2.1 0)), (0, .ref h0), (1, .ref a0), (2, .int p1)]) C dX0_settleSet_106 (by decide) rfl ?_
            obtain ⟨v_18, ev_18⟩ : ∃ z : Int32, x3_5 + 1 = z := ⟨_, rfl⟩
            have el_1 : (1 : Int32).toInt = 1 := rfl
            have hv_18 : v_18.toInt = x3_5.toInt + (1 : Int32).toInt := by rw [← ev_18]; exact fb_addI (by omega) (by omega)
            refine j_iinc (pc := 108) (v := v_18) (lv' := [(5, .int v_18), (4, .int v_17), (7, .int 1000000), (6, .int 0), (3, .int (u_1.2.1 0)), (0, .ref h0), (1, .ref a0), (2, .int p1)]) C dX0_settleSet_108 3 rfl ev_18 (by decide) rfl ?_
            refine j_goto (pc := 111) (tgt := 13) C dX0_settleSet_111 (by decide) ?_
            exact j_lv [0, 1, 4, 5, 6, 7] rfl (ih_3 v_18 v_17 f_16 (by omega) (by omega))
          · skip
            rw [i_lt] at c_13
            refine j_iconst (pc := 51) (v := 1) C dX0_settleSet_51 (by decide) ?_
            refine j_goto (pc := 52) (tgt := 56) C dX0_settleSet_52 (by decide) ?_
            refine j_istore (pc := 56) (lv' := [(6, .int 1), (5, .int x3_5), (4, .int x3_4), (3, .int (u_1.2.1 0)), (0, .ref h0), (1, .ref a0), (2, .int p1)]) C dX0_settleSet_56 (by decide) rfl ?_
            refine j_iload (pc := 58) C dX0_settleSet_58 0 rfl ?_
            refine j_if_eq_f (pc := 60) (tgt := 79) C dX0_settleSet_60 (by decide) (by decide) ?_
            refine j_aload_n (pc := 63) C dX0_settleSet_63 rfl 4 rfl ?_
            refine j_aload_n (pc := 64) C dX0_settleSet_64 rfl 5 rfl ?_
            refine j_iload (pc := 65) C dX0_settleSet_65 1 rfl ?_
            refine j_iload_n (pc := 67) C dX0_settleSet_67 rfl 6 rfl ?_
            refine j_iconst (pc := 68) (v := 1) C dX0_settleSet_68 (by decide) ?_
            refine j_iload (pc := 69) C dX0_settleSet_69 1 rfl ?_
            obtain ⟨v_19, ev_19⟩ : ∃ z : Int32, 1 <<< (x3_5 &&& 31) = z := ⟨_, rfl⟩
            have el_1 : (1 : Int32).toInt = 1 := rfl
            have hv_19 : 1 ≤ v_19.toInt ∧ v_19.toInt ≤ 2048 := by rw [← ev_19]; exact shl1_iv 0 11 (by omega) (by omega) (by omega)
            have hv_19p : v_19.toInt < 2 ^ (h_wares).toInt.toNat := by rw [← ev_19]; exact shl1_lt (by omega) (by omega) (by omega)
            refine j_ishl (pc := 71) (v := v_19) C dX0_settleSet_71 ev_19 ?_
            obtain ⟨v_20, ev_20⟩ : ∃ z : Int32, p1 ^^^ v_19 = z := ⟨_, rfl⟩
            have hv_20 : 0 ≤ v_20.toInt ∧ v_20.toInt ≤ 4095 := by rw [← ev_20]; exact xorb 12 (by decide) (by omega) (by omega) (by omega) (by omega)
            have hv_20p : 0 ≤ v_20.toInt ∧ v_20.toInt < 2 ^ (h_wares).toInt.toNat := by rw [← ev_20]; exact xorP (by omega) (by omega) (by omega) (by omega) (by omega)
            refine j_ixor (pc := 72) (v := v_20) C dX0_settleSet_72 ev_20 ?_
            refine j_callV (pc := 73) (As := [.ref a0, .int x3_5, .int v_20]) (rest := []) (wr := [(h2, .inl (cyI, h_n, .inl h_least)), (a4, .inl (cyI, 12, .inl a_bears)), (a3, .inl (cyI, 12, .inl a_weight))]) C (c_X0_rimOver l D cyC cyI cyJ cyZ cyO h0 h1 a0 a1 a2 a7 h2 h3 a3 a4 a5 a6 a8 a9 a10 h_r x3_5 v_20 h_known h_wares a_wares a_shelves a_nests a_lids a_tops g3_h1 a_wide a_deep a_mayOn h_h_known h_h_wares h_a_wares h_a_shelves h_a_nests (by omega) (by omega) hlr hbr (by omega)) wd_165 wd_166 wd_167 wd_168 wd_169 ⟨by decide, by decide, rfl⟩ rfl ⟨rfl, rfl, by decide, by decide⟩ ⟨by decide, by decide⟩ [0, 1, 7, 3, 4, 6] [2, 5, 8] rfl rfl ⟨by decide, by decide, by decide⟩ 0 rfl rfl rfl (Nat.le_of_ble_eq_true rfl) dX0_settleSet_73 (fun u_21 hw_22 => ?_)
            refine j_eq (ws2 := [(h2, .inl (cyI, h_n, .inl h_least)), (a4, .inl (cyI, 12, .inl a_bears)), (a3, .inl (cyI, 12, .inl a_weight)), (h0, .inr (0, [.int h_known, .int h_wares, .ref h1, .ref h2, .ref h3])), (h1, .inl (cyI, h_r, .inl g3_h1)), (a0, .inr (9, [.int a_wares, .int a_shelves, .int a_nests, .ref a1, .ref a2, .ref a3, .ref a4, .ref a5, .ref a6, .int a_lids, .int a_tops, .ref a7, .ref a8, .ref a9, .ref a10])), (a1, .inl (cyI, 12, .inl a_wide)), (a2, .inl (cyI, 12, .inl a_deep)), (a7, .inl (cyI, 12, .inl a_mayOn))]) (pc2 := 76) (lv2 := [(6, .int 1), (5, .int x3_5), (4, .int x3_4), (3, .int (u_1.2.1 0)), (0, .ref h0), (1, .ref a0), (2, .int p1)]) (st2 := [.int (u_21.2.1 0)]) rfl rfl rfl rfl ?_
            refine j_goto (pc := 76) (tgt := 81) C dX0_settleSet_76 (by decide) ?_
            refine j_istore (pc := 81) (lv' := [(7, .int (u_21.2.1 0)), (6, .int 1), (5, .int x3_5), (4, .int x3_4), (3, .int (u_1.2.1 0)), (0, .ref h0), (1, .ref a0), (2, .int p1)]) C dX0_settleSet_81 (by decide) rfl ?_
            refine j_aload_n (pc := 83) C dX0_settleSet_83 rfl 5 rfl ?_
            refine j_get (pc := 84) (ci := 0) (v := .ref h1) C inw_0 3 rfl rfl 2 (by decide) wd_159 rfl rfl dX0_settleSet_84 ?_
            refine j_iload_n (pc := 87) C dX0_settleSet_87 rfl 7 rfl ?_
            refine j_aload_n (pc := 88) C dX0_settleSet_88 rfl 5 rfl ?_
            refine j_get (pc := 89) (ci := 0) (v := .int h_wares) C inw_0 3 rfl rfl 1 (by decide) wd_156 rfl rfl dX0_settleSet_89 ?_
            obtain ⟨v_23, ev_23⟩ : ∃ z : Int32, p1 * h_wares = z := ⟨_, rfl⟩
            obtain ⟨hv_23, hv_23a, hv_23b⟩ := mulS (x := p1) (y := h_wares) (by omega) (by omega) (by omega) (by omega)
            rw [ev_23] at hv_23
            have hv_23c := ix_mul (x := p1.toInt) (w := h_wares.toInt) (S := 2 ^ (h_wares).toInt.toNat) (r := (h_r : Nat)) (by omega) (by omega) (by omega) (by omega)
            refine j_imul (pc := 92) (v := v_23) C dX0_settleSet_92 ev_23 ?_
            refine j_iload (pc := 93) C dX0_settleSet_93 2 rfl ?_
            obtain ⟨v_24, ev_24⟩ : ∃ z : Int32, v_23 + x3_5 = z := ⟨_, rfl⟩
            have hv_24 : v_24.toInt = v_23.toInt + x3_5.toInt := by rw [← ev_24]; exact fb_addI (by omega) (by omega)
            refine j_iadd (pc := 95) (v := v_24) C dX0_settleSet_95 ev_24 ?_
            refine j_iload (pc := 96) C dX0_settleSet_96 0 rfl ?_
            obtain ⟨f_25, ef_25⟩ : ∃ z, z = upd g3_h1 (v_24).toInt.toNat (u_21.2.1 0) := ⟨_, rfl⟩
            refine j_iast (pc := 98) (k := (v_24).toInt.toNat) (ws' := [(h2, .inl (cyI, h_n, .inl h_least)), (a4, .inl (cyI, 12, .inl a_bears)), (a3, .inl (cyI, 12, .inl a_weight)), (h0, .inr (0, [.int h_known, .int h_wares, .ref h1, .ref h2, .ref h3])), (h1, .inl (cyI, h_r, .inl f_25)), (a0, .inr (9, [.int a_wares, .int a_shelves, .int a_nests, .ref a1, .ref a2, .ref a3, .ref a4, .ref a5, .ref a6, .int a_lids, .int a_tops, .ref a7, .ref a8, .ref a9, .ref a10])), (a1, .inl (cyI, 12, .inl a_wide)), (a2, .inl (cyI, 12, .inl a_deep)), (a7, .inl (cyI, 12, .inl a_mayOn))]) C 4 1 rfl rfl (i_nn (by omega)) rfl (i_lt_n (by omega) (by omega)) dX0_settleSet_98 (by rw [ef_25]; rfl) ?_
            refine j_iload (pc := 99) C dX0_settleSet_99 3 rfl ?_
            refine j_iload (pc := 101) C dX0_settleSet_101 0 rfl ?_
            obtain ⟨v_26, ev_26⟩ : ∃ z : Int32, (if ((u_21.2.1 0) : Int32) < x3_4 then (u_21.2.1 0) else x3_4) = z := ⟨_, rfl⟩
            refine j_mmin (pc := 103) (v := v_26) C wd_160 wd_139 wd_6 wd_140 (by decide) (Nat.le_of_ble_eq_true rfl) (by decide) (by decide) ev_26 dX0_settleSet_103 ?_
            refine j_istore (pc := 106) (lv' := [(4, .int v_26), (7, .int (u_21.2.1 0)), (6, .int 1), (5, .int x3_5), (3, .int (u_1.2.1 0)), (0, .ref h0), (1, .ref a0), (2, .int p1)]) C dX0_settleSet_106 (by decide) rfl ?_
            obtain ⟨v_27, ev_27⟩ : ∃ z : Int32, x3_5 + 1 = z := ⟨_, rfl⟩
            have el_1 : (1 : Int32).toInt = 1 := rfl
            have hv_27 : v_27.toInt = x3_5.toInt + (1 : Int32).toInt := by rw [← ev_27]; exact fb_addI (by omega) (by omega)
            refine j_iinc (pc := 108) (v := v_27) (lv' := [(5, .int v_27), (4, .int v_26), (7, .int (u_21.2.1 0)), (6, .int 1), (3, .int (u_1.2.1 0)), (0, .ref h0), (1, .ref a0), (2, .int p1)]) C dX0_settleSet_108 3 rfl ev_27 (by decide) rfl ?_
            refine j_goto (pc := 111) (tgt := 13) C dX0_settleSet_111 (by decide) ?_
            refine j_subG (ws' := [(h0, .inr (0, [.int h_known, .int h_wares, .ref h1, .ref h2, .ref h3])), (h1, .inl (cyI, h_r, .inl f_25)), (h2, .inl (cyI, h_n, .inl h_least)), (a1, .inl (cyI, 12, .inl a_wide)), (a2, .inl (cyI, 12, .inl a_deep)), (a4, .inl (cyI, 12, .inl a_bears)), (a7, .inl (cyI, 12, .inl a_mayOn)), (a0, .inr (9, [.int a_wares, .int a_shelves, .int a_nests, .ref a1, .ref a2, .ref a3, .ref a4, .ref a5, .ref a6, .int a_lids, .int a_tops, .ref a7, .ref a8, .ref a9, .ref a10])), (a3, .inl (cyI, 12, .inl a_weight))]) [3, 4, 0, 6, 7, 1, 8, 5, 2] (by decide) rfl ?_
            exact j_lv [0, 1, 4, 5, 6, 7] rfl (ih_3 v_27 v_26 f_25 (by omega) (by omega))
  have el_0 : (0 : Int32).toInt = 0 := rfl
  have el_1000000 : (1000000 : Int32).toInt = 1000000 := rfl
  exact j_lv [0, 1, 2, 3, 4, 5] rfl (loop_3 4096 0 1000000 h_leastRim (by decide) (by omega))
set_option maxHeartbeats 4000000 in
set_option maxRecDepth 100000 in
theorem c_X0_firstOn (l : Launch) (D : DG) (cyC cyI cyJ cyZ cyO : ClassId) (h0 : Nat) (h1 : Nat) (a0 : Nat) (a1 : Nat) (a2 : Nat) (a7 : Nat) (h2 : Nat) (h3 : Nat) (a3 : Nat) (a4 : Nat) (a5 : Nat) (a6 : Nat) (a8 : Nat) (a9 : Nat) (a10 : Nat) (h_r : Nat) (p1 : Int32) (p2 : Int32) (p3 : Int32) (h_known : Int32) (h_wares : Int32) (a_wares : Int32) (a_shelves : Int32) (a_nests : Int32) (a_lids : Int32) (a_tops : Int32) (h_leastRim : Nat → Int32) (a_wide : Nat → Int32) (a_deep : Nat → Int32) (a_mayOn : Nat → Int32) (h_h_known : 0 ≤ (h_known).toInt ∧ (h_known).toInt ≤ 1) (h_h_wares : 0 ≤ (h_wares).toInt ∧ (h_wares).toInt ≤ 12) (h_a_wares : 0 ≤ (a_wares).toInt ∧ (a_wares).toInt ≤ 12) (h_a_shelves : 0 ≤ (a_shelves).toInt ∧ (a_shelves).toInt ≤ 4) (h_a_nests : 0 ≤ (a_nests).toInt ∧ (a_nests).toInt ≤ 4) (h_p1 : 0 ≤ (p1).toInt ∧ (p1).toInt ≤ 4095) (h_p2 : -1 ≤ (p2).toInt ∧ (p2).toInt ≤ 11) (hlr : (2 : Int) ^ (h_wares).toInt.toNat * (h_wares).toInt ≤ (h_r : Int)) (hbr : h_r ≤ 49152) (hset : (p1).toInt < (2 : Int) ^ (h_wares).toInt.toNat) : KK l D (TY cyC cyI cyJ cyZ cyO) yX0_firstOn cX0_firstOn 9 (some .int) ({ frames := 1, cells := 0, slots := 0, locals := 23 } : Room) 0 0 [.ref h0, .ref a0, .int p1, .int p2, .int p3] [(h0, .inr (0, [.int h_known, .int h_wares, .ref h1, .ref h2, .ref h3])), (h1, .inl (cyI, h_r, .inl h_leastRim)), (a0, .inr (9, [.int a_wares, .int a_shelves, .int a_nests, .ref a1, .ref a2, .ref a3, .ref a4, .ref a5, .ref a6, .int a_lids, .int a_tops, .ref a7, .ref a8, .ref a9, .ref a10])), (a1, .inl (cyI, 12, .inl a_wide)), (a2, .inl (cyI, 12, .inl a_deep)), (a7, .inl (cyI, 12, .inl a_mayOn))] (fun u => some (.int (u.2.1 0))) (fun u => (-1 ≤ (u.2.1 0).toInt ∧ (u.2.1 0).toInt ≤ 11) ∧ ((u.2.1 0).toInt = -1 ∨ (u.2.1 0).toInt < (h_wares).toInt)) (fun u => [(h0, .inr (0, [.int h_known, .int h_wares, .ref h1, .ref h2, .ref h3])), (h1, .inl (cyI, h_r, .inl h_leastRim)), (a0, .inr (9, [.int a_wares, .int a_shelves, .int a_nests, .ref a1, .ref a2, .ref a3, .ref a4, .ref a5, .ref a6, .int a_lids, .int a_tops, .ref a7, .ref a8, .ref a9, .ref a10])), (a1, .inl (cyI, 12, .inl a_wide)), (a2, .inl (cyI, 12, .inl a_deep)), (a7, .inl (cyI, 12, .inl a_mayOn))]) := by
  refine KK.of (lv0 := [(0, .ref h0), (1, .ref a0), (2, .int p1), (3, .int p2), (4, .int p3)]) (by decide) rfl (Nat.le_of_ble_eq_true rfl) ?_
  intro p e s m args below meth c A C hr hk hin
  have hpw1 := pw1 (h_wares).toInt.toNat
  refine j_iload_n (pc := 0) C dX0_firstOn_0 rfl 3 rfl ?_
  refine j_iconst (pc := 1) (v := (-1)) C dX0_firstOn_1 (by decide) ?_
  refine j_icmp_ne (pc := 2) (tgt := 9) C dX0_firstOn_2 (by decide) (fun c_1 => ?_) (fun c_1 => ?_)
  · skip
    have el_m1 : ((-1) : Int32).toInt = (-1) := rfl
    rw [i_eq] at c_1
    refine j_iload_n (pc := 9) C dX0_firstOn_9 rfl 2 rfl ?_
    refine j_aload_n (pc := 10) C dX0_firstOn_10 rfl 1 rfl ?_
    refine j_get (pc := 11) (ci := 9) (v := .ref a7) C inw_9 2 rfl rfl 11 (by decide) wd_154 rfl rfl dX0_firstOn_11 ?_
    refine j_iload_n (pc := 14) C dX0_firstOn_14 rfl 3 rfl ?_
    obtain ⟨v_2, ev_2⟩ : ∃ z, a_mayOn (p2).toInt.toNat = z := ⟨_, rfl⟩
    have env_2 : (a_mayOn (p2).toInt.toNat).toInt = v_2.toInt := by rw [ev_2]
    refine j_iald (pc := 15) (v := v_2) (k := (p2).toInt.toNat) C 5 1 rfl rfl (i_nn (by omega)) rfl (i_lt_n (by omega) (Int.lt_of_le_of_lt h_p2.2 (by decide))) ev_2 dX0_firstOn_15 ?_
    obtain ⟨v_3, ev_3⟩ : ∃ z : Int32, p1 &&& v_2 = z := ⟨_, rfl⟩
    have hv_3 : 0 ≤ v_3.toInt ∧ v_3.toInt ≤ p1.toInt := by rw [← ev_3]; exact andb_l (by omega)
    refine j_iand (pc := 16) (v := v_3) C dX0_firstOn_16 ev_3 ?_
    refine j_istore (pc := 17) (lv' := [(5, .int v_3), (0, .ref h0), (1, .ref a0), (2, .int p1), (3, .int p2), (4, .int p3)]) C dX0_firstOn_17 (by decide) rfl ?_
    refine j_iconst (pc := 19) (v := 0) C dX0_firstOn_19 (by decide) ?_
    refine j_istore (pc := 20) (lv' := [(6, .int 0), (5, .int v_3), (0, .ref h0), (1, .ref a0), (2, .int p1), (3, .int p2), (4, .int p3)]) C dX0_firstOn_20 (by decide) rfl ?_
    have loop_4 : ∀ (k_4 : Nat) (x4_6 : Int32), (0 ≤ (x4_6).toInt ∧ (x4_6).toInt ≤ 12) → (12 - x4_6.toInt).toNat < k_4 → J p l e ({ frames := 1, cells := 0, slots := 0, locals := 23 } : Room) s m args below meth c D A 9 0 0 (QX below D (TY cyC cyI cyJ cyZ cyO) A (fun u => some (.int (u.2.1 0))) (fun u => (-1 ≤ (u.2.1 0).toInt ∧ (u.2.1 0).toInt ≤ 11) ∧ ((u.2.1 0).toInt = -1 ∨ (u.2.1 0).toInt < (h_wares).toInt)) (fun u => [(h0, .inr (0, [.int h_known, .int h_wares, .ref h1, .ref h2, .ref h3])), (h1, .inl (cyI, h_r, .inl h_leastRim)), (a0, .inr (9, [.int a_wares, .int a_shelves, .int a_nests, .ref a1, .ref a2, .ref a3, .ref a4, .ref a5, .ref a6, .int a_lids, .int a_tops, .ref a7, .ref a8, .ref a9, .ref a10])), (a1, .inl (cyI, 12, .inl a_wide)), (a2, .inl (cyI, 12, .inl a_deep)), (a7, .inl (cyI, 12, .inl a_mayOn))]) args s 0 0) [(h0, .inr (0, [.int h_known, .int h_wares, .ref h1, .ref h2, .ref h3])), (h1, .inl (cyI, h_r, .inl h_leastRim)), (a0, .inr (9, [.int a_wares, .int a_shelves, .int a_nests, .ref a1, .ref a2, .ref a3, .ref a4, .ref a5, .ref a6, .int a_lids, .int a_tops, .ref a7, .ref a8, .ref a9, .ref a10])), (a1, .inl (cyI, 12, .inl a_wide)), (a2, .inl (cyI, 12, .inl a_deep)), (a7, .inl (cyI, 12, .inl a_mayOn))] 22 [(6, .int x4_6), (5, .int v_3), (0, .ref h0), (1, .ref a0), (2, .int p1), (3, .int p2), (4, .int p3)] [] := by
      intro k_4
      induction k_4 with
      | zero =>
        intro x4_6 hi_4_0 hm_4
        exact absurd hm_4 (Nat.not_lt_zero _)
      | succ k_4 ih_4 =>
        intro x4_6 hi_4_0 hm_4
        refine j_iload (pc := 22) C dX0_firstOn_22 0 rfl ?_
        refine j_aload_n (pc := 24) C dX0_firstOn_24 rfl 2 rfl ?_
        refine j_get (pc := 25) (ci := 0) (v := .int h_wares) C inw_0 0 rfl rfl 1 (by decide) wd_156 rfl rfl dX0_firstOn_25 ?_
        refine j_icmp_ge (pc := 28) (tgt := 102) C dX0_firstOn_28 (by decide) (fun c_5 => ?_) (fun c_5 => ?_)
        · skip
          rw [i_le] at c_5
          refine j_iconst (pc := 102) (v := (-1)) C dX0_firstOn_102 (by decide) ?_
          have el_m1 : ((-1) : Int32).toInt = (-1) := rfl
          have el_m1 : ((-1) : Int32).toInt = (-1) := rfl
          exact j_iret (pc := 103) C hr hk (fun i => [].getD i 0, fun i => [(-1)].getD i 0, fun i => [].getD i (fun _ => 0), fun i => [].getD i (fun _ => 0)) rfl (show (-1 ≤ (((-1) : Int32)).toInt ∧ (((-1) : Int32)).toInt ≤ 11) ∧ (((-1) : Int32).toInt = -1 ∨ ((-1) : Int32).toInt < (h_wares).toInt) from ⟨by omega, by omega⟩) [0, 1, 2, 3, 4, 5] (by decide) rfl (by decide) (by decide) dX0_firstOn_103
        · skip
          rw [i_le] at c_5
          refine j_iload (pc := 31) C dX0_firstOn_31 1 rfl ?_
          refine j_iload (pc := 33) C dX0_firstOn_33 0 rfl ?_
          obtain ⟨v_6, ev_6⟩ : ∃ z : Int32, ((v_3 : Int32).toUInt32 >>> ((x4_6 : Int32).toUInt32 &&& Int32.toUInt32 31)).toInt32 = z := ⟨_, rfl⟩
          refine j_iushr (pc := 35) (v := v_6) C dX0_firstOn_35 ev_6 ?_
          refine j_iconst (pc := 36) (v := 1) C dX0_firstOn_36 (by decide) ?_
          obtain ⟨v_7, ev_7⟩ : ∃ z : Int32, v_6 &&& 1 = z := ⟨_, rfl⟩
          have el_1 : (1 : Int32).toInt = 1 := rfl
          have hv_7 : 0 ≤ v_7.toInt ∧ v_7.toInt ≤ 1 := by rw [← ev_7]; exact and1_r _
          refine j_iand (pc := 37) (v := v_7) C dX0_firstOn_37 ev_7 ?_
          refine j_iconst (pc := 38) (v := 1) C dX0_firstOn_38 (by decide) ?_
          refine j_icmp_ne (pc := 39) (tgt := 96) C dX0_firstOn_39 (by decide) (fun c_8 => ?_) (fun c_8 => ?_)
          · skip
            have el_1 : (1 : Int32).toInt = 1 := rfl
            rw [i_eq] at c_8
            have k0c_8 : v_7.toInt = 0 := by omega
            obtain ⟨v_9, ev_9⟩ : ∃ z : Int32, x4_6 + 1 = z := ⟨_, rfl⟩
            have el_1 : (1 : Int32).toInt = 1 := rfl
            have hv_9 : v_9.toInt = x4_6.toInt + (1 : Int32).toInt := by rw [← ev_9]; exact fb_addI (by omega) (by omega)
            refine j_iinc (pc := 96) (v := v_9) (lv' := [(6, .int v_9), (5, .int v_3), (0, .ref h0), (1, .ref a0), (2, .int p1), (3, .int p2), (4, .int p3)]) C dX0_firstOn_96 0 rfl ev_9 (by decide) rfl ?_
            refine j_goto (pc := 99) (tgt := 22) C dX0_firstOn_99 (by decide) ?_
            exact j_lv [0, 1, 2, 3, 4, 5, 6] rfl (ih_4 v_9 (by omega) (by omega))
          · skip
            have el_1 : (1 : Int32).toInt = 1 := rfl
            rw [i_eq] at c_8
            refine j_iload_n (pc := 42) C dX0_firstOn_42 rfl 5 rfl ?_
            refine j_iconst (pc := 43) (v := (-1)) C dX0_firstOn_43 (by decide) ?_
            have el_m1 : ((-1) : Int32).toInt = (-1) := rfl
            refine j_icmp_ne_t (pc := 44) (tgt := 51) C dX0_firstOn_44 (by decide) (by rw [i_eq]; omega) ?_
            refine j_aload_n (pc := 51) C dX0_firstOn_51 rfl 3 rfl ?_
            refine j_iload (pc := 52) C dX0_firstOn_52 0 rfl ?_
            refine j_iload_n (pc := 54) C dX0_firstOn_54 rfl 5 rfl ?_
            refine j_callV (pc := 55) (As := [.int x4_6, .int p2]) (rest := []) (wr := [(h0, .inr (0, [.int h_known, .int h_wares, .ref h1, .ref h2, .ref h3])), (h1, .inl (cyI, h_r, .inl h_leastRim)), (a7, .inl (cyI, 12, .inl a_mayOn))]) C (c_X9_rise l D cyC cyI cyJ cyZ cyO a0 a1 a2 a3 a4 a5 a6 a7 a8 a9 a10 x4_6 p2 a_wares a_shelves a_nests a_lids a_tops a_wide a_deep h_a_wares h_a_shelves h_a_nests (by omega) (by omega)) wd_32 wd_33 wd_158 wd_35 wd_36 ⟨by decide, by decide, rfl⟩ rfl ⟨rfl, rfl, by decide, by decide⟩ ⟨by decide, by decide⟩ [2, 3, 4] [0, 1, 5] rfl rfl ⟨by decide, by decide, by decide⟩ 2 rfl rfl rfl (Nat.le_of_ble_eq_true rfl) dX0_firstOn_55 (fun u_10 hw_11 => ?_)
            refine j_eq (ws2 := [(h0, .inr (0, [.int h_known, .int h_wares, .ref h1, .ref h2, .ref h3])), (h1, .inl (cyI, h_r, .inl h_leastRim)), (a7, .inl (cyI, 12, .inl a_mayOn)), (a0, .inr (9, [.int a_wares, .int a_shelves, .int a_nests, .ref a1, .ref a2, .ref a3, .ref a4, .ref a5, .ref a6, .int a_lids, .int a_tops, .ref a7, .ref a8, .ref a9, .ref a10])), (a1, .inl (cyI, 12, .inl a_wide)), (a2, .inl (cyI, 12, .inl a_deep))]) (pc2 := 58) (lv2 := [(6, .int x4_6), (5, .int v_3), (0, .ref h0), (1, .ref a0), (2, .int p1), (3, .int p2), (4, .int p3)]) (st2 := [.int (u_10.2.1 0)]) rfl rfl rfl rfl ?_
            have hw_11_0 : (u_10.2.1 0) = (rsC a_wide a_deep a_lids) (x4_6).toInt.toNat (p2).toInt.toNat := hw_11
            refine j_istore (pc := 58) (lv' := [(7, .int (u_10.2.1 0)), (6, .int x4_6), (5, .int v_3), (0, .ref h0), (1, .ref a0), (2, .int p1), (3, .int p2), (4, .int p3)]) C dX0_firstOn_58 (by decide) rfl ?_
            refine j_aload_n (pc := 60) C dX0_firstOn_60 rfl 3 rfl ?_
            refine j_get (pc := 61) (ci := 0) (v := .ref h1) C inw_0 0 rfl rfl 2 (by decide) wd_159 rfl rfl dX0_firstOn_61 ?_
            refine j_iload_n (pc := 64) C dX0_firstOn_64 rfl 5 rfl ?_
            refine j_aload_n (pc := 65) C dX0_firstOn_65 rfl 3 rfl ?_
            refine j_get (pc := 66) (ci := 0) (v := .int h_wares) C inw_0 0 rfl rfl 1 (by decide) wd_156 rfl rfl dX0_firstOn_66 ?_
            obtain ⟨v_12, ev_12⟩ : ∃ z : Int32, p1 * h_wares = z := ⟨_, rfl⟩
            obtain ⟨hv_12, hv_12a, hv_12b⟩ := mulS (x := p1) (y := h_wares) (by omega) (by omega) (by omega) (by omega)
            rw [ev_12] at hv_12
            have hv_12c := ix_mul (x := p1.toInt) (w := h_wares.toInt) (S := 2 ^ (h_wares).toInt.toNat) (r := (h_r : Nat)) (by omega) (by omega) (by omega) (by omega)
            refine j_imul (pc := 69) (v := v_12) C dX0_firstOn_69 ev_12 ?_
            refine j_iload (pc := 70) C dX0_firstOn_70 1 rfl ?_
            obtain ⟨v_13, ev_13⟩ : ∃ z : Int32, v_12 + x4_6 = z := ⟨_, rfl⟩
            have hv_13 : v_13.toInt = v_12.toInt + x4_6.toInt := by rw [← ev_13]; exact fb_addI (by omega) (by omega)
            refine j_iadd (pc := 72) (v := v_13) C dX0_firstOn_72 ev_13 ?_
            obtain ⟨v_14, ev_14⟩ : ∃ z, h_leastRim (v_13).toInt.toNat = z := ⟨_, rfl⟩
            have env_14 : (h_leastRim (v_13).toInt.toNat).toInt = v_14.toInt := by rw [ev_14]
            refine j_iald (pc := 73) (v := v_14) (k := (v_13).toInt.toNat) C 1 1 rfl rfl (i_nn (by omega)) rfl (i_lt_n (by omega) (by omega)) ev_14 dX0_firstOn_73 ?_
            refine j_istore (pc := 74) (lv' := [(8, .int v_14), (7, .int (u_10.2.1 0)), (6, .int x4_6), (5, .int v_3), (0, .ref h0), (1, .ref a0), (2, .int p1), (3, .int p2), (4, .int p3)]) C dX0_firstOn_74 (by decide) rfl ?_
            refine j_iload (pc := 76) C dX0_firstOn_76 0 rfl ?_
            refine j_ldc (pc := 78) C wd_155 dX0_firstOn_78 ?_
            refine j_icmp_ge (pc := 80) (tgt := 96) C dX0_firstOn_80 (by decide) (fun c_15 => ?_) (fun c_15 => ?_)
            · skip
              have el_1000000 : (1000000 : Int32).toInt = 1000000 := rfl
              rw [i_le] at c_15
              obtain ⟨v_16, ev_16⟩ : ∃ z : Int32, x4_6 + 1 = z := ⟨_, rfl⟩
              have el_1 : (1 : Int32).toInt = 1 := rfl
              have hv_16 : v_16.toInt = x4_6.toInt + (1 : Int32).toInt := by rw [← ev_16]; exact fb_addI (by omega) (by omega)
              refine j_iinc (pc := 96) (v := v_16) (lv' := [(6, .int v_16), (8, .int v_14), (7, .int (u_10.2.1 0)), (5, .int v_3), (0, .ref h0), (1, .ref a0), (2, .int p1), (3, .int p2), (4, .int p3)]) C dX0_firstOn_96 2 rfl ev_16 (by decide) rfl ?_
              refine j_goto (pc := 99) (tgt := 22) C dX0_firstOn_99 (by decide) ?_
              refine j_subG (ws' := [(h0, .inr (0, [.int h_known, .int h_wares, .ref h1, .ref h2, .ref h3])), (h1, .inl (cyI, h_r, .inl h_leastRim)), (a0, .inr (9, [.int a_wares, .int a_shelves, .int a_nests, .ref a1, .ref a2, .ref a3, .ref a4, .ref a5, .ref a6, .int a_lids, .int a_tops, .ref a7, .ref a8, .ref a9, .ref a10])), (a1, .inl (cyI, 12, .inl a_wide)), (a2, .inl (cyI, 12, .inl a_deep)), (a7, .inl (cyI, 12, .inl a_mayOn))]) [0, 1, 3, 4, 5, 2] (by decide) rfl ?_
              exact j_lv [0, 3, 4, 5, 6, 7, 8] rfl (ih_4 v_16 (by omega) (by omega))
            · skip
              have el_1000000 : (1000000 : Int32).toInt = 1000000 := rfl
              rw [i_le] at c_15
              refine j_iload (pc := 83) C dX0_firstOn_83 1 rfl ?_
              refine j_iload (pc := 85) C dX0_firstOn_85 0 rfl ?_
              obtain ⟨v_17, ev_17⟩ : ∃ z : Int32, (u_10.2.1 0) + v_14 = z := ⟨_, rfl⟩
              refine j_iadd (pc := 87) (v := v_17) C dX0_firstOn_87 ev_17 ?_
              refine j_iload (pc := 88) C dX0_firstOn_88 8 rfl ?_
              refine j_icmp_gt (pc := 90) (tgt := 96) C dX0_firstOn_90 (by decide) (fun c_18 => ?_) (fun c_18 => ?_)
              · skip
                rw [i_lt] at c_18
                obtain ⟨v_19, ev_19⟩ : ∃ z : Int32, x4_6 + 1 = z := ⟨_, rfl⟩
                have el_1 : (1 : Int32).toInt = 1 := rfl
                have hv_19 : v_19.toInt = x4_6.toInt + (1 : Int32).toInt := by rw [← ev_19]; exact fb_addI (by omega) (by omega)
                refine j_iinc (pc := 96) (v := v_19) (lv' := [(6, .int v_19), (8, .int v_14), (7, .int (u_10.2.1 0)), (5, .int v_3), (0, .ref h0), (1, .ref a0), (2, .int p1), (3, .int p2), (4, .int p3)]) C dX0_firstOn_96 2 rfl ev_19 (by decide) rfl ?_
                refine j_goto (pc := 99) (tgt := 22) C dX0_firstOn_99 (by decide) ?_
                refine j_subG (ws' := [(h0, .inr (0, [.int h_known, .int h_wares, .ref h1, .ref h2, .ref h3])), (h1, .inl (cyI, h_r, .inl h_leastRim)), (a0, .inr (9, [.int a_wares, .int a_shelves, .int a_nests, .ref a1, .ref a2, .ref a3, .ref a4, .ref a5, .ref a6, .int a_lids, .int a_tops, .ref a7, .ref a8, .ref a9, .ref a10])), (a1, .inl (cyI, 12, .inl a_wide)), (a2, .inl (cyI, 12, .inl a_deep)), (a7, .inl (cyI, 12, .inl a_mayOn))]) [0, 1, 3, 4, 5, 2] (by decide) rfl ?_
                exact j_lv [0, 3, 4, 5, 6, 7, 8] rfl (ih_4 v_19 (by omega) (by omega))
              · skip
                rw [i_lt] at c_18
                refine j_iload (pc := 93) C dX0_firstOn_93 2 rfl ?_
                exact j_iret (pc := 95) C hr hk (fun i => [].getD i 0, fun i => [x4_6].getD i 0, fun i => [].getD i (fun _ => 0), fun i => [].getD i (fun _ => 0)) rfl (show (-1 ≤ (x4_6).toInt ∧ (x4_6).toInt ≤ 11) ∧ (x4_6.toInt = -1 ∨ x4_6.toInt < (h_wares).toInt) from ⟨by omega, by omega⟩) [0, 1, 3, 4, 5, 2] (by decide) rfl (by decide) (by decide) dX0_firstOn_95
    have el_0 : (0 : Int32).toInt = 0 := rfl
    exact j_lv [0, 1, 2, 3, 4, 5, 6] rfl (loop_4 4096 0 (by decide) (by omega))
  · skip
    have el_m1 : ((-1) : Int32).toInt = (-1) := rfl
    rw [i_eq] at c_1
    refine j_iload_n (pc := 5) C dX0_firstOn_5 rfl 2 rfl ?_
    refine j_goto (pc := 6) (tgt := 17) C dX0_firstOn_6 (by decide) ?_
    refine j_istore (pc := 17) (lv' := [(5, .int p1), (0, .ref h0), (1, .ref a0), (2, .int p1), (3, .int p2), (4, .int p3)]) C dX0_firstOn_17 (by decide) rfl ?_
    refine j_iconst (pc := 19) (v := 0) C dX0_firstOn_19 (by decide) ?_
    refine j_istore (pc := 20) (lv' := [(6, .int 0), (5, .int p1), (0, .ref h0), (1, .ref a0), (2, .int p1), (3, .int p2), (4, .int p3)]) C dX0_firstOn_20 (by decide) rfl ?_
    have loop_20 : ∀ (k_20 : Nat) (x20_6 : Int32), (0 ≤ (x20_6).toInt ∧ (x20_6).toInt ≤ 12) → (12 - x20_6.toInt).toNat < k_20 → J p l e ({ frames := 1, cells := 0, slots := 0, locals := 23 } : Room) s m args below meth c D A 9 0 0 (QX below D (TY cyC cyI cyJ cyZ cyO) A (fun u => some (.int (u.2.1 0))) (fun u => (-1 ≤ (u.2.1 0).toInt ∧ (u.2.1 0).toInt ≤ 11) ∧ ((u.2.1 0).toInt = -1 ∨ (u.2.1 0).toInt < (h_wares).toInt)) (fun u => [(h0, .inr (0, [.int h_known, .int h_wares, .ref h1, .ref h2, .ref h3])), (h1, .inl (cyI, h_r, .inl h_leastRim)), (a0, .inr (9, [.int a_wares, .int a_shelves, .int a_nests, .ref a1, .ref a2, .ref a3, .ref a4, .ref a5, .ref a6, .int a_lids, .int a_tops, .ref a7, .ref a8, .ref a9, .ref a10])), (a1, .inl (cyI, 12, .inl a_wide)), (a2, .inl (cyI, 12, .inl a_deep)), (a7, .inl (cyI, 12, .inl a_mayOn))]) args s 0 0) [(h0, .inr (0, [.int h_known, .int h_wares, .ref h1, .ref h2, .ref h3])), (h1, .inl (cyI, h_r, .inl h_leastRim)), (a0, .inr (9, [.int a_wares, .int a_shelves, .int a_nests, .ref a1, .ref a2, .ref a3, .ref a4, .ref a5, .ref a6, .int a_lids, .int a_tops, .ref a7, .ref a8, .ref a9, .ref a10])), (a1, .inl (cyI, 12, .inl a_wide)), (a2, .inl (cyI, 12, .inl a_deep)), (a7, .inl (cyI, 12, .inl a_mayOn))] 22 [(6, .int x20_6), (5, .int p1), (0, .ref h0), (1, .ref a0), (2, .int p1), (3, .int p2), (4, .int p3)] [] := by
      intro k_20
      induction k_20 with
      | zero =>
        intro x20_6 hi_20_0 hm_20
        exact absurd hm_20 (Nat.not_lt_zero _)
      | succ k_20 ih_20 =>
        intro x20_6 hi_20_0 hm_20
        refine j_iload (pc := 22) C dX0_firstOn_22 0 rfl ?_
        refine j_aload_n (pc := 24) C dX0_firstOn_24 rfl 2 rfl ?_
        refine j_get (pc := 25) (ci := 0) (v := .int h_wares) C inw_0 0 rfl rfl 1 (by decide) wd_156 rfl rfl dX0_firstOn_25 ?_
        refine j_icmp_ge (pc := 28) (tgt := 102) C dX0_firstOn_28 (by decide) (fun c_21 => ?_) (fun c_21 => ?_)
        · skip
          rw [i_le] at c_21
          refine j_iconst (pc := 102) (v := (-1)) C dX0_firstOn_102 (by decide) ?_
          have el_m1 : ((-1) : Int32).toInt = (-1) := rfl
          have el_m1 : ((-1) : Int32).toInt = (-1) := rfl
          exact j_iret (pc := 103) C hr hk (fun i => [].getD i 0, fun i => [(-1)].getD i 0, fun i => [].getD i (fun _ => 0), fun i => [].getD i (fun _ => 0)) rfl (show (-1 ≤ (((-1) : Int32)).toInt ∧ (((-1) : Int32)).toInt ≤ 11) ∧ (((-1) : Int32).toInt = -1 ∨ ((-1) : Int32).toInt < (h_wares).toInt) from ⟨by omega, by omega⟩) [0, 1, 2, 3, 4, 5] (by decide) rfl (by decide) (by decide) dX0_firstOn_103
        · skip
          rw [i_le] at c_21
          refine j_iload (pc := 31) C dX0_firstOn_31 1 rfl ?_
          refine j_iload (pc := 33) C dX0_firstOn_33 0 rfl ?_
          obtain ⟨v_22, ev_22⟩ : ∃ z : Int32, ((p1 : Int32).toUInt32 >>> ((x20_6 : Int32).toUInt32 &&& Int32.toUInt32 31)).toInt32 = z := ⟨_, rfl⟩
          refine j_iushr (pc := 35) (v := v_22) C dX0_firstOn_35 ev_22 ?_
          refine j_iconst (pc := 36) (v := 1) C dX0_firstOn_36 (by decide) ?_
          obtain ⟨v_23, ev_23⟩ : ∃ z : Int32, v_22 &&& 1 = z := ⟨_, rfl⟩
          have el_1 : (1 : Int32).toInt = 1 := rfl
          have hv_23 : 0 ≤ v_23.toInt ∧ v_23.toInt ≤ 1 := by rw [← ev_23]; exact and1_r _
          refine j_iand (pc := 37) (v := v_23) C dX0_firstOn_37 ev_23 ?_
          refine j_iconst (pc := 38) (v := 1) C dX0_firstOn_38 (by decide) ?_
          refine j_icmp_ne (pc := 39) (tgt := 96) C dX0_firstOn_39 (by decide) (fun c_24 => ?_) (fun c_24 => ?_)
          · skip
            have el_1 : (1 : Int32).toInt = 1 := rfl
            rw [i_eq] at c_24
            have k0c_24 : v_23.toInt = 0 := by omega
            obtain ⟨v_25, ev_25⟩ : ∃ z : Int32, x20_6 + 1 = z := ⟨_, rfl⟩
            have el_1 : (1 : Int32).toInt = 1 := rfl
            have hv_25 : v_25.toInt = x20_6.toInt + (1 : Int32).toInt := by rw [← ev_25]; exact fb_addI (by omega) (by omega)
            refine j_iinc (pc := 96) (v := v_25) (lv' := [(6, .int v_25), (5, .int p1), (0, .ref h0), (1, .ref a0), (2, .int p1), (3, .int p2), (4, .int p3)]) C dX0_firstOn_96 0 rfl ev_25 (by decide) rfl ?_
            refine j_goto (pc := 99) (tgt := 22) C dX0_firstOn_99 (by decide) ?_
            exact j_lv [0, 1, 2, 3, 4, 5, 6] rfl (ih_20 v_25 (by omega) (by omega))
          · skip
            have el_1 : (1 : Int32).toInt = 1 := rfl
            rw [i_eq] at c_24
            refine j_iload_n (pc := 42) C dX0_firstOn_42 rfl 5 rfl ?_
            refine j_iconst (pc := 43) (v := (-1)) C dX0_firstOn_43 (by decide) ?_
            refine j_icmp_ne (pc := 44) (tgt := 51) C dX0_firstOn_44 (by decide) (fun c_26 => ?_) (fun c_26 => ?_)
            · skip
              have el_m1 : ((-1) : Int32).toInt = (-1) := rfl
              rw [i_eq] at c_26
              refine j_aload_n (pc := 51) C dX0_firstOn_51 rfl 3 rfl ?_
              refine j_iload (pc := 52) C dX0_firstOn_52 0 rfl ?_
              refine j_iload_n (pc := 54) C dX0_firstOn_54 rfl 5 rfl ?_
              refine j_callV (pc := 55) (As := [.int x20_6, .int p2]) (rest := []) (wr := [(h0, .inr (0, [.int h_known, .int h_wares, .ref h1, .ref h2, .ref h3])), (h1, .inl (cyI, h_r, .inl h_leastRim)), (a7, .inl (cyI, 12, .inl a_mayOn))]) C (c_X9_rise l D cyC cyI cyJ cyZ cyO a0 a1 a2 a3 a4 a5 a6 a7 a8 a9 a10 x20_6 p2 a_wares a_shelves a_nests a_lids a_tops a_wide a_deep h_a_wares h_a_shelves h_a_nests (by omega) (by omega)) wd_32 wd_33 wd_158 wd_35 wd_36 ⟨by decide, by decide, rfl⟩ rfl ⟨rfl, rfl, by decide, by decide⟩ ⟨by decide, by decide⟩ [2, 3, 4] [0, 1, 5] rfl rfl ⟨by decide, by decide, by decide⟩ 2 rfl rfl rfl (Nat.le_of_ble_eq_true rfl) dX0_firstOn_55 (fun u_27 hw_28 => ?_)
              refine j_eq (ws2 := [(h0, .inr (0, [.int h_known, .int h_wares, .ref h1, .ref h2, .ref h3])), (h1, .inl (cyI, h_r, .inl h_leastRim)), (a7, .inl (cyI, 12, .inl a_mayOn)), (a0, .inr (9, [.int a_wares, .int a_shelves, .int a_nests, .ref a1, .ref a2, .ref a3, .ref a4, .ref a5, .ref a6, .int a_lids, .int a_tops, .ref a7, .ref a8, .ref a9, .ref a10])), (a1, .inl (cyI, 12, .inl a_wide)), (a2, .inl (cyI, 12, .inl a_deep))]) (pc2 := 58) (lv2 := [(6, .int x20_6), (5, .int p1), (0, .ref h0), (1, .ref a0), (2, .int p1), (3, .int p2), (4, .int p3)]) (st2 := [.int (u_27.2.1 0)]) rfl rfl rfl rfl ?_
              have hw_28_0 : (u_27.2.1 0) = (rsC a_wide a_deep a_lids) (x20_6).toInt.toNat (p2).toInt.toNat := hw_28
              refine j_istore (pc := 58) (lv' := [(7, .int (u_27.2.1 0)), (6, .int x20_6), (5, .int p1), (0, .ref h0), (1, .ref a0), (2, .int p1), (3, .int p2), (4, .int p3)]) C dX0_firstOn_58 (by decide) rfl ?_
              refine j_aload_n (pc := 60) C dX0_firstOn_60 rfl 3 rfl ?_
              refine j_get (pc := 61) (ci := 0) (v := .ref h1) C inw_0 0 rfl rfl 2 (by decide) wd_159 rfl rfl dX0_firstOn_61 ?_
              refine j_iload_n (pc := 64) C dX0_firstOn_64 rfl 5 rfl ?_
              refine j_aload_n (pc := 65) C dX0_firstOn_65 rfl 3 rfl ?_
              refine j_get (pc := 66) (ci := 0) (v := .int h_wares) C inw_0 0 rfl rfl 1 (by decide) wd_156 rfl rfl dX0_firstOn_66 ?_
              obtain ⟨v_29, ev_29⟩ : ∃ z : Int32, p1 * h_wares = z := ⟨_, rfl⟩
              obtain ⟨hv_29, hv_29a, hv_29b⟩ := mulS (x := p1) (y := h_wares) (by omega) (by omega) (by omega) (by omega)
              rw [ev_29] at hv_29
              have hv_29c := ix_mul (x := p1.toInt) (w := h_wares.toInt) (S := 2 ^ (h_wares).toInt.toNat) (r := (h_r : Nat)) (by omega) (by omega) (by omega) (by omega)
              refine j_imul (pc := 69) (v := v_29) C dX0_firstOn_69 ev_29 ?_
              refine j_iload (pc := 70) C dX0_firstOn_70 1 rfl ?_
              obtain ⟨v_30, ev_30⟩ : ∃ z : Int32, v_29 + x20_6 = z := ⟨_, rfl⟩
              have hv_30 : v_30.toInt = v_29.toInt + x20_6.toInt := by rw [← ev_30]; exact fb_addI (by omega) (by omega)
              refine j_iadd (pc := 72) (v := v_30) C dX0_firstOn_72 ev_30 ?_
              obtain ⟨v_31, ev_31⟩ : ∃ z, h_leastRim (v_30).toInt.toNat = z := ⟨_, rfl⟩
              have env_31 : (h_leastRim (v_30).toInt.toNat).toInt = v_31.toInt := by rw [ev_31]
              refine j_iald (pc := 73) (v := v_31) (k := (v_30).toInt.toNat) C 1 1 rfl rfl (i_nn (by omega)) rfl (i_lt_n (by omega) (by omega)) ev_31 dX0_firstOn_73 ?_
              refine j_istore (pc := 74) (lv' := [(8, .int v_31), (7, .int (u_27.2.1 0)), (6, .int x20_6), (5, .int p1), (0, .ref h0), (1, .ref a0), (2, .int p1), (3, .int p2), (4, .int p3)]) C dX0_firstOn_74 (by decide) rfl ?_
              refine j_iload (pc := 76) C dX0_firstOn_76 0 rfl ?_
              refine j_ldc (pc := 78) C wd_155 dX0_firstOn_78 ?_
              refine j_icmp_ge (pc := 80) (tgt := 96) C dX0_firstOn_80 (by decide) (fun c_32 => ?_) (fun c_32 => ?_)
              · skip
                have el_1000000 : (1000000 : Int32).toInt = 1000000 := rfl
                rw [i_le] at c_32
                obtain ⟨v_33, ev_33⟩ : ∃ z : Int32, x20_6 + 1 = z := ⟨_, rfl⟩
                have el_1 : (1 : Int32).toInt = 1 := rfl
                have hv_33 : v_33.toInt = x20_6.toInt + (1 : Int32).toInt := by rw [← ev_33]; exact fb_addI (by omega) (by omega)
                refine j_iinc (pc := 96) (v := v_33) (lv' := [(6, .int v_33), (8, .int v_31), (7, .int (u_27.2.1 0)), (5, .int p1), (0, .ref h0), (1, .ref a0), (2, .int p1), (3, .int p2), (4, .int p3)]) C dX0_firstOn_96 2 rfl ev_33 (by decide) rfl ?_
                refine j_goto (pc := 99) (tgt := 22) C dX0_firstOn_99 (by decide) ?_
                refine j_subG (ws' := [(h0, .inr (0, [.int h_known, .int h_wares, .ref h1, .ref h2, .ref h3])), (h1, .inl (cyI, h_r, .inl h_leastRim)), (a0, .inr (9, [.int a_wares, .int a_shelves, .int a_nests, .ref a1, .ref a2, .ref a3, .ref a4, .ref a5, .ref a6, .int a_lids, .int a_tops, .ref a7, .ref a8, .ref a9, .ref a10])), (a1, .inl (cyI, 12, .inl a_wide)), (a2, .inl (cyI, 12, .inl a_deep)), (a7, .inl (cyI, 12, .inl a_mayOn))]) [0, 1, 3, 4, 5, 2] (by decide) rfl ?_
                exact j_lv [0, 3, 4, 5, 6, 7, 8] rfl (ih_20 v_33 (by omega) (by omega))
              · skip
                have el_1000000 : (1000000 : Int32).toInt = 1000000 := rfl
                rw [i_le] at c_32
                refine j_iload (pc := 83) C dX0_firstOn_83 1 rfl ?_
                refine j_iload (pc := 85) C dX0_firstOn_85 0 rfl ?_
                obtain ⟨v_34, ev_34⟩ : ∃ z : Int32, (u_27.2.1 0) + v_31 = z := ⟨_, rfl⟩
                refine j_iadd (pc := 87) (v := v_34) C dX0_firstOn_87 ev_34 ?_
                refine j_iload (pc := 88) C dX0_firstOn_88 8 rfl ?_
                refine j_icmp_gt (pc := 90) (tgt := 96) C dX0_firstOn_90 (by decide) (fun c_35 => ?_) (fun c_35 => ?_)
                · skip
                  rw [i_lt] at c_35
                  obtain ⟨v_36, ev_36⟩ : ∃ z : Int32, x20_6 + 1 = z := ⟨_, rfl⟩
                  have el_1 : (1 : Int32).toInt = 1 := rfl
                  have hv_36 : v_36.toInt = x20_6.toInt + (1 : Int32).toInt := by rw [← ev_36]; exact fb_addI (by omega) (by omega)
                  refine j_iinc (pc := 96) (v := v_36) (lv' := [(6, .int v_36), (8, .int v_31), (7, .int (u_27.2.1 0)), (5, .int p1), (0, .ref h0), (1, .ref a0), (2, .int p1), (3, .int p2), (4, .int p3)]) C dX0_firstOn_96 2 rfl ev_36 (by decide) rfl ?_
                  refine j_goto (pc := 99) (tgt := 22) C dX0_firstOn_99 (by decide) ?_
                  refine j_subG (ws' := [(h0, .inr (0, [.int h_known, .int h_wares, .ref h1, .ref h2, .ref h3])), (h1, .inl (cyI, h_r, .inl h_leastRim)), (a0, .inr (9, [.int a_wares, .int a_shelves, .int a_nests, .ref a1, .ref a2, .ref a3, .ref a4, .ref a5, .ref a6, .int a_lids, .int a_tops, .ref a7, .ref a8, .ref a9, .ref a10])), (a1, .inl (cyI, 12, .inl a_wide)), (a2, .inl (cyI, 12, .inl a_deep)), (a7, .inl (cyI, 12, .inl a_mayOn))]) [0, 1, 3, 4, 5, 2] (by decide) rfl ?_
                  exact j_lv [0, 3, 4, 5, 6, 7, 8] rfl (ih_20 v_36 (by omega) (by omega))
                · skip
                  rw [i_lt] at c_35
                  refine j_iload (pc := 93) C dX0_firstOn_93 2 rfl ?_
                  exact j_iret (pc := 95) C hr hk (fun i => [].getD i 0, fun i => [x20_6].getD i 0, fun i => [].getD i (fun _ => 0), fun i => [].getD i (fun _ => 0)) rfl (show (-1 ≤ (x20_6).toInt ∧ (x20_6).toInt ≤ 11) ∧ (x20_6.toInt = -1 ∨ x20_6.toInt < (h_wares).toInt) from ⟨by omega, by omega⟩) [0, 1, 3, 4, 5, 2] (by decide) rfl (by decide) (by decide) dX0_firstOn_95
            · skip
              have el_m1 : ((-1) : Int32).toInt = (-1) := rfl
              rw [i_eq] at c_26
              refine j_iconst (pc := 47) (v := 0) C dX0_firstOn_47 (by decide) ?_
              refine j_goto (pc := 48) (tgt := 58) C dX0_firstOn_48 (by decide) ?_
              refine j_istore (pc := 58) (lv' := [(7, .int 0), (6, .int x20_6), (5, .int p1), (0, .ref h0), (1, .ref a0), (2, .int p1), (3, .int p2), (4, .int p3)]) C dX0_firstOn_58 (by decide) rfl ?_
              refine j_aload_n (pc := 60) C dX0_firstOn_60 rfl 3 rfl ?_
              refine j_get (pc := 61) (ci := 0) (v := .ref h1) C inw_0 0 rfl rfl 2 (by decide) wd_159 rfl rfl dX0_firstOn_61 ?_
              refine j_iload_n (pc := 64) C dX0_firstOn_64 rfl 5 rfl ?_
              refine j_aload_n (pc := 65) C dX0_firstOn_65 rfl 3 rfl ?_
              refine j_get (pc := 66) (ci := 0) (v := .int h_wares) C inw_0 0 rfl rfl 1 (by decide) wd_156 rfl rfl dX0_firstOn_66 ?_
              obtain ⟨v_37, ev_37⟩ : ∃ z : Int32, p1 * h_wares = z := ⟨_, rfl⟩
              obtain ⟨hv_37, hv_37a, hv_37b⟩ := mulS (x := p1) (y := h_wares) (by omega) (by omega) (by omega) (by omega)
              rw [ev_37] at hv_37
              have hv_37c := ix_mul (x := p1.toInt) (w := h_wares.toInt) (S := 2 ^ (h_wares).toInt.toNat) (r := (h_r : Nat)) (by omega) (by omega) (by omega) (by omega)
              refine j_imul (pc := 69) (v := v_37) C dX0_firstOn_69 ev_37 ?_
              refine j_iload (pc := 70) C dX0_firstOn_70 1 rfl ?_
              obtain ⟨v_38, ev_38⟩ : ∃ z : Int32, v_37 + x20_6 = z := ⟨_, rfl⟩
              have hv_38 : v_38.toInt = v_37.toInt + x20_6.toInt := by rw [← ev_38]; exact fb_addI (by omega) (by omega)
              refine j_iadd (pc := 72) (v := v_38) C dX0_firstOn_72 ev_38 ?_
              obtain ⟨v_39, ev_39⟩ : ∃ z, h_leastRim (v_38).toInt.toNat = z := ⟨_, rfl⟩
              have env_39 : (h_leastRim (v_38).toInt.toNat).toInt = v_39.toInt := by rw [ev_39]
              refine j_iald (pc := 73) (v := v_39) (k := (v_38).toInt.toNat) C 1 1 rfl rfl (i_nn (by omega)) rfl (i_lt_n (by omega) (by omega)) ev_39 dX0_firstOn_73 ?_
              refine j_istore (pc := 74) (lv' := [(8, .int v_39), (7, .int 0), (6, .int x20_6), (5, .int p1), (0, .ref h0), (1, .ref a0), (2, .int p1), (3, .int p2), (4, .int p3)]) C dX0_firstOn_74 (by decide) rfl ?_
              refine j_iload (pc := 76) C dX0_firstOn_76 0 rfl ?_
              refine j_ldc (pc := 78) C wd_155 dX0_firstOn_78 ?_
              refine j_icmp_ge (pc := 80) (tgt := 96) C dX0_firstOn_80 (by decide) (fun c_40 => ?_) (fun c_40 => ?_)
              · skip
                have el_1000000 : (1000000 : Int32).toInt = 1000000 := rfl
                rw [i_le] at c_40
                obtain ⟨v_41, ev_41⟩ : ∃ z : Int32, x20_6 + 1 = z := ⟨_, rfl⟩
                have el_1 : (1 : Int32).toInt = 1 := rfl
                have hv_41 : v_41.toInt = x20_6.toInt + (1 : Int32).toInt := by rw [← ev_41]; exact fb_addI (by omega) (by omega)
                refine j_iinc (pc := 96) (v := v_41) (lv' := [(6, .int v_41), (8, .int v_39), (7, .int 0), (5, .int p1), (0, .ref h0), (1, .ref a0), (2, .int p1), (3, .int p2), (4, .int p3)]) C dX0_firstOn_96 2 rfl ev_41 (by decide) rfl ?_
                refine j_goto (pc := 99) (tgt := 22) C dX0_firstOn_99 (by decide) ?_
                exact j_lv [0, 3, 4, 5, 6, 7, 8] rfl (ih_20 v_41 (by omega) (by omega))
              · skip
                have el_1000000 : (1000000 : Int32).toInt = 1000000 := rfl
                rw [i_le] at c_40
                refine j_iload (pc := 83) C dX0_firstOn_83 1 rfl ?_
                refine j_iload (pc := 85) C dX0_firstOn_85 0 rfl ?_
                obtain ⟨v_42, ev_42⟩ : ∃ z : Int32, 0 + v_39 = z := ⟨_, rfl⟩
                have el_0 : (0 : Int32).toInt = 0 := rfl
                have := i_bd v_39
                have hv_42 : v_42.toInt = (0 : Int32).toInt + v_39.toInt := by rw [← ev_42]; exact fb_addI (by omega) (by omega)
                refine j_iadd (pc := 87) (v := v_42) C dX0_firstOn_87 ev_42 ?_
                refine j_iload (pc := 88) C dX0_firstOn_88 8 rfl ?_
                refine j_icmp_gt (pc := 90) (tgt := 96) C dX0_firstOn_90 (by decide) (fun c_43 => ?_) (fun c_43 => ?_)
                · skip
                  rw [i_lt] at c_43
                  obtain ⟨v_44, ev_44⟩ : ∃ z : Int32, x20_6 + 1 = z := ⟨_, rfl⟩
                  have el_1 : (1 : Int32).toInt = 1 := rfl
                  have hv_44 : v_44.toInt = x20_6.toInt + (1 : Int32).toInt := by rw [← ev_44]; exact fb_addI (by omega) (by omega)
                  refine j_iinc (pc := 96) (v := v_44) (lv' := [(6, .int v_44), (8, .int v_39), (7, .int 0), (5, .int p1), (0, .ref h0), (1, .ref a0), (2, .int p1), (3, .int p2), (4, .int p3)]) C dX0_firstOn_96 2 rfl ev_44 (by decide) rfl ?_
                  refine j_goto (pc := 99) (tgt := 22) C dX0_firstOn_99 (by decide) ?_
                  exact j_lv [0, 3, 4, 5, 6, 7, 8] rfl (ih_20 v_44 (by omega) (by omega))
                · skip
                  rw [i_lt] at c_43
                  refine j_iload (pc := 93) C dX0_firstOn_93 2 rfl ?_
                  exact j_iret (pc := 95) C hr hk (fun i => [].getD i 0, fun i => [x20_6].getD i 0, fun i => [].getD i (fun _ => 0), fun i => [].getD i (fun _ => 0)) rfl (show (-1 ≤ (x20_6).toInt ∧ (x20_6).toInt ≤ 11) ∧ (x20_6.toInt = -1 ∨ x20_6.toInt < (h_wares).toInt) from ⟨by omega, by omega⟩) [0, 1, 2, 3, 4, 5] (by decide) rfl (by decide) (by decide) dX0_firstOn_95
    have el_0 : (0 : Int32).toInt = 0 := rfl
    exact j_lv [0, 1, 2, 3, 4, 5, 6] rfl (loop_20 4096 0 (by decide) (by omega))
set_option maxHeartbeats 4000000 in
set_option maxRecDepth 100000 in
theorem c_X0_inOrder (l : Launch) (D : DG) (cyC cyI cyJ cyZ cyO : ClassId) (h0 : Nat) (h1 : Nat) (a0 : Nat) (a1 : Nat) (a2 : Nat) (a7 : Nat) (h2 : Nat) (h3 : Nat) (a3 : Nat) (a4 : Nat) (a5 : Nat) (a6 : Nat) (a8 : Nat) (a9 : Nat) (a10 : Nat) (h_r : Nat) (p1 : Int32) (p2 : Int32) (p3 : Int32) (h_known : Int32) (h_wares : Int32) (a_wares : Int32) (a_shelves : Int32) (a_nests : Int32) (a_lids : Int32) (a_tops : Int32) (h_leastRim : Nat → Int32) (a_wide : Nat → Int32) (a_deep : Nat → Int32) (a_mayOn : Nat → Int32) (h_h_known : 0 ≤ (h_known).toInt ∧ (h_known).toInt ≤ 1) (h_h_wares : 0 ≤ (h_wares).toInt ∧ (h_wares).toInt ≤ 12) (h_a_wares : 0 ≤ (a_wares).toInt ∧ (a_wares).toInt ≤ 12) (h_a_shelves : 0 ≤ (a_shelves).toInt ∧ (a_shelves).toInt ≤ 4) (h_a_nests : 0 ≤ (a_nests).toInt ∧ (a_nests).toInt ≤ 4) (h_p1 : 0 ≤ (p1).toInt ∧ (p1).toInt ≤ 4095) (h_p3 : 0 ≤ (p3).toInt ∧ (p3).toInt ≤ 62) (hlr : (2 : Int) ^ (h_wares).toInt.toNat * (h_wares).toInt ≤ (h_r : Int)) (hbr : h_r ≤ 49152) (hset : (p1).toInt < (2 : Int) ^ (h_wares).toInt.toNat) : KK l D (TY cyC cyI cyJ cyZ cyO) yX0_inOrder cX0_inOrder 10 (some .int) ({ frames := 2, cells := 0, slots := 0, locals := 51 } : Room) 0 0 [.ref h0, .ref a0, .int p1, .int p2, .int p3] [(h0, .inr (0, [.int h_known, .int h_wares, .ref h1, .ref h2, .ref h3])), (h1, .inl (cyI, h_r, .inl h_leastRim)), (a0, .inr (9, [.int a_wares, .int a_shelves, .int a_nests, .ref a1, .ref a2, .ref a3, .ref a4, .ref a5, .ref a6, .int a_lids, .int a_tops, .ref a7, .ref a8, .ref a9, .ref a10])), (a1, .inl (cyI, 12, .inl a_wide)), (a2, .inl (cyI, 12, .inl a_deep)), (a7, .inl (cyI, 12, .inl a_mayOn))] (fun u => some (.int (u.2.1 0))) (fun u => (-1 ≤ (u.2.1 0).toInt ∧ (u.2.1 0).toInt ≤ 11)) (fun u => [(h0, .inr (0, [.int h_known, .int h_wares, .ref h1, .ref h2, .ref h3])), (h1, .inl (cyI, h_r, .inl h_leastRim)), (a0, .inr (9, [.int a_wares, .int a_shelves, .int a_nests, .ref a1, .ref a2, .ref a3, .ref a4, .ref a5, .ref a6, .int a_lids, .int a_tops, .ref a7, .ref a8, .ref a9, .ref a10])), (a1, .inl (cyI, 12, .inl a_wide)), (a2, .inl (cyI, 12, .inl a_deep)), (a7, .inl (cyI, 12, .inl a_mayOn))]) := by
  refine KK.of (lv0 := [(0, .ref h0), (1, .ref a0), (2, .int p1), (3, .int p2), (4, .int p3)]) (by decide) rfl (Nat.le_of_ble_eq_true rfl) ?_
  intro p e s m args below meth c A C hr hk hin
  have hpw1 := pw1 (h_wares).toInt.toNat
  refine j_iload_n (pc := 0) C dX0_inOrder_0 rfl 2 rfl ?_
  refine j_istore (pc := 1) (lv' := [(5, .int p1), (0, .ref h0), (1, .ref a0), (2, .int p1), (3, .int p2), (4, .int p3)]) C dX0_inOrder_1 (by decide) rfl ?_
  refine j_iload_n (pc := 3) C dX0_inOrder_3 rfl 4 rfl ?_
  refine j_istore (pc := 4) (lv' := [(6, .int p2), (5, .int p1), (0, .ref h0), (1, .ref a0), (2, .int p1), (3, .int p2), (4, .int p3)]) C dX0_inOrder_4 (by decide) rfl ?_
  refine j_iconst (pc := 6) (v := (-1)) C dX0_inOrder_6 (by decide) ?_
  refine j_istore (pc := 7) (lv' := [(7, .int (-1)), (6, .int p2), (5, .int p1), (0, .ref h0), (1, .ref a0), (2, .int p1), (3, .int p2), (4, .int p3)]) C dX0_inOrder_7 (by decide) rfl ?_
  refine j_iconst (pc := 9) (v := 0) C dX0_inOrder_9 (by decide) ?_
  refine j_istore (pc := 10) (lv' := [(8, .int 0), (7, .int (-1)), (6, .int p2), (5, .int p1), (0, .ref h0), (1, .ref a0), (2, .int p1), (3, .int p2), (4, .int p3)]) C dX0_inOrder_10 (by decide) rfl ?_
  have loop_1 : ∀ (k_1 : Nat) (x1_8 : Int32) (x1_7 : Int32) (x1_6 : Int32) (x1_5 : Int32), (0 ≤ (x1_8).toInt ∧ (x1_8).toInt ≤ 63) → (-1 ≤ (x1_7).toInt ∧ (x1_7).toInt ≤ 11) → (0 ≤ (x1_5).toInt ∧ (x1_5).toInt ≤ 4095) → (x1_5.toInt < (2 : Int) ^ (h_wares).toInt.toNat) → (63 - x1_8.toInt).toNat < k_1 → J p l e ({ frames := 2, cells := 0, slots := 0, locals := 51 } : Room) s m args below meth c D A 10 0 0 (QX below D (TY cyC cyI cyJ cyZ cyO) A (fun u => some (.int (u.2.1 0))) (fun u => (-1 ≤ (u.2.1 0).toInt ∧ (u.2.1 0).toInt ≤ 11)) (fun u => [(h0, .inr (0, [.int h_known, .int h_wares, .ref h1, .ref h2, .ref h3])), (h1, .inl (cyI, h_r, .inl h_leastRim)), (a0, .inr (9, [.int a_wares, .int a_shelves, .int a_nests, .ref a1, .ref a2, .ref a3, .ref a4, .ref a5, .ref a6, .int a_lids, .int a_tops, .ref a7, .ref a8, .ref a9, .ref a10])), (a1, .inl (cyI, 12, .inl a_wide)), (a2, .inl (cyI, 12, .inl a_deep)), (a7, .inl (cyI, 12, .inl a_mayOn))]) args s 0 0) [(h0, .inr (0, [.int h_known, .int h_wares, .ref h1, .ref h2, .ref h3])), (h1, .inl (cyI, h_r, .inl h_leastRim)), (a0, .inr (9, [.int a_wares, .int a_shelves, .int a_nests, .ref a1, .ref a2, .ref a3, .ref a4, .ref a5, .ref a6, .int a_lids, .int a_tops, .ref a7, .ref a8, .ref a9, .ref a10])), (a1, .inl (cyI, 12, .inl a_wide)), (a2, .inl (cyI, 12, .inl a_deep)), (a7, .inl (cyI, 12, .inl a_mayOn))] 12 [(8, .int x1_8), (7, .int x1_7), (6, .int x1_6), (5, .int x1_5), (0, .ref h0), (1, .ref a0), (2, .int p1), (3, .int p2), (4, .int p3)] [] := by
    intro k_1
    induction k_1 with
    | zero =>
      intro x1_8 x1_7 x1_6 x1_5 hi_1_0 hi_1_1 hi_1_3 hr_1 hm_1
      exact absurd hm_1 (Nat.not_lt_zero _)
    | succ k_1 ih_1 =>
      intro x1_8 x1_7 x1_6 x1_5 hi_1_0 hi_1_1 hi_1_3 hr_1 hm_1
      refine j_iload (pc := 12) C dX0_inOrder_12 0 rfl ?_
      refine j_iload (pc := 14) C dX0_inOrder_14 8 rfl ?_
      refine j_icmp_gt (pc := 16) (tgt := 82) C dX0_inOrder_16 (by decide) (fun c_2 => ?_) (fun c_2 => ?_)
      · skip
        rw [i_lt] at c_2
        refine j_iload (pc := 82) C dX0_inOrder_82 1 rfl ?_
        exact j_iret (pc := 84) C hr hk (fun i => [].getD i 0, fun i => [x1_7].getD i 0, fun i => [].getD i (fun _ => 0), fun i => [].getD i (fun _ => 0)) rfl (show (-1 ≤ (x1_7).toInt ∧ (x1_7).toInt ≤ 11) from (hi_1_1)) [0, 1, 2, 3, 4, 5] (by decide) rfl (by decide) (by decide) dX0_inOrder_84
      · skip
        rw [i_lt] at c_2
        refine j_aload_n (pc := 19) C dX0_inOrder_19 rfl 4 rfl ?_
        refine j_aload_n (pc := 20) C dX0_inOrder_20 rfl 5 rfl ?_
        refine j_iload (pc := 21) C dX0_inOrder_21 3 rfl ?_
        refine j_iload (pc := 23) C dX0_inOrder_23 1 rfl ?_
        refine j_iload (pc := 25) C dX0_inOrder_25 2 rfl ?_
        refine j_callV (pc := 27) (As := [.ref a0, .int x1_5, .int x1_7, .int x1_6]) (rest := []) (wr := []) C (c_X0_firstOn l D cyC cyI cyJ cyZ cyO h0 h1 a0 a1 a2 a7 h2 h3 a3 a4 a5 a6 a8 a9 a10 h_r x1_5 x1_7 x1_6 h_known h_wares a_wares a_shelves a_nests a_lids a_tops h_leastRim a_wide a_deep a_mayOn h_h_known h_h_wares h_a_wares h_a_shelves h_a_nests hi_1_3 hi_1_1 hlr hbr (by omega)) wd_170 wd_166 wd_171 wd_172 wd_173 ⟨by decide, by decide, rfl⟩ rfl ⟨rfl, rfl, by decide, by decide⟩ ⟨by decide, by decide⟩ [0, 1, 2, 3, 4, 5] [] rfl rfl ⟨by decide, by decide, by decide⟩ 0 rfl rfl rfl (Nat.le_of_ble_eq_true rfl) dX0_inOrder_27 (fun u_3 hw_4 => ?_)
        refine j_eq (ws2 := [(h0, .inr (0, [.int h_known, .int h_wares, .ref h1, .ref h2, .ref h3])), (h1, .inl (cyI, h_r, .inl h_leastRim)), (a0, .inr (9, [.int a_wares, .int a_shelves, .int a_nests, .ref a1, .ref a2, .ref a3, .ref a4, .ref a5, .ref a6, .int a_lids, .int a_tops, .ref a7, .ref a8, .ref a9, .ref a10])), (a1, .inl (cyI, 12, .inl a_wide)), (a2, .inl (cyI, 12, .inl a_deep)), (a7, .inl (cyI, 12, .inl a_mayOn))]) (pc2 := 30) (lv2 := [(8, .int x1_8), (7, .int x1_7), (6, .int x1_6), (5, .int x1_5), (0, .ref h0), (1, .ref a0), (2, .int p1), (3, .int p2), (4, .int p3)]) (st2 := [.int (u_3.2.1 0)]) rfl rfl rfl rfl ?_
        obtain ⟨hw_4_0, hw_4_1⟩ := hw_4
        refine j_istore (pc := 30) (lv' := [(9, .int (u_3.2.1 0)), (8, .int x1_8), (7, .int x1_7), (6, .int x1_6), (5, .int x1_5), (0, .ref h0), (1, .ref a0), (2, .int p1), (3, .int p2), (4, .int p3)]) C dX0_inOrder_30 (by decide) rfl ?_
        refine j_iload (pc := 32) C dX0_inOrder_32 0 rfl ?_
        refine j_iconst (pc := 34) (v := (-1)) C dX0_inOrder_34 (by decide) ?_
        refine j_icmp_ne (pc := 35) (tgt := 40) C dX0_inOrder_35 (by decide) (fun c_5 => ?_) (fun c_5 => ?_)
        · skip
          have el_m1 : ((-1) : Int32).toInt = (-1) := rfl
          rw [i_eq] at c_5
          refine j_iload (pc := 40) C dX0_inOrder_40 3 rfl ?_
          refine j_iload (pc := 42) C dX0_inOrder_42 2 rfl ?_
          refine j_iconst (pc := 44) (v := (-1)) C dX0_inOrder_44 (by decide) ?_
          refine j_icmp_ne (pc := 45) (tgt := 52) C dX0_inOrder_45 (by decide) (fun c_6 => ?_) (fun c_6 => ?_)
          · skip
            have el_m1 : ((-1) : Int32).toInt = (-1) := rfl
            rw [i_eq] at c_6
            refine j_aload_n (pc := 52) C dX0_inOrder_52 rfl 6 rfl ?_
            refine j_iload (pc := 53) C dX0_inOrder_53 0 rfl ?_
            refine j_iload (pc := 55) C dX0_inOrder_55 2 rfl ?_
            refine j_callV (pc := 57) (As := [.int (u_3.2.1 0), .int x1_7]) (rest := [.int x1_6]) (wr := [(h0, .inr (0, [.int h_known, .int h_wares, .ref h1, .ref h2, .ref h3])), (h1, .inl (cyI, h_r, .inl h_leastRim)), (a7, .inl (cyI, 12, .inl a_mayOn))]) C (c_X9_rise l D cyC cyI cyJ cyZ cyO a0 a1 a2 a3 a4 a5 a6 a7 a8 a9 a10 (u_3.2.1 0) x1_7 a_wares a_shelves a_nests a_lids a_tops a_wide a_deep h_a_wares h_a_shelves h_a_nests (by omega) (by omega)) wd_32 wd_33 wd_158 wd_35 wd_36 ⟨by decide, by decide, rfl⟩ rfl ⟨rfl, rfl, by decide, by decide⟩ ⟨by decide, by decide⟩ [2, 3, 4] [0, 1, 5] rfl rfl ⟨by decide, by decide, by decide⟩ 2 rfl rfl rfl (Nat.le_of_ble_eq_true rfl) dX0_inOrder_57 (fun u_7 hw_8 => ?_)
            refine j_eq (ws2 := [(h0, .inr (0, [.int h_known, .int h_wares, .ref h1, .ref h2, .ref h3])), (h1, .inl (cyI, h_r, .inl h_leastRim)), (a7, .inl (cyI, 12, .inl a_mayOn)), (a0, .inr (9, [.int a_wares, .int a_shelves, .int a_nests, .ref a1, .ref a2, .ref a3, .ref a4, .ref a5, .ref a6, .int a_lids, .int a_tops, .ref a7, .ref a8, .ref a9, .ref a10])), (a1, .inl (cyI, 12, .inl a_wide)), (a2, .inl (cyI, 12, .inl a_deep))]) (pc2 := 60) (lv2 := [(9, .int (u_3.2.1 0)), (8, .int x1_8), (7, .int x1_7), (6, .int x1_6), (5, .int x1_5), (0, .ref h0), (1, .ref a0), (2, .int p1), (3, .int p2), (4, .int p3)]) (st2 := [.int (u_7.2.1 0), .int x1_6]) rfl rfl rfl rfl ?_
            have hw_8_0 : (u_7.2.1 0) = (rsC a_wide a_deep a_lids) ((u_3.2.1 0)).toInt.toNat (x1_7).toInt.toNat := hw_8
            obtain ⟨v_9, ev_9⟩ : ∃ z : Int32, x1_6 - (u_7.2.1 0) = z := ⟨_, rfl⟩
            refine j_isub (pc := 60) (v := v_9) C dX0_inOrder_60 ev_9 ?_
            refine j_istore (pc := 61) (lv' := [(6, .int v_9), (9, .int (u_3.2.1 0)), (8, .int x1_8), (7, .int x1_7), (5, .int x1_5), (0, .ref h0), (1, .ref a0), (2, .int p1), (3, .int p2), (4, .int p3)]) C dX0_inOrder_61 (by decide) rfl ?_
            refine j_iload (pc := 63) C dX0_inOrder_63 4 rfl ?_
            refine j_iconst (pc := 65) (v := 1) C dX0_inOrder_65 (by decide) ?_
            refine j_iload (pc := 66) C dX0_inOrder_66 1 rfl ?_
            obtain ⟨v_10, ev_10⟩ : ∃ z : Int32, 1 <<< ((u_3.2.1 0) &&& 31) = z := ⟨_, rfl⟩
            have el_1 : (1 : Int32).toInt = 1 := rfl
            have hv_10 : 1 ≤ v_10.toInt ∧ v_10.toInt ≤ 2048 := by rw [← ev_10]; exact shl1_iv 0 11 (by omega) (by omega) (by omega)
            have hv_10p : v_10.toInt < 2 ^ (h_wares).toInt.toNat := by rw [← ev_10]; exact shl1_lt (by omega) (by omega) (by omega)
            refine j_ishl (pc := 68) (v := v_10) C dX0_inOrder_68 ev_10 ?_
            obtain ⟨v_11, ev_11⟩ : ∃ z : Int32, x1_5 ^^^ v_10 = z := ⟨_, rfl⟩
            have hv_11 : 0 ≤ v_11.toInt ∧ v_11.toInt ≤ 4095 := by rw [← ev_11]; exact xorb 12 (by decide) (by omega) (by omega) (by omega) (by omega)
            have hv_11p : 0 ≤ v_11.toInt ∧ v_11.toInt < 2 ^ (h_wares).toInt.toNat := by rw [← ev_11]; exact xorP (by omega) (by omega) (by omega) (by omega) (by omega)
            refine j_ixor (pc := 69) (v := v_11) C dX0_inOrder_69 ev_11 ?_
            refine j_istore (pc := 70) (lv' := [(5, .int v_11), (6, .int v_9), (9, .int (u_3.2.1 0)), (8, .int x1_8), (7, .int x1_7), (0, .ref h0), (1, .ref a0), (2, .int p1), (3, .int p2), (4, .int p3)]) C dX0_inOrder_70 (by decide) rfl ?_
            refine j_iload (pc := 72) C dX0_inOrder_72 2 rfl ?_
            refine j_istore (pc := 74) (lv' := [(7, .int (u_3.2.1 0)), (5, .int v_11), (6, .int v_9), (9, .int (u_3.2.1 0)), (8, .int x1_8), (0, .ref h0), (1, .ref a0), (2, .int p1), (3, .int p2), (4, .int p3)]) C dX0_inOrder_74 (by decide) rfl ?_
            obtain ⟨v_12, ev_12⟩ : ∃ z : Int32, x1_8 + 1 = z := ⟨_, rfl⟩
            have el_1 : (1 : Int32).toInt = 1 := rfl
            have hv_12 : v_12.toInt = x1_8.toInt + (1 : Int32).toInt := by rw [← ev_12]; exact fb_addI (by omega) (by omega)
            refine j_iinc (pc := 76) (v := v_12) (lv' := [(8, .int v_12), (7, .int (u_3.2.1 0)), (5, .int v_11), (6, .int v_9), (9, .int (u_3.2.1 0)), (0, .ref h0), (1, .ref a0), (2, .int p1), (3, .int p2), (4, .int p3)]) C dX0_inOrder_76 4 rfl ev_12 (by decide) rfl ?_
            refine j_goto (pc := 79) (tgt := 12) C dX0_inOrder_79 (by decide) ?_
            refine j_subG (ws' := [(h0, .inr (0, [.int h_known, .int h_wares, .ref h1, .ref h2, .ref h3])), (h1, .inl (cyI, h_r, .inl h_leastRim)), (a0, .inr (9, [.int a_wares, .int a_shelves, .int a_nests, .ref a1, .ref a2, .ref a3, .ref a4, .ref a5, .ref a6, .int a_lids, .int a_tops, .ref a7, .ref a8, .ref a9, .ref a10])), (a1, .inl (cyI, 12, .inl a_wide)), (a2, .inl (cyI, 12, .inl a_deep)), (a7, .inl (cyI, 12, .inl a_mayOn))]) [0, 1, 3, 4, 5, 2] (by decide) rfl ?_
            exact j_lv [0, 1, 3, 2, 5, 6, 7, 8, 9] rfl (ih_1 v_12 (u_3.2.1 0) v_9 v_11 (by omega) hw_4_0 (by omega) (by omega) (by omega))
          · skip
            have el_m1 : ((-1) : Int32).toInt = (-1) := rfl
            rw [i_eq] at c_6
            refine j_iconst (pc := 48) (v := 0) C dX0_inOrder_48 (by decide) ?_
            refine j_goto (pc := 49) (tgt := 60) C dX0_inOrder_49 (by decide) ?_
            obtain ⟨v_13, ev_13⟩ : ∃ z : Int32, x1_6 - 0 = z := ⟨_, rfl⟩
            have el_0 : (0 : Int32).toInt = 0 := rfl
            refine j_isub (pc := 60) (v := v_13) C dX0_inOrder_60 ev_13 ?_
            refine j_istore (pc := 61) (lv' := [(6, .int v_13), (9, .int (u_3.2.1 0)), (8, .int x1_8), (7, .int x1_7), (5, .int x1_5), (0, .ref h0), (1, .ref a0), (2, .int p1), (3, .int p2), (4, .int p3)]) C dX0_inOrder_61 (by decide) rfl ?_
            refine j_iload (pc := 63) C dX0_inOrder_63 4 rfl ?_
            refine j_iconst (pc := 65) (v := 1) C dX0_inOrder_65 (by decide) ?_
            refine j_iload (pc := 66) C dX0_inOrder_66 1 rfl ?_
            obtain ⟨v_14, ev_14⟩ : ∃ z : Int32, 1 <<< ((u_3.2.1 0) &&& 31) = z := ⟨_, rfl⟩
            have el_1 : (1 : Int32).toInt = 1 := rfl
            have hv_14 : 1 ≤ v_14.toInt ∧ v_14.toInt ≤ 2048 := by rw [← ev_14]; exact shl1_iv 0 11 (by omega) (by omega) (by omega)
            have hv_14p : v_14.toInt < 2 ^ (h_wares).toInt.toNat := by rw [← ev_14]; exact shl1_lt (by omega) (by omega) (by omega)
            refine j_ishl (pc := 68) (v := v_14) C dX0_inOrder_68 ev_14 ?_
            obtain ⟨v_15, ev_15⟩ : ∃ z : Int32, x1_5 ^^^ v_14 = z := ⟨_, rfl⟩
            have hv_15 : 0 ≤ v_15.toInt ∧ v_15.toInt ≤ 4095 := by rw [← ev_15]; exact xorb 12 (by decide) (by omega) (by omega) (by omega) (by omega)
            have hv_15p : 0 ≤ v_15.toInt ∧ v_15.toInt < 2 ^ (h_wares).toInt.toNat := by rw [← ev_15]; exact xorP (by omega) (by omega) (by omega) (by omega) (by omega)
            refine j_ixor (pc := 69) (v := v_15) C dX0_inOrder_69 ev_15 ?_
            refine j_istore (pc := 70) (lv' := [(5, .int v_15), (6, .int v_13), (9, .int (u_3.2.1 0)), (8, .int x1_8), (7, .int x1_7), (0, .ref h0), (1, .ref a0), (2, .int p1), (3, .int p2), (4, .int p3)]) C dX0_inOrder_70 (by decide) rfl ?_
            refine j_iload (pc := 72) C dX0_inOrder_72 2 rfl ?_
            refine j_istore (pc := 74) (lv' := [(7, .int (u_3.2.1 0)), (5, .int v_15), (6, .int v_13), (9, .int (u_3.2.1 0)), (8, .int x1_8), (0, .ref h0), (1, .ref a0), (2, .int p1), (3, .int p2), (4, .int p3)]) C dX0_inOrder_74 (by decide) rfl ?_
            obtain ⟨v_16, ev_16⟩ : ∃ z : Int32, x1_8 + 1 = z := ⟨_, rfl⟩
            have el_1 : (1 : Int32).toInt = 1 := rfl
            have hv_16 : v_16.toInt = x1_8.toInt + (1 : Int32).toInt := by rw [← ev_16]; exact fb_addI (by omega) (by omega)
            refine j_iinc (pc := 76) (v := v_16) (lv' := [(8, .int v_16), (7, .int (u_3.2.1 0)), (5, .int v_15), (6, .int v_13), (9, .int (u_3.2.1 0)), (0, .ref h0), (1, .ref a0), (2, .int p1), (3, .int p2), (4, .int p3)]) C dX0_inOrder_76 4 rfl ev_16 (by decide) rfl ?_
            refine j_goto (pc := 79) (tgt := 12) C dX0_inOrder_79 (by decide) ?_
            exact j_lv [0, 1, 3, 2, 5, 6, 7, 8, 9] rfl (ih_1 v_16 (u_3.2.1 0) v_13 v_15 (by omega) hw_4_0 (by omega) (by omega) (by omega))
        · skip
          have el_m1 : ((-1) : Int32).toInt = (-1) := rfl
          rw [i_eq] at c_5
          refine j_iconst (pc := 38) (v := (-1)) C dX0_inOrder_38 (by decide) ?_
          have el_m1 : ((-1) : Int32).toInt = (-1) := rfl
          exact j_iret (pc := 39) C hr hk (fun i => [].getD i 0, fun i => [(-1)].getD i 0, fun i => [].getD i (fun _ => 0), fun i => [].getD i (fun _ => 0)) rfl (show (-1 ≤ (((-1) : Int32)).toInt ∧ (((-1) : Int32)).toInt ≤ 11) from (by omega)) [0, 1, 2, 3, 4, 5] (by decide) rfl (by decide) (by decide) dX0_inOrder_39
  have el_0 : (0 : Int32).toInt = 0 := rfl
  have el_m1 : ((-1) : Int32).toInt = (-1) := rfl
  exact j_lv [0, 1, 2, 3, 4, 5, 6, 7, 8] rfl (loop_1 4096 0 (-1) p2 p1 (by decide) (by decide) h_p1 (by omega) (by omega))
set_option maxHeartbeats 4000000 in
set_option maxRecDepth 100000 in
theorem c_X0_fewestOf (l : Launch) (D : DG) (cyC cyI cyJ cyZ cyO : ClassId) (h0 : Nat) (h2 : Nat) (h3 : Nat) (h1 : Nat) (h_n : Nat) (p1 : Int32) (p2 : Int32) (h_known : Int32) (h_wares : Int32) (h_least : Nat → Int32) (h_stacks : Nat → Int32) (h_h_known : 0 ≤ (h_known).toInt ∧ (h_known).toInt ≤ 1) (h_h_wares : 0 ≤ (h_wares).toInt ∧ (h_wares).toInt ≤ 12) (h_p1 : 1 ≤ (p1).toInt ∧ (p1).toInt ≤ 4095) (hln : (2 : Int) ^ (h_wares).toInt.toNat ≤ (h_n : Int)) (hbn : h_n ≤ 4096) (hset : (p1).toInt < (2 : Int) ^ (h_wares).toInt.toNat) : KK l D (TY cyC cyI cyJ cyZ cyO) yX0_fewestOf cX0_fewestOf 8 (some .int) ({ frames := 1, cells := 0, slots := 0, locals := 20 } : Room) 0 0 [.ref h0, .int p1, .int p2] [(h0, .inr (0, [.int h_known, .int h_wares, .ref h1, .ref h2, .ref h3])), (h2, .inl (cyI, h_n, .inl h_least)), (h3, .inl (cyI, h_n, .inl h_stacks))] (fun u => some (.int (u.2.1 0))) (fun u => True) (fun u => [(h0, .inr (0, [.int h_known, .int h_wares, .ref h1, .ref h2, .ref h3])), (h2, .inl (cyI, h_n, .inl h_least)), (h3, .inl (cyI, h_n, .inl h_stacks))]) := by
  refine KK.of (lv0 := [(0, .ref h0), (1, .int p1), (2, .int p2)]) (by decide) rfl (Nat.le_of_ble_eq_true rfl) ?_
  intro p e s m args below meth c A C hr hk hin
  have hpw1 := pw1 (h_wares).toInt.toNat
  refine j_iload_n (pc := 0) C dX0_fewestOf_0 rfl 1 rfl ?_
  refine j_callS (pc := 1) (As := [.int p1]) (rest := []) (wr := [(h0, .inr (0, [.int h_known, .int h_wares, .ref h1, .ref h2, .ref h3])), (h2, .inl (cyI, h_n, .inl h_least)), (h3, .inl (cyI, h_n, .inl h_stacks))]) C (c_J6_lowestOneBit_0f7a4 l D cyC cyI cyJ cyZ cyO p1 (by omega)) wd_174 wd_85 wd_175 wd_176 ⟨by decide, by decide, rfl⟩ rfl ⟨rfl, rfl, by decide, by decide⟩ ⟨by decide, by decide⟩ [] [0, 1, 2] rfl rfl ⟨by decide, by decide, by decide⟩ rfl (Nat.le_of_ble_eq_true rfl) dX0_fewestOf_1 (fun u_1 hw_2 => ?_)
  refine j_eq (ws2 := [(h0, .inr (0, [.int h_known, .int h_wares, .ref h1, .ref h2, .ref h3])), (h2, .inl (cyI, h_n, .inl h_least)), (h3, .inl (cyI, h_n, .inl h_stacks))]) (pc2 := 4) (lv2 := [(0, .ref h0), (1, .int p1), (2, .int p2)]) (st2 := [.int (u_1.2.1 0)]) rfl rfl rfl rfl ?_
  obtain ⟨hw_2_0, hw_2_1⟩ := hw_2
  refine j_istore_n (pc := 4) (lv' := [(3, .int (u_1.2.1 0)), (0, .ref h0), (1, .int p1), (2, .int p2)]) C dX0_fewestOf_4 rfl (by decide) rfl ?_
  refine j_iload_n (pc := 5) C dX0_fewestOf_5 rfl 2 rfl ?_
  refine j_iload_n (pc := 6) C dX0_fewestOf_6 rfl 0 rfl ?_
  obtain ⟨v_3, ev_3⟩ : ∃ z : Int32, p1 ^^^ (u_1.2.1 0) = z := ⟨_, rfl⟩
  have hv_3 : 0 ≤ v_3.toInt ∧ v_3.toInt ≤ 4095 := by rw [← ev_3]; exact xorb 12 (by decide) (by omega) (by omega) (by omega) (by omega)
  have hv_3p : 0 ≤ v_3.toInt ∧ v_3.toInt < 2 ^ (h_wares).toInt.toNat := by rw [← ev_3]; exact xorP (by omega) (by omega) (by omega) (by omega) (by omega)
  refine j_ixor (pc := 7) (v := v_3) C dX0_fewestOf_7 ev_3 ?_
  refine j_istore (pc := 8) (lv' := [(4, .int v_3), (3, .int (u_1.2.1 0)), (0, .ref h0), (1, .int p1), (2, .int p2)]) C dX0_fewestOf_8 (by decide) rfl ?_
  refine j_bipush (pc := 10) (v := 12) C dX0_fewestOf_10 (by decide) ?_
  refine j_istore (pc := 12) (lv' := [(5, .int 12), (4, .int v_3), (3, .int (u_1.2.1 0)), (0, .ref h0), (1, .int p1), (2, .int p2)]) C dX0_fewestOf_12 (by decide) rfl ?_
  refine j_iload (pc := 14) C dX0_fewestOf_14 1 rfl ?_
  refine j_istore (pc := 16) (lv' := [(6, .int v_3), (5, .int 12), (4, .int v_3), (3, .int (u_1.2.1 0)), (0, .ref h0), (1, .int p1), (2, .int p2)]) C dX0_fewestOf_16 (by decide) rfl ?_
  refine j_iconst (pc := 18) (v := 1) C dX0_fewestOf_18 (by decide) ?_
  refine j_iload (pc := 19) C dX0_fewestOf_19 2 rfl ?_
  refine j_callS (pc := 21) (As := [.int v_3]) (rest := [.int 1]) (wr := [(h0, .inr (0, [.int h_known, .int h_wares, .ref h1, .ref h2, .ref h3])), (h2, .inl (cyI, h_n, .inl h_least)), (h3, .inl (cyI, h_n, .inl h_stacks))]) C (c_J6_bitCount_0f7a4 l D cyC cyI cyJ cyZ cyO v_3) wd_84 wd_85 wd_177 wd_87 ⟨by decide, by decide, rfl⟩ rfl ⟨rfl, rfl, by decide, by decide⟩ ⟨by decide, by decide⟩ [] [0, 1, 2] rfl rfl ⟨by decide, by decide, by decide⟩ rfl (Nat.le_of_ble_eq_true rfl) dX0_fewestOf_21 (fun u_4 hw_5 => ?_)
  refine j_eq (ws2 := [(h0, .inr (0, [.int h_known, .int h_wares, .ref h1, .ref h2, .ref h3])), (h2, .inl (cyI, h_n, .inl h_least)), (h3, .inl (cyI, h_n, .inl h_stacks))]) (pc2 := 24) (lv2 := [(6, .int v_3), (5, .int 12), (4, .int v_3), (3, .int (u_1.2.1 0)), (0, .ref h0), (1, .int p1), (2, .int p2)]) (st2 := [.int (u_4.2.1 0), .int 1]) rfl rfl rfl rfl ?_
  have hw_5_0 : 0 ≤ (u_4.2.1 0).toInt ∧ (u_4.2.1 0).toInt ≤ 63 := hw_5
  obtain ⟨v_6, ev_6⟩ : ∃ z : Int32, 1 <<< ((u_4.2.1 0) &&& 31) = z := ⟨_, rfl⟩
  have el_1 : (1 : Int32).toInt = 1 := rfl
  have hv_6 := i_bd v_6
  refine j_ishl (pc := 24) (v := v_6) C dX0_fewestOf_24 ev_6 ?_
  refine j_istore (pc := 25) (lv' := [(7, .int v_6), (6, .int v_3), (5, .int 12), (4, .int v_3), (3, .int (u_1.2.1 0)), (0, .ref h0), (1, .int p1), (2, .int p2)]) C dX0_fewestOf_25 (by decide) rfl ?_
  have loop_7 : ∀ (k_7 : Nat) (x7_7 : Int32) (x7_6 : Int32) (x7_5 : Int32), (-2147483648 ≤ (x7_7).toInt ∧ (x7_7).toInt ≤ 2147483647) → (0 ≤ (x7_6).toInt ∧ (x7_6).toInt ≤ 4095) → (x7_6.toInt < (2 : Int) ^ (h_wares).toInt.toNat) → (x7_7.toInt).toNat < k_7 → J p l e ({ frames := 1, cells := 0, slots := 0, locals := 20 } : Room) s m args below meth c D A 8 0 0 (QX below D (TY cyC cyI cyJ cyZ cyO) A (fun u => some (.int (u.2.1 0))) (fun u => True) (fun u => [(h0, .inr (0, [.int h_known, .int h_wares, .ref h1, .ref h2, .ref h3])), (h2, .inl (cyI, h_n, .inl h_least)), (h3, .inl (cyI, h_n, .inl h_stacks))]) args s 0 0) [(h0, .inr (0, [.int h_known, .int h_wares, .ref h1, .ref h2, .ref h3])), (h2, .inl (cyI, h_n, .inl h_least)), (h3, .inl (cyI, h_n, .inl h_stacks))] 27 [(7, .int x7_7), (6, .int x7_6), (5, .int x7_5), (4, .int v_3), (3, .int (u_1.2.1 0)), (0, .ref h0), (1, .int p1), (2, .int p2)] [] := by
    intro k_7
    induction k_7 with
    | zero =>
      intro x7_7 x7_6 x7_5 hi_7_0 hi_7_1 hr_7 hm_7
      exact absurd hm_7 (Nat.not_lt_zero _)
    | succ k_7 ih_7 =>
      intro x7_7 x7_6 x7_5 hi_7_0 hi_7_1 hr_7 hm_7
      refine j_iload (pc := 27) C dX0_fewestOf_27 0 rfl ?_
      refine j_if_le (pc := 29) (tgt := 85) C dX0_fewestOf_29 (by decide) (fun c_8 => ?_) (fun c_8 => ?_)
      · skip
        have el_0 : (0 : Int32).toInt = 0 := rfl
        rw [i_le] at c_8
        refine j_iload (pc := 85) C dX0_fewestOf_85 2 rfl ?_
        exact j_iret (pc := 87) C hr hk (fun i => [].getD i 0, fun i => [x7_5].getD i 0, fun i => [].getD i (fun _ => 0), fun i => [].getD i (fun _ => 0)) rfl trivial [0, 1, 2] (by decide) rfl (by decide) (by decide) dX0_fewestOf_87
      · skip
        have el_0 : (0 : Int32).toInt = 0 := rfl
        rw [i_le] at c_8
        refine j_aload_n (pc := 32) C dX0_fewestOf_32 rfl 5 rfl ?_
        refine j_get (pc := 33) (ci := 0) (v := .ref h3) C inw_0 0 rfl rfl 4 (by decide) wd_178 rfl rfl dX0_fewestOf_33 ?_
        refine j_iload (pc := 36) C dX0_fewestOf_36 1 rfl ?_
        obtain ⟨v_9, ev_9⟩ : ∃ z, h_stacks (x7_6).toInt.toNat = z := ⟨_, rfl⟩
        have env_9 : (h_stacks (x7_6).toInt.toNat).toInt = v_9.toInt := by rw [ev_9]
        refine j_iald (pc := 38) (v := v_9) (k := (x7_6).toInt.toNat) C 2 1 rfl rfl (i_nn hi_7_1.1) rfl (i_lt_n hi_7_1.1 (by omega)) ev_9 dX0_fewestOf_38 ?_
        refine j_iconst (pc := 39) (v := 1) C dX0_fewestOf_39 (by decide) ?_
        obtain ⟨v_10, ev_10⟩ : ∃ z : Int32, v_9 + 1 = z := ⟨_, rfl⟩
        have el_1 : (1 : Int32).toInt = 1 := rfl
        refine j_iadd (pc := 40) (v := v_10) C dX0_fewestOf_40 ev_10 ?_
        refine j_iload (pc := 41) C dX0_fewestOf_41 2 rfl ?_
        refine j_icmp_ge (pc := 43) (tgt := 70) C dX0_fewestOf_43 (by decide) (fun c_11 => ?_) (fun c_11 => ?_)
        · skip
          rw [i_le] at c_11
          refine j_iload (pc := 70) C dX0_fewestOf_70 1 rfl ?_
          refine j_iconst (pc := 72) (v := 1) C dX0_fewestOf_72 (by decide) ?_
          obtain ⟨v_12, ev_12⟩ : ∃ z : Int32, x7_6 - 1 = z := ⟨_, rfl⟩
          have el_1 : (1 : Int32).toInt = 1 := rfl
          have hv_12 : v_12.toInt = x7_6.toInt - (1 : Int32).toInt := by rw [← ev_12]; exact fb_subI (by omega) (by omega)
          refine j_isub (pc := 73) (v := v_12) C dX0_fewestOf_73 ev_12 ?_
          refine j_iload (pc := 74) C dX0_fewestOf_74 3 rfl ?_
          obtain ⟨v_13, ev_13⟩ : ∃ z : Int32, v_12 &&& v_3 = z := ⟨_, rfl⟩
          have hv_13 : 0 ≤ v_13.toInt ∧ v_13.toInt ≤ v_3.toInt := by rw [← ev_13]; exact andb_r (by omega)
          refine j_iand (pc := 76) (v := v_13) C dX0_fewestOf_76 ev_13 ?_
          refine j_istore (pc := 77) (lv' := [(6, .int v_13), (7, .int x7_7), (5, .int x7_5), (4, .int v_3), (3, .int (u_1.2.1 0)), (0, .ref h0), (1, .int p1), (2, .int p2)]) C dX0_fewestOf_77 (by decide) rfl ?_
          obtain ⟨v_14, ev_14⟩ : ∃ z : Int32, x7_7 + (-1) = z := ⟨_, rfl⟩
          have el_m1 : ((-1) : Int32).toInt = (-1) := rfl
          have := i_bd x7_7
          have hv_14 : v_14.toInt = x7_7.toInt + ((-1) : Int32).toInt := by rw [← ev_14]; exact fb_addI (by omega) (by omega)
          refine j_iinc (pc := 79) (v := v_14) (lv' := [(7, .int v_14), (6, .int v_13), (5, .int x7_5), (4, .int v_3), (3, .int (u_1.2.1 0)), (0, .ref h0), (1, .int p1), (2, .int p2)]) C dX0_fewestOf_79 1 rfl ev_14 (by decide) rfl ?_
          refine j_goto (pc := 82) (tgt := 27) C dX0_fewestOf_82 (by decide) ?_
          exact j_lv [0, 1, 2, 3, 4, 5, 6, 7] rfl (ih_7 v_14 v_13 x7_5 (by omega) (by omega) (by omega) (by omega))
        · skip
          rw [i_le] at c_11
          refine j_aload_n (pc := 46) C dX0_fewestOf_46 rfl 5 rfl ?_
          refine j_get (pc := 47) (ci := 0) (v := .ref h2) C inw_0 0 rfl rfl 3 (by decide) wd_162 rfl rfl dX0_fewestOf_47 ?_
          refine j_iload_n (pc := 50) C dX0_fewestOf_50 rfl 6 rfl ?_
          refine j_iload (pc := 51) C dX0_fewestOf_51 1 rfl ?_
          obtain ⟨v_15, ev_15⟩ : ∃ z : Int32, p1 ^^^ x7_6 = z := ⟨_, rfl⟩
          have hv_15 : 0 ≤ v_15.toInt ∧ v_15.toInt ≤ 4095 := by rw [← ev_15]; exact xorb 12 (by decide) (by omega) (by omega) (by omega) (by omega)
          have hv_15p : 0 ≤ v_15.toInt ∧ v_15.toInt < 2 ^ (h_wares).toInt.toNat := by rw [← ev_15]; exact xorP (by omega) (by omega) (by omega) (by omega) (by omega)
          refine j_ixor (pc := 53) (v := v_15) C dX0_fewestOf_53 ev_15 ?_
          obtain ⟨v_16, ev_16⟩ : ∃ z, h_least (v_15).toInt.toNat = z := ⟨_, rfl⟩
          have env_16 : (h_least (v_15).toInt.toNat).toInt = v_16.toInt := by rw [ev_16]
          refine j_iald (pc := 54) (v := v_16) (k := (v_15).toInt.toNat) C 1 1 rfl rfl (i_nn (by omega)) rfl (i_lt_n (by omega) (by omega)) ev_16 dX0_fewestOf_54 ?_
          refine j_iload_n (pc := 55) C dX0_fewestOf_55 rfl 7 rfl ?_
          refine j_icmp_gt (pc := 56) (tgt := 70) C dX0_fewestOf_56 (by decide) (fun c_17 => ?_) (fun c_17 => ?_)
          · skip
            rw [i_lt] at c_17
            refine j_iload (pc := 70) C dX0_fewestOf_70 1 rfl ?_
            refine j_iconst (pc := 72) (v := 1) C dX0_fewestOf_72 (by decide) ?_
            obtain ⟨v_18, ev_18⟩ : ∃ z : Int32, x7_6 - 1 = z := ⟨_, rfl⟩
            have el_1 : (1 : Int32).toInt = 1 := rfl
            have hv_18 : v_18.toInt = x7_6.toInt - (1 : Int32).toInt := by rw [← ev_18]; exact fb_subI (by omega) (by omega)
            refine j_isub (pc := 73) (v := v_18) C dX0_fewestOf_73 ev_18 ?_
            refine j_iload (pc := 74) C dX0_fewestOf_74 3 rfl ?_
            obtain ⟨v_19, ev_19⟩ : ∃ z : Int32, v_18 &&& v_3 = z := ⟨_, rfl⟩
            have hv_19 : 0 ≤ v_19.toInt ∧ v_19.toInt ≤ v_3.toInt := by rw [← ev_19]; exact andb_r (by omega)
            refine j_iand (pc := 76) (v := v_19) C dX0_fewestOf_76 ev_19 ?_
            refine j_istore (pc := 77) (lv' := [(6, .int v_19), (7, .int x7_7), (5, .int x7_5), (4, .int v_3), (3, .int (u_1.2.1 0)), (0, .ref h0), (1, .int p1), (2, .int p2)]) C dX0_fewestOf_77 (by decide) rfl ?_
            obtain ⟨v_20, ev_20⟩ : ∃ z : Int32, x7_7 + (-1) = z := ⟨_, rfl⟩
            have el_m1 : ((-1) : Int32).toInt = (-1) := rfl
            have := i_bd x7_7
            have hv_20 : v_20.toInt = x7_7.toInt + ((-1) : Int32).toInt := by rw [← ev_20]; exact fb_addI (by omega) (by omega)
            refine j_iinc (pc := 79) (v := v_20) (lv' := [(7, .int v_20), (6, .int v_19), (5, .int x7_5), (4, .int v_3), (3, .int (u_1.2.1 0)), (0, .ref h0), (1, .int p1), (2, .int p2)]) C dX0_fewestOf_79 1 rfl ev_20 (by decide) rfl ?_
            refine j_goto (pc := 82) (tgt := 27) C dX0_fewestOf_82 (by decide) ?_
            exact j_lv [0, 1, 2, 3, 4, 5, 6, 7] rfl (ih_7 v_20 v_19 x7_5 (by omega) (by omega) (by omega) (by omega))
          · skip
            rw [i_lt] at c_17
            refine j_aload_n (pc := 59) C dX0_fewestOf_59 rfl 5 rfl ?_
            refine j_get (pc := 60) (ci := 0) (v := .ref h3) C inw_0 0 rfl rfl 4 (by decide) wd_178 rfl rfl dX0_fewestOf_60 ?_
            refine j_iload (pc := 63) C dX0_fewestOf_63 1 rfl ?_
            refine j_iald (pc := 65) (v := v_9) (k := (x7_6).toInt.toNat) C 2 1 rfl rfl (i_nn hi_7_1.1) rfl (i_lt_n hi_7_1.1 (by omega)) ev_9 dX0_fewestOf_65 ?_
            refine j_iconst (pc := 66) (v := 1) C dX0_fewestOf_66 (by decide) ?_
            obtain ⟨v_21, ev_21⟩ : ∃ z : Int32, v_9 + 1 = z := ⟨_, rfl⟩
            have el_1 : (1 : Int32).toInt = 1 := rfl
            refine j_iadd (pc := 67) (v := v_21) C dX0_fewestOf_67 ev_21 ?_
            refine j_istore (pc := 68) (lv' := [(5, .int v_21), (7, .int x7_7), (6, .int x7_6), (4, .int v_3), (3, .int (u_1.2.1 0)), (0, .ref h0), (1, .int p1), (2, .int p2)]) C dX0_fewestOf_68 (by decide) rfl ?_
            refine j_iload (pc := 70) C dX0_fewestOf_70 2 rfl ?_
            refine j_iconst (pc := 72) (v := 1) C dX0_fewestOf_72 (by decide) ?_
            obtain ⟨v_22, ev_22⟩ : ∃ z : Int32, x7_6 - 1 = z := ⟨_, rfl⟩
            have el_1 : (1 : Int32).toInt = 1 := rfl
            have hv_22 : v_22.toInt = x7_6.toInt - (1 : Int32).toInt := by rw [← ev_22]; exact fb_subI (by omega) (by omega)
            refine j_isub (pc := 73) (v := v_22) C dX0_fewestOf_73 ev_22 ?_
            refine j_iload (pc := 74) C dX0_fewestOf_74 3 rfl ?_
            obtain ⟨v_23, ev_23⟩ : ∃ z : Int32, v_22 &&& v_3 = z := ⟨_, rfl⟩
            have hv_23 : 0 ≤ v_23.toInt ∧ v_23.toInt ≤ v_3.toInt := by rw [← ev_23]; exact andb_r (by omega)
            refine j_iand (pc := 76) (v := v_23) C dX0_fewestOf_76 ev_23 ?_
            refine j_istore (pc := 77) (lv' := [(6, .int v_23), (5, .int v_21), (7, .int x7_7), (4, .int v_3), (3, .int (u_1.2.1 0)), (0, .ref h0), (1, .int p1), (2, .int p2)]) C dX0_fewestOf_77 (by decide) rfl ?_
            obtain ⟨v_24, ev_24⟩ : ∃ z : Int32, x7_7 + (-1) = z := ⟨_, rfl⟩
            have el_m1 : ((-1) : Int32).toInt = (-1) := rfl
            have := i_bd x7_7
            have hv_24 : v_24.toInt = x7_7.toInt + ((-1) : Int32).toInt := by rw [← ev_24]; exact fb_addI (by omega) (by omega)
            refine j_iinc (pc := 79) (v := v_24) (lv' := [(7, .int v_24), (6, .int v_23), (5, .int v_21), (4, .int v_3), (3, .int (u_1.2.1 0)), (0, .ref h0), (1, .int p1), (2, .int p2)]) C dX0_fewestOf_79 2 rfl ev_24 (by decide) rfl ?_
            refine j_goto (pc := 82) (tgt := 27) C dX0_fewestOf_82 (by decide) ?_
            exact j_lv [0, 1, 2, 3, 4, 5, 6, 7] rfl (ih_7 v_24 v_23 v_21 (by omega) (by omega) (by omega) (by omega))
  have el_12 : (12 : Int32).toInt = 12 := rfl
  exact j_lv [0, 1, 2, 3, 4, 5, 6, 7] rfl (loop_7 2147483648 v_6 v_3 12 (by omega) (by omega) (by omega) (by omega))
set_option maxHeartbeats 4000000 in
set_option maxRecDepth 100000 in
theorem c_X0_fewestStacks (l : Launch) (D : DG) (cyC cyI cyJ cyZ cyO : ClassId) (h0 : Nat) (h2 : Nat) (h3 : Nat) (h1 : Nat) (h_n : Nat) (p1 : Int32) (h_known : Int32) (h_wares : Int32) (h_least : Nat → Int32) (h_stacks : Nat → Int32) (h_h_known : 0 ≤ (h_known).toInt ∧ (h_known).toInt ≤ 1) (h_h_wares : 0 ≤ (h_wares).toInt ∧ (h_wares).toInt ≤ 12) (hln : (2 : Int) ^ (h_wares).toInt.toNat ≤ (h_n : Int)) (hbn : h_n ≤ 4096) : KK l D (TY cyC cyI cyJ cyZ cyO) yX0_fewestStacks cX0_fewestStacks 4 (some .int) ({ frames := 2, cells := 0, slots := 0, locals := 47 } : Room) 0 0 [.ref h0, .int p1] [(h0, .inr (0, [.int h_known, .int h_wares, .ref h1, .ref h2, .ref h3])), (h2, .inl (cyI, h_n, .inl h_least)), (h3, .inl (cyI, h_n, .inl h_stacks))] (fun u => some (.int (u.2.1 0))) (fun u => True) (fun u => [(h0, .inr (0, [.int h_known, .int h_wares, .ref h1, .ref h2, .ref h3])), (h2, .inl (cyI, h_n, .inl h_least)), (h3, .inl (cyI, h_n, .inl (u.2.2.1 0)))]) := by
  refine KK.of (lv0 := [(0, .ref h0), (1, .int p1)]) (by decide) rfl (Nat.le_of_ble_eq_true rfl) ?_
  intro p e s m args below meth c A C hr hk hin
  have hpw1 := pw1 (h_wares).toInt.toNat
  refine j_iconst (pc := 0) (v := 1) C dX0_fewestStacks_0 (by decide) ?_
  refine j_aload_n (pc := 1) C dX0_fewestStacks_1 rfl 0 rfl ?_
  refine j_get (pc := 2) (ci := 0) (v := .int h_wares) C inw_0 0 rfl rfl 1 (by decide) wd_156 rfl rfl dX0_fewestStacks_2 ?_
  obtain ⟨v_1, ev_1⟩ : ∃ z : Int32, 1 <<< (h_wares &&& 31) = z := ⟨_, rfl⟩
  have el_1 : (1 : Int32).toInt = 1 := rfl
  have hv_1 : 1 ≤ v_1.toInt ∧ v_1.toInt ≤ 4096 := by rw [← ev_1]; exact shl1_iv 0 12 (by omega) (by omega) (by omega)
  have hv_1p : v_1.toInt = 2 ^ (h_wares).toInt.toNat := by rw [← ev_1]; exact shl1_I (by omega) (by omega)
  refine j_ishl (pc := 5) (v := v_1) C dX0_fewestStacks_5 ev_1 ?_
  refine j_iconst (pc := 6) (v := 1) C dX0_fewestStacks_6 (by decide) ?_
  obtain ⟨v_2, ev_2⟩ : ∃ z : Int32, v_1 - 1 = z := ⟨_, rfl⟩
  have el_1 : (1 : Int32).toInt = 1 := rfl
  have hv_2 : v_2.toInt = v_1.toInt - (1 : Int32).toInt := by rw [← ev_2]; exact fb_subI (by omega) (by omega)
  refine j_isub (pc := 7) (v := v_2) C dX0_fewestStacks_7 ev_2 ?_
  refine j_istore_n (pc := 8) (lv' := [(2, .int v_2), (0, .ref h0), (1, .int p1)]) C dX0_fewestStacks_8 rfl (by decide) rfl ?_
  refine j_aload_n (pc := 9) C dX0_fewestStacks_9 rfl 1 rfl ?_
  refine j_get (pc := 10) (ci := 0) (v := .ref h3) C inw_0 0 rfl rfl 4 (by decide) wd_178 rfl rfl dX0_fewestStacks_10 ?_
  refine j_iconst (pc := 13) (v := 0) C dX0_fewestStacks_13 (by decide) ?_
  refine j_iconst (pc := 14) (v := 0) C dX0_fewestStacks_14 (by decide) ?_
  obtain ⟨f_3, ef_3⟩ : ∃ z, z = upd h_stacks 0 0 := ⟨_, rfl⟩
  refine j_iast (pc := 15) (k := 0) (ws' := [(h0, .inr (0, [.int h_known, .int h_wares, .ref h1, .ref h2, .ref h3])), (h2, .inl (cyI, h_n, .inl h_least)), (h3, .inl (cyI, h_n, .inl f_3))]) C 2 1 rfl rfl (by decide) (by decide) (by omega) dX0_fewestStacks_15 (by rw [ef_3]; rfl) ?_
  refine j_iconst (pc := 16) (v := 1) C dX0_fewestStacks_16 (by decide) ?_
  refine j_istore_n (pc := 17) (lv' := [(3, .int 1), (2, .int v_2), (0, .ref h0), (1, .int p1)]) C dX0_fewestStacks_17 rfl (by decide) rfl ?_
  have loop_4 : ∀ (k_4 : Nat) (x4_3 : Int32) (g4_h3 : Nat → Int32), (1 ≤ (x4_3).toInt ∧ (x4_3).toInt ≤ 4096) → (4096 - x4_3.toInt).toNat < k_4 → J p l e ({ frames := 2, cells := 0, slots := 0, locals := 47 } : Room) s m args below meth c D A 4 0 0 (QX below D (TY cyC cyI cyJ cyZ cyO) A (fun u => some (.int (u.2.1 0))) (fun u => True) (fun u => [(h0, .inr (0, [.int h_known, .int h_wares, .ref h1, .ref h2, .ref h3])), (h2, .inl (cyI, h_n, .inl h_least)), (h3, .inl (cyI, h_n, .inl (u.2.2.1 0)))]) args s 0 0) [(h0, .inr (0, [.int h_known, .int h_wares, .ref h1, .ref h2, .ref h3])), (h2, .inl (cyI, h_n, .inl h_least)), (h3, .inl (cyI, h_n, .inl g4_h3))] 18 [(3, .int x4_3), (2, .int v_2), (0, .ref h0), (1, .int p1)] [] := by
    intro k_4
    induction k_4 with
    | zero =>
      intro x4_3 g4_h3 hi_4_0 hm_4
      exact absurd hm_4 (Nat.not_lt_zero _)
    | succ k_4 ih_4 =>
      intro x4_3 g4_h3 hi_4_0 hm_4
      refine j_iload_n (pc := 18) C dX0_fewestStacks_18 rfl 0 rfl ?_
      refine j_iload_n (pc := 19) C dX0_fewestStacks_19 rfl 1 rfl ?_
      refine j_icmp_gt (pc := 20) (tgt := 52) C dX0_fewestStacks_20 (by decide) (fun c_5 => ?_) (fun c_5 => ?_)
      · skip
        rw [i_lt] at c_5
        refine j_aload_n (pc := 52) C dX0_fewestStacks_52 rfl 2 rfl ?_
        refine j_get (pc := 53) (ci := 0) (v := .ref h3) C inw_0 0 rfl rfl 4 (by decide) wd_178 rfl rfl dX0_fewestStacks_53 ?_
        refine j_iload_n (pc := 56) C dX0_fewestStacks_56 rfl 1 rfl ?_
        obtain ⟨v_6, ev_6⟩ : ∃ z, g4_h3 (v_2).toInt.toNat = z := ⟨_, rfl⟩
        have env_6 : (g4_h3 (v_2).toInt.toNat).toInt = v_6.toInt := by rw [ev_6]
        refine j_iald (pc := 57) (v := v_6) (k := (v_2).toInt.toNat) C 2 1 rfl rfl (i_nn (by omega)) rfl (i_lt_n (by omega) (by omega)) ev_6 dX0_fewestStacks_57 ?_
        exact j_iret (pc := 58) C hr hk (fun i => [].getD i 0, fun i => [v_6].getD i 0, fun i => [g4_h3].getD i (fun _ => 0), fun i => [].getD i (fun _ => 0)) rfl trivial [0, 1, 2] (by decide) rfl (by decide) (by decide) dX0_fewestStacks_58
      · skip
        rw [i_lt] at c_5
        refine j_iload_n (pc := 23) C dX0_fewestStacks_23 rfl 0 rfl ?_
        refine j_iconst (pc := 24) (v := 1) C dX0_fewestStacks_24 (by decide) ?_
        obtain ⟨v_7, ev_7⟩ : ∃ z : Int32, x4_3 &&& 1 = z := ⟨_, rfl⟩
        have el_1 : (1 : Int32).toInt = 1 := rfl
        have hv_7 : 0 ≤ v_7.toInt ∧ v_7.toInt ≤ 1 := by rw [← ev_7]; exact and1_r _
        refine j_iand (pc := 25) (v := v_7) C dX0_fewestStacks_25 ev_7 ?_
        refine j_if_eq (pc := 26) (tgt := 34) C dX0_fewestStacks_26 (by decide) (fun c_8 => ?_) (fun c_8 => ?_)
        · skip
          have el_0 : (0 : Int32).toInt = 0 := rfl
          rw [i_eq] at c_8
          refine j_aload_n (pc := 34) C dX0_fewestStacks_34 rfl 2 rfl ?_
          refine j_get (pc := 35) (ci := 0) (v := .ref h3) C inw_0 0 rfl rfl 4 (by decide) wd_178 rfl rfl dX0_fewestStacks_35 ?_
          refine j_iload_n (pc := 38) C dX0_fewestStacks_38 rfl 0 rfl ?_
          refine j_aload_n (pc := 39) C dX0_fewestStacks_39 rfl 2 rfl ?_
          refine j_iload_n (pc := 40) C dX0_fewestStacks_40 rfl 0 rfl ?_
          refine j_iload_n (pc := 41) C dX0_fewestStacks_41 rfl 3 rfl ?_
          refine j_callV (pc := 42) (As := [.int x4_3, .int p1]) (rest := [.int x4_3, .ref h3]) (wr := []) C (c_X0_fewestOf l D cyC cyI cyJ cyZ cyO h0 h2 h3 h1 h_n x4_3 p1 h_known h_wares h_least g4_h3 h_h_known h_h_wares (by omega) hln hbn (by omega)) wd_179 wd_166 wd_180 wd_181 wd_182 ⟨by decide, by decide, rfl⟩ rfl ⟨rfl, rfl, by decide, by decide⟩ ⟨by decide, by decide⟩ [0, 1, 2] [] rfl rfl ⟨by decide, by decide, by decide⟩ 0 rfl rfl rfl (Nat.le_of_ble_eq_true rfl) dX0_fewestStacks_42 (fun u_9 hw_10 => ?_)
          refine j_eq (ws2 := [(h0, .inr (0, [.int h_known, .int h_wares, .ref h1, .ref h2, .ref h3])), (h2, .inl (cyI, h_n, .inl h_least)), (h3, .inl (cyI, h_n, .inl g4_h3))]) (pc2 := 45) (lv2 := [(3, .int x4_3), (2, .int v_2), (0, .ref h0), (1, .int p1)]) (st2 := [.int (u_9.2.1 0), .int x4_3, .ref h3]) rfl rfl rfl rfl ?_
          obtain ⟨f_11, ef_11⟩ : ∃ z, z = upd g4_h3 (x4_3).toInt.toNat (u_9.2.1 0) := ⟨_, rfl⟩
          refine j_iast (pc := 45) (k := (x4_3).toInt.toNat) (ws' := [(h0, .inr (0, [.int h_known, .int h_wares, .ref h1, .ref h2, .ref h3])), (h2, .inl (cyI, h_n, .inl h_least)), (h3, .inl (cyI, h_n, .inl f_11))]) C 2 1 rfl rfl (i_nn (Int.le_trans (by decide) hi_4_0.1)) rfl (i_lt_n (Int.le_trans (by decide) hi_4_0.1) (by omega)) dX0_fewestStacks_45 (by rw [ef_11]; rfl) ?_
          obtain ⟨v_12, ev_12⟩ : ∃ z : Int32, x4_3 + 1 = z := ⟨_, rfl⟩
          have el_1 : (1 : Int32).toInt = 1 := rfl
          have hv_12 : v_12.toInt = x4_3.toInt + (1 : Int32).toInt := by rw [← ev_12]; exact fb_addI (by omega) (by omega)
          refine j_iinc (pc := 46) (v := v_12) (lv' := [(3, .int v_12), (2, .int v_2), (0, .ref h0), (1, .int p1)]) C dX0_fewestStacks_46 0 rfl ev_12 (by decide) rfl ?_
          refine j_goto (pc := 49) (tgt := 18) C dX0_fewestStacks_49 (by decide) ?_
          exact j_lv [0, 1, 2, 3] rfl (ih_4 v_12 f_11 (by omega) (by omega))
        · skip
          have el_0 : (0 : Int32).toInt = 0 := rfl
          rw [i_eq] at c_8
          have k0c_8 : v_7.toInt = 1 := by omega
          refine j_iload_n (pc := 29) C dX0_fewestStacks_29 rfl 0 rfl ?_
          refine j_iload_n (pc := 30) C dX0_fewestStacks_30 rfl 1 rfl ?_
          refine j_icmp_ne (pc := 31) (tgt := 46) C dX0_fewestStacks_31 (by decide) (fun c_13 => ?_) (fun c_13 => ?_)
          · skip
            rw [i_eq] at c_13
            obtain ⟨v_14, ev_14⟩ : ∃ z : Int32, x4_3 + 1 = z := ⟨_, rfl⟩
            have el_1 : (1 : Int32).toInt = 1 := rfl
            have hv_14 : v_14.toInt = x4_3.toInt + (1 : Int32).toInt := by rw [← ev_14]; exact fb_addI (by omega) (by omega)
            refine j_iinc (pc := 46) (v := v_14) (lv' := [(3, .int v_14), (2, .int v_2), (0, .ref h0), (1, .int p1)]) C dX0_fewestStacks_46 0 rfl ev_14 (by decide) rfl ?_
            refine j_goto (pc := 49) (tgt := 18) C dX0_fewestStacks_49 (by decide) ?_
            exact j_lv [0, 1, 2, 3] rfl (ih_4 v_14 g4_h3 (by omega) (by omega))
          · skip
            rw [i_eq] at c_13
            refine j_aload_n (pc := 34) C dX0_fewestStacks_34 rfl 2 rfl ?_
            refine j_get (pc := 35) (ci := 0) (v := .ref h3) C inw_0 0 rfl rfl 4 (by decide) wd_178 rfl rfl dX0_fewestStacks_35 ?_
            refine j_iload_n (pc := 38) C dX0_fewestStacks_38 rfl 0 rfl ?_
            refine j_aload_n (pc := 39) C dX0_fewestStacks_39 rfl 2 rfl ?_
            refine j_iload_n (pc := 40) C dX0_fewestStacks_40 rfl 0 rfl ?_
            refine j_iload_n (pc := 41) C dX0_fewestStacks_41 rfl 3 rfl ?_
            refine j_callV (pc := 42) (As := [.int x4_3, .int p1]) (rest := [.int x4_3, .ref h3]) (wr := []) C (c_X0_fewestOf l D cyC cyI cyJ cyZ cyO h0 h2 h3 h1 h_n x4_3 p1 h_known h_wares h_least g4_h3 h_h_known h_h_wares (by omega) hln hbn (by omega)) wd_179 wd_166 wd_180 wd_181 wd_182 ⟨by decide, by decide, rfl⟩ rfl ⟨rfl, rfl, by decide, by decide⟩ ⟨by decide, by decide⟩ [0, 1, 2] [] rfl rfl ⟨by decide, by decide, by decide⟩ 0 rfl rfl rfl (Nat.le_of_ble_eq_true rfl) dX0_fewestStacks_42 (fun u_15 hw_16 => ?_)
            refine j_eq (ws2 := [(h0, .inr (0, [.int h_known, .int h_wares, .ref h1, .ref h2, .ref h3])), (h2, .inl (cyI, h_n, .inl h_least)), (h3, .inl (cyI, h_n, .inl g4_h3))]) (pc2 := 45) (lv2 := [(3, .int x4_3), (2, .int v_2), (0, .ref h0), (1, .int p1)]) (st2 := [.int (u_15.2.1 0), .int x4_3, .ref h3]) rfl rfl rfl rfl ?_
            obtain ⟨f_17, ef_17⟩ : ∃ z, z = upd g4_h3 (x4_3).toInt.toNat (u_15.2.1 0) := ⟨_, rfl⟩
            refine j_iast (pc := 45) (k := (x4_3).toInt.toNat) (ws' := [(h0, .inr (0, [.int h_known, .int h_wares, .ref h1, .ref h2, .ref h3])), (h2, .inl (cyI, h_n, .inl h_least)), (h3, .inl (cyI, h_n, .inl f_17))]) C 2 1 rfl rfl (i_nn (Int.le_trans (by decide) hi_4_0.1)) rfl (i_lt_n (Int.le_trans (by decide) hi_4_0.1) (by omega)) dX0_fewestStacks_45 (by rw [ef_17]; rfl) ?_
            obtain ⟨v_18, ev_18⟩ : ∃ z : Int32, x4_3 + 1 = z := ⟨_, rfl⟩
            have el_1 : (1 : Int32).toInt = 1 := rfl
            have hv_18 : v_18.toInt = x4_3.toInt + (1 : Int32).toInt := by rw [← ev_18]; exact fb_addI (by omega) (by omega)
            refine j_iinc (pc := 46) (v := v_18) (lv' := [(3, .int v_18), (2, .int v_2), (0, .ref h0), (1, .int p1)]) C dX0_fewestStacks_46 0 rfl ev_18 (by decide) rfl ?_
            refine j_goto (pc := 49) (tgt := 18) C dX0_fewestStacks_49 (by decide) ?_
            exact j_lv [0, 1, 2, 3] rfl (ih_4 v_18 f_17 (by omega) (by omega))
  have el_1 : (1 : Int32).toInt = 1 := rfl
  exact j_lv [0, 1, 2, 3] rfl (loop_4 5000 1 f_3 (by decide) (by omega))
