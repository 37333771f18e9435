theorem wd_114 : Cond.fieldLink RX0 57 "BowlShelf$Told" "deep" "[I" ∈ WALL := wl_in (by decide +kernel) (by decide +kernel)
theorem wd_115 : Cond.fieldLink RX0 60 "BowlShelf$Told" "mayOn" "[I" ∈ WALL := wl_in (by decide +kernel) (by decide +kernel)
theorem wd_116 : Cond.constant RX0 40 (1000000) ∈ WALL := wl_in (by decide +kernel) (by decide +kernel)
theorem wd_117 : Cond.fieldLink RX0 31 "BowlShelf$Heights" "wares" "I" ∈ WALL := wl_in (by decide +kernel) (by decide +kernel)
theorem wd_118 : Cond.methodLink RX0 66 Lib.Math.max.name ∈ WALL := wl_in (by decide +kernel) (by decide +kernel)
theorem wd_119 : Cond.methodLink RX0 63 yX9_rise ∈ WALL := wl_in (by decide +kernel) (by decide +kernel)
theorem wd_120 : Cond.fieldLink RX0 9 "BowlShelf$Heights" "leastRim" "[I" ∈ WALL := wl_in (by decide +kernel) (by decide +kernel)
theorem wd_121 : Cond.methodLink RX0 51 Lib.Math.min.name ∈ WALL := wl_in (by decide +kernel) (by decide +kernel)
theorem wd_122 : Cond.static Lib.Math.min.name ∈ WALL := wl_in (by decide +kernel) (by decide +kernel)
theorem wd_123 : Cond.code Lib.Math.min.name Lib.Math.min.code 2 (some .int) ∈ WALL := wl_in (by decide +kernel) (by decide +kernel)
theorem wd_124 : Cond.code yX9_weightOf cX9_weightOf 4 (some .int) ∈ WALL := wl_in (by decide +kernel) (by decide +kernel)
theorem wd_125 : Cond.methodLink RX0 36 yX9_weightOf ∈ WALL := wl_in (by decide +kernel) (by decide +kernel)
theorem wd_126 : Cond.instanceMethod yX9_weightOf ∈ WALL := wl_in (by decide +kernel) (by decide +kernel)
theorem wd_127 : Cond.selects RX9 yX9_weightOf yX9_weightOf ∈ WALL := wl_in (by decide +kernel) (by decide +kernel)
theorem wd_128 : Cond.fieldLink RX0 15 "BowlShelf$Heights" "least" "[I" ∈ WALL := wl_in (by decide +kernel) (by decide +kernel)
theorem wd_129 : Cond.fieldLink RX0 41 "BowlShelf$Told" "weight" "[I" ∈ WALL := wl_in (by decide +kernel) (by decide +kernel)
theorem wd_130 : Cond.fieldLink RX0 44 "BowlShelf$Told" "bears" "[I" ∈ WALL := wl_in (by decide +kernel) (by decide +kernel)
theorem wd_131 : Cond.code yX0_rimOver cX0_rimOver 8 (some .int) ∈ WALL := wl_in (by decide +kernel) (by decide +kernel)
theorem wd_132 : Cond.initialized RX0 ∈ WALL := wl_in (by decide +kernel) (by decide +kernel)
theorem wd_133 : Cond.methodLink RX0 47 yX0_rimOver ∈ WALL := wl_in (by decide +kernel) (by decide +kernel)
theorem wd_134 : Cond.instanceMethod yX0_rimOver ∈ WALL := wl_in (by decide +kernel) (by decide +kernel)
theorem wd_135 : Cond.selects RX0 yX0_rimOver yX0_rimOver ∈ WALL := wl_in (by decide +kernel) (by decide +kernel)
theorem wd_136 : Cond.code yX0_firstOn cX0_firstOn 9 (some .int) ∈ WALL := wl_in (by decide +kernel) (by decide +kernel)
theorem wd_137 : Cond.methodLink RX0 80 yX0_firstOn ∈ WALL := wl_in (by decide +kernel) (by decide +kernel)
theorem wd_138 : Cond.instanceMethod yX0_firstOn ∈ WALL := wl_in (by decide +kernel) (by decide +kernel)
theorem wd_139 : Cond.selects RX0 yX0_firstOn yX0_firstOn ∈ WALL := wl_in (by decide +kernel) (by decide +kernel)
theorem wd_140 : Cond.code yJ6_lowestOneBit_0f7a4 cJ6_lowestOneBit_0f7a4 1 (some .int) ∈ WALL := wl_in (by decide +kernel) (by decide +kernel)
theorem wd_141 : Cond.methodLink RX0 72 yJ6_lowestOneBit_0f7a4 ∈ WALL := wl_in (by decide +kernel) (by decide +kernel)
theorem wd_142 : Cond.static yJ6_lowestOneBit_0f7a4 ∈ WALL := wl_in (by decide +kernel) (by decide +kernel)
theorem wd_143 : Cond.methodLink RX0 77 yJ6_bitCount_0f7a4 ∈ WALL := wl_in (by decide +kernel) (by decide +kernel)
theorem wd_144 : Cond.fieldLink RX0 18 "BowlShelf$Heights" "stacks" "[I" ∈ WALL := wl_in (by decide +kernel) (by decide +kernel)
theorem wd_145 : Cond.code yX0_fewestOf cX0_fewestOf 8 (some .int) ∈ WALL := wl_in (by decide +kernel) (by decide +kernel)
theorem wd_146 : Cond.methodLink RX0 69 yX0_fewestOf ∈ WALL := wl_in (by decide +kernel) (by decide +kernel)
theorem wd_147 : Cond.instanceMethod yX0_fewestOf ∈ WALL := wl_in (by decide +kernel) (by decide +kernel)
theorem wd_148 : Cond.selects RX0 yX0_fewestOf yX0_fewestOf ∈ WALL := wl_in (by decide +kernel) (by decide +kernel)
theorem wd_149 : Cond.fieldLink RX6 33 "BowlShelf$Search" "size" "I" ∈ WALL := wl_in (by decide +kernel) (by decide +kernel)
theorem wd_150 : Cond.methodLink RX6 76 yX9_weightOf ∈ WALL := wl_in (by decide +kernel) (by decide +kernel)
theorem wd_151 : Cond.fieldLink RX6 79 "BowlShelf$Told" "bears" "[I" ∈ WALL := wl_in (by decide +kernel) (by decide +kernel)
theorem wd_152 : Cond.fieldLink RX6 82 "BowlShelf$Told" "deep" "[I" ∈ WALL := wl_in (by decide +kernel) (by decide +kernel)
theorem wd_153 : Cond.fieldLink RX6 39 "BowlShelf$Search" "height" "I" ∈ WALL := wl_in (by decide +kernel) (by decide +kernel)
theorem wd_154 : Cond.fieldLink RX6 85 "BowlShelf$Told" "weight" "[I" ∈ WALL := wl_in (by decide +kernel) (by decide +kernel)
theorem wd_155 : Cond.fieldLink RX6 44 "BowlShelf$Search" "reach" "I" ∈ WALL := wl_in (by decide +kernel) (by decide +kernel)
theorem wd_156 : Cond.fieldLink RX6 18 "BowlShelf$Search" "times" "[I" ∈ WALL := wl_in (by decide +kernel) (by decide +kernel)
theorem wd_157 : Cond.fieldLink RX6 46 "BowlShelf$Search" "found" "Z" ∈ WALL := wl_in (by decide +kernel) (by decide +kernel)
theorem wd_158 : Cond.fieldLink RX6 15 "BowlShelf$Search" "trial" "[I" ∈ WALL := wl_in (by decide +kernel) (by decide +kernel)
theorem wd_159 : Cond.code yX6_extend cX6_extend 9 none ∈ WALL := wl_in (by decide +kernel) (by decide +kernel)
theorem wd_160 : Cond.initialized RX6 ∈ WALL := wl_in (by decide +kernel) (by decide +kernel)
theorem wd_161 : Cond.methodLink RX6 59 yX6_extend ∈ WALL := wl_in (by decide +kernel) (by decide +kernel)
theorem wd_162 : Cond.instanceMethod yX6_extend ∈ WALL := wl_in (by decide +kernel) (by decide +kernel)
theorem wd_163 : Cond.selects RX6 yX6_extend yX6_extend ∈ WALL := wl_in (by decide +kernel) (by decide +kernel)
theorem wd_164 : Cond.fieldLink RX6 88 "BowlShelf$Search" "cost" "I" ∈ WALL := wl_in (by decide +kernel) (by decide +kernel)
theorem wd_165 : Cond.fieldLink RX6 11 "BowlShelf$Search" "order" "[I" ∈ WALL := wl_in (by decide +kernel) (by decide +kernel)
theorem wd_166 : Cond.methodLink RX6 91 arraycopyName ∈ WALL := wl_in (by decide +kernel) (by decide +kernel)
theorem wd_167 : Cond.fieldLink RX6 63 "BowlShelf$Told" "mayOn" "[I" ∈ WALL := wl_in (by decide +kernel) (by decide +kernel)
theorem wd_168 : Cond.fieldLink RX6 66 "BowlShelf$Told" "wares" "I" ∈ WALL := wl_in (by decide +kernel) (by decide +kernel)
theorem wd_169 : Cond.methodLink RX6 69 yX9_rise ∈ WALL := wl_in (by decide +kernel) (by decide +kernel)
theorem wd_170 : Cond.code yX6_tryOn cX6_tryOn 10 none ∈ WALL := wl_in (by decide +kernel) (by decide +kernel)
theorem wd_171 : Cond.methodLink RX6 72 yX6_tryOn ∈ WALL := wl_in (by decide +kernel) (by decide +kernel)
theorem wd_172 : Cond.instanceMethod yX6_tryOn ∈ WALL := wl_in (by decide +kernel) (by decide +kernel)
theorem wd_173 : Cond.selects RX6 yX6_tryOn yX6_tryOn ∈ WALL := wl_in (by decide +kernel) (by decide +kernel)
theorem wd_174 : Cond.fieldLink RX6 21 "BowlShelf$Pile" "size" "I" ∈ WALL := wl_in (by decide +kernel) (by decide +kernel)
theorem wd_175 : Cond.methodLink RX6 27 Lib.Math.min.name ∈ WALL := wl_in (by decide +kernel) (by decide +kernel)
theorem wd_176 : Cond.fieldLink RX6 34 "BowlShelf$Told" "height" "[I" ∈ WALL := wl_in (by decide +kernel) (by decide +kernel)
theorem wd_177 : Cond.fieldLink RX6 41 "BowlShelf$Told" "reach" "[I" ∈ WALL := wl_in (by decide +kernel) (by decide +kernel)
theorem wd_178 : Cond.fieldLink RX6 50 "BowlShelf$Pile" "ware" "[I" ∈ WALL := wl_in (by decide +kernel) (by decide +kernel)
theorem wd_179 : Cond.code yX7_timesAsked cX7_timesAsked 4 (some .int) ∈ WALL := wl_in (by decide +kernel) (by decide +kernel)
theorem wd_180 : Cond.methodLink RX6 53 yX7_timesAsked ∈ WALL := wl_in (by decide +kernel) (by decide +kernel)
theorem wd_181 : Cond.instanceMethod yX7_timesAsked ∈ WALL := wl_in (by decide +kernel) (by decide +kernel)
theorem wd_182 : Cond.selects RX7 yX7_timesAsked yX7_timesAsked ∈ WALL := wl_in (by decide +kernel) (by decide +kernel)
theorem dJ6_lowestOneBit_0f7a4_0 : decode cJ6_lowestOneBit_0f7a4 0 = .ok (.iload_n 0, 1) := by decide +kernel
theorem dJ6_lowestOneBit_0f7a4_1 : decode cJ6_lowestOneBit_0f7a4 1 = .ok (.iload_n 0, 1) := by decide +kernel
theorem dJ6_lowestOneBit_0f7a4_2 : decode cJ6_lowestOneBit_0f7a4 2 = .ok (.ineg, 1) := by decide +kernel
theorem dJ6_lowestOneBit_0f7a4_3 : decode cJ6_lowestOneBit_0f7a4 3 = .ok (.iand, 1) := by decide +kernel
theorem dJ6_lowestOneBit_0f7a4_4 : decode cJ6_lowestOneBit_0f7a4 4 = .ok (.ireturn, 1) := by decide +kernel
theorem dX0_rimOver_0 : decode cX0_rimOver 0 = .ok (.aload_n 1, 1) := by decide +kernel
theorem dX0_rimOver_1 : decode cX0_rimOver 1 = .ok (.getfield 57, 3) := by decide +kernel
theorem dX0_rimOver_4 : decode cX0_rimOver 4 = .ok (.iload_n 2, 1) := by decide +kernel
theorem dX0_rimOver_5 : decode cX0_rimOver 5 = .ok (.iaload, 1) := by decide +kernel
theorem dX0_rimOver_6 : decode cX0_rimOver 6 = .ok (.istore 4, 2) := by decide +kernel
theorem dX0_rimOver_8 : decode cX0_rimOver 8 = .ok (.iload_n 3, 1) := by decide +kernel
theorem dX0_rimOver_9 : decode cX0_rimOver 9 = .ok (.ifCond .ne 6, 3) := by decide +kernel
theorem dX0_rimOver_12 : decode cX0_rimOver 12 = .ok (.iload 4, 2) := by decide +kernel
theorem dX0_rimOver_14 : decode cX0_rimOver 14 = .ok (.ireturn, 1) := by decide +kernel
theorem dX0_rimOver_15 : decode cX0_rimOver 15 = .ok (.iload_n 3, 1) := by decide +kernel
theorem dX0_rimOver_16 : decode cX0_rimOver 16 = .ok (.aload_n 1, 1) := by decide +kernel
theorem dX0_rimOver_17 : decode cX0_rimOver 17 = .ok (.getfield 60, 3) := by decide +kernel
theorem dX0_rimOver_20 : decode cX0_rimOver 20 = .ok (.iload_n 2, 1) := by decide +kernel
theorem dX0_rimOver_21 : decode cX0_rimOver 21 = .ok (.iaload, 1) := by decide +kernel
theorem dX0_rimOver_22 : decode cX0_rimOver 22 = .ok (.iand, 1) := by decide +kernel
theorem dX0_rimOver_23 : decode cX0_rimOver 23 = .ok (.istore 5, 2) := by decide +kernel
theorem dX0_rimOver_25 : decode cX0_rimOver 25 = .ok (.ldc 40, 2) := by decide +kernel
theorem dX0_rimOver_27 : decode cX0_rimOver 27 = .ok (.istore 6, 2) := by decide +kernel
theorem dX0_rimOver_29 : decode cX0_rimOver 29 = .ok (.iconst 0, 1) := by decide +kernel
theorem dX0_rimOver_30 : decode cX0_rimOver 30 = .ok (.istore 7, 2) := by decide +kernel
theorem dX0_rimOver_32 : decode cX0_rimOver 32 = .ok (.iload 7, 2) := by decide +kernel
theorem dX0_rimOver_34 : decode cX0_rimOver 34 = .ok (.aload_n 0, 1) := by decide +kernel
theorem dX0_rimOver_35 : decode cX0_rimOver 35 = .ok (.getfield 31, 3) := by decide +kernel
theorem dX0_rimOver_38 : decode cX0_rimOver 38 = .ok (.if_icmp .ge 49, 3) := by decide +kernel
theorem dX0_rimOver_41 : decode cX0_rimOver 41 = .ok (.iload 5, 2) := by decide +kernel
theorem dX0_rimOver_43 : decode cX0_rimOver 43 = .ok (.iload 7, 2) := by decide +kernel
theorem dX0_rimOver_45 : decode cX0_rimOver 45 = .ok (.iushr, 1) := by decide +kernel
theorem dX0_rimOver_46 : decode cX0_rimOver 46 = .ok (.iconst 1, 1) := by decide +kernel
theorem dX0_rimOver_47 : decode cX0_rimOver 47 = .ok (.iand, 1) := by decide +kernel
theorem dX0_rimOver_48 : decode cX0_rimOver 48 = .ok (.iconst 1, 1) := by decide +kernel
theorem dX0_rimOver_49 : decode cX0_rimOver 49 = .ok (.if_icmp .ne 32, 3) := by decide +kernel
theorem dX0_rimOver_52 : decode cX0_rimOver 52 = .ok (.iload 6, 2) := by decide +kernel
theorem dX0_rimOver_54 : decode cX0_rimOver 54 = .ok (.aload_n 1, 1) := by decide +kernel
theorem dX0_rimOver_55 : decode cX0_rimOver 55 = .ok (.iload 7, 2) := by decide +kernel
theorem dX0_rimOver_57 : decode cX0_rimOver 57 = .ok (.iload_n 2, 1) := by decide +kernel
theorem dX0_rimOver_58 : decode cX0_rimOver 58 = .ok (.invokevirtual 63, 3) := by decide +kernel
theorem dX0_rimOver_61 : decode cX0_rimOver 61 = .ok (.aload_n 0, 1) := by decide +kernel
theorem dX0_rimOver_62 : decode cX0_rimOver 62 = .ok (.getfield 9, 3) := by decide +kernel
theorem dX0_rimOver_65 : decode cX0_rimOver 65 = .ok (.iload_n 3, 1) := by decide +kernel
theorem dX0_rimOver_66 : decode cX0_rimOver 66 = .ok (.aload_n 0, 1) := by decide +kernel
theorem dX0_rimOver_67 : decode cX0_rimOver 67 = .ok (.getfield 31, 3) := by decide +kernel
theorem dX0_rimOver_70 : decode cX0_rimOver 70 = .ok (.imul, 1) := by decide +kernel
theorem dX0_rimOver_71 : decode cX0_rimOver 71 = .ok (.iload 7, 2) := by decide +kernel
theorem dX0_rimOver_73 : decode cX0_rimOver 73 = .ok (.iadd, 1) := by decide +kernel
theorem dX0_rimOver_74 : decode cX0_rimOver 74 = .ok (.iaload, 1) := by decide +kernel
theorem dX0_rimOver_75 : decode cX0_rimOver 75 = .ok (.iadd, 1) := by decide +kernel
theorem dX0_rimOver_76 : decode cX0_rimOver 76 = .ok (.invokestatic 51, 3) := by decide +kernel
theorem dX0_rimOver_79 : decode cX0_rimOver 79 = .ok (.istore 6, 2) := by decide +kernel
theorem dX0_rimOver_81 : decode cX0_rimOver 81 = .ok (.iinc 7 1, 3) := by decide +kernel
theorem dX0_rimOver_84 : decode cX0_rimOver 84 = .ok (.goto (-52), 3) := by decide +kernel
theorem dX0_rimOver_87 : decode cX0_rimOver 87 = .ok (.iload 4, 2) := by decide +kernel
theorem dX0_rimOver_89 : decode cX0_rimOver 89 = .ok (.iload 6, 2) := by decide +kernel
theorem dX0_rimOver_91 : decode cX0_rimOver 91 = .ok (.invokestatic 66, 3) := by decide +kernel
theorem dX0_rimOver_94 : decode cX0_rimOver 94 = .ok (.ireturn, 1) := by decide +kernel
theorem dX0_settleSet_0 : decode cX0_settleSet 0 = .ok (.aload_n 1, 1) := by decide +kernel
theorem dX0_settleSet_1 : decode cX0_settleSet 1 = .ok (.iload_n 2, 1) := by decide +kernel
theorem dX0_settleSet_2 : decode cX0_settleSet 2 = .ok (.invokevirtual 36, 3) := by decide +kernel
theorem dX0_settleSet_5 : decode cX0_settleSet 5 = .ok (.istore_n 3, 1) := by decide +kernel
theorem dX0_settleSet_6 : decode cX0_settleSet 6 = .ok (.ldc 40, 2) := by decide +kernel
theorem dX0_settleSet_8 : decode cX0_settleSet 8 = .ok (.istore 4, 2) := by decide +kernel
theorem dX0_settleSet_10 : decode cX0_settleSet 10 = .ok (.iconst 0, 1) := by decide +kernel
theorem dX0_settleSet_11 : decode cX0_settleSet 11 = .ok (.istore 5, 2) := by decide +kernel
theorem dX0_settleSet_13 : decode cX0_settleSet 13 = .ok (.iload 5, 2) := by decide +kernel
theorem dX0_settleSet_15 : decode cX0_settleSet 15 = .ok (.aload_n 0, 1) := by decide +kernel
theorem dX0_settleSet_16 : decode cX0_settleSet 16 = .ok (.getfield 31, 3) := by decide +kernel
theorem dX0_settleSet_19 : decode cX0_settleSet 19 = .ok (.if_icmp .ge 95, 3) := by decide +kernel
theorem dX0_settleSet_22 : decode cX0_settleSet 22 = .ok (.iload_n 2, 1) := by decide +kernel
theorem dX0_settleSet_23 : decode cX0_settleSet 23 = .ok (.iload 5, 2) := by decide +kernel
theorem dX0_settleSet_25 : decode cX0_settleSet 25 = .ok (.iushr, 1) := by decide +kernel
theorem dX0_settleSet_26 : decode cX0_settleSet 26 = .ok (.iconst 1, 1) := by decide +kernel
theorem dX0_settleSet_27 : decode cX0_settleSet 27 = .ok (.iand, 1) := by decide +kernel
theorem dX0_settleSet_28 : decode cX0_settleSet 28 = .ok (.iconst 1, 1) := by decide +kernel
theorem dX0_settleSet_29 : decode cX0_settleSet 29 = .ok (.if_icmp .ne 79, 3) := by decide +kernel
theorem dX0_settleSet_32 : decode cX0_settleSet 32 = .ok (.iload_n 3, 1) := by decide +kernel
theorem dX0_settleSet_33 : decode cX0_settleSet 33 = .ok (.aload_n 1, 1) := by decide +kernel
theorem dX0_settleSet_34 : decode cX0_settleSet 34 = .ok (.getfield 41, 3) := by decide +kernel
theorem dX0_settleSet_37 : decode cX0_settleSet 37 = .ok (.iload 5, 2) := by decide +kernel
theorem dX0_settleSet_39 : decode cX0_settleSet 39 = .ok (.iaload, 1) := by decide +kernel
theorem dX0_settleSet_40 : decode cX0_settleSet 40 = .ok (.isub, 1) := by decide +kernel
theorem dX0_settleSet_41 : decode cX0_settleSet 41 = .ok (.aload_n 1, 1) := by decide +kernel
theorem dX0_settleSet_42 : decode cX0_settleSet 42 = .ok (.getfield 44, 3) := by decide +kernel
theorem dX0_settleSet_45 : decode cX0_settleSet 45 = .ok (.iload 5, 2) := by decide +kernel
theorem dX0_settleSet_47 : decode cX0_settleSet 47 = .ok (.iaload, 1) := by decide +kernel
theorem dX0_settleSet_48 : decode cX0_settleSet 48 = .ok (.if_icmp .gt 7, 3) := by decide +kernel
theorem dX0_settleSet_51 : decode cX0_settleSet 51 = .ok (.iconst 1, 1) := by decide +kernel
theorem dX0_settleSet_52 : decode cX0_settleSet 52 = .ok (.goto 4, 3) := by decide +kernel
theorem dX0_settleSet_55 : decode cX0_settleSet 55 = .ok (.iconst 0, 1) := by decide +kernel
theorem dX0_settleSet_56 : decode cX0_settleSet 56 = .ok (.istore 6, 2) := by decide +kernel
theorem dX0_settleSet_58 : decode cX0_settleSet 58 = .ok (.iload 6, 2) := by decide +kernel
theorem dX0_settleSet_60 : decode cX0_settleSet 60 = .ok (.ifCond .eq 19, 3) := by decide +kernel
theorem dX0_settleSet_63 : decode cX0_settleSet 63 = .ok (.aload_n 0, 1) := by decide +kernel
theorem dX0_settleSet_64 : decode cX0_settleSet 64 = .ok (.aload_n 1, 1) := by decide +kernel
theorem dX0_settleSet_65 : decode cX0_settleSet 65 = .ok (.iload 5, 2) := by decide +kernel
theorem dX0_settleSet_67 : decode cX0_settleSet 67 = .ok (.iload_n 2, 1) := by decide +kernel
theorem dX0_settleSet_68 : decode cX0_settleSet 68 = .ok (.iconst 1, 1) := by decide +kernel
theorem dX0_settleSet_69 : decode cX0_settleSet 69 = .ok (.iload 5, 2) := by decide +kernel
theorem dX0_settleSet_71 : decode cX0_settleSet 71 = .ok (.ishl, 1) := by decide +kernel
theorem dX0_settleSet_72 : decode cX0_settleSet 72 = .ok (.ixor, 1) := by decide +kernel
theorem dX0_settleSet_73 : decode cX0_settleSet 73 = .ok (.invokevirtual 47, 3) := by decide +kernel
theorem dX0_settleSet_76 : decode cX0_settleSet 76 = .ok (.goto 5, 3) := by decide +kernel
theorem dX0_settleSet_79 : decode cX0_settleSet 79 = .ok (.ldc 40, 2) := by decide +kernel
theorem dX0_settleSet_81 : decode cX0_settleSet 81 = .ok (.istore 7, 2) := by decide +kernel
theorem dX0_settleSet_83 : decode cX0_settleSet 83 = .ok (.aload_n 0, 1) := by decide +kernel
theorem dX0_settleSet_84 : decode cX0_settleSet 84 = .ok (.getfield 9, 3) := by decide +kernel
theorem dX0_settleSet_87 : decode cX0_settleSet 87 = .ok (.iload_n 2, 1) := by decide +kernel
theorem dX0_settleSet_88 : decode cX0_settleSet 88 = .ok (.aload_n 0, 1) := by decide +kernel
theorem dX0_settleSet_89 : decode cX0_settleSet 89 = .ok (.getfield 31, 3) := by decide +kernel
theorem dX0_settleSet_92 : decode cX0_settleSet 92 = .ok (.imul, 1) := by decide +kernel
theorem dX0_settleSet_93 : decode cX0_settleSet 93 = .ok (.iload 5, 2) := by decide +kernel
theorem dX0_settleSet_95 : decode cX0_settleSet 95 = .ok (.iadd, 1) := by decide +kernel
theorem dX0_settleSet_96 : decode cX0_settleSet 96 = .ok (.iload 7, 2) := by decide +kernel
theorem dX0_settleSet_98 : decode cX0_settleSet 98 = .ok (.iastore, 1) := by decide +kernel
theorem dX0_settleSet_99 : decode cX0_settleSet 99 = .ok (.iload 4, 2) := by decide +kernel
theorem dX0_settleSet_101 : decode cX0_settleSet 101 = .ok (.iload 7, 2) := by decide +kernel
theorem dX0_settleSet_103 : decode cX0_settleSet 103 = .ok (.invokestatic 51, 3) := by decide +kernel
theorem dX0_settleSet_106 : decode cX0_settleSet 106 = .ok (.istore 4, 2) := by decide +kernel
theorem dX0_settleSet_108 : decode cX0_settleSet 108 = .ok (.iinc 5 1, 3) := by decide +kernel
theorem dX0_settleSet_111 : decode cX0_settleSet 111 = .ok (.goto (-98), 3) := by decide +kernel
theorem dX0_settleSet_114 : decode cX0_settleSet 114 = .ok (.aload_n 0, 1) := by decide +kernel
theorem dX0_settleSet_115 : decode cX0_settleSet 115 = .ok (.getfield 15, 3) := by decide +kernel
theorem dX0_settleSet_118 : decode cX0_settleSet 118 = .ok (.iload_n 2, 1) := by decide +kernel
theorem dX0_settleSet_119 : decode cX0_settleSet 119 = .ok (.iload 4, 2) := by decide +kernel
theorem dX0_settleSet_121 : decode cX0_settleSet 121 = .ok (.iastore, 1) := by decide +kernel
theorem dX0_settleSet_122 : decode cX0_settleSet 122 = .ok (.return_, 1) := by decide +kernel
theorem dX0_firstOn_0 : decode cX0_firstOn 0 = .ok (.iload_n 3, 1) := by decide +kernel
theorem dX0_firstOn_1 : decode cX0_firstOn 1 = .ok (.iconst (-1), 1) := by decide +kernel
theorem dX0_firstOn_2 : decode cX0_firstOn 2 = .ok (.if_icmp .ne 7, 3) := by decide +kernel
theorem dX0_firstOn_5 : decode cX0_firstOn 5 = .ok (.iload_n 2, 1) := by decide +kernel
theorem dX0_firstOn_6 : decode cX0_firstOn 6 = .ok (.goto 11, 3) := by decide +kernel
theorem dX0_firstOn_9 : decode cX0_firstOn 9 = .ok (.iload_n 2, 1) := by decide +kernel
theorem dX0_firstOn_10 : decode cX0_firstOn 10 = .ok (.aload_n 1, 1) := by decide +kernel
theorem dX0_firstOn_11 : decode cX0_firstOn 11 = .ok (.getfield 60, 3) := by decide +kernel
theorem dX0_firstOn_14 : decode cX0_firstOn 14 = .ok (.iload_n 3, 1) := by decide +kernel
theorem dX0_firstOn_15 : decode cX0_firstOn 15 = .ok (.iaload, 1) := by decide +kernel
theorem dX0_firstOn_16 : decode cX0_firstOn 16 = .ok (.iand, 1) := by decide +kernel
theorem dX0_firstOn_17 : decode cX0_firstOn 17 = .ok (.istore 5, 2) := by decide +kernel
theorem dX0_firstOn_19 : decode cX0_firstOn 19 = .ok (.iconst 0, 1) := by decide +kernel
theorem dX0_firstOn_20 : decode cX0_firstOn 20 = .ok (.istore 6, 2) := by decide +kernel
theorem dX0_firstOn_22 : decode cX0_firstOn 22 = .ok (.iload 6, 2) := by decide +kernel
theorem dX0_firstOn_24 : decode cX0_firstOn 24 = .ok (.aload_n 0, 1) := by decide +kernel
theorem dX0_firstOn_25 : decode cX0_firstOn 25 = .ok (.getfield 31, 3) := by decide +kernel
theorem dX0_firstOn_28 : decode cX0_firstOn 28 = .ok (.if_icmp .ge 74, 3) := by decide +kernel
theorem dX0_firstOn_31 : decode cX0_firstOn 31 = .ok (.iload 5, 2) := by decide +kernel
theorem dX0_firstOn_33 : decode cX0_firstOn 33 = .ok (.iload 6, 2) := by decide +kernel
theorem dX0_firstOn_35 : decode cX0_firstOn 35 = .ok (.iushr, 1) := by decide +kernel
theorem dX0_firstOn_36 : decode cX0_firstOn 36 = .ok (.iconst 1, 1) := by decide +kernel
theorem dX0_firstOn_37 : decode cX0_firstOn 37 = .ok (.iand, 1) := by decide +kernel
theorem dX0_firstOn_38 : decode cX0_firstOn 38 = .ok (.iconst 1, 1) := by decide +kernel
theorem dX0_firstOn_39 : decode cX0_firstOn 39 = .ok (.if_icmp .ne 57, 3) := by decide +kernel
theorem dX0_firstOn_42 : decode cX0_firstOn 42 = .ok (.iload_n 3, 1) := by decide +kernel
theorem dX0_firstOn_43 : decode cX0_firstOn 43 = .ok (.iconst (-1), 1) := by decide +kernel
theorem dX0_firstOn_44 : decode cX0_firstOn 44 = .ok (.if_icmp .ne 7, 3) := by decide +kernel
theorem dX0_firstOn_47 : decode cX0_firstOn 47 = .ok (.iconst 0, 1) := by decide +kernel
theorem dX0_firstOn_48 : decode cX0_firstOn 48 = .ok (.goto 10, 3) := by decide +kernel
theorem dX0_firstOn_51 : decode cX0_firstOn 51 = .ok (.aload_n 1, 1) := by decide +kernel
theorem dX0_firstOn_52 : decode cX0_firstOn 52 = .ok (.iload 6, 2) := by decide +kernel
theorem dX0_firstOn_54 : decode cX0_firstOn 54 = .ok (.iload_n 3, 1) := by decide +kernel
theorem dX0_firstOn_55 : decode cX0_firstOn 55 = .ok (.invokevirtual 63, 3) := by decide +kernel
theorem dX0_firstOn_58 : decode cX0_firstOn 58 = .ok (.istore 7, 2) := by decide +kernel
theorem dX0_firstOn_60 : decode cX0_firstOn 60 = .ok (.aload_n 0, 1) := by decide +kernel
theorem dX0_firstOn_61 : decode cX0_firstOn 61 = .ok (.getfield 9, 3) := by decide +kernel
theorem dX0_firstOn_64 : decode cX0_firstOn 64 = .ok (.iload_n 2, 1) := by decide +kernel
theorem dX0_firstOn_65 : decode cX0_firstOn 65 = .ok (.aload_n 0, 1) := by decide +kernel
theorem dX0_firstOn_66 : decode cX0_firstOn 66 = .ok (.getfield 31, 3) := by decide +kernel
theorem dX0_firstOn_69 : decode cX0_firstOn 69 = .ok (.imul, 1) := by decide +kernel
theorem dX0_firstOn_70 : decode cX0_firstOn 70 = .ok (.iload 6, 2) := by decide +kernel
theorem dX0_firstOn_72 : decode cX0_firstOn 72 = .ok (.iadd, 1) := by decide +kernel
theorem dX0_firstOn_73 : decode cX0_firstOn 73 = .ok (.iaload, 1) := by decide +kernel
theorem dX0_firstOn_74 : decode cX0_firstOn 74 = .ok (.istore 8, 2) := by decide +kernel
theorem dX0_firstOn_76 : decode cX0_firstOn 76 = .ok (.iload 8, 2) := by decide +kernel
theorem dX0_firstOn_78 : decode cX0_firstOn 78 = .ok (.ldc 40, 2) := by decide +kernel
theorem dX0_firstOn_80 : decode cX0_firstOn 80 = .ok (.if_icmp .ge 16, 3) := by decide +kernel
theorem dX0_firstOn_83 : decode cX0_firstOn 83 = .ok (.iload 7, 2) := by decide +kernel
theorem dX0_firstOn_85 : decode cX0_firstOn 85 = .ok (.iload 8, 2) := by decide +kernel
theorem dX0_firstOn_87 : decode cX0_firstOn 87 = .ok (.iadd, 1) := by decide +kernel
theorem dX0_firstOn_88 : decode cX0_firstOn 88 = .ok (.iload 4, 2) := by decide +kernel
theorem dX0_firstOn_90 : decode cX0_firstOn 90 = .ok (.if_icmp .gt 6, 3) := by decide +kernel
theorem dX0_firstOn_93 : decode cX0_firstOn 93 = .ok (.iload 6, 2) := by decide +kernel
theorem dX0_firstOn_95 : decode cX0_firstOn 95 = .ok (.ireturn, 1) := by decide +kernel
theorem dX0_firstOn_96 : decode cX0_firstOn 96 = .ok (.iinc 6 1, 3) := by decide +kernel
theorem dX0_firstOn_99 : decode cX0_firstOn 99 = .ok (.goto (-77), 3) := by decide +kernel
theorem dX0_firstOn_102 : decode cX0_firstOn 102 = .ok (.iconst (-1), 1) := by decide +kernel
theorem dX0_firstOn_103 : decode cX0_firstOn 103 = .ok (.ireturn, 1) := by decide +kernel
theorem dX0_inOrder_0 : decode cX0_inOrder 0 = .ok (.iload_n 2, 1) := by decide +kernel
theorem dX0_inOrder_1 : decode cX0_inOrder 1 = .ok (.istore 5, 2) := by decide +kernel
theorem dX0_inOrder_3 : decode cX0_inOrder 3 = .ok (.iload_n 3, 1) := by decide +kernel
theorem dX0_inOrder_4 : decode cX0_inOrder 4 = .ok (.istore 6, 2) := by decide +kernel
theorem dX0_inOrder_6 : decode cX0_inOrder 6 = .ok (.iconst (-1), 1) := by decide +kernel
theorem dX0_inOrder_7 : decode cX0_inOrder 7 = .ok (.istore 7, 2) := by decide +kernel
theorem dX0_inOrder_9 : decode cX0_inOrder 9 = .ok (.iconst 0, 1) := by decide +kernel
theorem dX0_inOrder_10 : decode cX0_inOrder 10 = .ok (.istore 8, 2) := by decide +kernel
theorem dX0_inOrder_12 : decode cX0_inOrder 12 = .ok (.iload 8, 2) := by decide +kernel
theorem dX0_inOrder_14 : decode cX0_inOrder 14 = .ok (.iload 4, 2) := by decide +kernel
theorem dX0_inOrder_16 : decode cX0_inOrder 16 = .ok (.if_icmp .gt 66, 3) := by decide +kernel
theorem dX0_inOrder_19 : decode cX0_inOrder 19 = .ok (.aload_n 0, 1) := by decide +kernel
theorem dX0_inOrder_20 : decode cX0_inOrder 20 = .ok (.aload_n 1, 1) := by decide +kernel
theorem dX0_inOrder_21 : decode cX0_inOrder 21 = .ok (.iload 5, 2) := by decide +kernel
theorem dX0_inOrder_23 : decode cX0_inOrder 23 = .ok (.iload 7, 2) := by decide +kernel
theorem dX0_inOrder_25 : decode cX0_inOrder 25 = .ok (.iload 6, 2) := by decide +kernel
theorem dX0_inOrder_27 : decode cX0_inOrder 27 = .ok (.invokevirtual 80, 3) := by decide +kernel
theorem dX0_inOrder_30 : decode cX0_inOrder 30 = .ok (.istore 9, 2) := by decide +kernel
theorem dX0_inOrder_32 : decode cX0_inOrder 32 = .ok (.iload 9, 2) := by decide +kernel
theorem dX0_inOrder_34 : decode cX0_inOrder 34 = .ok (.iconst (-1), 1) := by decide +kernel
theorem dX0_inOrder_35 : decode cX0_inOrder 35 = .ok (.if_icmp .ne 5, 3) := by decide +kernel
theorem dX0_inOrder_38 : decode cX0_inOrder 38 = .ok (.iconst (-1), 1) := by decide +kernel
theorem dX0_inOrder_39 : decode cX0_inOrder 39 = .ok (.ireturn, 1) := by decide +kernel
theorem dX0_inOrder_40 : decode cX0_inOrder 40 = .ok (.iload 6, 2) := by decide +kernel
theorem dX0_inOrder_42 : decode cX0_inOrder 42 = .ok (.iload 7, 2) := by decide +kernel
theorem dX0_inOrder_44 : decode cX0_inOrder 44 = .ok (.iconst (-1), 1) := by decide +kernel
theorem dX0_inOrder_45 : decode cX0_inOrder 45 = .ok (.if_icmp .ne 7, 3) := by decide +kernel
theorem dX0_inOrder_48 : decode cX0_inOrder 48 = .ok (.iconst 0, 1) := by decide +kernel
theorem dX0_inOrder_49 : decode cX0_inOrder 49 = .ok (.goto 11, 3) := by decide +kernel
theorem dX0_inOrder_52 : decode cX0_inOrder 52 = .ok (.aload_n 1, 1) := by decide +kernel
theorem dX0_inOrder_53 : decode cX0_inOrder 53 = .ok (.iload 9, 2) := by decide +kernel
theorem dX0_inOrder_55 : decode cX0_inOrder 55 = .ok (.iload 7, 2) := by decide +kernel
theorem dX0_inOrder_57 : decode cX0_inOrder 57 = .ok (.invokevirtual 63, 3) := by decide +kernel
theorem dX0_inOrder_60 : decode cX0_inOrder 60 = .ok (.isub, 1) := by decide +kernel
theorem dX0_inOrder_61 : decode cX0_inOrder 61 = .ok (.istore 6, 2) := by decide +kernel
theorem dX0_inOrder_63 : decode cX0_inOrder 63 = .ok (.iload 5, 2) := by decide +kernel
theorem dX0_inOrder_65 : decode cX0_inOrder 65 = .ok (.iconst 1, 1) := by decide +kernel
theorem dX0_inOrder_66 : decode cX0_inOrder 66 = .ok (.iload 9, 2) := by decide +kernel
theorem dX0_inOrder_68 : decode cX0_inOrder 68 = .ok (.ishl, 1) := by decide +kernel
theorem dX0_inOrder_69 : decode cX0_inOrder 69 = .ok (.ixor, 1) := by decide +kernel
theorem dX0_inOrder_70 : decode cX0_inOrder 70 = .ok (.istore 5, 2) := by decide +kernel
theorem dX0_inOrder_72 : decode cX0_inOrder 72 = .ok (.iload 9, 2) := by decide +kernel
theorem dX0_inOrder_74 : decode cX0_inOrder 74 = .ok (.istore 7, 2) := by decide +kernel
theorem dX0_inOrder_76 : decode cX0_inOrder 76 = .ok (.iinc 8 1, 3) := by decide +kernel
theorem dX0_inOrder_79 : decode cX0_inOrder 79 = .ok (.goto (-67), 3) := by decide +kernel
theorem dX0_inOrder_82 : decode cX0_inOrder 82 = .ok (.iload 7, 2) := by decide +kernel
theorem dX0_inOrder_84 : decode cX0_inOrder 84 = .ok (.ireturn, 1) := by decide +kernel
theorem dX0_fewestOf_0 : decode cX0_fewestOf 0 = .ok (.iload_n 1, 1) := by decide +kernel
theorem dX0_fewestOf_1 : decode cX0_fewestOf 1 = .ok (.invokestatic 72, 3) := by decide +kernel
theorem dX0_fewestOf_4 : decode cX0_fewestOf 4 = .ok (.istore_n 3, 1) := by decide +kernel
theorem dX0_fewestOf_5 : decode cX0_fewestOf 5 = .ok (.iload_n 1, 1) := by decide +kernel
theorem dX0_fewestOf_6 : decode cX0_fewestOf 6 = .ok (.iload_n 3, 1) := by decide +kernel
theorem dX0_fewestOf_7 : decode cX0_fewestOf 7 = .ok (.ixor, 1) := by decide +kernel
theorem dX0_fewestOf_8 : decode cX0_fewestOf 8 = .ok (.istore 4, 2) := by decide +kernel
theorem dX0_fewestOf_10 : decode cX0_fewestOf 10 = .ok (.bipush 12, 2) := by decide +kernel
theorem dX0_fewestOf_12 : decode cX0_fewestOf 12 = .ok (.istore 5, 2) := by decide +kernel
theorem dX0_fewestOf_14 : decode cX0_fewestOf 14 = .ok (.iload 4, 2) := by decide +kernel
theorem dX0_fewestOf_16 : decode cX0_fewestOf 16 = .ok (.istore 6, 2) := by decide +kernel
theorem dX0_fewestOf_18 : decode cX0_fewestOf 18 = .ok (.iconst 1, 1) := by decide +kernel
theorem dX0_fewestOf_19 : decode cX0_fewestOf 19 = .ok (.iload 4, 2) := by decide +kernel
theorem dX0_fewestOf_21 : decode cX0_fewestOf 21 = .ok (.invokestatic 77, 3) := by decide +kernel
theorem dX0_fewestOf_24 : decode cX0_fewestOf 24 = .ok (.ishl, 1) := by decide +kernel
theorem dX0_fewestOf_25 : decode cX0_fewestOf 25 = .ok (.istore 7, 2) := by decide +kernel
theorem dX0_fewestOf_27 : decode cX0_fewestOf 27 = .ok (.iload 7, 2) := by decide +kernel
theorem dX0_fewestOf_29 : decode cX0_fewestOf 29 = .ok (.ifCond .le 56, 3) := by decide +kernel
theorem dX0_fewestOf_32 : decode cX0_fewestOf 32 = .ok (.aload_n 0, 1) := by decide +kernel
theorem dX0_fewestOf_33 : decode cX0_fewestOf 33 = .ok (.getfield 18, 3) := by decide +kernel
theorem dX0_fewestOf_36 : decode cX0_fewestOf 36 = .ok (.iload 6, 2) := by decide +kernel
theorem dX0_fewestOf_38 : decode cX0_fewestOf 38 = .ok (.iaload, 1) := by decide +kernel
theorem dX0_fewestOf_39 : decode cX0_fewestOf 39 = .ok (.iconst 1, 1) := by decide +kernel
theorem dX0_fewestOf_40 : decode cX0_fewestOf 40 = .ok (.iadd, 1) := by decide +kernel
theorem dX0_fewestOf_41 : decode cX0_fewestOf 41 = .ok (.iload 5, 2) := by decide +kernel
theorem dX0_fewestOf_43 : decode cX0_fewestOf 43 = .ok (.if_icmp .ge 27, 3) := by decide +kernel
theorem dX0_fewestOf_46 : decode cX0_fewestOf 46 = .ok (.aload_n 0, 1) := by decide +kernel
theorem dX0_fewestOf_47 : decode cX0_fewestOf 47 = .ok (.getfield 15, 3) := by decide +kernel
theorem dX0_fewestOf_50 : decode cX0_fewestOf 50 = .ok (.iload_n 1, 1) := by decide +kernel
theorem dX0_fewestOf_51 : decode cX0_fewestOf 51 = .ok (.iload 6, 2) := by decide +kernel
theorem dX0_fewestOf_53 : decode cX0_fewestOf 53 = .ok (.ixor, 1) := by decide +kernel
theorem dX0_fewestOf_54 : decode cX0_fewestOf 54 = .ok (.iaload, 1) := by decide +kernel
theorem dX0_fewestOf_55 : decode cX0_fewestOf 55 = .ok (.iload_n 2, 1) := by decide +kernel
theorem dX0_fewestOf_56 : decode cX0_fewestOf 56 = .ok (.if_icmp .gt 14, 3) := by decide +kernel
theorem dX0_fewestOf_59 : decode cX0_fewestOf 59 = .ok (.aload_n 0, 1) := by decide +kernel
theorem dX0_fewestOf_60 : decode cX0_fewestOf 60 = .ok (.getfield 18, 3) := by decide +kernel
theorem dX0_fewestOf_63 : decode cX0_fewestOf 63 = .ok (.iload 6, 2) := by decide +kernel
theorem dX0_fewestOf_65 : decode cX0_fewestOf 65 = .ok (.iaload, 1) := by decide +kernel
theorem dX0_fewestOf_66 : decode cX0_fewestOf 66 = .ok (.iconst 1, 1) := by decide +kernel
theorem dX0_fewestOf_67 : decode cX0_fewestOf 67 = .ok (.iadd, 1) := by decide +kernel
theorem dX0_fewestOf_68 : decode cX0_fewestOf 68 = .ok (.istore 5, 2) := by decide +kernel
theorem dX0_fewestOf_70 : decode cX0_fewestOf 70 = .ok (.iload 6, 2) := by decide +kernel
theorem dX0_fewestOf_72 : decode cX0_fewestOf 72 = .ok (.iconst 1, 1) := by decide +kernel
theorem dX0_fewestOf_73 : decode cX0_fewestOf 73 = .ok (.isub, 1) := by decide +kernel
theorem dX0_fewestOf_74 : decode cX0_fewestOf 74 = .ok (.iload 4, 2) := by decide +kernel
theorem dX0_fewestOf_76 : decode cX0_fewestOf 76 = .ok (.iand, 1) := by decide +kernel
theorem dX0_fewestOf_77 : decode cX0_fewestOf 77 = .ok (.istore 6, 2) := by decide +kernel
theorem dX0_fewestOf_79 : decode cX0_fewestOf 79 = .ok (.iinc 7 (-1), 3) := by decide +kernel
theorem dX0_fewestOf_82 : decode cX0_fewestOf 82 = .ok (.goto (-55), 3) := by decide +kernel
theorem dX0_fewestOf_85 : decode cX0_fewestOf 85 = .ok (.iload 5, 2) := by decide +kernel
theorem dX0_fewestOf_87 : decode cX0_fewestOf 87 = .ok (.ireturn, 1) := by decide +kernel
theorem dX0_fewestStacks_0 : decode cX0_fewestStacks 0 = .ok (.iconst 1, 1) := by decide +kernel
theorem dX0_fewestStacks_1 : decode cX0_fewestStacks 1 = .ok (.aload_n 0, 1) := by decide +kernel
theorem dX0_fewestStacks_2 : decode cX0_fewestStacks 2 = .ok (.getfield 31, 3) := by decide +kernel
theorem dX0_fewestStacks_5 : decode cX0_fewestStacks 5 = .ok (.ishl, 1) := by decide +kernel
theorem dX0_fewestStacks_6 : decode cX0_fewestStacks 6 = .ok (.iconst 1, 1) := by decide +kernel
theorem dX0_fewestStacks_7 : decode cX0_fewestStacks 7 = .ok (.isub, 1) := by decide +kernel
theorem dX0_fewestStacks_8 : decode cX0_fewestStacks 8 = .ok (.istore_n 2, 1) := by decide +kernel
theorem dX0_fewestStacks_9 : decode cX0_fewestStacks 9 = .ok (.aload_n 0, 1) := by decide +kernel
theorem dX0_fewestStacks_10 : decode cX0_fewestStacks 10 = .ok (.getfield 18, 3) := by decide +kernel
theorem dX0_fewestStacks_13 : decode cX0_fewestStacks 13 = .ok (.iconst 0, 1) := by decide +kernel
theorem dX0_fewestStacks_14 : decode cX0_fewestStacks 14 = .ok (.iconst 0, 1) := by decide +kernel
theorem dX0_fewestStacks_15 : decode cX0_fewestStacks 15 = .ok (.iastore, 1) := by decide +kernel
theorem dX0_fewestStacks_16 : decode cX0_fewestStacks 16 = .ok (.iconst 1, 1) := by decide +kernel
theorem dX0_fewestStacks_17 : decode cX0_fewestStacks 17 = .ok (.istore_n 3, 1) := by decide +kernel
theorem dX0_fewestStacks_18 : decode cX0_fewestStacks 18 = .ok (.iload_n 3, 1) := by decide +kernel
theorem dX0_fewestStacks_19 : decode cX0_fewestStacks 19 = .ok (.iload_n 2, 1) := by decide +kernel
theorem dX0_fewestStacks_20 : decode cX0_fewestStacks 20 = .ok (.if_icmp .gt 32, 3) := by decide +kernel
theorem dX0_fewestStacks_23 : decode cX0_fewestStacks 23 = .ok (.iload_n 3, 1) := by decide +kernel
theorem dX0_fewestStacks_24 : decode cX0_fewestStacks 24 = .ok (.iconst 1, 1) := by decide +kernel
theorem dX0_fewestStacks_25 : decode cX0_fewestStacks 25 = .ok (.iand, 1) := by decide +kernel
theorem dX0_fewestStacks_26 : decode cX0_fewestStacks 26 = .ok (.ifCond .eq 8, 3) := by decide +kernel
theorem dX0_fewestStacks_29 : decode cX0_fewestStacks 29 = .ok (.iload_n 3, 1) := by decide +kernel
theorem dX0_fewestStacks_30 : decode cX0_fewestStacks 30 = .ok (.iload_n 2, 1) := by decide +kernel
theorem dX0_fewestStacks_31 : decode cX0_fewestStacks 31 = .ok (.if_icmp .ne 15, 3) := by decide +kernel
theorem dX0_fewestStacks_34 : decode cX0_fewestStacks 34 = .ok (.aload_n 0, 1) := by decide +kernel
theorem dX0_fewestStacks_35 : decode cX0_fewestStacks 35 = .ok (.getfield 18, 3) := by decide +kernel
theorem dX0_fewestStacks_38 : decode cX0_fewestStacks 38 = .ok (.iload_n 3, 1) := by decide +kernel
theorem dX0_fewestStacks_39 : decode cX0_fewestStacks 39 = .ok (.aload_n 0, 1) := by decide +kernel
theorem dX0_fewestStacks_40 : decode cX0_fewestStacks 40 = .ok (.iload_n 3, 1) := by decide +kernel
theorem dX0_fewestStacks_41 : decode cX0_fewestStacks 41 = .ok (.iload_n 1, 1) := by decide +kernel
theorem dX0_fewestStacks_42 : decode cX0_fewestStacks 42 = .ok (.invokevirtual 69, 3) := by decide +kernel
theorem dX0_fewestStacks_45 : decode cX0_fewestStacks 45 = .ok (.iastore, 1) := by decide +kernel
theorem dX0_fewestStacks_46 : decode cX0_fewestStacks 46 = .ok (.iinc 3 1, 3) := by decide +kernel
theorem dX0_fewestStacks_49 : decode cX0_fewestStacks 49 = .ok (.goto (-31), 3) := by decide +kernel
theorem dX0_fewestStacks_52 : decode cX0_fewestStacks 52 = .ok (.aload_n 0, 1) := by decide +kernel
theorem dX0_fewestStacks_53 : decode cX0_fewestStacks 53 = .ok (.getfield 18, 3) := by decide +kernel
theorem dX0_fewestStacks_56 : decode cX0_fewestStacks 56 = .ok (.iload_n 2, 1) := by decide +kernel
theorem dX0_fewestStacks_57 : decode cX0_fewestStacks 57 = .ok (.iaload, 1) := by decide +kernel
theorem dX0_fewestStacks_58 : decode cX0_fewestStacks 58 = .ok (.ireturn, 1) := by decide +kernel
theorem dX6_extend_0 : decode cX6_extend 0 = .ok (.iload_n 2, 1) := by decide +kernel
theorem dX6_extend_1 : decode cX6_extend 1 = .ok (.aload_n 0, 1) := by decide +kernel
theorem dX6_extend_2 : decode cX6_extend 2 = .ok (.getfield 33, 3) := by decide +kernel
theorem dX6_extend_5 : decode cX6_extend 5 = .ok (.if_icmp .lt 4, 3) := by decide +kernel
theorem dX6_extend_8 : decode cX6_extend 8 = .ok (.return_, 1) := by decide +kernel
theorem dX6_extend_9 : decode cX6_extend 9 = .ok (.iload_n 2, 1) := by decide +kernel
theorem dX6_extend_10 : decode cX6_extend 10 = .ok (.ifCond .ne 7, 3) := by decide +kernel
theorem dX6_extend_13 : decode cX6_extend 13 = .ok (.iload_n 3, 1) := by decide +kernel
theorem dX6_extend_14 : decode cX6_extend 14 = .ok (.goto 18, 3) := by decide +kernel
theorem dX6_extend_17 : decode cX6_extend 17 = .ok (.iload_n 3, 1) := by decide +kernel
theorem dX6_extend_18 : decode cX6_extend 18 = .ok (.aload_n 1, 1) := by decide +kernel
theorem dX6_extend_19 : decode cX6_extend 19 = .ok (.getfield 63, 3) := by decide +kernel
theorem dX6_extend_22 : decode cX6_extend 22 = .ok (.aload_n 0, 1) := by decide +kernel
theorem dX6_extend_23 : decode cX6_extend 23 = .ok (.getfield 15, 3) := by decide +kernel
theorem dX6_extend_26 : decode cX6_extend 26 = .ok (.iload_n 2, 1) := by decide +kernel
theorem dX6_extend_27 : decode cX6_extend 27 = .ok (.iconst 1, 1) := by decide +kernel
theorem dX6_extend_28 : decode cX6_extend 28 = .ok (.isub, 1) := by decide +kernel
theorem dX6_extend_29 : decode cX6_extend 29 = .ok (.iaload, 1) := by decide +kernel
theorem dX6_extend_30 : decode cX6_extend 30 = .ok (.iaload, 1) := by decide +kernel
theorem dX6_extend_31 : decode cX6_extend 31 = .ok (.iand, 1) := by decide +kernel
theorem dX6_extend_32 : decode cX6_extend 32 = .ok (.istore 6, 2) := by decide +kernel
theorem dX6_extend_34 : decode cX6_extend 34 = .ok (.iconst 0, 1) := by decide +kernel
theorem dX6_extend_35 : decode cX6_extend 35 = .ok (.istore 7, 2) := by decide +kernel
theorem dX6_extend_37 : decode cX6_extend 37 = .ok (.iload 7, 2) := by decide +kernel
theorem dX6_extend_39 : decode cX6_extend 39 = .ok (.aload_n 1, 1) := by decide +kernel
theorem dX6_extend_40 : decode cX6_extend 40 = .ok (.getfield 66, 3) := by decide +kernel
theorem dX6_extend_43 : decode cX6_extend 43 = .ok (.if_icmp .ge 65, 3) := by decide +kernel
theorem dX6_extend_46 : decode cX6_extend 46 = .ok (.iload 6, 2) := by decide +kernel
theorem dX6_extend_48 : decode cX6_extend 48 = .ok (.iload 7, 2) := by decide +kernel
theorem dX6_extend_50 : decode cX6_extend 50 = .ok (.iushr, 1) := by decide +kernel
theorem dX6_extend_51 : decode cX6_extend 51 = .ok (.iconst 1, 1) := by decide +kernel
theorem dX6_extend_52 : decode cX6_extend 52 = .ok (.iand, 1) := by decide +kernel
theorem dX6_extend_53 : decode cX6_extend 53 = .ok (.iconst 1, 1) := by decide +kernel
theorem dX6_extend_54 : decode cX6_extend 54 = .ok (.if_icmp .ne 48, 3) := by decide +kernel
theorem dX6_extend_57 : decode cX6_extend 57 = .ok (.iload_n 2, 1) := by decide +kernel
theorem dX6_extend_58 : decode cX6_extend 58 = .ok (.ifCond .ne 7, 3) := by decide +kernel
theorem dX6_extend_61 : decode cX6_extend 61 = .ok (.iconst 0, 1) := by decide +kernel
theorem dX6_extend_62 : decode cX6_extend 62 = .ok (.goto 17, 3) := by decide +kernel
theorem dX6_extend_65 : decode cX6_extend 65 = .ok (.aload_n 1, 1) := by decide +kernel
theorem dX6_extend_66 : decode cX6_extend 66 = .ok (.iload 7, 2) := by decide +kernel
theorem dX6_extend_68 : decode cX6_extend 68 = .ok (.aload_n 0, 1) := by decide +kernel
theorem dX6_extend_69 : decode cX6_extend 69 = .ok (.getfield 15, 3) := by decide +kernel
theorem dX6_extend_72 : decode cX6_extend 72 = .ok (.iload_n 2, 1) := by decide +kernel
theorem dX6_extend_73 : decode cX6_extend 73 = .ok (.iconst 1, 1) := by decide +kernel
theorem dX6_extend_74 : decode cX6_extend 74 = .ok (.isub, 1) := by decide +kernel
theorem dX6_extend_75 : decode cX6_extend 75 = .ok (.iaload, 1) := by decide +kernel
theorem dX6_extend_76 : decode cX6_extend 76 = .ok (.invokevirtual 69, 3) := by decide +kernel
theorem dX6_extend_79 : decode cX6_extend 79 = .ok (.istore 8, 2) := by decide +kernel
theorem dX6_extend_81 : decode cX6_extend 81 = .ok (.aload_n 0, 1) := by decide +kernel
theorem dX6_extend_82 : decode cX6_extend 82 = .ok (.aload_n 1, 1) := by decide +kernel
theorem dX6_extend_83 : decode cX6_extend 83 = .ok (.iload 7, 2) := by decide +kernel
theorem dX6_extend_85 : decode cX6_extend 85 = .ok (.iload_n 2, 1) := by decide +kernel
theorem dX6_extend_86 : decode cX6_extend 86 = .ok (.iload_n 3, 1) := by decide +kernel
theorem dX6_extend_87 : decode cX6_extend 87 = .ok (.iconst 1, 1) := by decide +kernel
theorem dX6_extend_88 : decode cX6_extend 88 = .ok (.iload 7, 2) := by decide +kernel
theorem dX6_extend_90 : decode cX6_extend 90 = .ok (.ishl, 1) := by decide +kernel
theorem dX6_extend_91 : decode cX6_extend 91 = .ok (.ixor, 1) := by decide +kernel
theorem dX6_extend_92 : decode cX6_extend 92 = .ok (.iload 4, 2) := by decide +kernel
theorem dX6_extend_94 : decode cX6_extend 94 = .ok (.iload 8, 2) := by decide +kernel
theorem dX6_extend_96 : decode cX6_extend 96 = .ok (.iadd, 1) := by decide +kernel
theorem dX6_extend_97 : decode cX6_extend 97 = .ok (.iload 5, 2) := by decide +kernel
theorem dX6_extend_99 : decode cX6_extend 99 = .ok (.invokevirtual 72, 3) := by decide +kernel
theorem dX6_extend_102 : decode cX6_extend 102 = .ok (.iinc 7 1, 3) := by decide +kernel
theorem dX6_extend_105 : decode cX6_extend 105 = .ok (.goto (-68), 3) := by decide +kernel
theorem dX6_extend_108 : decode cX6_extend 108 = .ok (.return_, 1) := by decide +kernel
theorem dX6_tryOn_0 : decode cX6_tryOn 0 = .ok (.aload_n 1, 1) := by decide +kernel
theorem dX6_tryOn_1 : decode cX6_tryOn 1 = .ok (.iload 4, 2) := by decide +kernel
theorem dX6_tryOn_3 : decode cX6_tryOn 3 = .ok (.invokevirtual 76, 3) := by decide +kernel
theorem dX6_tryOn_6 : decode cX6_tryOn 6 = .ok (.istore 7, 2) := by decide +kernel
theorem dX6_tryOn_8 : decode cX6_tryOn 8 = .ok (.iload 7, 2) := by decide +kernel
theorem dX6_tryOn_10 : decode cX6_tryOn 10 = .ok (.aload_n 1, 1) := by decide +kernel
theorem dX6_tryOn_11 : decode cX6_tryOn 11 = .ok (.getfield 79, 3) := by decide +kernel
theorem dX6_tryOn_14 : decode cX6_tryOn 14 = .ok (.iload_n 2, 1) := by decide +kernel
theorem dX6_tryOn_15 : decode cX6_tryOn 15 = .ok (.iaload, 1) := by decide +kernel
theorem dX6_tryOn_16 : decode cX6_tryOn 16 = .ok (.if_icmp .gt 19, 3) := by decide +kernel
theorem dX6_tryOn_19 : decode cX6_tryOn 19 = .ok (.iload 5, 2) := by decide +kernel
theorem dX6_tryOn_21 : decode cX6_tryOn 21 = .ok (.aload_n 1, 1) := by decide +kernel
theorem dX6_tryOn_22 : decode cX6_tryOn 22 = .ok (.getfield 82, 3) := by decide +kernel
theorem dX6_tryOn_25 : decode cX6_tryOn 25 = .ok (.iload_n 2, 1) := by decide +kernel
theorem dX6_tryOn_26 : decode cX6_tryOn 26 = .ok (.iaload, 1) := by decide +kernel
theorem dX6_tryOn_27 : decode cX6_tryOn 27 = .ok (.iadd, 1) := by decide +kernel
theorem dX6_tryOn_28 : decode cX6_tryOn 28 = .ok (.aload_n 0, 1) := by decide +kernel
theorem dX6_tryOn_29 : decode cX6_tryOn 29 = .ok (.getfield 39, 3) := by decide +kernel
theorem dX6_tryOn_32 : decode cX6_tryOn 32 = .ok (.if_icmp .le 4, 3) := by decide +kernel
theorem dX6_tryOn_35 : decode cX6_tryOn 35 = .ok (.return_, 1) := by decide +kernel
theorem dX6_tryOn_36 : decode cX6_tryOn 36 = .ok (.aload_n 1, 1) := by decide +kernel
theorem dX6_tryOn_37 : decode cX6_tryOn 37 = .ok (.getfield 85, 3) := by decide +kernel
theorem dX6_tryOn_40 : decode cX6_tryOn 40 = .ok (.iload_n 2, 1) := by decide +kernel
theorem dX6_tryOn_41 : decode cX6_tryOn 41 = .ok (.iaload, 1) := by decide +kernel
theorem dX6_tryOn_42 : decode cX6_tryOn 42 = .ok (.aload_n 0, 1) := by decide +kernel
theorem dX6_tryOn_43 : decode cX6_tryOn 43 = .ok (.getfield 44, 3) := by decide +kernel
theorem dX6_tryOn_46 : decode cX6_tryOn 46 = .ok (.iadd, 1) := by decide +kernel
theorem dX6_tryOn_47 : decode cX6_tryOn 47 = .ok (.iconst 2, 1) := by decide +kernel
theorem dX6_tryOn_48 : decode cX6_tryOn 48 = .ok (.iload 7, 2) := by decide +kernel
theorem dX6_tryOn_50 : decode cX6_tryOn 50 = .ok (.aload_n 0, 1) := by decide +kernel
theorem dX6_tryOn_51 : decode cX6_tryOn 51 = .ok (.getfield 44, 3) := by decide +kernel
theorem dX6_tryOn_54 : decode cX6_tryOn 54 = .ok (.aload_n 0, 1) := by decide +kernel
theorem dX6_tryOn_55 : decode cX6_tryOn 55 = .ok (.getfield 33, 3) := by decide +kernel
theorem dX6_tryOn_58 : decode cX6_tryOn 58 = .ok (.iconst 1, 1) := by decide +kernel
theorem dX6_tryOn_59 : decode cX6_tryOn 59 = .ok (.isub, 1) := by decide +kernel
theorem dX6_tryOn_60 : decode cX6_tryOn 60 = .ok (.iload_n 3, 1) := by decide +kernel
theorem dX6_tryOn_61 : decode cX6_tryOn 61 = .ok (.isub, 1) := by decide +kernel
theorem dX6_tryOn_62 : decode cX6_tryOn 62 = .ok (.imul, 1) := by decide +kernel
theorem dX6_tryOn_63 : decode cX6_tryOn 63 = .ok (.iadd, 1) := by decide +kernel
theorem dX6_tryOn_64 : decode cX6_tryOn 64 = .ok (.imul, 1) := by decide +kernel
theorem dX6_tryOn_65 : decode cX6_tryOn 65 = .ok (.iadd, 1) := by decide +kernel
theorem dX6_tryOn_66 : decode cX6_tryOn 66 = .ok (.istore 8, 2) := by decide +kernel
theorem dX6_tryOn_68 : decode cX6_tryOn 68 = .ok (.iload 6, 2) := by decide +kernel
theorem dX6_tryOn_70 : decode cX6_tryOn 70 = .ok (.aload_n 0, 1) := by decide +kernel
theorem dX6_tryOn_71 : decode cX6_tryOn 71 = .ok (.getfield 18, 3) := by decide +kernel
theorem dX6_tryOn_74 : decode cX6_tryOn 74 = .ok (.iload_n 2, 1) := by decide +kernel
theorem dX6_tryOn_75 : decode cX6_tryOn 75 = .ok (.iaload, 1) := by decide +kernel
theorem dX6_tryOn_76 : decode cX6_tryOn 76 = .ok (.iload 8, 2) := by decide +kernel
theorem dX6_tryOn_78 : decode cX6_tryOn 78 = .ok (.imul, 1) := by decide +kernel
theorem dX6_tryOn_79 : decode cX6_tryOn 79 = .ok (.iadd, 1) := by decide +kernel
theorem dX6_tryOn_80 : decode cX6_tryOn 80 = .ok (.istore 9, 2) := by decide +kernel
theorem dX6_tryOn_82 : decode cX6_tryOn 82 = .ok (.aload_n 0, 1) := by decide +kernel
theorem dX6_tryOn_83 : decode cX6_tryOn 83 = .ok (.getfield 46, 3) := by decide +kernel
theorem dX6_tryOn_86 : decode cX6_tryOn 86 = .ok (.ifCond .eq 13, 3) := by decide +kernel
theorem dX6_tryOn_89 : decode cX6_tryOn 89 = .ok (.iload 9, 2) := by decide +kernel
theorem dX6_tryOn_91 : decode cX6_tryOn 91 = .ok (.aload_n 0, 1) := by decide +kernel
theorem dX6_tryOn_92 : decode cX6_tryOn 92 = .ok (.getfield 88, 3) := by decide +kernel
theorem dX6_tryOn_95 : decode cX6_tryOn 95 = .ok (.if_icmp .lt 4, 3) := by decide +kernel
theorem dX6_tryOn_98 : decode cX6_tryOn 98 = .ok (.return_, 1) := by decide +kernel
theorem dX6_tryOn_99 : decode cX6_tryOn 99 = .ok (.aload_n 0, 1) := by decide +kernel
theorem dX6_tryOn_100 : decode cX6_tryOn 100 = .ok (.getfield 15, 3) := by decide +kernel
theorem dX6_tryOn_103 : decode cX6_tryOn 103 = .ok (.iload_n 3, 1) := by decide +kernel
theorem dX6_tryOn_104 : decode cX6_tryOn 104 = .ok (.iload_n 2, 1) := by decide +kernel
theorem dX6_tryOn_105 : decode cX6_tryOn 105 = .ok (.iastore, 1) := by decide +kernel
theorem dX6_tryOn_106 : decode cX6_tryOn 106 = .ok (.iload 4, 2) := by decide +kernel
theorem dX6_tryOn_108 : decode cX6_tryOn 108 = .ok (.ifCond .ne 34, 3) := by decide +kernel
theorem dX6_tryOn_111 : decode cX6_tryOn 111 = .ok (.aload_n 0, 1) := by decide +kernel
theorem dX6_tryOn_112 : decode cX6_tryOn 112 = .ok (.iconst 1, 1) := by decide +kernel
theorem dX6_tryOn_113 : decode cX6_tryOn 113 = .ok (.putfield 46, 3) := by decide +kernel
theorem dX6_tryOn_116 : decode cX6_tryOn 116 = .ok (.aload_n 0, 1) := by decide +kernel
theorem dX6_tryOn_117 : decode cX6_tryOn 117 = .ok (.iload 9, 2) := by decide +kernel
theorem dX6_tryOn_119 : decode cX6_tryOn 119 = .ok (.putfield 88, 3) := by decide +kernel
theorem dX6_tryOn_122 : decode cX6_tryOn 122 = .ok (.aload_n 0, 1) := by decide +kernel
theorem dX6_tryOn_123 : decode cX6_tryOn 123 = .ok (.getfield 15, 3) := by decide +kernel
theorem dX6_tryOn_126 : decode cX6_tryOn 126 = .ok (.iconst 0, 1) := by decide +kernel
theorem dX6_tryOn_127 : decode cX6_tryOn 127 = .ok (.aload_n 0, 1) := by decide +kernel
theorem dX6_tryOn_128 : decode cX6_tryOn 128 = .ok (.getfield 11, 3) := by decide +kernel
theorem dX6_tryOn_131 : decode cX6_tryOn 131 = .ok (.iconst 0, 1) := by decide +kernel
theorem dX6_tryOn_132 : decode cX6_tryOn 132 = .ok (.aload_n 0, 1) := by decide +kernel
theorem dX6_tryOn_133 : decode cX6_tryOn 133 = .ok (.getfield 33, 3) := by decide +kernel
theorem dX6_tryOn_136 : decode cX6_tryOn 136 = .ok (.invokestatic 91, 3) := by decide +kernel
theorem dX6_tryOn_139 : decode cX6_tryOn 139 = .ok (.goto 17, 3) := by decide +kernel
theorem dX6_tryOn_142 : decode cX6_tryOn 142 = .ok (.aload_n 0, 1) := by decide +kernel
theorem dX6_tryOn_143 : decode cX6_tryOn 143 = .ok (.aload_n 1, 1) := by decide +kernel
theorem dX6_tryOn_144 : decode cX6_tryOn 144 = .ok (.iload_n 3, 1) := by decide +kernel
theorem dX6_tryOn_145 : decode cX6_tryOn 145 = .ok (.iconst 1, 1) := by decide +kernel
theorem dX6_tryOn_146 : decode cX6_tryOn 146 = .ok (.iadd, 1) := by decide +kernel
theorem dX6_tryOn_147 : decode cX6_tryOn 147 = .ok (.iload 4, 2) := by decide +kernel
theorem dX6_tryOn_149 : decode cX6_tryOn 149 = .ok (.iload 5, 2) := by decide +kernel
theorem dX6_tryOn_151 : decode cX6_tryOn 151 = .ok (.iload 9, 2) := by decide +kernel
theorem dX6_tryOn_153 : decode cX6_tryOn 153 = .ok (.invokevirtual 59, 3) := by decide +kernel
theorem dX6_tryOn_156 : decode cX6_tryOn 156 = .ok (.return_, 1) := by decide +kernel
theorem dX6_find_0 : decode cX6_find 0 = .ok (.aload_n 0, 1) := by decide +kernel
theorem dX6_find_1 : decode cX6_find 1 = .ok (.aload_n 3, 1) := by decide +kernel
theorem dX6_find_2 : decode cX6_find 2 = .ok (.getfield 21, 3) := by decide +kernel
theorem dX6_find_5 : decode cX6_find 5 = .ok (.bipush 7, 2) := by decide +kernel
theorem dX6_find_7 : decode cX6_find 7 = .ok (.invokestatic 27, 3) := by decide +kernel
theorem dX6_find_10 : decode cX6_find 10 = .ok (.putfield 33, 3) := by decide +kernel
theorem dX6_find_13 : decode cX6_find 13 = .ok (.aload_n 0, 1) := by decide +kernel
theorem dX6_find_14 : decode cX6_find 14 = .ok (.aload_n 1, 1) := by decide +kernel
theorem dX6_find_15 : decode cX6_find 15 = .ok (.getfield 34, 3) := by decide +kernel
theorem dX6_find_18 : decode cX6_find 18 = .ok (.iload 4, 2) := by decide +kernel
theorem dX6_find_20 : decode cX6_find 20 = .ok (.iaload, 1) := by decide +kernel
theorem dX6_find_21 : decode cX6_find 21 = .ok (.putfield 39, 3) := by decide +kernel
theorem dX6_find_24 : decode cX6_find 24 = .ok (.aload_n 0, 1) := by decide +kernel
theorem dX6_find_25 : decode cX6_find 25 = .ok (.aload_n 1, 1) := by decide +kernel
theorem dX6_find_26 : decode cX6_find 26 = .ok (.getfield 41, 3) := by decide +kernel
theorem dX6_find_29 : decode cX6_find 29 = .ok (.iload 4, 2) := by decide +kernel
theorem dX6_find_31 : decode cX6_find 31 = .ok (.iaload, 1) := by decide +kernel
theorem dX6_find_32 : decode cX6_find 32 = .ok (.putfield 44, 3) := by decide +kernel
theorem dX6_find_35 : decode cX6_find 35 = .ok (.aload_n 0, 1) := by decide +kernel
theorem dX6_find_36 : decode cX6_find 36 = .ok (.iconst 0, 1) := by decide +kernel
theorem dX6_find_37 : decode cX6_find 37 = .ok (.putfield 46, 3) := by decide +kernel
theorem dX6_find_40 : decode cX6_find 40 = .ok (.iconst 0, 1) := by decide +kernel
theorem dX6_find_41 : decode cX6_find 41 = .ok (.istore 5, 2) := by decide +kernel
theorem dX6_find_43 : decode cX6_find 43 = .ok (.iconst 0, 1) := by decide +kernel
theorem dX6_find_44 : decode cX6_find 44 = .ok (.istore 6, 2) := by decide +kernel
theorem dX6_find_46 : decode cX6_find 46 = .ok (.iload 6, 2) := by decide +kernel
theorem dX6_find_48 : decode cX6_find 48 = .ok (.aload_n 0, 1) := by decide +kernel
theorem dX6_find_49 : decode cX6_find 49 = .ok (.getfield 33, 3) := by decide +kernel
theorem dX6_find_52 : decode cX6_find 52 = .ok (.if_icmp .ge 40, 3) := by decide +kernel
theorem dX6_find_55 : decode cX6_find 55 = .ok (.aload_n 3, 1) := by decide +kernel
theorem dX6_find_56 : decode cX6_find 56 = .ok (.getfield 50, 3) := by decide +kernel
theorem dX6_find_59 : decode cX6_find 59 = .ok (.iload 6, 2) := by decide +kernel
theorem dX6_find_61 : decode cX6_find 61 = .ok (.iaload, 1) := by decide +kernel
theorem dX6_find_62 : decode cX6_find 62 = .ok (.istore 7, 2) := by decide +kernel
theorem dX6_find_64 : decode cX6_find 64 = .ok (.iload 5, 2) := by decide +kernel
theorem dX6_find_66 : decode cX6_find 66 = .ok (.iconst 1, 1) := by decide +kernel
theorem dX6_find_67 : decode cX6_find 67 = .ok (.iload 7, 2) := by decide +kernel
theorem dX6_find_69 : decode cX6_find 69 = .ok (.ishl, 1) := by decide +kernel
theorem dX6_find_70 : decode cX6_find 70 = .ok (.ior, 1) := by decide +kernel
theorem dX6_find_71 : decode cX6_find 71 = .ok (.istore 5, 2) := by decide +kernel
theorem dX6_find_73 : decode cX6_find 73 = .ok (.aload_n 0, 1) := by decide +kernel
theorem dX6_find_74 : decode cX6_find 74 = .ok (.getfield 18, 3) := by decide +kernel
theorem dX6_find_77 : decode cX6_find 77 = .ok (.iload 7, 2) := by decide +kernel
theorem dX6_find_79 : decode cX6_find 79 = .ok (.aload_n 2, 1) := by decide +kernel
theorem dX6_find_80 : decode cX6_find 80 = .ok (.iload 7, 2) := by decide +kernel
theorem dX6_find_82 : decode cX6_find 82 = .ok (.invokevirtual 53, 3) := by decide +kernel
theorem dX6_find_85 : decode cX6_find 85 = .ok (.iastore, 1) := by decide +kernel
theorem dX6_find_86 : decode cX6_find 86 = .ok (.iinc 6 1, 3) := by decide +kernel
theorem dX6_find_89 : decode cX6_find 89 = .ok (.goto (-43), 3) := by decide +kernel
theorem dX6_find_92 : decode cX6_find 92 = .ok (.aload_n 0, 1) := by decide +kernel
theorem dX6_find_93 : decode cX6_find 93 = .ok (.aload_n 1, 1) := by decide +kernel
theorem dX6_find_94 : decode cX6_find 94 = .ok (.iconst 0, 1) := by decide +kernel
theorem dX6_find_95 : decode cX6_find 95 = .ok (.iload 5, 2) := by decide +kernel
theorem dX6_find_97 : decode cX6_find 97 = .ok (.iconst 0, 1) := by decide +kernel
theorem dX6_find_98 : decode cX6_find 98 = .ok (.iconst 0, 1) := by decide +kernel
theorem dX6_find_99 : decode cX6_find 99 = .ok (.invokevirtual 59, 3) := by decide +kernel
theorem dX6_find_102 : decode cX6_find 102 = .ok (.aload_n 0, 1) := by decide +kernel
theorem dX6_find_103 : decode cX6_find 103 = .ok (.getfield 46, 3) := by decide +kernel
theorem dX6_find_106 : decode cX6_find 106 = .ok (.ireturn, 1) := by decide +kernel
set_option maxHeartbeats 4000000 in
set_option maxRecDepth 100000 in
theorem c_J6_lowestOneBit_0f7a4 (l : Launch) (D : DG) (cyC cyI cyJ cyZ cyO : ClassId) (p0 : Int32) (h_p0 : 0 ≤ (p0).toInt ∧ (p0).toInt ≤ 4095) : KK l D (TY cyC cyI cyJ cyZ cyO) yJ6_lowestOneBit_0f7a4 cJ6_lowestOneBit_0f7a4 1 (some .int) ({ frames := 0, cells := 0, slots := 0, locals := 0 } : Room) 0 0 [.int p0] [] (fun u => some (.int (u.2.1 0))) (fun u => (0 ≤ (u.2.1 0).toInt ∧ (u.2.1 0).toInt ≤ 4095) ∧ ((u.2.1 0).toInt ≤ (p0).toInt)) (fun u => []) := by
  refine KK.of (lv0 := [(0, .int p0)]) (by decide) rfl (Nat.le_of_ble_eq_true rfl) ?_
  intro p e s m args below meth c A C hr hk hin
  refine j_iload_n (pc := 0) C dJ6_lowestOneBit_0f7a4_0 rfl 0 rfl ?_
  refine j_iload_n (pc := 1) C dJ6_lowestOneBit_0f7a4_1 rfl 0 rfl ?_
  obtain ⟨v_1, ev_1⟩ : ∃ z : Int32, -p0 = z := ⟨_, rfl⟩
  refine j_ineg (pc := 2) (v := v_1) C dJ6_lowestOneBit_0f7a4_2 ev_1 ?_
  obtain ⟨v_2, ev_2⟩ : ∃ z : Int32, p0 &&& v_1 = z := ⟨_, rfl⟩
  have hv_2 : 0 ≤ v_2.toInt ∧ v_2.toInt ≤ p0.toInt := by rw [← ev_2]; exact andb_l (by omega)
  refine j_iand (pc := 3) (v := v_2) C dJ6_lowestOneBit_0f7a4_3 ev_2 ?_
  exact j_iret (pc := 4) C hr hk (fun i => [].getD i 0, fun i => [v_2].getD i 0, fun i => [].getD i (fun _ => 0), fun i => [].getD i (fun _ => 0)) rfl (show (0 ≤ (v_2).toInt ∧ (v_2).toInt ≤ 4095) ∧ (v_2.toInt ≤ (p0).toInt) from ⟨by omega, by omega⟩) [] (by decide) rfl (by decide) (by decide) dJ6_lowestOneBit_0f7a4_4

/-- the least of what F says of those below n of which Q, D if none is less -/
def MNL (Q : Nat → Prop) (F : Nat → Int) (n D v : Int) : Prop := v ≤ D ∧ (v = D ∨ ∃ u : Nat, (u : Int) < n ∧ Q u ∧ v = F u) ∧ ∀ u : Nat, (u : Int) < n → Q u → v ≤ F u
theorem MNL.start {Q : Nat → Prop} {F : Nat → Int} {n D v : Int} (hn : n ≤ 0) (e : v = D) : MNL Q F n D v := ⟨by omega, Or.inl e, fun u hu => absurd hu (by omega)⟩
theorem MNL.no {Q : Nat → Prop} {F : Nat → Int} {n n' D v : Int} (h : MNL Q F n D v) (e : n' = n + 1) (h0 : 0 ≤ n) (q : Q n.toNat → v ≤ F n.toNat) : MNL Q F n' D v := by
  refine ⟨h.1, ?_, fun u hu qu => ?_⟩
  · rcases h.2.1 with a | ⟨u, a, b, c⟩
    · exact Or.inl a
    · exact Or.inr ⟨u, by omega, b, c⟩
  · by_cases c : (u : Int) < n
    · exact h.2.2 u c qu
    · have eu : u = n.toNat := by omega
      subst eu; exact q qu
theorem MNL.up {Q : Nat → Prop} {F : Nat → Int} {n n' D v v' : Int} (h : MNL Q F n D v) (e : n' = n + 1) (h0 : 0 ≤ n) (q : Q n.toNat) (hv : v' = min v (F n.toNat)) : MNL Q F n' D v' := by
  refine ⟨by have := h.1; omega, ?_, fun u hu qu => ?_⟩
  · rcases (by omega : v' = v ∨ v' = F n.toNat) with c | c
    · rcases h.2.1 with a | ⟨u, a, b, d⟩
      · exact Or.inl (by omega)
      · exact Or.inr ⟨u, by omega, b, by omega⟩
    · exact Or.inr ⟨n.toNat, by omega, q, c⟩
  · by_cases c : (u : Int) < n
    · have := h.2.2 u c qu; omega
    · have eu : u = n.toNat := by omega
      subst eu; omega
theorem MNL.cg {Q Q' : Nat → Prop} {F F' : Nat → Int} {n n' D v v' : Int} (h : MNL Q F n D v) (en : n = n') (ev : v = v') (e : ∀ u : Nat, (u : Int) < n → (Q u ↔ Q' u)) (f : ∀ u : Nat, (u : Int) < n → Q u → F u = F' u) : MNL Q' F' n' D v' := by
  subst en; subst ev
  refine ⟨h.1, ?_, fun u hu qu => ?_⟩
  · rcases h.2.1 with a | ⟨u, a, b, c⟩
    · exact Or.inl a
    · exact Or.inr ⟨u, a, (e u a).mp b, by rw [← f u a b]; exact c⟩
  · have q := (e u hu).mpr qu
    rw [← f u hu q]; exact h.2.2 u hu q
theorem MNL.uniq {Q : Nat → Prop} {F : Nat → Int} {n D v v' : Int} (h : MNL Q F n D v) (h' : MNL Q F n D v') : v = v' := by
  have a : v' ≤ v := by
    rcases h.2.1 with q | ⟨u, q, r, s⟩
    · have := h'.1; omega
    · have := h'.2.2 u q r; omega
  have b : v ≤ v' := by
    rcases h'.2.1 with q | ⟨u, q, r, s⟩
    · have := h.1; omega
    · have := h.2.2 u q r; omega
  omega
theorem tix {a w u k : Int} (ha : 0 ≤ a) (hw : 0 ≤ w) (hu : 0 ≤ u) (e : k = a * w + u) : k.toNat = a.toNat * w.toNat + u.toNat := by
  obtain ⟨a', rfl⟩ := Int.eq_ofNat_of_zero_le ha
  obtain ⟨w', rfl⟩ := Int.eq_ofNat_of_zero_le hw
  obtain ⟨u', rfl⟩ := Int.eq_ofNat_of_zero_le hu
  rw [e, ← Int.natCast_mul, ← Int.natCast_add]
  rfl
theorem tix_lt {o x w u : Nat} (h : o < x) (hu : u < w) : o * w + u < x * w := by
  have a : (o + 1) * w ≤ x * w := Nat.mul_le_mul_right w h
  rw [Nat.add_mul, Nat.one_mul] at a
  omega
/-- the class's table of heights -/
def TX (T : Nat → Int32) (w : Int) (x : Int32) (u : Nat) : Int32 := T (x.toInt.toNat * w.toNat + u)
def cx (x : Int32) (b : Nat) : Int32 := x ^^^ ((1 : Int32) <<< (nI b &&& 31))
theorem nI_bk2 {x : Int32} (h : 0 ≤ x.toInt) : nI x.toInt.toNat = x := (i_eq _ _).mpr (by have := i_bd x; rw [nI_toInt (by omega)]; omega)
theorem bs_s32 : ∀ n, n < 12 → ∀ j, j < 32 → ((1 : Int32) <<< (nI n &&& 31)).toBitVec.getLsbD j = decide (j = n) := by decide +kernel
theorem bx_xor (x y : Int32) (j : Nat) : BT (x ^^^ y) j = (BT x j ^^ BT y j) := by
  show (x ^^^ y).toBitVec.getLsbD j = _
  rw [Int32.toBitVec_xor, BitVec.getLsbD_xor]
  rfl
theorem cx_bt {x : Int32} {b j : Nat} (hb : b < 12) (hj : j < 32) : BT (cx x b) j = (BT x j ^^ decide (j = b)) := by
  unfold cx
  rw [bx_xor, show BT ((1 : Int32) <<< (nI b &&& 31)) j = decide (j = b) from bs_s32 b hb j hj]
theorem bm_1 : ∀ j, j < 32 → (-1 : Int32).toBitVec.getLsbD j = true := by decide +kernel
theorem cx_cl {x : Int32} {b : Nat} (hb : b < 12) (h : BT x b = true) : cx x b = x &&& (((1 : Int32) <<< (nI b &&& 31)) ^^^ (-1)) := bt_ext (fun j hj => by
  rw [cx_bt hb hj, bt_and2, bx_xor, show BT ((1 : Int32) <<< (nI b &&& 31)) j = decide (j = b) from bs_s32 b hb j hj, show BT (-1) j = true from bm_1 j hj]
  by_cases c : j = b
  · rw [c, h, decide_eq_true rfl]; rfl
  · rw [decide_eq_false c, Bool.xor_false, Bool.false_xor, Bool.and_true])
/-- a set without one of its own is less -/
theorem cx_lt {x : Int32} {b : Nat} (hb : b < 12) (h0 : 0 ≤ x.toInt) (h : BT x b = true) : 0 ≤ (cx x b).toInt ∧ (cx x b).toInt < x.toInt := by
  have a := andb_l (x := x) (y := ((1 : Int32) <<< (nI b &&& 31)) ^^^ (-1)) h0
  rw [← cx_cl hb h] at a
  have ne : ¬ cx x b = x := fun z => by
    have y := cx_bt (x := x) hb (show b < 32 by omega)
    rw [z, h, decide_eq_true rfl] at y
    exact absurd y (by decide)
  have : ¬ (cx x b).toInt = x.toInt := fun e => ne ((i_eq _ _).mpr e)
  omega
/-- the class: the least highest rim of b and the set o above it; of b in a set x -/
def RIM (M : Nat → Nat → Bool) (dp : Nat → Int32) (rs : Nat → Nat → Int32) (w : Int) (T : Nat → Int32) (o : Int32) (b : Nat) (v : Int) : Prop := (o = 0 ∧ v = (dp b).toInt) ∨ (¬ o = 0 ∧ ∃ m : Int, MNL (fun u => BT o u = true ∧ M u b = true) (fun u => (rs u b + TX T w o u).toInt) w 1000000 m ∧ v = max (dp b).toInt m)
theorem RIM.fr {M : Nat → Nat → Bool} {dp : Nat → Int32} {rs : Nat → Nat → Int32} {w : Int} {T T' : Nat → Int32} {o : Int32} {b : Nat} {v : Int} (h : RIM M dp rs w T o b v) (e : ∀ u : Nat, (u : Int) < w → TX T w o u = TX T' w o u) : RIM M dp rs w T' o b v := by
  rcases h with h | ⟨h, m, h1, h2⟩
  · exact Or.inl h
  · exact Or.inr ⟨h, m, h1.cg rfl rfl (fun _ _ => Iff.rfl) (fun u hu _ => by rw [e u hu]), h2⟩
def EQC (M : Nat → Nat → Bool) (wt br dp : Nat → Int32) (rs : Nat → Nat → Int32) (nw : Nat) (w : Int) (T : Nat → Int32) (x : Int32) (b : Nat) (v : Int) : Prop := ((br b).toInt < (wS wt x nw - wt b).toInt ∧ v = 1000000) ∨ (¬ (br b).toInt < (wS wt x nw - wt b).toInt ∧ RIM M dp rs w T (cx x b) b v)
theorem EQC.fr {M : Nat → Nat → Bool} {wt br dp : Nat → Int32} {rs : Nat → Nat → Int32} {nw : Nat} {w : Int} {T T' : Nat → Int32} {x : Int32} {b : Nat} {v : Int} (h : EQC M wt br dp rs nw w T x b v) (hb : b < 12) (x0 : 0 ≤ x.toInt) (hx : BT x b = true) (w0 : 0 ≤ w) (e : ∀ j : Nat, j < x.toInt.toNat * w.toNat → T' j = T j) : EQC M wt br dp rs nw w T' x b v := by
  rcases h with h | ⟨h1, h2⟩
  · exact Or.inl h
  · have l := cx_lt hb x0 hx
    exact Or.inr ⟨h1, h2.fr (fun u hu => (e _ (tix_lt (by omega) (by omega))).symm)⟩
/-- all of a set is settled -/
def SETC (M : Nat → Nat → Bool) (wt br dp : Nat → Int32) (rs : Nat → Nat → Int32) (nw : Nat) (w : Int) (T L : Nat → Int32) (x : Int32) : Prop := (∀ b : Nat, (b : Int) < w → BT x b = true → EQC M wt br dp rs nw w T x b (TX T w x b).toInt) ∧ MNL (fun b => BT x b = true) (fun b => (TX T w x b).toInt) w 1000000 (L x.toInt.toNat).toInt
theorem SETC.fr {M : Nat → Nat → Bool} {wt br dp : Nat → Int32} {rs : Nat → Nat → Int32} {nw : Nat} {w : Int} {T T' L L' : Nat → Int32} {x : Int32} (h : SETC M wt br dp rs nw w T L x) (x0 : 0 ≤ x.toInt) (w0 : 0 ≤ w) (w12 : w ≤ 12) (e : ∀ j : Nat, j < (x.toInt.toNat + 1) * w.toNat → T' j = T j) (e2 : L' x.toInt.toNat = L x.toInt.toNat) : SETC M wt br dp rs nw w T' L' x := by
  have ex : ∀ b : Nat, (b : Int) < w → TX T' w x b = TX T w x b := fun b hb => e _ (tix_lt (Nat.lt_succ_self _) (by omega))
  refine ⟨fun b hb hx => ?_, ?_⟩
  · rw [ex b hb]
    exact (h.1 b hb hx).fr (by omega) x0 hx w0 (fun j hj => e j (by rw [Nat.add_mul, Nat.one_mul]; omega))
  · rw [e2]
    exact h.2.cg rfl rfl (fun _ _ => Iff.rfl) (fun b hb _ => by rw [ex b hb])
/-- the class's tables are worked out -/
def HTC (M : Nat → Nat → Bool) (wt br dp : Nat → Int32) (rs : Nat → Nat → Int32) (nw : Nat) (w : Int) (T L : Nat → Int32) : Prop := ∀ x : Int32, 1 ≤ x.toInt → x.toInt < 2 ^ w.toNat → SETC M wt br dp rs nw w T L x
/-- under way in a set: those below n -/
def STG (M : Nat → Nat → Bool) (wt br dp : Nat → Int32) (rs : Nat → Nat → Int32) (nw : Nat) (w : Int) (T0 T : Nat → Int32) (x : Int32) (n v : Int) : Prop := (∀ j : Nat, (j < x.toInt.toNat * w.toNat ∨ (x.toInt.toNat + 1) * w.toNat ≤ j) → T j = T0 j) ∧ (∀ b : Nat, (b : Int) < n → BT x b = true → EQC M wt br dp rs nw w T0 x b (TX T w x b).toInt) ∧ MNL (fun b => BT x b = true) (fun b => (TX T w x b).toInt) n 1000000 v
theorem STG.start {M : Nat → Nat → Bool} {wt br dp : Nat → Int32} {rs : Nat → Nat → Int32} {nw : Nat} {w : Int} {T : Nat → Int32} {x : Int32} {n v : Int} (hn : n ≤ 0) (hv : v = 1000000) : STG M wt br dp rs nw w T T x n v := ⟨fun _ _ => rfl, fun b hb => absurd hb (by omega), MNL.start hn hv⟩
theorem STG.no {M : Nat → Nat → Bool} {wt br dp : Nat → Int32} {rs : Nat → Nat → Int32} {nw : Nat} {w : Int} {T0 T : Nat → Int32} {x : Int32} {n n' v : Int} (h : STG M wt br dp rs nw w T0 T x n v) (e : n' = n + 1) (h0 : 0 ≤ n) (hb : ¬ BT x n.toNat = true) : STG M wt br dp rs nw w T0 T x n' v := ⟨h.1, fun b q hx => by
  by_cases c : (b : Int) < n
  · exact h.2.1 b c hx
  · rw [show b = n.toNat by omega] at hx; exact absurd hx hb, h.2.2.no e h0 (fun q => absurd q hb)⟩
theorem STG.up {M : Nat → Nat → Bool} {wt br dp : Nat → Int32} {rs : Nat → Nat → Int32} {nw : Nat} {w : Int} {T0 T T' : Nat → Int32} {x z : Int32} {n n' v v' : Int} (h : STG M wt br dp rs nw w T0 T x n v) (e : n' = n + 1) (h0 : 0 ≤ n) (hw : n < w) (hb : BT x n.toNat = true) (ht : T' = upd T (x.toInt.toNat * w.toNat + n.toNat) z) (hv : v' = min v z.toInt) (hz : EQC M wt br dp rs nw w T0 x n.toNat z.toInt) : STG M wt br dp rs nw w T0 T' x n' v' := by
  have old : ∀ b : Nat, (b : Int) < n → TX T' w x b = TX T w x b := fun b q => by rw [ht]; exact pk_un (by omega)
  have new : TX T' w x n.toNat = z := by rw [ht]; exact pk_us
  refine ⟨fun j hj => ?_, fun b q hx => ?_, ?_⟩
  · rw [ht, pk_un (by rw [Nat.add_mul, Nat.one_mul] at hj; omega)]; exact h.1 j hj
  · by_cases c : (b : Int) < n
    · rw [old b c]; exact h.2.1 b c hx
    · rw [show b = n.toNat by omega, new]; exact hz
  · refine (h.2.2.cg (F' := fun b => (TX T' w x b).toInt) rfl rfl (fun _ _ => Iff.rfl) (fun b q _ => by rw [old b q])).up e h0 hb ?_
    show v' = min v (TX T' w x n.toNat).toInt
    rw [new]; exact hv
theorem STG.fin {M : Nat → Nat → Bool} {wt br dp : Nat → Int32} {rs : Nat → Nat → Int32} {nw : Nat} {w : Int} {T0 T L L' : Nat → Int32} {x z : Int32} {n : Int} (h : STG M wt br dp rs nw w T0 T x n z.toInt) (hn : n = w) (x0 : 0 ≤ x.toInt) (w0 : 0 ≤ w) (w12 : w ≤ 12) (hl : L' = upd L x.toInt.toNat z) : SETC M wt br dp rs nw w T L' x := by
  subst hn
  refine ⟨fun b hb hx => (h.2.1 b hb hx).fr (by omega) x0 hx w0 (fun j hj => h.1 j (Or.inl hj)), ?_⟩
  rw [hl, pk_us]; exact h.2.2

/-- the first below w of which Q; -1 if none -/
def FST (Q : Nat → Prop) (w x : Int) : Prop := (x = -1 ∧ ∀ u : Nat, (u : Int) < w → ¬ Q u) ∨ (0 ≤ x ∧ x < w ∧ Q x.toNat ∧ ∀ u : Nat, (u : Int) < x → ¬ Q u)
/-- who may be the next in order: the class -/
def rs0 (rs : Nat → Nat → Int32) (u : Nat) (below : Int32) : Int32 := if below.toInt < 0 then 0 else rs u below.toInt.toNat
def FOL (M : Nat → Nat → Bool) (rs : Nat → Nat → Int32) (w : Int) (T : Nat → Int32) (left below room : Int32) (u : Nat) : Prop := BT left u = true ∧ (0 ≤ below.toInt → M u below.toInt.toNat = true) ∧ (TX T w left u).toInt < 1000000 ∧ (rs0 rs u below + TX T w left u).toInt ≤ room.toInt
/-- a chain of n steps from s0 -/
def CHX {σ : Type} (S : Nat → σ → σ → Prop) (s0 : σ) : Nat → σ → Prop
  | 0, s => s = s0
  | n + 1, s => ∃ s1, CHX S s0 n s1 ∧ S n s1 s
theorem CHX.zero {σ : Type} {S : Nat → σ → σ → Prop} {s0 s : σ} {n : Nat} (hn : n = 0) (e : s = s0) : CHX S s0 n s := by subst hn; exact e
theorem CHX.step {σ : Type} {S : Nat → σ → σ → Prop} {s0 s s' : σ} {n m : Nat} (h : CHX S s0 n s) (hm : m = n + 1) (hs : S n s s') : CHX S s0 m s' := by subst hm; exact ⟨s, h, hs⟩
theorem CHX.eq {σ τ : Type} {Sc : Nat → σ → σ → Prop} {Sm : Nat → τ → τ → Prop} {R : Nat → σ → τ → Prop} {s0 : σ} {t0 : τ} (r0 : R 0 s0 t0) : ∀ (n : Nat) (s : σ) (t : τ), (∀ (j : Nat) (s s' : σ) (t t' : τ), j < n → R j s t → Sc j s s' → Sm j t t' → R (j + 1) s' t') → CHX Sc s0 n s → CHX Sm t0 n t → R n s t := by
  intro n
  induction n with
  | zero =>
    intro s t _ h1 h2
    have e1 : s = s0 := h1
    have e2 : t = t0 := h2
    rw [e1, e2]; exact r0
  | succ n ih =>
    intro s t h h1 h2
    obtain ⟨s1, a1, a2⟩ := h1
    obtain ⟨t1, b1, b2⟩ := h2
    exact h n s1 s t1 t (Nat.lt_succ_self n) (ih s1 t1 (fun j s s' t t' hj => h j s s' t t' (by omega)) a1 b1) a2 b2
theorem CHX.pre {σ : Type} {S : Nat → σ → σ → Prop} {s0 : σ} {n : Nat} : ∀ (m : Nat) (s : σ), CHX S s0 m s → n < m → ∃ s1 s2, CHX S s0 n s1 ∧ S n s1 s2 := by
  intro m
  induction m with
  | zero => intro s _ h; exact absurd h (Nat.not_lt_zero _)
  | succ m ih =>
    intro s h hn
    obtain ⟨s1, a1, a2⟩ := h
    by_cases c : n = m
    · rw [c]; exact ⟨s1, s, a1, a2⟩
    · exact ih s1 a1 (by omega)
/-- a step of the class's order: what is left, the one below, the room -/
def SOC (M : Nat → Nat → Bool) (rs : Nat → Nat → Int32) (w : Int) (T : Nat → Int32) (s s' : Int32 × Int32 × Int32) : Prop := ∃ x : Int32, FST (FOL M rs w T s.1 s.2.1 s.2.2) w x.toInt ∧ ¬ x.toInt = -1 ∧ s' = (cx s.1 x.toInt.toNat, x, s.2.2 - rs0 rs x.toInt.toNat s.2.1)
/-- the i-th of the first order: the class -/
def SOA (M : Nat → Nat → Bool) (rs : Nat → Nat → Int32) (w : Int) (T : Nat → Int32) (set height : Int32) (i x : Int) : Prop := ∃ (n : Nat) (s : Int32 × Int32 × Int32), CHX (fun _ => SOC M rs w T) (set, -1, height) n s ∧ (((n : Int) = i + 1 ∧ x = s.2.1.toInt) ∨ ((n : Int) ≤ i ∧ FST (FOL M rs w T s.1 s.2.1 s.2.2) w (-1) ∧ x = -1))

/-- what is asked for is in order -/
def OKS (s h i : Int32) (w : Int) : Prop := (1 ≤ h.toInt ∧ h.toInt ≤ 999) ∧ (1 ≤ s.toInt ∧ s.toInt < 2 ^ w.toNat) ∧ 0 ≤ i.toInt ∧ i.toInt < ((szB s : Nat) : Int)
/-- the answers for an order: class, reference -/
def SRC (M : Nat → Nat → Bool) (wt br dp : Nat → Int32) (rs : Nat → Nat → Int32) (w : Int) (s h i : Int32) (x : Int) : Prop := GRD (OKS s h i w) (-1) (fun x => ∃ T L : Nat → Int32, HTC M wt br dp rs w.toNat w T L ∧ SOA M rs w T s h i.toInt x) x

set_option maxHeartbeats 4000000 in
set_option maxRecDepth 100000 in
theorem c_X0_rimOver (l : Launch) (D : DG) (cyC cyI cyJ cyZ cyO : ClassId) (h0 : Nat) (h1 : Nat) (a0 : Nat) (a1 : Nat) (a2 : Nat) (a7 : Nat) (h2 : Nat) (h3 : Nat) (a3 : Nat) (a4 : Nat) (a5 : Nat) (a6 : Nat) (a8 : Nat) (a9 : Nat) (a10 : Nat) (h_r : Nat) (p1 : Int32) (p2 : Int32) (h_known : Int32) (h_wares : Int32) (a_wares : Int32) (a_shelves : Int32) (a_nests : Int32) (a_lids : Int32) (a_tops : Int32) (h_leastRim : Nat → Int32) (a_wide : Nat → Int32) (a_deep : Nat → Int32) (a_mayOn : Nat → Int32) (h_h_known : 0 ≤ (h_known).toInt ∧ (h_known).toInt ≤ 1) (h_h_wares : 0 ≤ (h_wares).toInt ∧ (h_wares).toInt ≤ 12) (h_a_wares : 0 ≤ (a_wares).toInt ∧ (a_wares).toInt ≤ 12) (h_a_shelves : 0 ≤ (a_shelves).toInt ∧ (a_shelves).toInt ≤ 4) (h_a_nests : 0 ≤ (a_nests).toInt ∧ (a_nests).toInt ≤ 4) (h_p1 : 0 ≤ (p1).toInt ∧ (p1).toInt ≤ 11) (h_p2 : 0 ≤ (p2).toInt ∧ (p2).toInt ≤ 4095) (hlr : (2 : Int) ^ (h_wares).toInt.toNat * (h_wares).toInt ≤ (h_r : Int)) (hbr : h_r ≤ 49152) (hset : (p2).toInt < (2 : Int) ^ (h_wares).toInt.toNat) : KK l D (TY cyC cyI cyJ cyZ cyO) yX0_rimOver cX0_rimOver 8 (some .int) ({ frames := 1, cells := 0, slots := 0, locals := 23 } : Room) 0 0 [.ref h0, .ref a0, .int p1, .int p2] [(h0, .inr (0, [.int h_known, .int h_wares, .ref h1, .ref h2, .ref h3])), (h1, .inl (cyI, h_r, .inl h_leastRim)), (a0, .inr (9, [.int a_wares, .int a_shelves, .int a_nests, .ref a1, .ref a2, .ref a3, .ref a4, .ref a5, .ref a6, .int a_lids, .int a_tops, .ref a7, .ref a8, .ref a9, .ref a10])), (a1, .inl (cyI, 12, .inl a_wide)), (a2, .inl (cyI, 12, .inl a_deep)), (a7, .inl (cyI, 12, .inl a_mayOn))] (fun u => some (.int (u.2.1 0))) (fun u => (RIM (fun u l => BT (a_mayOn l) u) a_deep (rsC a_wide a_deep a_lids) (h_wares).toInt h_leastRim p2 (p1).toInt.toNat (u.2.1 0).toInt)) (fun u => [(h0, .inr (0, [.int h_known, .int h_wares, .ref h1, .ref h2, .ref h3])), (h1, .inl (cyI, h_r, .inl h_leastRim)), (a0, .inr (9, [.int a_wares, .int a_shelves, .int a_nests, .ref a1, .ref a2, .ref a3, .ref a4, .ref a5, .ref a6, .int a_lids, .int a_tops, .ref a7, .ref a8, .ref a9, .ref a10])), (a1, .inl (cyI, 12, .inl a_wide)), (a2, .inl (cyI, 12, .inl a_deep)), (a7, .inl (cyI, 12, .inl a_mayOn))]) := by
  refine KK.of (lv0 := [(0, .ref h0), (1, .ref a0), (2, .int p1), (3, .int p2)]) (by decide) rfl (Nat.le_of_ble_eq_true rfl) ?_
  intro p e s m args below meth c A C hr hk hin
  have hpw1 := pw1 (h_wares).toInt.toNat
  refine j_aload_n (pc := 0) C dX0_rimOver_0 rfl 1 rfl ?_
  refine j_get (pc := 1) (ci := 9) (v := .ref a2) C inw_9 2 rfl rfl 4 (by decide) wd_114 rfl rfl dX0_rimOver_1 ?_
  refine j_iload_n (pc := 4) C dX0_rimOver_4 rfl 2 rfl ?_
  obtain ⟨v_1, ev_1⟩ : ∃ z, a_deep (p1).toInt.toNat = z := ⟨_, rfl⟩
  have env_1 : (a_deep (p1).toInt.toNat).toInt = v_1.toInt := by rw [ev_1]
  refine j_iald (pc := 5) (v := v_1) (k := (p1).toInt.toNat) C 4 1 rfl rfl (i_nn h_p1.1) rfl (i_lt_n h_p1.1 (Int.lt_of_le_of_lt h_p1.2 (by decide))) ev_1 dX0_rimOver_5 ?_
  refine j_istore (pc := 6) (lv' := [(4, .int v_1), (0, .ref h0), (1, .ref a0), (2, .int p1), (3, .int p2)]) C dX0_rimOver_6 (by decide) rfl ?_
  refine j_iload_n (pc := 8) C dX0_rimOver_8 rfl 4 rfl ?_
  refine j_if_ne (pc := 9) (tgt := 15) C dX0_rimOver_9 (by decide) (fun c_2 => ?_) (fun c_2 => ?_)
  · skip
    have el_0 : (0 : Int32).toInt = 0 := rfl
    rw [i_eq] at c_2
    refine j_iload_n (pc := 15) C dX0_rimOver_15 rfl 4 rfl ?_
    refine j_aload_n (pc := 16) C dX0_rimOver_16 rfl 2 rfl ?_
    refine j_get (pc := 17) (ci := 9) (v := .ref a7) C inw_9 2 rfl rfl 11 (by decide) wd_115 rfl rfl dX0_rimOver_17 ?_
    refine j_iload_n (pc := 20) C dX0_rimOver_20 rfl 3 rfl ?_
    obtain ⟨v_3, ev_3⟩ : ∃ z, a_mayOn (p1).toInt.toNat = z := ⟨_, rfl⟩
    have env_3 : (a_mayOn (p1).toInt.toNat).toInt = v_3.toInt := by rw [ev_3]
    refine j_iald (pc := 21) (v := v_3) (k := (p1).toInt.toNat) C 5 1 rfl rfl (i_nn h_p1.1) rfl (i_lt_n h_p1.1 (Int.lt_of_le_of_lt h_p1.2 (by decide))) ev_3 dX0_rimOver_21 ?_
    obtain ⟨v_4, ev_4⟩ : ∃ z : Int32, p2 &&& v_3 = z := ⟨_, rfl⟩
    have hv_4 : 0 ≤ v_4.toInt ∧ v_4.toInt ≤ p2.toInt := by rw [← ev_4]; exact andb_l (by omega)
    refine j_iand (pc := 22) (v := v_4) C dX0_rimOver_22 ev_4 ?_
    refine j_istore (pc := 23) (lv' := [(5, .int v_4), (4, .int v_1), (0, .ref h0), (1, .ref a0), (2, .int p1), (3, .int p2)]) C dX0_rimOver_23 (by decide) rfl ?_
    refine j_ldc (pc := 25) C wd_116 dX0_rimOver_25 ?_
    refine j_istore (pc := 27) (lv' := [(6, .int 1000000), (5, .int v_4), (4, .int v_1), (0, .ref h0), (1, .ref a0), (2, .int p1), (3, .int p2)]) C dX0_rimOver_27 (by decide) rfl ?_
    refine j_iconst (pc := 29) (v := 0) C dX0_rimOver_29 (by decide) ?_
    refine j_istore (pc := 30) (lv' := [(7, .int 0), (6, .int 1000000), (5, .int v_4), (4, .int v_1), (0, .ref h0), (1, .ref a0), (2, .int p1), (3, .int p2)]) C dX0_rimOver_30 (by decide) rfl ?_
    have loop_5 : ∀ (k_5 : Nat) (x5_7 : Int32) (x5_6 : Int32), (0 ≤ (x5_7).toInt ∧ (x5_7).toInt ≤ 12) → (x5_7.toInt ≤ (h_wares).toInt) → (MNL (fun u => BT p2 u = true ∧ (fun u l => BT (a_mayOn l) u) u (p1).toInt.toNat = true) (fun u => ((rsC a_wide a_deep a_lids) u (p1).toInt.toNat + TX h_leastRim (h_wares).toInt p2 u).toInt) x5_7.toInt 1000000 x5_6.toInt) → (12 - x5_7.toInt).toNat < k_5 → J p l e ({ frames := 1, cells := 0, slots := 0, locals := 23 } : Room) s m args below meth c D A 8 0 0 (QX below D (TY cyC cyI cyJ cyZ cyO) A (fun u => some (.int (u.2.1 0))) (fun u => (RIM (fun u l => BT (a_mayOn l) u) a_deep (rsC a_wide a_deep a_lids) (h_wares).toInt h_leastRim p2 (p1).toInt.toNat (u.2.1 0).toInt)) (fun u => [(h0, .inr (0, [.int h_known, .int h_wares, .ref h1, .ref h2, .ref h3])), (h1, .inl (cyI, h_r, .inl h_leastRim)), (a0, .inr (9, [.int a_wares, .int a_shelves, .int a_nests, .ref a1, .ref a2, .ref a3, .ref a4, .ref a5, .ref a6, .int a_lids, .int a_tops, .ref a7, .ref a8, .ref a9, .ref a10])), (a1, .inl (cyI, 12, .inl a_wide)), (a2, .inl (cyI, 12, .inl a_deep)), (a7, .inl (cyI, 12, .inl a_mayOn))]) args s 0 0) [(h0, .inr (0, [.int h_known, .int h_wares, .ref h1, .ref h2, .ref h3])), (h1, .inl (cyI, h_r, .inl h_leastRim)), (a0, .inr (9, [.int a_wares, .int a_shelves, .int a_nests, .ref a1, .ref a2, .ref a3, .ref a4, .ref a5, .ref a6, .int a_lids, .int a_tops, .ref a7, .ref a8, .ref a9, .ref a10])), (a1, .inl (cyI, 12, .inl a_wide)), (a2, .inl (cyI, 12, .inl a_deep)), (a7, .inl (cyI, 12, .inl a_mayOn))] 32 [(7, .int x5_7), (6, .int x5_6), (5, .int v_4), (4, .int v_1), (0, .ref h0), (1, .ref a0), (2, .int p1), (3, .int p2)] [] := by
      intro k_5
      induction k_5 with
      | zero =>
        intro x5_7 x5_6 hi_5_0 hr_5 hq_5_0 hm_5
        exact absurd hm_5 (Nat.not_lt_zero _)
      | succ k_5 ih_5 =>
        intro x5_7 x5_6 hi_5_0 hr_5 hq_5_0 hm_5
        refine j_iload (pc := 32) C dX0_rimOver_32 0 rfl ?_
        refine j_aload_n (pc := 34) C dX0_rimOver_34 rfl 4 rfl ?_
        refine j_get (pc := 35) (ci := 0) (v := .int h_wares) C inw_0 0 rfl rfl 1 (by decide) wd_117 rfl rfl dX0_rimOver_35 ?_
        refine j_icmp_ge (pc := 38) (tgt := 87) C dX0_rimOver_38 (by decide) (fun c_6 => ?_) (fun c_6 => ?_)
        · skip
          rw [i_le] at c_6
          refine j_iload (pc := 87) C dX0_rimOver_87 3 rfl ?_
          refine j_iload (pc := 89) C dX0_rimOver_89 1 rfl ?_
          obtain ⟨v_7, ev_7⟩ : ∃ z : Int32, (if (v_1 : Int32) < x5_6 then x5_6 else v_1) = z := ⟨_, rfl⟩
          refine j_mmax (pc := 91) (v := v_7) C wd_118 wd_5 wd_6 wd_7 (by decide) (Nat.le_of_ble_eq_true rfl) (by decide) (by decide) ev_7 dX0_rimOver_91 ?_
          exact j_iret (pc := 94) C hr hk (fun i => [].getD i 0, fun i => [v_7].getD i 0, fun i => [].getD i (fun _ => 0), fun i => [].getD i (fun _ => 0)) rfl (show (RIM (fun u l => BT (a_mayOn l) u) a_deep (rsC a_wide a_deep a_lids) (h_wares).toInt h_leastRim p2 (p1).toInt.toNat v_7.toInt) from ((Or.inr ⟨(by rw [i_eq]; omega), _, MNL.cg hq_5_0 (by omega) rfl (fun _ _ => Iff.rfl) (fun _ _ _ => rfl), (by rw [ev_1, ← ev_7]; exact mmax_I _ _)⟩))) [0, 1, 2, 3, 4, 5] (by decide) rfl (by decide) (by decide) dX0_rimOver_94
        · skip
          rw [i_le] at c_6
          refine j_iload (pc := 41) C dX0_rimOver_41 2 rfl ?_
          refine j_iload (pc := 43) C dX0_rimOver_43 0 rfl ?_
          obtain ⟨v_8, ev_8⟩ : ∃ z : Int32, ((v_4 : Int32).toUInt32 >>> ((x5_7 : Int32).toUInt32 &&& Int32.toUInt32 31)).toInt32 = z := ⟨_, rfl⟩
          refine j_iushr (pc := 45) (v := v_8) C dX0_rimOver_45 ev_8 ?_
          refine j_iconst (pc := 46) (v := 1) C dX0_rimOver_46 (by decide) ?_
          obtain ⟨v_9, ev_9⟩ : ∃ z : Int32, v_8 &&& 1 = z := ⟨_, rfl⟩
          have el_1 : (1 : Int32).toInt = 1 := rfl
          have hv_9 : 0 ≤ v_9.toInt ∧ v_9.toInt ≤ 1 := by rw [← ev_9]; exact and1_r _
          refine j_iand (pc := 47) (v := v_9) C dX0_rimOver_47 ev_9 ?_
          refine j_iconst (pc := 48) (v := 1) C dX0_rimOver_48 (by decide) ?_
          refine j_icmp_ne (pc := 49) (tgt := 81) C dX0_rimOver_49 (by decide) (fun c_10 => ?_) (fun c_10 => ?_)
          · skip
            have el_1 : (1 : Int32).toInt = 1 := rfl
            rw [i_eq] at c_10
            have k0c_10 : v_9.toInt = 0 := by omega
            obtain ⟨v_11, ev_11⟩ : ∃ z : Int32, x5_7 + 1 = z := ⟨_, rfl⟩
            have el_1 : (1 : Int32).toInt = 1 := rfl
            have hv_11 : v_11.toInt = x5_7.toInt + (1 : Int32).toInt := by rw [← ev_11]; exact fb_addI (by omega) (by omega)
            refine j_iinc (pc := 81) (v := v_11) (lv' := [(7, .int v_11), (6, .int x5_6), (5, .int v_4), (4, .int v_1), (0, .ref h0), (1, .ref a0), (2, .int p1), (3, .int p2)]) C dX0_rimOver_81 0 rfl ev_11 (by decide) rfl ?_
            refine j_goto (pc := 84) (tgt := 32) C dX0_rimOver_84 (by decide) ?_
            exact j_lv [0, 1, 2, 3, 4, 5, 6, 7] rfl (ih_5 v_11 x5_6 (by omega) (by omega) (MNL.no hq_5_0 (by omega) (by omega) (fun z8 => by have z6 : BT p2 (x5_7).toInt.toNat = true := z8.1; have z7 : BT (a_mayOn (p1).toInt.toNat) (x5_7).toInt.toNat = true := z8.2; have z9 : (v_9).toInt = (if BT v_4 (x5_7).toInt.toNat = true then 1 else 0) := (by rw [← ev_9, ← ev_8]; exact bt_rd (by omega) (by omega)); have b9 : BT v_4 (x5_7).toInt.toNat = (BT p2 (x5_7).toInt.toNat && BT (a_mayOn (p1).toInt.toNat) (x5_7).toInt.toNat) := (by rw [← ev_4, ← ev_3, bt_and2]); exfalso; rw [if_pos (by rw [b9, z6, z7]; rfl)] at z9; omega)) (by omega))
          · skip
            have el_1 : (1 : Int32).toInt = 1 := rfl
            rw [i_eq] at c_10
            refine j_iload (pc := 52) C dX0_rimOver_52 1 rfl ?_
            refine j_aload_n (pc := 54) C dX0_rimOver_54 rfl 5 rfl ?_
            refine j_iload (pc := 55) C dX0_rimOver_55 0 rfl ?_
            refine j_iload_n (pc := 57) C dX0_rimOver_57 rfl 6 rfl ?_
            refine j_callV (pc := 58) (As := [.int x5_7, .int p1]) (rest := [.int x5_6]) (wr := [(h0, .inr (0, [.int h_known, .int h_wares, .ref h1, .ref h2, .ref h3])), (h1, .inl (cyI, h_r, .inl h_leastRim)), (a7, .inl (cyI, 12, .inl a_mayOn))]) C (c_X9_rise l D cyC cyI cyJ cyZ cyO a0 a1 a2 a3 a4 a5 a6 a7 a8 a9 a10 x5_7 p1 a_wares a_shelves a_nests a_lids a_tops a_wide a_deep h_a_wares h_a_shelves h_a_nests (by omega) h_p1) wd_32 wd_33 wd_119 wd_35 wd_36 ⟨by decide, by decide, rfl⟩ rfl ⟨rfl, rfl, by decide, by decide⟩ ⟨by decide, by decide⟩ [2, 3, 4] [0, 1, 5] rfl rfl ⟨by decide, by decide, by decide⟩ 2 rfl rfl rfl (Nat.le_of_ble_eq_true rfl) dX0_rimOver_58 (fun u_12 hw_13 => ?_)
            refine j_eq (ws2 := [(h0, .inr (0, [.int h_known, .int h_wares, .ref h1, .ref h2, .ref h3])), (h1, .inl (cyI, h_r, .inl h_leastRim)), (a7, .inl (cyI, 12, .inl a_mayOn)), (a0, .inr (9, [.int a_wares, .int a_shelves, .int a_nests, .ref a1, .ref a2, .ref a3, .ref a4, .ref a5, .ref a6, .int a_lids, .int a_tops, .ref a7, .ref a8, .ref a9, .ref a10])), (a1, .inl (cyI, 12, .inl a_wide)), (a2, .inl (cyI, 12, .inl a_deep))]) (pc2 := 61) (lv2 := [(7, .int x5_7), (6, .int x5_6), (5, .int v_4), (4, .int v_1), (0, .ref h0), (1, .ref a0), (2, .int p1), (3, .int p2)]) (st2 := [.int (u_12.2.1 0), .int x5_6]) rfl rfl rfl rfl ?_
            have hw_13_0 : (u_12.2.1 0) = (rsC a_wide a_deep a_lids) (x5_7).toInt.toNat (p1).toInt.toNat := hw_13
            refine j_aload_n (pc := 61) C dX0_rimOver_61 rfl 4 rfl ?_
            refine j_get (pc := 62) (ci := 0) (v := .ref h1) C inw_0 0 rfl rfl 2 (by decide) wd_120 rfl rfl dX0_rimOver_62 ?_
            refine j_iload_n (pc := 65) C dX0_rimOver_65 rfl 7 rfl ?_
            refine j_aload_n (pc := 66) C dX0_rimOver_66 rfl 4 rfl ?_
            refine j_get (pc := 67) (ci := 0) (v := .int h_wares) C inw_0 0 rfl rfl 1 (by decide) wd_117 rfl rfl dX0_rimOver_67 ?_
            obtain ⟨v_14, ev_14⟩ : ∃ z : Int32, p2 * h_wares = z := ⟨_, rfl⟩
            obtain ⟨hv_14, hv_14a, hv_14b⟩ := mulS (x := p2) (y := h_wares) (by omega) (by omega) (by omega) (by omega)
            rw [ev_14] at hv_14
            have hv_14c := ix_mul (x := p2.toInt) (w := h_wares.toInt) (S := 2 ^ (h_wares).toInt.toNat) (r := (h_r : Nat)) (by omega) (by omega) (by omega) (by omega)
            refine j_imul (pc := 70) (v := v_14) C dX0_rimOver_70 ev_14 ?_
            refine j_iload (pc := 71) C dX0_rimOver_71 0 rfl ?_
            obtain ⟨v_15, ev_15⟩ : ∃ z : Int32, v_14 + x5_7 = z := ⟨_, rfl⟩
            have hv_15 : v_15.toInt = v_14.toInt + x5_7.toInt := by rw [← ev_15]; exact fb_addI (by omega) (by omega)
            refine j_iadd (pc := 73) (v := v_15) C dX0_rimOver_73 ev_15 ?_
            obtain ⟨v_16, ev_16⟩ : ∃ z, h_leastRim (v_15).toInt.toNat = z := ⟨_, rfl⟩
            have env_16 : (h_leastRim (v_15).toInt.toNat).toInt = v_16.toInt := by rw [ev_16]
            refine j_iald (pc := 74) (v := v_16) (k := (v_15).toInt.toNat) C 1 1 rfl rfl (i_nn (by omega)) rfl (i_lt_n (by omega) (by omega)) ev_16 dX0_rimOver_74 ?_
            obtain ⟨v_17, ev_17⟩ : ∃ z : Int32, (u_12.2.1 0) + v_16 = z := ⟨_, rfl⟩
            refine j_iadd (pc := 75) (v := v_17) C dX0_rimOver_75 ev_17 ?_
            obtain ⟨v_18, ev_18⟩ : ∃ z : Int32, (if (v_17 : Int32) < x5_6 then v_17 else x5_6) = z := ⟨_, rfl⟩
            refine j_mmin (pc := 76) (v := v_18) C wd_121 wd_122 wd_6 wd_123 (by decide) (Nat.le_of_ble_eq_true rfl) (by decide) (by decide) ev_18 dX0_rimOver_76 ?_
            refine j_istore (pc := 79) (lv' := [(6, .int v_18), (7, .int x5_7), (5, .int v_4), (4, .int v_1), (0, .ref h0), (1, .ref a0), (2, .int p1), (3, .int p2)]) C dX0_rimOver_79 (by decide) rfl ?_
            obtain ⟨v_19, ev_19⟩ : ∃ z : Int32, x5_7 + 1 = z := ⟨_, rfl⟩
            have el_1 : (1 : Int32).toInt = 1 := rfl
            have hv_19 : v_19.toInt = x5_7.toInt + (1 : Int32).toInt := by rw [← ev_19]; exact fb_addI (by omega) (by omega)
            refine j_iinc (pc := 81) (v := v_19) (lv' := [(7, .int v_19), (6, .int v_18), (5, .int v_4), (4, .int v_1), (0, .ref h0), (1, .ref a0), (2, .int p1), (3, .int p2)]) C dX0_rimOver_81 1 rfl ev_19 (by decide) rfl ?_
            refine j_goto (pc := 84) (tgt := 32) C dX0_rimOver_84 (by decide) ?_
            refine j_subG (ws' := [(h0, .inr (0, [.int h_known, .int h_wares, .ref h1, .ref h2, .ref h3])), (h1, .inl (cyI, h_r, .inl h_leastRim)), (a0, .inr (9, [.int a_wares, .int a_shelves, .int a_nests, .ref a1, .ref a2, .ref a3, .ref a4, .ref a5, .ref a6, .int a_lids, .int a_tops, .ref a7, .ref a8, .ref a9, .ref a10])), (a1, .inl (cyI, 12, .inl a_wide)), (a2, .inl (cyI, 12, .inl a_deep)), (a7, .inl (cyI, 12, .inl a_mayOn))]) [0, 1, 3, 4, 5, 2] (by decide) rfl ?_
            exact j_lv [0, 1, 2, 3, 4, 5, 6, 7] rfl (ih_5 v_19 v_18 (by omega) (by omega) (MNL.up hq_5_0 (by omega) (by omega) (by have y8 : BT v_4 (x5_7).toInt.toNat = true := (by have z9 : (v_9).toInt = (if BT v_4 (x5_7).toInt.toNat = true then 1 else 0) := (by rw [← ev_9, ← ev_8]; exact bt_rd (by omega) (by omega)); by_cases z : BT v_4 (x5_7).toInt.toNat = true; exact z; (rw [if_neg z] at z9; exfalso; omega)); have b9 : BT v_4 (x5_7).toInt.toNat = (BT p2 (x5_7).toInt.toNat && BT (a_mayOn (p1).toInt.toNat) (x5_7).toInt.toNat) := (by rw [← ev_4, ← ev_3, bt_and2]); rw [b9, Bool.and_eq_true] at y8; exact y8) (by have y9 : v_17 = (rsC a_wide a_deep a_lids) (x5_7).toInt.toNat (p1).toInt.toNat + TX h_leastRim (h_wares).toInt p2 (x5_7).toInt.toNat := (by rw [← ev_17, hw_13_0, ← ev_16]; show _ + h_leastRim _ = _ + h_leastRim _; rw [tix (a := (p2).toInt) (w := (h_wares).toInt) (u := (x5_7).toInt) (k := (v_15).toInt) (by omega) (by omega) (by omega) (by omega)]); show (v_18).toInt = min (x5_6).toInt ((rsC a_wide a_deep a_lids) (x5_7).toInt.toNat (p1).toInt.toNat + TX h_leastRim (h_wares).toInt p2 (x5_7).toInt.toNat).toInt; rw [← y9, ← ev_18]; exact mmin_I _ _)) (by omega))
    have el_0 : (0 : Int32).toInt = 0 := rfl
    have el_1000000 : (1000000 : Int32).toInt = 1000000 := rfl
    exact j_lv [0, 1, 2, 3, 4, 5, 6, 7] rfl (loop_5 4096 0 1000000 (by decide) (by omega) (MNL.start (by decide) rfl) (by omega))
  · skip
    have el_0 : (0 : Int32).toInt = 0 := rfl
    rw [i_eq] at c_2
    refine j_iload (pc := 12) C dX0_rimOver_12 0 rfl ?_
    exact j_iret (pc := 14) C hr hk (fun i => [].getD i 0, fun i => [v_1].getD i 0, fun i => [].getD i (fun _ => 0), fun i => [].getD i (fun _ => 0)) rfl (show (RIM (fun u l => BT (a_mayOn l) u) a_deep (rsC a_wide a_deep a_lids) (h_wares).toInt h_leastRim p2 (p1).toInt.toNat v_1.toInt) from ((Or.inl ⟨(i_eq _ _).mpr (by omega), (by rw [ev_1])⟩))) [0, 1, 2, 3, 4, 5] (by decide) rfl (by decide) (by decide) dX0_rimOver_14
set_option maxHeartbeats 4000000 in
set_option maxRecDepth 100000 in
theorem c_X0_settleSet (l : Launch) (D : DG) (cyC cyI cyJ cyZ cyO : ClassId) (h0 : Nat) (h1 : Nat) (h2 : Nat) (a0 : Nat) (a1 : Nat) (a2 : Nat) (a3 : Nat) (a4 : Nat) (a7 : Nat) (h3 : Nat) (a5 : Nat) (a6 : Nat) (a8 : Nat) (a9 : Nat) (a10 : Nat) (h_r : Nat) (h_n : Nat) (p1 : Int32) (h_known : Int32) (h_wares : Int32) (a_wares : Int32) (a_shelves : Int32) (a_nests : Int32) (a_lids : Int32) (a_tops : Int32) (h_leastRim : Nat → Int32) (h_least : Nat → Int32) (a_wide : Nat → Int32) (a_deep : Nat → Int32) (a_weight : Nat → Int32) (a_bears : Nat → Int32) (a_mayOn : Nat → Int32) (h_h_known : 0 ≤ (h_known).toInt ∧ (h_known).toInt ≤ 1) (h_h_wares : 0 ≤ (h_wares).toInt ∧ (h_wares).toInt ≤ 12) (h_a_wares : 0 ≤ (a_wares).toInt ∧ (a_wares).toInt ≤ 12) (h_a_shelves : 0 ≤ (a_shelves).toInt ∧ (a_shelves).toInt ≤ 4) (h_a_nests : 0 ≤ (a_nests).toInt ∧ (a_nests).toInt ≤ 4) (h_p1 : 1 ≤ (p1).toInt ∧ (p1).toInt ≤ 4095) (hln : (2 : Int) ^ (h_wares).toInt.toNat ≤ (h_n : Int)) (hlr : (2 : Int) ^ (h_wares).toInt.toNat * (h_wares).toInt ≤ (h_r : Int)) (hbn : h_n ≤ 4096) (hbr : h_r ≤ 49152) (hset : (p1).toInt < (2 : Int) ^ (h_wares).toInt.toNat) : KK l D (TY cyC cyI cyJ cyZ cyO) yX0_settleSet cX0_settleSet 8 none ({ frames := 2, cells := 0, slots := 0, locals := 50 } : Room) 0 0 [.ref h0, .ref a0, .int p1] [(h0, .inr (0, [.int h_known, .int h_wares, .ref h1, .ref h2, .ref h3])), (h1, .inl (cyI, h_r, .inl h_leastRim)), (h2, .inl (cyI, h_n, .inl h_least)), (a0, .inr (9, [.int a_wares, .int a_shelves, .int a_nests, .ref a1, .ref a2, .ref a3, .ref a4, .ref a5, .ref a6, .int a_lids, .int a_tops, .ref a7, .ref a8, .ref a9, .ref a10])), (a1, .inl (cyI, 12, .inl a_wide)), (a2, .inl (cyI, 12, .inl a_deep)), (a3, .inl (cyI, 12, .inl a_weight)), (a4, .inl (cyI, 12, .inl a_bears)), (a7, .inl (cyI, 12, .inl a_mayOn))] (fun u => none) (fun u => (SETC (fun u l => BT (a_mayOn l) u) a_weight a_bears a_deep (rsC a_wide a_deep a_lids) (a_wares).toInt.toNat (h_wares).toInt (u.2.2.1 0) (u.2.2.1 1) p1) ∧ (∀ j : Nat, (j < (p1).toInt.toNat * (h_wares).toInt.toNat ∨ ((p1).toInt.toNat + 1) * (h_wares).toInt.toNat ≤ j) → (u.2.2.1 0) j = h_leastRim j) ∧ (∀ j : Nat, ¬ j = (p1).toInt.toNat → (u.2.2.1 1) j = h_least j)) (fun u => [(h0, .inr (0, [.int h_known, .int h_wares, .ref h1, .ref h2, .ref h3])), (h1, .inl (cyI, h_r, .inl (u.2.2.1 0))), (h2, .inl (cyI, h_n, .inl (u.2.2.1 1))), (a0, .inr (9, [.int a_wares, .int a_shelves, .int a_nests, .ref a1, .ref a2, .ref a3, .ref a4, .ref a5, .ref a6, .int a_lids, .int a_tops, .ref a7, .ref a8, .ref a9, .ref a10])), (a1, .inl (cyI, 12, .inl a_wide)), (a2, .inl (cyI, 12, .inl a_deep)), (a3, .inl (cyI, 12, .inl a_weight)), (a4, .inl (cyI, 12, .inl a_bears)), (a7, .inl (cyI, 12, .inl a_mayOn))]) := by
  refine KK.of (lv0 := [(0, .ref h0), (1, .ref a0), (2, .int p1)]) (by decide) rfl (Nat.le_of_ble_eq_true rfl) ?_
  intro p e s m args below meth c A C hr hk hin
  have hpw1 := pw1 (h_wares).toInt.toNat
  refine j_aload_n (pc := 0) C dX0_settleSet_0 rfl 1 rfl ?_
  refine j_iload_n (pc := 1) C dX0_settleSet_1 rfl 2 rfl ?_
  refine j_callV (pc := 2) (As := [.int p1]) (rest := []) (wr := [(h0, .inr (0, [.int h_known, .int h_wares, .ref h1, .ref h2, .ref h3])), (h1, .inl (cyI, h_r, .inl h_leastRim)), (h2, .inl (cyI, h_n, .inl h_least)), (a1, .inl (cyI, 12, .inl a_wide)), (a2, .inl (cyI, 12, .inl a_deep)), (a4, .inl (cyI, 12, .inl a_bears)), (a7, .inl (cyI, 12, .inl a_mayOn))]) C (c_X9_weightOf l D cyC cyI cyJ cyZ cyO a0 a3 a1 a2 a4 a5 a6 a7 a8 a9 a10 p1 a_wares a_shelves a_nests a_lids a_tops a_weight h_a_wares h_a_shelves h_a_nests) wd_124 wd_33 wd_125 wd_126 wd_127 ⟨by decide, by decide, rfl⟩ rfl ⟨rfl, rfl, by decide, by decide⟩ ⟨by decide, by decide⟩ [3, 6] [0, 1, 2, 4, 5, 7, 8] rfl rfl ⟨by decide, by decide, by decide⟩ 3 rfl rfl rfl (Nat.le_of_ble_eq_true rfl) dX0_settleSet_2 (fun u_1 hw_2 => ?_)
  refine j_eq (ws2 := [(h0, .inr (0, [.int h_known, .int h_wares, .ref h1, .ref h2, .ref h3])), (h1, .inl (cyI, h_r, .inl h_leastRim)), (h2, .inl (cyI, h_n, .inl h_least)), (a1, .inl (cyI, 12, .inl a_wide)), (a2, .inl (cyI, 12, .inl a_deep)), (a4, .inl (cyI, 12, .inl a_bears)), (a7, .inl (cyI, 12, .inl a_mayOn)), (a0, .inr (9, [.int a_wares, .int a_shelves, .int a_nests, .ref a1, .ref a2, .ref a3, .ref a4, .ref a5, .ref a6, .int a_lids, .int a_tops, .ref a7, .ref a8, .ref a9, .ref a10])), (a3, .inl (cyI, 12, .inl a_weight))]) (pc2 := 5) (lv2 := [(0, .ref h0), (1, .ref a0), (2, .int p1)]) (st2 := [.int (u_1.2.1 0)]) rfl rfl rfl rfl ?_
  have hw_2_0 : (u_1.2.1 0) = wS a_weight p1 (a_wares).toInt.toNat := hw_2
  refine j_istore_n (pc := 5) (lv' := [(3, .int (u_1.2.1 0)), (0, .ref h0), (1, .ref a0), (2, .int p1)]) C dX0_settleSet_5 rfl (by decide) rfl ?_
  refine j_ldc (pc := 6) C wd_116 dX0_settleSet_6 ?_
  refine j_istore (pc := 8) (lv' := [(4, .int 1000000), (3, .int (u_1.2.1 0)), (0, .ref h0), (1, .ref a0), (2, .int p1)]) C dX0_settleSet_8 (by decide) rfl ?_
  refine j_iconst (pc := 10) (v := 0) C dX0_settleSet_10 (by decide) ?_
  refine j_istore (pc := 11) (lv' := [(5, .int 0), (4, .int 1000000), (3, .int (u_1.2.1 0)), (0, .ref h0), (1, .ref a0), (2, .int p1)]) C dX0_settleSet_11 (by decide) rfl ?_
  have loop_3 : ∀ (k_3 : Nat) (x3_5 : Int32) (x3_4 : Int32) (g3_h1 : Nat → Int32), (0 ≤ (x3_5).toInt ∧ (x3_5).toInt ≤ 12) → (x3_5.toInt ≤ (h_wares).toInt) → (STG (fun u l => BT (a_mayOn l) u) a_weight a_bears a_deep (rsC a_wide a_deep a_lids) (a_wares).toInt.toNat (h_wares).toInt h_leastRim g3_h1 p1 x3_5.toInt x3_4.toInt) → (12 - x3_5.toInt).toNat < k_3 → J p l e ({ frames := 2, cells := 0, slots := 0, locals := 50 } : Room) s m args below meth c D A 8 0 0 (QX below D (TY cyC cyI cyJ cyZ cyO) A (fun u => none) (fun u => (SETC (fun u l => BT (a_mayOn l) u) a_weight a_bears a_deep (rsC a_wide a_deep a_lids) (a_wares).toInt.toNat (h_wares).toInt (u.2.2.1 0) (u.2.2.1 1) p1) ∧ (∀ j : Nat, (j < (p1).toInt.toNat * (h_wares).toInt.toNat ∨ ((p1).toInt.toNat + 1) * (h_wares).toInt.toNat ≤ j) → (u.2.2.1 0) j = h_leastRim j) ∧ (∀ j : Nat, ¬ j = (p1).toInt.toNat → (u.2.2.1 1) j = h_least j)) (fun u => [(h0, .inr (0, [.int h_known, .int h_wares, .ref h1, .ref h2, .ref h3])), (h1, .inl (cyI, h_r, .inl (u.2.2.1 0))), (h2, .inl (cyI, h_n, .inl (u.2.2.1 1))), (a0, .inr (9, [.int a_wares, .int a_shelves, .int a_nests, .ref a1, .ref a2, .ref a3, .ref a4, .ref a5, .ref a6, .int a_lids, .int a_tops, .ref a7, .ref a8, .ref a9, .ref a10])), (a1, .inl (cyI, 12, .inl a_wide)), (a2, .inl (cyI, 12, .inl a_deep)), (a3, .inl (cyI, 12, .inl a_weight)), (a4, .inl (cyI, 12, .inl a_bears)), (a7, .inl (cyI, 12, .inl a_mayOn))]) args s 0 0) [(h0, .inr (0, [.int h_known, .int h_wares, .ref h1, .ref h2, .ref h3])), (h1, .inl (cyI, h_r, .inl g3_h1)), (h2, .inl (cyI, h_n, .inl h_least)), (a1, .inl (cyI, 12, .inl a_wide)), (a2, .inl (cyI, 12, .inl a_deep)), (a4, .inl (cyI, 12, .inl a_bears)), (a7, .inl (cyI, 12, .inl a_mayOn)), (a0, .inr (9, [.int a_wares, .int a_shelves, .int a_nests, .ref a1, .ref a2, .ref a3, .ref a4, .ref a5, .ref a6, .int a_lids, .int a_tops, .ref a7, .ref a8, .ref a9, .ref a10])), (a3, .inl (cyI, 12, .inl a_weight))] 13 [(5, .int x3_5), (4, .int x3_4), (3, .int (u_1.2.1 0)), (0, .ref h0), (1, .ref a0), (2, .int p1)] [] := by
    intro k_3
    induction k_3 with
    | zero =>
      intro x3_5 x3_4 g3_h1 hi_3_0 hr_3 hq_3_0 hm_3
      exact absurd hm_3 (Nat.not_lt_zero _)
    | succ k_3 ih_3 =>
      intro x3_5 x3_4 g3_h1 hi_3_0 hr_3 hq_3_0 hm_3
      refine j_iload (pc := 13) C dX0_settleSet_13 0 rfl ?_
      refine j_aload_n (pc := 15) C dX0_settleSet_15 rfl 3 rfl ?_
      refine j_get (pc := 16) (ci := 0) (v := .int h_wares) C inw_0 0 rfl rfl 1 (by decide) wd_117 rfl rfl dX0_settleSet_16 ?_
      refine j_icmp_ge (pc := 19) (tgt := 114) C dX0_settleSet_19 (by decide) (fun c_4 => ?_) (fun c_4 => ?_)
      · skip
        rw [i_le] at c_4
        refine j_aload_n (pc := 114) C dX0_settleSet_114 rfl 3 rfl ?_
        refine j_get (pc := 115) (ci := 0) (v := .ref h2) C inw_0 0 rfl rfl 3 (by decide) wd_128 rfl rfl dX0_settleSet_115 ?_
        refine j_iload_n (pc := 118) C dX0_settleSet_118 rfl 5 rfl ?_
        refine j_iload (pc := 119) C dX0_settleSet_119 1 rfl ?_
        obtain ⟨f_5, ef_5⟩ : ∃ z, z = upd h_least (p1).toInt.toNat x3_4 := ⟨_, rfl⟩
        refine j_iast (pc := 121) (k := (p1).toInt.toNat) (ws' := [(h0, .inr (0, [.int h_known, .int h_wares, .ref h1, .ref h2, .ref h3])), (h1, .inl (cyI, h_r, .inl g3_h1)), (h2, .inl (cyI, h_n, .inl f_5)), (a1, .inl (cyI, 12, .inl a_wide)), (a2, .inl (cyI, 12, .inl a_deep)), (a4, .inl (cyI, 12, .inl a_bears)), (a7, .inl (cyI, 12, .inl a_mayOn)), (a0, .inr (9, [.int a_wares, .int a_shelves, .int a_nests, .ref a1, .ref a2, .ref a3, .ref a4, .ref a5, .ref a6, .int a_lids, .int a_tops, .ref a7, .ref a8, .ref a9, .ref a10])), (a3, .inl (cyI, 12, .inl a_weight))]) C 2 1 rfl rfl (i_nn (Int.le_trans (by decide) h_p1.1)) rfl (i_lt_n (Int.le_trans (by decide) h_p1.1) (by omega)) dX0_settleSet_121 (by rw [ef_5]; rfl) ?_
        exact j_vret (pc := 122) C hr hk (fun i => [].getD i 0, fun i => [].getD i 0, fun i => [g3_h1, f_5].getD i (fun _ => 0), fun i => [].getD i (fun _ => 0)) rfl (show (SETC (fun u l => BT (a_mayOn l) u) a_weight a_bears a_deep (rsC a_wide a_deep a_lids) (a_wares).toInt.toNat (h_wares).toInt g3_h1 f_5 p1) ∧ (∀ j : Nat, (j < (p1).toInt.toNat * (h_wares).toInt.toNat ∨ ((p1).toInt.toNat + 1) * (h_wares).toInt.toNat ≤ j) → g3_h1 j = h_leastRim j) ∧ (∀ j : Nat, ¬ j = (p1).toInt.toNat → f_5 j = h_least j) from ⟨(STG.fin hq_3_0 (by omega) (by omega) (by omega) (by omega) ef_5), hq_3_0.1, (fun j hj => by rw [ef_5]; exact pk_un hj)⟩) [0, 1, 2, 7, 3, 4, 8, 5, 6] (by decide) rfl (by decide) (by decide) dX0_settleSet_122
      · skip
        rw [i_le] at c_4
        refine j_iload_n (pc := 22) C dX0_settleSet_22 rfl 5 rfl ?_
        refine j_iload (pc := 23) C dX0_settleSet_23 0 rfl ?_
        obtain ⟨v_6, ev_6⟩ : ∃ z : Int32, ((p1 : Int32).toUInt32 >>> ((x3_5 : Int32).toUInt32 &&& Int32.toUInt32 31)).toInt32 = z := ⟨_, rfl⟩
        refine j_iushr (pc := 25) (v := v_6) C dX0_settleSet_25 ev_6 ?_
        refine j_iconst (pc := 26) (v := 1) C dX0_settleSet_26 (by decide) ?_
        obtain ⟨v_7, ev_7⟩ : ∃ z : Int32, v_6 &&& 1 = z := ⟨_, rfl⟩
        have el_1 : (1 : Int32).toInt = 1 := rfl
        have hv_7 : 0 ≤ v_7.toInt ∧ v_7.toInt ≤ 1 := by rw [← ev_7]; exact and1_r _
        refine j_iand (pc := 27) (v := v_7) C dX0_settleSet_27 ev_7 ?_
        refine j_iconst (pc := 28) (v := 1) C dX0_settleSet_28 (by decide) ?_
        refine j_icmp_ne (pc := 29) (tgt := 108) C dX0_settleSet_29 (by decide) (fun c_8 => ?_) (fun c_8 => ?_)
        · skip
          have el_1 : (1 : Int32).toInt = 1 := rfl
          rw [i_eq] at c_8
          have k0c_8 : v_7.toInt = 0 := by omega
          obtain ⟨v_9, ev_9⟩ : ∃ z : Int32, x3_5 + 1 = z := ⟨_, rfl⟩
          have el_1 : (1 : Int32).toInt = 1 := rfl
          have hv_9 : v_9.toInt = x3_5.toInt + (1 : Int32).toInt := by rw [← ev_9]; exact fb_addI (by omega) (by omega)
          refine j_iinc (pc := 108) (v := v_9) (lv' := [(5, .int v_9), (4, .int x3_4), (3, .int (u_1.2.1 0)), (0, .ref h0), (1, .ref a0), (2, .int p1)]) C dX0_settleSet_108 0 rfl ev_9 (by decide) rfl ?_
          refine j_goto (pc := 111) (tgt := 13) C dX0_settleSet_111 (by decide) ?_
          exact j_lv [0, 1, 2, 3, 4, 5] rfl (ih_3 v_9 x3_4 g3_h1 (by omega) (by omega) (STG.no hq_3_0 (by omega) (by omega) (by have z9 : (v_7).toInt = (if BT p1 (x3_5).toInt.toNat = true then 1 else 0) := (by rw [← ev_7, ← ev_6]; exact bt_rd (by omega) (by omega)); intro z; rw [if_pos z] at z9; omega)) (by omega))
        · skip
          have el_1 : (1 : Int32).toInt = 1 := rfl
          rw [i_eq] at c_8
          refine j_iload_n (pc := 32) C dX0_settleSet_32 rfl 2 rfl ?_
          refine j_aload_n (pc := 33) C dX0_settleSet_33 rfl 4 rfl ?_
          refine j_get (pc := 34) (ci := 9) (v := .ref a3) C inw_9 7 rfl rfl 5 (by decide) wd_129 rfl rfl dX0_settleSet_34 ?_
          refine j_iload (pc := 37) C dX0_settleSet_37 0 rfl ?_
          obtain ⟨v_10, ev_10⟩ : ∃ z, a_weight (x3_5).toInt.toNat = z := ⟨_, rfl⟩
          have env_10 : (a_weight (x3_5).toInt.toNat).toInt = v_10.toInt := by rw [ev_10]
          refine j_iald (pc := 39) (v := v_10) (k := (x3_5).toInt.toNat) C 8 1 rfl rfl (i_nn hi_3_0.1) rfl (i_lt_n hi_3_0.1 (by omega)) ev_10 dX0_settleSet_39 ?_
          obtain ⟨v_11, ev_11⟩ : ∃ z : Int32, (u_1.2.1 0) - v_10 = z := ⟨_, rfl⟩
          refine j_isub (pc := 40) (v := v_11) C dX0_settleSet_40 ev_11 ?_
          refine j_aload_n (pc := 41) C dX0_settleSet_41 rfl 4 rfl ?_
          refine j_get (pc := 42) (ci := 9) (v := .ref a4) C inw_9 7 rfl rfl 6 (by decide) wd_130 rfl rfl dX0_settleSet_42 ?_
          refine j_iload (pc := 45) C dX0_settleSet_45 0 rfl ?_
          obtain ⟨v_12, ev_12⟩ : ∃ z, a_bears (x3_5).toInt.toNat = z := ⟨_, rfl⟩
          have env_12 : (a_bears (x3_5).toInt.toNat).toInt = v_12.toInt := by rw [ev_12]
          refine j_iald (pc := 47) (v := v_12) (k := (x3_5).toInt.toNat) C 5 1 rfl rfl (i_nn hi_3_0.1) rfl (i_lt_n hi_3_0.1 (by omega)) ev_12 dX0_settleSet_47 ?_
          refine j_icmp_gt (pc := 48) (tgt := 55) C dX0_settleSet_48 (by decide) (fun c_13 => ?_) (fun c_13 => ?_)
          · skip
            rw [i_lt] at c_13
            refine j_iconst (pc := 55) (v := 0) C dX0_settleSet_55 (by decide) ?_
            refine j_istore (pc := 56) (lv' := [(6, .int 0), (5, .int x3_5), (4, .int x3_4), (3, .int (u_1.2.1 0)), (0, .ref h0), (1, .ref a0), (2, .int p1)]) C dX0_settleSet_56 (by decide) rfl ?_
            refine j_iload (pc := 58) C dX0_settleSet_58 0 rfl ?_
            refine j_if_eq_t (pc := 60) (tgt := 79) C dX0_settleSet_60 (by decide) (by decide) ?_
            refine j_ldc (pc := 79) C wd_116 dX0_settleSet_79 ?_
            refine j_istore (pc := 81) (lv' := [(7, .int 1000000), (6, .int 0), (5, .int x3_5), (4, .int x3_4), (3, .int (u_1.2.1 0)), (0, .ref h0), (1, .ref a0), (2, .int p1)]) C dX0_settleSet_81 (by decide) rfl ?_
            refine j_aload_n (pc := 83) C dX0_settleSet_83 rfl 5 rfl ?_
            refine j_get (pc := 84) (ci := 0) (v := .ref h1) C inw_0 0 rfl rfl 2 (by decide) wd_120 rfl rfl dX0_settleSet_84 ?_
            refine j_iload_n (pc := 87) C dX0_settleSet_87 rfl 7 rfl ?_
            refine j_aload_n (pc := 88) C dX0_settleSet_88 rfl 5 rfl ?_
            refine j_get (pc := 89) (ci := 0) (v := .int h_wares) C inw_0 0 rfl rfl 1 (by decide) wd_117 rfl rfl dX0_settleSet_89 ?_
            obtain ⟨v_14, ev_14⟩ : ∃ z : Int32, p1 * h_wares = z := ⟨_, rfl⟩
            obtain ⟨hv_14, hv_14a, hv_14b⟩ := mulS (x := p1) (y := h_wares) (by omega) (by omega) (by omega) (by omega)
            rw [ev_14] at hv_14
            have hv_14c := ix_mul (x := p1.toInt) (w := h_wares.toInt) (S := 2 ^ (h_wares).toInt.toNat) (r := (h_r : Nat)) (by omega) (by omega) (by omega) (by omega)
            refine j_imul (pc := 92) (v := v_14) C dX0_settleSet_92 ev_14 ?_
            refine j_iload (pc := 93) C dX0_settleSet_93 2 rfl ?_
            obtain ⟨v_15, ev_15⟩ : ∃ z : Int32, v_14 + x3_5 = z := ⟨_, rfl⟩
            have hv_15 : v_15.toInt = v_14.toInt + x3_5.toInt := by rw [← ev_15]; exact fb_addI (by omega) (by omega)
            refine j_iadd (pc := 95) (v := v_15) C dX0_settleSet_95 ev_15 ?_
            refine j_iload (pc := 96) C dX0_settleSet_96 0 rfl ?_
            obtain ⟨f_16, ef_16⟩ : ∃ z, z = upd g3_h1 (v_15).toInt.toNat 1000000 := ⟨_, rfl⟩
            refine j_iast (pc := 98) (k := (v_15).toInt.toNat) (ws' := [(h0, .inr (0, [.int h_known, .int h_wares, .ref h1, .ref h2, .ref h3])), (h1, .inl (cyI, h_r, .inl f_16)), (h2, .inl (cyI, h_n, .inl h_least)), (a1, .inl (cyI, 12, .inl a_wide)), (a2, .inl (cyI, 12, .inl a_deep)), (a4, .inl (cyI, 12, .inl a_bears)), (a7, .inl (cyI, 12, .inl a_mayOn)), (a0, .inr (9, [.int a_wares, .int a_shelves, .int a_nests, .ref a1, .ref a2, .ref a3, .ref a4, .ref a5, .ref a6, .int a_lids, .int a_tops, .ref a7, .ref a8, .ref a9, .ref a10])), (a3, .inl (cyI, 12, .inl a_weight))]) C 1 1 rfl rfl (i_nn (by omega)) rfl (i_lt_n (by omega) (by omega)) dX0_settleSet_98 (by rw [ef_16]; rfl) ?_
            refine j_iload (pc := 99) C dX0_settleSet_99 3 rfl ?_
            refine j_iload (pc := 101) C dX0_settleSet_101 0 rfl ?_
            have el_1000000 : (1000000 : Int32).toInt = 1000000 := rfl
            obtain ⟨v_17, ev_17⟩ : ∃ z : Int32, (if (1000000 : Int32) < x3_4 then 1000000 else x3_4) = z := ⟨_, rfl⟩
            refine j_mmin (pc := 103) (v := v_17) C wd_121 wd_122 wd_6 wd_123 (by decide) (Nat.le_of_ble_eq_true rfl) (by decide) (by decide) ev_17 dX0_settleSet_103 ?_
            refine j_istore (pc := 106) (lv' := [(4, .int v_17), (7, .int 1000000), (6, .int 0), (5, .int x3_5), (3, .int (u_1.2.1 0)), (0, .ref h0), (1, .ref a0), (2, .int p1)]) C dX0_settleSet_106 (by decide) rfl ?_
            obtain ⟨v_18, ev_18⟩ : ∃ z : Int32, x3_5 + 1 = z := ⟨_, rfl⟩
            have el_1 : (1 : Int32).toInt = 1 := rfl
            have hv_18 : v_18.toInt = x3_5.toInt + (1 : Int32).toInt := by rw [← ev_18]; exact fb_addI (by omega) (by omega)
            refine j_iinc (pc := 108) (v := v_18) (lv' := [(5, .int v_18), (4, .int v_17), (7, .int 1000000), (6, .int 0), (3, .int (u_1.2.1 0)), (0, .ref h0), (1, .ref a0), (2, .int p1)]) C dX0_settleSet_108 3 rfl ev_18 (by decide) rfl ?_
            refine j_goto (pc := 111) (tgt := 13) C dX0_settleSet_111 (by decide) ?_
            exact j_lv [0, 1, 4, 5, 6, 7] rfl (ih_3 v_18 v_17 f_16 (by omega) (by omega) (by have b8 : BT p1 (x3_5).toInt.toNat = true := (by have z9 : (v_7).toInt = (if BT p1 (x3_5).toInt.toNat = true then 1 else 0) := (by rw [← ev_7, ← ev_6]; exact bt_rd (by omega) (by omega)); by_cases z : BT p1 (x3_5).toInt.toNat = true; exact z; (rw [if_neg z] at z9; exfalso; omega)); exact STG.up hq_3_0 (by omega) (by omega) (by omega) b8 (by rw [ef_16, tix (a := (p1).toInt) (w := (h_wares).toInt) (u := (x3_5).toInt) (k := (v_15).toInt) (by omega) (by omega) (by omega) (by omega)]) (by rw [← ev_17]; exact mmin_I _ _) (Or.inl ⟨(by rw [ev_12, ← hw_2_0, ev_10, ev_11]; omega), rfl⟩)) (by omega))
          · skip
            rw [i_lt] at c_13
            refine j_iconst (pc := 51) (v := 1) C dX0_settleSet_51 (by decide) ?_
            refine j_goto (pc := 52) (tgt := 56) C dX0_settleSet_52 (by decide) ?_
            refine j_istore (pc := 56) (lv' := [(6, .int 1), (5, .int x3_5), (4, .int x3_4), (3, .int (u_1.2.1 0)), (0, .ref h0), (1, .ref a0), (2, .int p1)]) C dX0_settleSet_56 (by decide) rfl ?_
            refine j_iload (pc := 58) C dX0_settleSet_58 0 rfl ?_
            refine j_if_eq_f (pc := 60) (tgt := 79) C dX0_settleSet_60 (by decide) (by decide) ?_
            refine j_aload_n (pc := 63) C dX0_settleSet_63 rfl 4 rfl ?_
            refine j_aload_n (pc := 64) C dX0_settleSet_64 rfl 5 rfl ?_
            refine j_iload (pc := 65) C dX0_settleSet_65 1 rfl ?_
            refine j_iload_n (pc := 67) C dX0_settleSet_67 rfl 6 rfl ?_
            refine j_iconst (pc := 68) (v := 1) C dX0_settleSet_68 (by decide) ?_
            refine j_iload (pc := 69) C dX0_settleSet_69 1 rfl ?_
            obtain ⟨v_19, ev_19⟩ : ∃ z : Int32, 1 <<< (x3_5 &&& 31) = z := ⟨_, rfl⟩
            have el_1 : (1 : Int32).toInt = 1 := rfl
            have hv_19 : 1 ≤ v_19.toInt ∧ v_19.toInt ≤ 2048 := by rw [← ev_19]; exact shl1_iv 0 11 (by omega) (by omega) (by omega)
            have hv_19p : v_19.toInt < 2 ^ (h_wares).toInt.toNat := by rw [← ev_19]; exact shl1_lt (by omega) (by omega) (by omega)
            refine j_ishl (pc := 71) (v := v_19) C dX0_settleSet_71 ev_19 ?_
            obtain ⟨v_20, ev_20⟩ : ∃ z : Int32, p1 ^^^ v_19 = z := ⟨_, rfl⟩
            have hv_20 : 0 ≤ v_20.toInt ∧ v_20.toInt ≤ 4095 := by rw [← ev_20]; exact xorb 12 (by decide) (by omega) (by omega) (by omega) (by omega)
            have hv_20p : 0 ≤ v_20.toInt ∧ v_20.toInt < 2 ^ (h_wares).toInt.toNat := by rw [← ev_20]; exact xorP (by omega) (by omega) (by omega) (by omega) (by omega)
            refine j_ixor (pc := 72) (v := v_20) C dX0_settleSet_72 ev_20 ?_
            refine j_callV (pc := 73) (As := [.ref a0, .int x3_5, .int v_20]) (rest := []) (wr := [(h2, .inl (cyI, h_n, .inl h_least)), (a4, .inl (cyI, 12, .inl a_bears)), (a3, .inl (cyI, 12, .inl a_weight))]) C (c_X0_rimOver l D cyC cyI cyJ cyZ cyO h0 h1 a0 a1 a2 a7 h2 h3 a3 a4 a5 a6 a8 a9 a10 h_r x3_5 v_20 h_known h_wares a_wares a_shelves a_nests a_lids a_tops g3_h1 a_wide a_deep a_mayOn h_h_known h_h_wares h_a_wares h_a_shelves h_a_nests (by omega) (by omega) hlr hbr (by omega)) wd_131 wd_132 wd_133 wd_134 wd_135 ⟨by decide, by decide, rfl⟩ rfl ⟨rfl, rfl, by decide, by decide⟩ ⟨by decide, by decide⟩ [0, 1, 7, 3, 4, 6] [2, 5, 8] rfl rfl ⟨by decide, by decide, by decide⟩ 0 rfl rfl rfl (Nat.le_of_ble_eq_true rfl) dX0_settleSet_73 (fun u_21 hw_22 => ?_)
            refine j_eq (ws2 := [(h2, .inl (cyI, h_n, .inl h_least)), (a4, .inl (cyI, 12, .inl a_bears)), (a3, .inl (cyI, 12, .inl a_weight)), (h0, .inr (0, [.int h_known, .int h_wares, .ref h1, .ref h2, .ref h3])), (h1, .inl (cyI, h_r, .inl g3_h1)), (a0, .inr (9, [.int a_wares, .int a_shelves, .int a_nests, .ref a1, .ref a2, .ref a3, .ref a4, .ref a5, .ref a6, .int a_lids, .int a_tops, .ref a7, .ref a8, .ref a9, .ref a10])), (a1, .inl (cyI, 12, .inl a_wide)), (a2, .inl (cyI, 12, .inl a_deep)), (a7, .inl (cyI, 12, .inl a_mayOn))]) (pc2 := 76) (lv2 := [(6, .int 1), (5, .int x3_5), (4, .int x3_4), (3, .int (u_1.2.1 0)), (0, .ref h0), (1, .ref a0), (2, .int p1)]) (st2 := [.int (u_21.2.1 0)]) rfl rfl rfl rfl ?_
            have hw_22_0 : RIM (fun u l => BT (a_mayOn l) u) a_deep (rsC a_wide a_deep a_lids) (h_wares).toInt g3_h1 v_20 (x3_5).toInt.toNat (u_21.2.1 0).toInt := hw_22
            refine j_goto (pc := 76) (tgt := 81) C dX0_settleSet_76 (by decide) ?_
            refine j_istore (pc := 81) (lv' := [(7, .int (u_21.2.1 0)), (6, .int 1), (5, .int x3_5), (4, .int x3_4), (3, .int (u_1.2.1 0)), (0, .ref h0), (1, .ref a0), (2, .int p1)]) C dX0_settleSet_81 (by decide) rfl ?_
            refine j_aload_n (pc := 83) C dX0_settleSet_83 rfl 5 rfl ?_
            refine j_get (pc := 84) (ci := 0) (v := .ref h1) C inw_0 3 rfl rfl 2 (by decide) wd_120 rfl rfl dX0_settleSet_84 ?_
            refine j_iload_n (pc := 87) C dX0_settleSet_87 rfl 7 rfl ?_
            refine j_aload_n (pc := 88) C dX0_settleSet_88 rfl 5 rfl ?_
            refine j_get (pc := 89) (ci := 0) (v := .int h_wares) C inw_0 3 rfl rfl 1 (by decide) wd_117 rfl rfl dX0_settleSet_89 ?_
            obtain ⟨v_23, ev_23⟩ : ∃ z : Int32, p1 * h_wares = z := ⟨_, rfl⟩
            obtain ⟨hv_23, hv_23a, hv_23b⟩ := mulS (x := p1) (y := h_wares) (by omega) (by omega) (by omega) (by omega)
            rw [ev_23] at hv_23
            have hv_23c := ix_mul (x := p1.toInt) (w := h_wares.toInt) (S := 2 ^ (h_wares).toInt.toNat) (r := (h_r : Nat)) (by omega) (by omega) (by omega) (by omega)
            refine j_imul (pc := 92) (v := v_23) C dX0_settleSet_92 ev_23 ?_
            refine j_iload (pc := 93) C dX0_settleSet_93 2 rfl ?_
            obtain ⟨v_24, ev_24⟩ : ∃ z : Int32, v_23 + x3_5 = z := ⟨_, rfl⟩
            have hv_24 : v_24.toInt = v_23.toInt + x3_5.toInt := by rw [← ev_24]; exact fb_addI (by omega) (by omega)
            refine j_iadd (pc := 95) (v := v_24) C dX0_settleSet_95 ev_24 ?_
            refine j_iload (pc := 96) C dX0_settleSet_96 0 rfl ?_
            obtain ⟨f_25, ef_25⟩ : ∃ z, z = upd g3_h1 (v_24).toInt.toNat (u_21.2.1 0) := ⟨_, rfl⟩
            refine j_iast (pc := 98) (k := (v_24).toInt.toNat) (ws' := [(h2, .inl (cyI, h_n, .inl h_least)), (a4, .inl (cyI, 12, .inl a_bears)), (a3, .inl (cyI, 12, .inl a_weight)), (h0, .inr (0, [.int h_known, .int h_wares, .ref h1, .ref h2, .ref h3])), (h1, .inl (cyI, h_r, .inl f_25)), (a0, .inr (9, [.int a_wares, .int a_shelves, .int a_nests, .ref a1, .ref a2, .ref a3, .ref a4, .ref a5, .ref a6, .int a_lids, .int a_tops, .ref a7, .ref a8, .ref a9, .ref a10])), (a1, .inl (cyI, 12, .inl a_wide)), (a2, .inl (cyI, 12, .inl a_deep)), (a7, .inl (cyI, 12, .inl a_mayOn))]) C 4 1 rfl rfl (i_nn (by omega)) rfl (i_lt_n (by omega) (by omega)) dX0_settleSet_98 (by rw [ef_25]; rfl) ?_
            refine j_iload (pc := 99) C dX0_settleSet_99 3 rfl ?_
            refine j_iload (pc := 101) C dX0_settleSet_101 0 rfl ?_
            obtain ⟨v_26, ev_26⟩ : ∃ z : Int32, (if ((u_21.2.1 0) : Int32) < x3_4 then (u_21.2.1 0) else x3_4) = z := ⟨_, rfl⟩
            refine j_mmin (pc := 103) (v := v_26) C wd_121 wd_122 wd_6 wd_123 (by decide) (Nat.le_of_ble_eq_true rfl) (by decide) (by decide) ev_26 dX0_settleSet_103 ?_
            refine j_istore (pc := 106) (lv' := [(4, .int v_26), (7, .int (u_21.2.1 0)), (6, .int 1), (5, .int x3_5), (3, .int (u_1.2.1 0)), (0, .ref h0), (1, .ref a0), (2, .int p1)]) C dX0_settleSet_106 (by decide) rfl ?_
            obtain ⟨v_27, ev_27⟩ : ∃ z : Int32, x3_5 + 1 = z := ⟨_, rfl⟩
            have el_1 : (1 : Int32).toInt = 1 := rfl
            have hv_27 : v_27.toInt = x3_5.toInt + (1 : Int32).toInt := by rw [← ev_27]; exact fb_addI (by omega) (by omega)
            refine j_iinc (pc := 108) (v := v_27) (lv' := [(5, .int v_27), (4, .int v_26), (7, .int (u_21.2.1 0)), (6, .int 1), (3, .int (u_1.2.1 0)), (0, .ref h0), (1, .ref a0), (2, .int p1)]) C dX0_settleSet_108 3 rfl ev_27 (by decide) rfl ?_
            refine j_goto (pc := 111) (tgt := 13) C dX0_settleSet_111 (by decide) ?_
            refine j_subG (ws' := [(h0, .inr (0, [.int h_known, .int h_wares, .ref h1, .ref h2, .ref h3])), (h1, .inl (cyI, h_r, .inl f_25)), (h2, .inl (cyI, h_n, .inl h_least)), (a1, .inl (cyI, 12, .inl a_wide)), (a2, .inl (cyI, 12, .inl a_deep)), (a4, .inl (cyI, 12, .inl a_bears)), (a7, .inl (cyI, 12, .inl a_mayOn)), (a0, .inr (9, [.int a_wares, .int a_shelves, .int a_nests, .ref a1, .ref a2, .ref a3, .ref a4, .ref a5, .ref a6, .int a_lids, .int a_tops, .ref a7, .ref a8, .ref a9, .ref a10])), (a3, .inl (cyI, 12, .inl a_weight))]) [3, 4, 0, 6, 7, 1, 8, 5, 2] (by decide) rfl ?_
            exact j_lv [0, 1, 4, 5, 6, 7] rfl (ih_3 v_27 v_26 f_25 (by omega) (by omega) (by have b8 : BT p1 (x3_5).toInt.toNat = true := (by have z9 : (v_7).toInt = (if BT p1 (x3_5).toInt.toNat = true then 1 else 0) := (by rw [← ev_7, ← ev_6]; exact bt_rd (by omega) (by omega)); by_cases z : BT p1 (x3_5).toInt.toNat = true; exact z; (rw [if_neg z] at z9; exfalso; omega)); exact STG.up hq_3_0 (by omega) (by omega) (by omega) b8 (by rw [ef_25, tix (a := (p1).toInt) (w := (h_wares).toInt) (u := (x3_5).toInt) (k := (v_24).toInt) (by omega) (by omega) (by omega) (by omega)]) (by rw [← ev_26]; exact mmin_I _ _) (Or.inr ⟨(by rw [ev_12, ← hw_2_0, ev_10, ev_11]; omega), (by have co : cx p1 (x3_5).toInt.toNat = v_20 := (by unfold cx; rw [nI_bk2 (by omega), ev_19, ev_20]); have l9 := cx_lt (x := p1) (b := (x3_5).toInt.toNat) (by omega) (by omega) b8; rw [co] at l9 ⊢; exact RIM.fr hw_22_0 (fun u9 hu9 => hq_3_0.1 _ (Or.inl (tix_lt (by omega) (by omega)))))⟩)) (by omega))
  have el_0 : (0 : Int32).toInt = 0 := rfl
  have el_1000000 : (1000000 : Int32).toInt = 1000000 := rfl
  exact j_lv [0, 1, 2, 3, 4, 5] rfl (loop_3 4096 0 1000000 h_leastRim (by decide) (by omega) (STG.start (by decide) rfl) (by omega))
set_option maxHeartbeats 4000000 in
set_option maxRecDepth 100000 in
theorem c_X0_firstOn (l : Launch) (D : DG) (cyC cyI cyJ cyZ cyO : ClassId) (h0 : Nat) (h1 : Nat) (a0 : Nat) (a1 : Nat) (a2 : Nat) (a7 : Nat) (h2 : Nat) (h3 : Nat) (a3 : Nat) (a4 : Nat) (a5 : Nat) (a6 : Nat) (a8 : Nat) (a9 : Nat) (a10 : Nat) (h_r : Nat) (p1 : Int32) (p2 : Int32) (p3 : Int32) (h_known : Int32) (h_wares : Int32) (a_wares : Int32) (a_shelves : Int32) (a_nests : Int32) (a_lids : Int32) (a_tops : Int32) (h_leastRim : Nat → Int32) (a_wide : Nat → Int32) (a_deep : Nat → Int32) (a_mayOn : Nat → Int32) (h_h_known : 0 ≤ (h_known).toInt ∧ (h_known).toInt ≤ 1) (h_h_wares : 0 ≤ (h_wares).toInt ∧ (h_wares).toInt ≤ 12) (h_a_wares : 0 ≤ (a_wares).toInt ∧ (a_wares).toInt ≤ 12) (h_a_shelves : 0 ≤ (a_shelves).toInt ∧ (a_shelves).toInt ≤ 4) (h_a_nests : 0 ≤ (a_nests).toInt ∧ (a_nests).toInt ≤ 4) (h_p1 : 0 ≤ (p1).toInt ∧ (p1).toInt ≤ 4095) (h_p2 : -1 ≤ (p2).toInt ∧ (p2).toInt ≤ 11) (hlr : (2 : Int) ^ (h_wares).toInt.toNat * (h_wares).toInt ≤ (h_r : Int)) (hbr : h_r ≤ 49152) (hset : (p1).toInt < (2 : Int) ^ (h_wares).toInt.toNat) : KK l D (TY cyC cyI cyJ cyZ cyO) yX0_firstOn cX0_firstOn 9 (some .int) ({ frames := 1, cells := 0, slots := 0, locals := 23 } : Room) 0 0 [.ref h0, .ref a0, .int p1, .int p2, .int p3] [(h0, .inr (0, [.int h_known, .int h_wares, .ref h1, .ref h2, .ref h3])), (h1, .inl (cyI, h_r, .inl h_leastRim)), (a0, .inr (9, [.int a_wares, .int a_shelves, .int a_nests, .ref a1, .ref a2, .ref a3, .ref a4, .ref a5, .ref a6, .int a_lids, .int a_tops, .ref a7, .ref a8, .ref a9, .ref a10])), (a1, .inl (cyI, 12, .inl a_wide)), (a2, .inl (cyI, 12, .inl a_deep)), (a7, .inl (cyI, 12, .inl a_mayOn))] (fun u => some (.int (u.2.1 0))) (fun u => (-1 ≤ (u.2.1 0).toInt ∧ (u.2.1 0).toInt ≤ 11) ∧ ((u.2.1 0).toInt = -1 ∨ (u.2.1 0).toInt < (h_wares).toInt) ∧ (FST (FOL (fun u l => BT (a_mayOn l) u) (rsC a_wide a_deep a_lids) (h_wares).toInt h_leastRim p1 p2 p3) (h_wares).toInt (u.2.1 0).toInt)) (fun u => [(h0, .inr (0, [.int h_known, .int h_wares, .ref h1, .ref h2, .ref h3])), (h1, .inl (cyI, h_r, .inl h_leastRim)), (a0, .inr (9, [.int a_wares, .int a_shelves, .int a_nests, .ref a1, .ref a2, .ref a3, .ref a4, .ref a5, .ref a6, .int a_lids, .int a_tops, .ref a7, .ref a8, .ref a9, .ref a10])), (a1, .inl (cyI, 12, .inl a_wide)), (a2, .inl (cyI, 12, .inl a_deep)), (a7, .inl (cyI, 12, .inl a_mayOn))]) := by
  refine KK.of (lv0 := [(0, .ref h0), (1, .ref a0), (2, .int p1), (3, .int p2), (4, .int p3)]) (by decide) rfl (Nat.le_of_ble_eq_true rfl) ?_
  intro p e s m args below meth c A C hr hk hin
  have hpw1 := pw1 (h_wares).toInt.toNat
  refine j_iload_n (pc := 0) C dX0_firstOn_0 rfl 3 rfl ?_
  refine j_iconst (pc := 1) (v := (-1)) C dX0_firstOn_1 (by decide) ?_
  refine j_icmp_ne (pc := 2) (tgt := 9) C dX0_firstOn_2 (by decide) (fun c_1 => ?_) (fun c_1 => ?_)
  · skip
    have el_m1 : ((-1) : Int32).toInt = (-1) := rfl
    rw [i_eq] at c_1
    refine j_iload_n (pc := 9) C dX0_firstOn_9 rfl 2 rfl ?_
    refine j_aload_n (pc := 10) C dX0_firstOn_10 rfl 1 rfl ?_
    refine j_get (pc := 11) (ci := 9) (v := .ref a7) C inw_9 2 rfl rfl 11 (by decide) wd_115 rfl rfl dX0_firstOn_11 ?_
    refine j_iload_n (pc := 14) C dX0_firstOn_14 rfl 3 rfl ?_
    obtain ⟨v_2, ev_2⟩ : ∃ z, a_mayOn (p2).toInt.toNat = z := ⟨_, rfl⟩
    have env_2 : (a_mayOn (p2).toInt.toNat).toInt = v_2.toInt := by rw [ev_2]
    refine j_iald (pc := 15) (v := v_2) (k := (p2).toInt.toNat) C 5 1 rfl rfl (i_nn (by omega)) rfl (i_lt_n (by omega) (Int.lt_of_le_of_lt h_p2.2 (by decide))) ev_2 dX0_firstOn_15 ?_
    obtain ⟨v_3, ev_3⟩ : ∃ z : Int32, p1 &&& v_2 = z := ⟨_, rfl⟩
    have hv_3 : 0 ≤ v_3.toInt ∧ v_3.toInt ≤ p1.toInt := by rw [← ev_3]; exact andb_l (by omega)
    refine j_iand (pc := 16) (v := v_3) C dX0_firstOn_16 ev_3 ?_
    refine j_istore (pc := 17) (lv' := [(5, .int v_3), (0, .ref h0), (1, .ref a0), (2, .int p1), (3, .int p2), (4, .int p3)]) C dX0_firstOn_17 (by decide) rfl ?_
    refine j_iconst (pc := 19) (v := 0) C dX0_firstOn_19 (by decide) ?_
    refine j_istore (pc := 20) (lv' := [(6, .int 0), (5, .int v_3), (0, .ref h0), (1, .ref a0), (2, .int p1), (3, .int p2), (4, .int p3)]) C dX0_firstOn_20 (by decide) rfl ?_
    have loop_4 : ∀ (k_4 : Nat) (x4_6 : Int32), (0 ≤ (x4_6).toInt ∧ (x4_6).toInt ≤ 12) → (x4_6.toInt ≤ (h_wares).toInt) → (∀ u : Nat, (u : Int) < x4_6.toInt → ¬ (FOL (fun u l => BT (a_mayOn l) u) (rsC a_wide a_deep a_lids) (h_wares).toInt h_leastRim p1 p2 p3) u) → (12 - x4_6.toInt).toNat < k_4 → J p l e ({ frames := 1, cells := 0, slots := 0, locals := 23 } : Room) s m args below meth c D A 9 0 0 (QX below D (TY cyC cyI cyJ cyZ cyO) A (fun u => some (.int (u.2.1 0))) (fun u => (-1 ≤ (u.2.1 0).toInt ∧ (u.2.1 0).toInt ≤ 11) ∧ ((u.2.1 0).toInt = -1 ∨ (u.2.1 0).toInt < (h_wares).toInt) ∧ (FST (FOL (fun u l => BT (a_mayOn l) u) (rsC a_wide a_deep a_lids) (h_wares).toInt h_leastRim p1 p2 p3) (h_wares).toInt (u.2.1 0).toInt)) (fun u => [(h0, .inr (0, [.int h_known, .int h_wares, .ref h1, .ref h2, .ref h3])), (h1, .inl (cyI, h_r, .inl h_leastRim)), (a0, .inr (9, [.int a_wares, .int a_shelves, .int a_nests, .ref a1, .ref a2, .ref a3, .ref a4, .ref a5, .ref a6, .int a_lids, .int a_tops, .ref a7, .ref a8, .ref a9, .ref a10])), (a1, .inl (cyI, 12, .inl a_wide)), (a2, .inl (cyI, 12, .inl a_deep)), (a7, .inl (cyI, 12, .inl a_mayOn))]) args s 0 0) [(h0, .inr (0, [.int h_known, .int h_wares, .ref h1, .ref h2, .ref h3])), (h1, .inl (cyI, h_r, .inl h_leastRim)), (a0, .inr (9, [.int a_wares, .int a_shelves, .int a_nests, .ref a1, .ref a2, .ref a3, .ref a4, .ref a5, .ref a6, .int a_lids, .int a_tops, .ref a7, .ref a8, .ref a9, .ref a10])), (a1, .inl (cyI, 12, .inl a_wide)), (a2, .inl (cyI, 12, .inl a_deep)), (a7, .inl (cyI, 12, .inl a_mayOn))] 22 [(6, .int x4_6), (5, .int v_3), (0, .ref h0), (1, .ref a0), (2, .int p1), (3, .int p2), (4, .int p3)] [] := by
      intro k_4
      induction k_4 with
      | zero =>
        intro x4_6 hi_4_0 hr_4 hq_4_0 hm_4
        exact absurd hm_4 (Nat.not_lt_zero _)
      | succ k_4 ih_4 =>
        intro x4_6 hi_4_0 hr_4 hq_4_0 hm_4
        refine j_iload (pc := 22) C dX0_firstOn_22 0 rfl ?_
        refine j_aload_n (pc := 24) C dX0_firstOn_24 rfl 2 rfl ?_
        refine j_get (pc := 25) (ci := 0) (v := .int h_wares) C inw_0 0 rfl rfl 1 (by decide) wd_117 rfl rfl dX0_firstOn_25 ?_
        refine j_icmp_ge (pc := 28) (tgt := 102) C dX0_firstOn_28 (by decide) (fun c_5 => ?_) (fun c_5 => ?_)
        · skip
          rw [i_le] at c_5
          refine j_iconst (pc := 102) (v := (-1)) C dX0_firstOn_102 (by decide) ?_
          have el_m1 : ((-1) : Int32).toInt = (-1) := rfl
          have el_m1 : ((-1) : Int32).toInt = (-1) := rfl
          have el_m1 : ((-1) : Int32).toInt = (-1) := rfl
          exact j_iret (pc := 103) C hr hk (fun i => [].getD i 0, fun i => [(-1)].getD i 0, fun i => [].getD i (fun _ => 0), fun i => [].getD i (fun _ => 0)) rfl (show (-1 ≤ (((-1) : Int32)).toInt ∧ (((-1) : Int32)).toInt ≤ 11) ∧ (((-1) : Int32).toInt = -1 ∨ ((-1) : Int32).toInt < (h_wares).toInt) ∧ (FST (FOL (fun u l => BT (a_mayOn l) u) (rsC a_wide a_deep a_lids) (h_wares).toInt h_leastRim p1 p2 p3) (h_wares).toInt ((-1) : Int32).toInt) from ⟨by omega, by omega, (Or.inl ⟨rfl, fun u hu => hq_4_0 u (by omega)⟩)⟩) [0, 1, 2, 3, 4, 5] (by decide) rfl (by decide) (by decide) dX0_firstOn_103
        · skip
          rw [i_le] at c_5
          refine j_iload (pc := 31) C dX0_firstOn_31 1 rfl ?_
          refine j_iload (pc := 33) C dX0_firstOn_33 0 rfl ?_
          obtain ⟨v_6, ev_6⟩ : ∃ z : Int32, ((v_3 : Int32).toUInt32 >>> ((x4_6 : Int32).toUInt32 &&& Int32.toUInt32 31)).toInt32 = z := ⟨_, rfl⟩
          refine j_iushr (pc := 35) (v := v_6) C dX0_firstOn_35 ev_6 ?_
          refine j_iconst (pc := 36) (v := 1) C dX0_firstOn_36 (by decide) ?_
          obtain ⟨v_7, ev_7⟩ : ∃ z : Int32, v_6 &&& 1 = z := ⟨_, rfl⟩
          have el_1 : (1 : Int32).toInt = 1 := rfl
          have hv_7 : 0 ≤ v_7.toInt ∧ v_7.toInt ≤ 1 := by rw [← ev_7]; exact and1_r _
          refine j_iand (pc := 37) (v := v_7) C dX0_firstOn_37 ev_7 ?_
          refine j_iconst (pc := 38) (v := 1) C dX0_firstOn_38 (by decide) ?_
          refine j_icmp_ne (pc := 39) (tgt := 96) C dX0_firstOn_39 (by decide) (fun c_8 => ?_) (fun c_8 => ?_)
          · skip
            have el_1 : (1 : Int32).toInt = 1 := rfl
            rw [i_eq] at c_8
            have k0c_8 : v_7.toInt = 0 := by omega
            obtain ⟨v_9, ev_9⟩ : ∃ z : Int32, x4_6 + 1 = z := ⟨_, rfl⟩
            have el_1 : (1 : Int32).toInt = 1 := rfl
            have hv_9 : v_9.toInt = x4_6.toInt + (1 : Int32).toInt := by rw [← ev_9]; exact fb_addI (by omega) (by omega)
            refine j_iinc (pc := 96) (v := v_9) (lv' := [(6, .int v_9), (5, .int v_3), (0, .ref h0), (1, .ref a0), (2, .int p1), (3, .int p2), (4, .int p3)]) C dX0_firstOn_96 0 rfl ev_9 (by decide) rfl ?_
            refine j_goto (pc := 99) (tgt := 22) C dX0_firstOn_99 (by decide) ?_
            exact j_lv [0, 1, 2, 3, 4, 5, 6] rfl (ih_4 v_9 (by omega) (by omega) (fun u hu => by by_cases q : (u : Int) < (x4_6).toInt; (exact hq_4_0 u q); (rw [show u = (x4_6).toInt.toNat from (by omega)]; exact (fun z => by have z6 : BT p1 (x4_6).toInt.toNat = true := z.1; have z7 : BT (a_mayOn (p2).toInt.toNat) (x4_6).toInt.toNat = true := z.2.1 (by omega); have z9 : (v_7).toInt = (if BT v_3 (x4_6).toInt.toNat = true then 1 else 0) := (by rw [← ev_7, ← ev_6]; exact bt_rd (by omega) (by omega)); have b9 : BT v_3 (x4_6).toInt.toNat = (BT p1 (x4_6).toInt.toNat && BT (a_mayOn (p2).toInt.toNat) (x4_6).toInt.toNat) := (by rw [← ev_3, ← ev_2, bt_and2]); rw [if_pos (by rw [b9, z6, z7]; rfl)] at z9; omega))) (by omega))
          · skip
            have el_1 : (1 : Int32).toInt = 1 := rfl
            rw [i_eq] at c_8
            refine j_iload_n (pc := 42) C dX0_firstOn_42 rfl 5 rfl ?_
            refine j_iconst (pc := 43) (v := (-1)) C dX0_firstOn_43 (by decide) ?_
            have el_m1 : ((-1) : Int32).toInt = (-1) := rfl
            refine j_icmp_ne_t (pc := 44) (tgt := 51) C dX0_firstOn_44 (by decide) (by rw [i_eq]; omega) ?_
            refine j_aload_n (pc := 51) C dX0_firstOn_51 rfl 3 rfl ?_
            refine j_iload (pc := 52) C dX0_firstOn_52 0 rfl ?_
            refine j_iload_n (pc := 54) C dX0_firstOn_54 rfl 5 rfl ?_
            refine j_callV (pc := 55) (As := [.int x4_6, .int p2]) (rest := []) (wr := [(h0, .inr (0, [.int h_known, .int h_wares, .ref h1, .ref h2, .ref h3])), (h1, .inl (cyI, h_r, .inl h_leastRim)), (a7, .inl (cyI, 12, .inl a_mayOn))]) C (c_X9_rise l D cyC cyI cyJ cyZ cyO a0 a1 a2 a3 a4 a5 a6 a7 a8 a9 a10 x4_6 p2 a_wares a_shelves a_nests a_lids a_tops a_wide a_deep h_a_wares h_a_shelves h_a_nests (by omega) (by omega)) wd_32 wd_33 wd_119 wd_35 wd_36 ⟨by decide, by decide, rfl⟩ rfl ⟨rfl, rfl, by decide, by decide⟩ ⟨by decide, by decide⟩ [2, 3, 4] [0, 1, 5] rfl rfl ⟨by decide, by decide, by decide⟩ 2 rfl rfl rfl (Nat.le_of_ble_eq_true rfl) dX0_firstOn_55 (fun u_10 hw_11 => ?_)
            refine j_eq (ws2 := [(h0, .inr (0, [.int h_known, .int h_wares, .ref h1, .ref h2, .ref h3])), (h1, .inl (cyI, h_r, .inl h_leastRim)), (a7, .inl (cyI, 12, .inl a_mayOn)), (a0, .inr (9, [.int a_wares, .int a_shelves, .int a_nests, .ref a1, .ref a2, .ref a3, .ref a4, .ref a5, .ref a6, .int a_lids, .int a_tops, .ref a7, .ref a8, .ref a9, .ref a10])), (a1, .inl (cyI, 12, .inl a_wide)), (a2, .inl (cyI, 12, .inl a_deep))]) (pc2 := 58) (lv2 := [(6, .int x4_6), (5, .int v_3), (0, .ref h0), (1, .ref a0), (2, .int p1), (3, .int p2), (4, .int p3)]) (st2 := [.int (u_10.2.1 0)]) rfl rfl rfl rfl ?_
            have hw_11_0 : (u_10.2.1 0) = (rsC a_wide a_deep a_lids) (x4_6).toInt.toNat (p2).toInt.toNat := hw_11
            refine j_istore (pc := 58) (lv' := [(7, .int (u_10.2.1 0)), (6, .int x4_6), (5, .int v_3), (0, .ref h0), (1, .ref a0), (2, .int p1), (3, .int p2), (4, .int p3)]) C dX0_firstOn_58 (by decide) rfl ?_
            refine j_aload_n (pc := 60) C dX0_firstOn_60 rfl 3 rfl ?_
            refine j_get (pc := 61) (ci := 0) (v := .ref h1) C inw_0 0 rfl rfl 2 (by decide) wd_120 rfl rfl dX0_firstOn_61 ?_
            refine j_iload_n (pc := 64) C dX0_firstOn_64 rfl 5 rfl ?_
            refine j_aload_n (pc := 65) C dX0_firstOn_65 rfl 3 rfl ?_
            refine j_get (pc := 66) (ci := 0) (v := .int h_wares) C inw_0 0 rfl rfl 1 (by decide) wd_117 rfl rfl dX0_firstOn_66 ?_
            obtain ⟨v_12, ev_12⟩ : ∃ z : Int32, p1 * h_wares = z := ⟨_, rfl⟩
            obtain ⟨hv_12, hv_12a, hv_12b⟩ := mulS (x := p1) (y := h_wares) (by omega) (by omega) (by omega) (by omega)
            rw [ev_12] at hv_12
            have hv_12c := ix_mul (x := p1.toInt) (w := h_wares.toInt) (S := 2 ^ (h_wares).toInt.toNat) (r := (h_r : Nat)) (by omega) (by omega) (by omega) (by omega)
            refine j_imul (pc := 69) (v := v_12) C dX0_firstOn_69 ev_12 ?_
            refine j_iload (pc := 70) C dX0_firstOn_70 1 rfl ?_
            obtain ⟨v_13, ev_13⟩ : ∃ z : Int32, v_12 + x4_6 = z := ⟨_, rfl⟩
            have hv_13 : v_13.toInt = v_12.toInt + x4_6.toInt := by rw [← ev_13]; exact fb_addI (by omega) (by omega)
            refine j_iadd (pc := 72) (v := v_13) C dX0_firstOn_72 ev_13 ?_
            obtain ⟨v_14, ev_14⟩ : ∃ z, h_leastRim (v_13).toInt.toNat = z := ⟨_, rfl⟩
            have env_14 : (h_leastRim (v_13).toInt.toNat).toInt = v_14.toInt := by rw [ev_14]
            refine j_iald (pc := 73) (v := v_14) (k := (v_13).toInt.toNat) C 1 1 rfl rfl (i_nn (by omega)) rfl (i_lt_n (by omega) (by omega)) ev_14 dX0_firstOn_73 ?_
            refine j_istore (pc := 74) (lv' := [(8, .int v_14), (7, .int (u_10.2.1 0)), (6, .int x4_6), (5, .int v_3), (0, .ref h0), (1, .ref a0), (2, .int p1), (3, .int p2), (4, .int p3)]) C dX0_firstOn_74 (by decide) rfl ?_
            refine j_iload (pc := 76) C dX0_firstOn_76 0 rfl ?_
            refine j_ldc (pc := 78) C wd_116 dX0_firstOn_78 ?_
            refine j_icmp_ge (pc := 80) (tgt := 96) C dX0_firstOn_80 (by decide) (fun c_15 => ?_) (fun c_15 => ?_)
            · skip
              have el_1000000 : (1000000 : Int32).toInt = 1000000 := rfl
              rw [i_le] at c_15
              obtain ⟨v_16, ev_16⟩ : ∃ z : Int32, x4_6 + 1 = z := ⟨_, rfl⟩
              have el_1 : (1 : Int32).toInt = 1 := rfl
              have hv_16 : v_16.toInt = x4_6.toInt + (1 : Int32).toInt := by rw [← ev_16]; exact fb_addI (by omega) (by omega)
              refine j_iinc (pc := 96) (v := v_16) (lv' := [(6, .int v_16), (8, .int v_14), (7, .int (u_10.2.1 0)), (5, .int v_3), (0, .ref h0), (1, .ref a0), (2, .int p1), (3, .int p2), (4, .int p3)]) C dX0_firstOn_96 2 rfl ev_16 (by decide) rfl ?_
              refine j_goto (pc := 99) (tgt := 22) C dX0_firstOn_99 (by decide) ?_
              refine j_subG (ws' := [(h0, .inr (0, [.int h_known, .int h_wares, .ref h1, .ref h2, .ref h3])), (h1, .inl (cyI, h_r, .inl h_leastRim)), (a0, .inr (9, [.int a_wares, .int a_shelves, .int a_nests, .ref a1, .ref a2, .ref a3, .ref a4, .ref a5, .ref a6, .int a_lids, .int a_tops, .ref a7, .ref a8, .ref a9, .ref a10])), (a1, .inl (cyI, 12, .inl a_wide)), (a2, .inl (cyI, 12, .inl a_deep)), (a7, .inl (cyI, 12, .inl a_mayOn))]) [0, 1, 3, 4, 5, 2] (by decide) rfl ?_
              exact j_lv [0, 3, 4, 5, 6, 7, 8] rfl (ih_4 v_16 (by omega) (by omega) (fun u hu => by by_cases q : (u : Int) < (x4_6).toInt; (exact hq_4_0 u q); (rw [show u = (x4_6).toInt.toNat from (by omega)]; exact (fun z => by have z3 := z.2.2.1; have t9 : TX h_leastRim (h_wares).toInt p1 (x4_6).toInt.toNat = v_14 := (by show h_leastRim _ = _; rw [← tix (a := (p1).toInt) (w := (h_wares).toInt) (u := (x4_6).toInt) (k := (v_13).toInt) (by omega) (by omega) (by omega) (by omega), ev_14]); rw [t9] at z3; omega))) (by omega))
            · skip
              have el_1000000 : (1000000 : Int32).toInt = 1000000 := rfl
              rw [i_le] at c_15
              refine j_iload (pc := 83) C dX0_firstOn_83 1 rfl ?_
              refine j_iload (pc := 85) C dX0_firstOn_85 0 rfl ?_
              obtain ⟨v_17, ev_17⟩ : ∃ z : Int32, (u_10.2.1 0) + v_14 = z := ⟨_, rfl⟩
              refine j_iadd (pc := 87) (v := v_17) C dX0_firstOn_87 ev_17 ?_
              refine j_iload (pc := 88) C dX0_firstOn_88 8 rfl ?_
              refine j_icmp_gt (pc := 90) (tgt := 96) C dX0_firstOn_90 (by decide) (fun c_18 => ?_) (fun c_18 => ?_)
              · skip
                rw [i_lt] at c_18
                obtain ⟨v_19, ev_19⟩ : ∃ z : Int32, x4_6 + 1 = z := ⟨_, rfl⟩
                have el_1 : (1 : Int32).toInt = 1 := rfl
                have hv_19 : v_19.toInt = x4_6.toInt + (1 : Int32).toInt := by rw [← ev_19]; exact fb_addI (by omega) (by omega)
                refine j_iinc (pc := 96) (v := v_19) (lv' := [(6, .int v_19), (8, .int v_14), (7, .int (u_10.2.1 0)), (5, .int v_3), (0, .ref h0), (1, .ref a0), (2, .int p1), (3, .int p2), (4, .int p3)]) C dX0_firstOn_96 2 rfl ev_19 (by decide) rfl ?_
                refine j_goto (pc := 99) (tgt := 22) C dX0_firstOn_99 (by decide) ?_
                refine j_subG (ws' := [(h0, .inr (0, [.int h_known, .int h_wares, .ref h1, .ref h2, .ref h3])), (h1, .inl (cyI, h_r, .inl h_leastRim)), (a0, .inr (9, [.int a_wares, .int a_shelves, .int a_nests, .ref a1, .ref a2, .ref a3, .ref a4, .ref a5, .ref a6, .int a_lids, .int a_tops, .ref a7, .ref a8, .ref a9, .ref a10])), (a1, .inl (cyI, 12, .inl a_wide)), (a2, .inl (cyI, 12, .inl a_deep)), (a7, .inl (cyI, 12, .inl a_mayOn))]) [0, 1, 3, 4, 5, 2] (by decide) rfl ?_
                exact j_lv [0, 3, 4, 5, 6, 7, 8] rfl (ih_4 v_19 (by omega) (by omega) (fun u hu => by by_cases q : (u : Int) < (x4_6).toInt; (exact hq_4_0 u q); (rw [show u = (x4_6).toInt.toNat from (by omega)]; exact (fun z => by have z4 := z.2.2.2; have t9 : TX h_leastRim (h_wares).toInt p1 (x4_6).toInt.toNat = v_14 := (by show h_leastRim _ = _; rw [← tix (a := (p1).toInt) (w := (h_wares).toInt) (u := (x4_6).toInt) (k := (v_13).toInt) (by omega) (by omega) (by omega) (by omega), ev_14]); have r9 : rs0 (rsC a_wide a_deep a_lids) (x4_6).toInt.toNat p2 = (u_10.2.1 0) := (by unfold rs0; rw [if_neg (by omega), hw_11_0]); rw [t9, r9, ev_17] at z4; omega))) (by omega))
              · skip
                rw [i_lt] at c_18
                refine j_iload (pc := 93) C dX0_firstOn_93 2 rfl ?_
                exact j_iret (pc := 95) C hr hk (fun i => [].getD i 0, fun i => [x4_6].getD i 0, fun i => [].getD i (fun _ => 0), fun i => [].getD i (fun _ => 0)) rfl (show (-1 ≤ (x4_6).toInt ∧ (x4_6).toInt ≤ 11) ∧ (x4_6.toInt = -1 ∨ x4_6.toInt < (h_wares).toInt) ∧ (FST (FOL (fun u l => BT (a_mayOn l) u) (rsC a_wide a_deep a_lids) (h_wares).toInt h_leastRim p1 p2 p3) (h_wares).toInt x4_6.toInt) from ⟨by omega, by omega, (Or.inr ⟨by omega, by omega, (by have y8 : BT v_3 (x4_6).toInt.toNat = true := (by have z9 : (v_7).toInt = (if BT v_3 (x4_6).toInt.toNat = true then 1 else 0) := (by rw [← ev_7, ← ev_6]; exact bt_rd (by omega) (by omega)); by_cases z : BT v_3 (x4_6).toInt.toNat = true; exact z; (rw [if_neg z] at z9; exfalso; omega)); have b9 : BT v_3 (x4_6).toInt.toNat = (BT p1 (x4_6).toInt.toNat && BT (a_mayOn (p2).toInt.toNat) (x4_6).toInt.toNat) := (by rw [← ev_3, ← ev_2, bt_and2]); rw [b9, Bool.and_eq_true] at y8; have t9 : TX h_leastRim (h_wares).toInt p1 (x4_6).toInt.toNat = v_14 := (by show h_leastRim _ = _; rw [← tix (a := (p1).toInt) (w := (h_wares).toInt) (u := (x4_6).toInt) (k := (v_13).toInt) (by omega) (by omega) (by omega) (by omega), ev_14]); have r9 : rs0 (rsC a_wide a_deep a_lids) (x4_6).toInt.toNat p2 = (u_10.2.1 0) := (by unfold rs0; rw [if_neg (by omega), hw_11_0]); exact ⟨y8.1, fun _ => y8.2, (by rw [t9]; omega), (by rw [t9, r9, ev_17]; omega)⟩), hq_4_0⟩)⟩) [0, 1, 3, 4, 5, 2] (by decide) rfl (by decide) (by decide) dX0_firstOn_95
    have el_0 : (0 : Int32).toInt = 0 := rfl
    exact j_lv [0, 1, 2, 3, 4, 5, 6] rfl (loop_4 4096 0 (by decide) (by omega) (fun u hu => absurd hu (by have e9 : ((0 : Int32)).toInt = 0 := rfl; omega)) (by omega))
  · skip
    have el_m1 : ((-1) : Int32).toInt = (-1) := rfl
    rw [i_eq] at c_1
    refine j_iload_n (pc := 5) C dX0_firstOn_5 rfl 2 rfl ?_
    refine j_goto (pc := 6) (tgt := 17) C dX0_firstOn_6 (by decide) ?_
    refine j_istore (pc := 17) (lv' := [(5, .int p1), (0, .ref h0), (1, .ref a0), (2, .int p1), (3, .int p2), (4, .int p3)]) C dX0_firstOn_17 (by decide) rfl ?_
    refine j_iconst (pc := 19) (v := 0) C dX0_firstOn_19 (by decide) ?_
    refine j_istore (pc := 20) (lv' := [(6, .int 0), (5, .int p1), (0, .ref h0), (1, .ref a0), (2, .int p1), (3, .int p2), (4, .int p3)]) C dX0_firstOn_20 (by decide) rfl ?_
    have loop_20 : ∀ (k_20 : Nat) (x20_6 : Int32), (0 ≤ (x20_6).toInt ∧ (x20_6).toInt ≤ 12) → (x20_6.toInt ≤ (h_wares).toInt) → (∀ u : Nat, (u : Int) < x20_6.toInt → ¬ (FOL (fun u l => BT (a_mayOn l) u) (rsC a_wide a_deep a_lids) (h_wares).toInt h_leastRim p1 p2 p3) u) → (12 - x20_6.toInt).toNat < k_20 → J p l e ({ frames := 1, cells := 0, slots := 0, locals := 23 } : Room) s m args below meth c D A 9 0 0 (QX below D (TY cyC cyI cyJ cyZ cyO) A (fun u => some (.int (u.2.1 0))) (fun u => (-1 ≤ (u.2.1 0).toInt ∧ (u.2.1 0).toInt ≤ 11) ∧ ((u.2.1 0).toInt = -1 ∨ (u.2.1 0).toInt < (h_wares).toInt) ∧ (FST (FOL (fun u l => BT (a_mayOn l) u) (rsC a_wide a_deep a_lids) (h_wares).toInt h_leastRim p1 p2 p3) (h_wares).toInt (u.2.1 0).toInt)) (fun u => [(h0, .inr (0, [.int h_known, .int h_wares, .ref h1, .ref h2, .ref h3])), (h1, .inl (cyI, h_r, .inl h_leastRim)), (a0, .inr (9, [.int a_wares, .int a_shelves, .int a_nests, .ref a1, .ref a2, .ref a3, .ref a4, .ref a5, .ref a6, .int a_lids, .int a_tops, .ref a7, .ref a8, .ref a9, .ref a10])), (a1, .inl (cyI, 12, .inl a_wide)), (a2, .inl (cyI, 12, .inl a_deep)), (a7, .inl (cyI, 12, .inl a_mayOn))]) args s 0 0) [(h0, .inr (0, [.int h_known, .int h_wares, .ref h1, .ref h2, .ref h3])), (h1, .inl (cyI, h_r, .inl h_leastRim)), (a0, .inr (9, [.int a_wares, .int a_shelves, .int a_nests, .ref a1, .ref a2, .ref a3, .ref a4, .ref a5, .ref a6, .int a_lids, .int a_tops, .ref a7, .ref a8, .ref a9, .ref a10])), (a1, .inl (cyI, 12, .inl a_wide)), (a2, .inl (cyI, 12, .inl a_deep)), (a7, .inl (cyI, 12, .inl a_mayOn))] 22 [(6, .int x20_6), (5, .int p1), (0, .ref h0), (1, .ref a0), (2, .int p1), (3, .int p2), (4, .int p3)] [] := by
      intro k_20
      induction k_20 with
      | zero =>
        intro x20_6 hi_20_0 hr_20 hq_20_0 hm_20
        exact absurd hm_20 (Nat.not_lt_zero _)
      | succ k_20 ih_20 =>
        intro x20_6 hi_20_0 hr_20 hq_20_0 hm_20
        refine j_iload (pc := 22) C dX0_firstOn_22 0 rfl ?_
        refine j_aload_n (pc := 24) C dX0_firstOn_24 rfl 2 rfl ?_
        refine j_get (pc := 25) (ci := 0) (v := .int h_wares) C inw_0 0 rfl rfl 1 (by decide) wd_117 rfl rfl dX0_firstOn_25 ?_
        refine j_icmp_ge (pc := 28) (tgt := 102) C dX0_firstOn_28 (by decide) (fun c_21 => ?_) (fun c_21 => ?_)
        · skip
          rw [i_le] at c_21
          refine j_iconst (pc := 102) (v := (-1)) C dX0_firstOn_102 (by decide) ?_
          have el_m1 : ((-1) : Int32).toInt = (-1) := rfl
          have el_m1 : ((-1) : Int32).toInt = (-1) := rfl
          have el_m1 : ((-1) : Int32).toInt = (-1) := rfl
          exact j_iret (pc := 103) C hr hk (fun i => [].getD i 0, fun i => [(-1)].getD i 0, fun i => [].getD i (fun _ => 0), fun i => [].getD i (fun _ => 0)) rfl (show (-1 ≤ (((-1) : Int32)).toInt ∧ (((-1) : Int32)).toInt ≤ 11) ∧ (((-1) : Int32).toInt = -1 ∨ ((-1) : Int32).toInt < (h_wares).toInt) ∧ (FST (FOL (fun u l => BT (a_mayOn l) u) (rsC a_wide a_deep a_lids) (h_wares).toInt h_leastRim p1 p2 p3) (h_wares).toInt ((-1) : Int32).toInt) from ⟨by omega, by omega, (Or.inl ⟨rfl, fun u hu => hq_20_0 u (by omega)⟩)⟩) [0, 1, 2, 3, 4, 5] (by decide) rfl (by decide) (by decide) dX0_firstOn_103
        · skip
          rw [i_le] at c_21
          refine j_iload (pc := 31) C dX0_firstOn_31 1 rfl ?_
          refine j_iload (pc := 33) C dX0_firstOn_33 0 rfl ?_
          obtain ⟨v_22, ev_22⟩ : ∃ z : Int32, ((p1 : Int32).toUInt32 >>> ((x20_6 : Int32).toUInt32 &&& Int32.toUInt32 31)).toInt32 = z := ⟨_, rfl⟩
          refine j_iushr (pc := 35) (v := v_22) C dX0_firstOn_35 ev_22 ?_
          refine j_iconst (pc := 36) (v := 1) C dX0_firstOn_36 (by decide) ?_
          obtain ⟨v_23, ev_23⟩ : ∃ z : Int32, v_22 &&& 1 = z := ⟨_, rfl⟩
          have el_1 : (1 : Int32).toInt = 1 := rfl
          have hv_23 : 0 ≤ v_23.toInt ∧ v_23.toInt ≤ 1 := by rw [← ev_23]; exact and1_r _
          refine j_iand (pc := 37) (v := v_23) C dX0_firstOn_37 ev_23 ?_
          refine j_iconst (pc := 38) (v := 1) C dX0_firstOn_38 (by decide) ?_
          refine j_icmp_ne (pc := 39) (tgt := 96) C dX0_firstOn_39 (by decide) (fun c_24 => ?_) (fun c_24 => ?_)
          · skip
            have el_1 : (1 : Int32).toInt = 1 := rfl
            rw [i_eq] at c_24
            have k0c_24 : v_23.toInt = 0 := by omega
            obtain ⟨v_25, ev_25⟩ : ∃ z : Int32, x20_6 + 1 = z := ⟨_, rfl⟩
            have el_1 : (1 : Int32).toInt = 1 := rfl
            have hv_25 : v_25.toInt = x20_6.toInt + (1 : Int32).toInt := by rw [← ev_25]; exact fb_addI (by omega) (by omega)
            refine j_iinc (pc := 96) (v := v_25) (lv' := [(6, .int v_25), (5, .int p1), (0, .ref h0), (1, .ref a0), (2, .int p1), (3, .int p2), (4, .int p3)]) C dX0_firstOn_96 0 rfl ev_25 (by decide) rfl ?_
            refine j_goto (pc := 99) (tgt := 22) C dX0_firstOn_99 (by decide) ?_
            exact j_lv [0, 1, 2, 3, 4, 5, 6] rfl (ih_20 v_25 (by omega) (by omega) (fun u hu => by by_cases q : (u : Int) < (x20_6).toInt; (exact hq_20_0 u q); (rw [show u = (x20_6).toInt.toNat from (by omega)]; exact (fun z => by have z6 : BT p1 (x20_6).toInt.toNat = true := z.1; have z9 : (v_23).toInt = (if BT p1 (x20_6).toInt.toNat = true then 1 else 0) := (by rw [← ev_23, ← ev_22]; exact bt_rd (by omega) (by omega)); rw [if_pos z6] at z9; omega))) (by omega))
          · skip
            have el_1 : (1 : Int32).toInt = 1 := rfl
            rw [i_eq] at c_24
            refine j_iload_n (pc := 42) C dX0_firstOn_42 rfl 5 rfl ?_
            refine j_iconst (pc := 43) (v := (-1)) C dX0_firstOn_43 (by decide) ?_
            refine j_icmp_ne (pc := 44) (tgt := 51) C dX0_firstOn_44 (by decide) (fun c_26 => ?_) (fun c_26 => ?_)
            · skip
              have el_m1 : ((-1) : Int32).toInt = (-1) := rfl
              rw [i_eq] at c_26
              refine j_aload_n (pc := 51) C dX0_firstOn_51 rfl 3 rfl ?_
              refine j_iload (pc := 52) C dX0_firstOn_52 0 rfl ?_
              refine j_iload_n (pc := 54) C dX0_firstOn_54 rfl 5 rfl ?_
              refine j_callV (pc := 55) (As := [.int x20_6, .int p2]) (rest := []) (wr := [(h0, .inr (0, [.int h_known, .int h_wares, .ref h1, .ref h2, .ref h3])), (h1, .inl (cyI, h_r, .inl h_leastRim)), (a7, .inl (cyI, 12, .inl a_mayOn))]) C (c_X9_rise l D cyC cyI cyJ cyZ cyO a0 a1 a2 a3 a4 a5 a6 a7 a8 a9 a10 x20_6 p2 a_wares a_shelves a_nests a_lids a_tops a_wide a_deep h_a_wares h_a_shelves h_a_nests (by omega) (by omega)) wd_32 wd_33 wd_119 wd_35 wd_36 ⟨by decide, by decide, rfl⟩ rfl ⟨rfl, rfl, by decide, by decide⟩ ⟨by decide, by decide⟩ [2, 3, 4] [0, 1, 5] rfl rfl ⟨by decide, by decide, by decide⟩ 2 rfl rfl rfl (Nat.le_of_ble_eq_true rfl) dX0_firstOn_55 (fun u_27 hw_28 => ?_)
              refine j_eq (ws2 := [(h0, .inr (0, [.int h_known, .int h_wares, .ref h1, .ref h2, .ref h3])), (h1, .inl (cyI, h_r, .inl h_leastRim)), (a7, .inl (cyI, 12, .inl a_mayOn)), (a0, .inr (9, [.int a_wares, .int a_shelves, .int a_nests, .ref a1, .ref a2, .ref a3, .ref a4, .ref a5, .ref a6, .int a_lids, .int a_tops, .ref a7, .ref a8, .ref a9, .ref a10])), (a1, .inl (cyI, 12, .inl a_wide)), (a2, .inl (cyI, 12, .inl a_deep))]) (pc2 := 58) (lv2 := [(6, .int x20_6), (5, .int p1), (0, .ref h0), (1, .ref a0), (2, .int p1), (3, .int p2), (4, .int p3)]) (st2 := [.int (u_27.2.1 0)]) rfl rfl rfl rfl ?_
              have hw_28_0 : (u_27.2.1 0) = (rsC a_wide a_deep a_lids) (x20_6).toInt.toNat (p2).toInt.toNat := hw_28
              refine j_istore (pc := 58) (lv' := [(7, .int (u_27.2.1 0)), (6, .int x20_6), (5, .int p1), (0, .ref h0), (1, .ref a0), (2, .int p1), (3, .int p2), (4, .int p3)]) C dX0_firstOn_58 (by decide) rfl ?_
              refine j_aload_n (pc := 60) C dX0_firstOn_60 rfl 3 rfl ?_
              refine j_get (pc := 61) (ci := 0) (v := .ref h1) C inw_0 0 rfl rfl 2 (by decide) wd_120 rfl rfl dX0_firstOn_61 ?_
              refine j_iload_n (pc := 64) C dX0_firstOn_64 rfl 5 rfl ?_
              refine j_aload_n (pc := 65) C dX0_firstOn_65 rfl 3 rfl ?_
              refine j_get (pc := 66) (ci := 0) (v := .int h_wares) C inw_0 0 rfl rfl 1 (by decide) wd_117 rfl rfl dX0_firstOn_66 ?_
              obtain ⟨v_29, ev_29⟩ : ∃ z : Int32, p1 * h_wares = z := ⟨_, rfl⟩
              obtain ⟨hv_29, hv_29a, hv_29b⟩ := mulS (x := p1) (y := h_wares) (by omega) (by omega) (by omega) (by omega)
              rw [ev_29] at hv_29
              have hv_29c := ix_mul (x := p1.toInt) (w := h_wares.toInt) (S := 2 ^ (h_wares).toInt.toNat) (r := (h_r : Nat)) (by omega) (by omega) (by omega) (by omega)
              refine j_imul (pc := 69) (v := v_29) C dX0_firstOn_69 ev_29 ?_
              refine j_iload (pc := 70) C dX0_firstOn_70 1 rfl ?_
              obtain ⟨v_30, ev_30⟩ : ∃ z : Int32, v_29 + x20_6 = z := ⟨_, rfl⟩
              have hv_30 : v_30.toInt = v_29.toInt + x20_6.toInt := by rw [← ev_30]; exact fb_addI (by omega) (by omega)
              refine j_iadd (pc := 72) (v := v_30) C dX0_firstOn_72 ev_30 ?_
              obtain ⟨v_31, ev_31⟩ : ∃ z, h_leastRim (v_30).toInt.toNat = z := ⟨_, rfl⟩
              have env_31 : (h_leastRim (v_30).toInt.toNat).toInt = v_31.toInt := by rw [ev_31]
              refine j_iald (pc := 73) (v := v_31) (k := (v_30).toInt.toNat) C 1 1 rfl rfl (i_nn (by omega)) rfl (i_lt_n (by omega) (by omega)) ev_31 dX0_firstOn_73 ?_
              refine j_istore (pc := 74) (lv' := [(8, .int v_31), (7, .int (u_27.2.1 0)), (6, .int x20_6), (5, .int p1), (0, .ref h0), (1, .ref a0), (2, .int p1), (3, .int p2), (4, .int p3)]) C dX0_firstOn_74 (by decide) rfl ?_
              refine j_iload (pc := 76) C dX0_firstOn_76 0 rfl ?_
              refine j_ldc (pc := 78) C wd_116 dX0_firstOn_78 ?_
              refine j_icmp_ge (pc := 80) (tgt := 96) C dX0_firstOn_80 (by decide) (fun c_32 => ?_) (fun c_32 => ?_)
              · skip
                have el_1000000 : (1000000 : Int32).toInt = 1000000 := rfl
                rw [i_le] at c_32
                obtain ⟨v_33, ev_33⟩ : ∃ z : Int32, x20_6 + 1 = z := ⟨_, rfl⟩
                have el_1 : (1 : Int32).toInt = 1 := rfl
                have hv_33 : v_33.toInt = x20_6.toInt + (1 : Int32).toInt := by rw [← ev_33]; exact fb_addI (by omega) (by omega)
                refine j_iinc (pc := 96) (v := v_33) (lv' := [(6, .int v_33), (8, .int v_31), (7, .int (u_27.2.1 0)), (5, .int p1), (0, .ref h0), (1, .ref a0), (2, .int p1), (3, .int p2), (4, .int p3)]) C dX0_firstOn_96 2 rfl ev_33 (by decide) rfl ?_
                refine j_goto (pc := 99) (tgt := 22) C dX0_firstOn_99 (by decide) ?_
                refine j_subG (ws' := [(h0, .inr (0, [.int h_known, .int h_wares, .ref h1, .ref h2, .ref h3])), (h1, .inl (cyI, h_r, .inl h_leastRim)), (a0, .inr (9, [.int a_wares, .int a_shelves, .int a_nests, .ref a1, .ref a2, .ref a3, .ref a4, .ref a5, .ref a6, .int a_lids, .int a_tops, .ref a7, .ref a8, .ref a9, .ref a10])), (a1, .inl (cyI, 12, .inl a_wide)), (a2, .inl (cyI, 12, .inl a_deep)), (a7, .inl (cyI, 12, .inl a_mayOn))]) [0, 1, 3, 4, 5, 2] (by decide) rfl ?_
                exact j_lv [0, 3, 4, 5, 6, 7, 8] rfl (ih_20 v_33 (by omega) (by omega) (fun u hu => by by_cases q : (u : Int) < (x20_6).toInt; (exact hq_20_0 u q); (rw [show u = (x20_6).toInt.toNat from (by omega)]; exact (fun z => by have z3 := z.2.2.1; have t9 : TX h_leastRim (h_wares).toInt p1 (x20_6).toInt.toNat = v_31 := (by show h_leastRim _ = _; rw [← tix (a := (p1).toInt) (w := (h_wares).toInt) (u := (x20_6).toInt) (k := (v_30).toInt) (by omega) (by omega) (by omega) (by omega), ev_31]); rw [t9] at z3; omega))) (by omega))
              · skip
                have el_1000000 : (1000000 : Int32).toInt = 1000000 := rfl
                rw [i_le] at c_32
                refine j_iload (pc := 83) C dX0_firstOn_83 1 rfl ?_
                refine j_iload (pc := 85) C dX0_firstOn_85 0 rfl ?_
                obtain ⟨v_34, ev_34⟩ : ∃ z : Int32, (u_27.2.1 0) + v_31 = z := ⟨_, rfl⟩
                refine j_iadd (pc := 87) (v := v_34) C dX0_firstOn_87 ev_34 ?_
                refine j_iload (pc := 88) C dX0_firstOn_88 8 rfl ?_
                refine j_icmp_gt (pc := 90) (tgt := 96) C dX0_firstOn_90 (by decide) (fun c_35 => ?_) (fun c_35 => ?_)
                · skip
                  rw [i_lt] at c_35
                  obtain ⟨v_36, ev_36⟩ : ∃ z : Int32, x20_6 + 1 = z := ⟨_, rfl⟩
                  have el_1 : (1 : Int32).toInt = 1 := rfl
                  have hv_36 : v_36.toInt = x20_6.toInt + (1 : Int32).toInt := by rw [← ev_36]; exact fb_addI (by omega) (by omega)
                  refine j_iinc (pc := 96) (v := v_36) (lv' := [(6, .int v_36), (8, .int v_31), (7, .int (u_27.2.1 0)), (5, .int p1), (0, .ref h0), (1, .ref a0), (2, .int p1), (3, .int p2), (4, .int p3)]) C dX0_firstOn_96 2 rfl ev_36 (by decide) rfl ?_
                  refine j_goto (pc := 99) (tgt := 22) C dX0_firstOn_99 (by decide) ?_
                  refine j_subG (ws' := [(h0, .inr (0, [.int h_known, .int h_wares, .ref h1, .ref h2, .ref h3])), (h1, .inl (cyI, h_r, .inl h_leastRim)), (a0, .inr (9, [.int a_wares, .int a_shelves, .int a_nests, .ref a1, .ref a2, .ref a3, .ref a4, .ref a5, .ref a6, .int a_lids, .int a_tops, .ref a7, .ref a8, .ref a9, .ref a10])), (a1, .inl (cyI, 12, .inl a_wide)), (a2, .inl (cyI, 12, .inl a_deep)), (a7, .inl (cyI, 12, .inl a_mayOn))]) [0, 1, 3, 4, 5, 2] (by decide) rfl ?_
                  exact j_lv [0, 3, 4, 5, 6, 7, 8] rfl (ih_20 v_36 (by omega) (by omega) (fun u hu => by by_cases q : (u : Int) < (x20_6).toInt; (exact hq_20_0 u q); (rw [show u = (x20_6).toInt.toNat from (by omega)]; exact (fun z => by have z4 := z.2.2.2; have t9 : TX h_leastRim (h_wares).toInt p1 (x20_6).toInt.toNat = v_31 := (by show h_leastRim _ = _; rw [← tix (a := (p1).toInt) (w := (h_wares).toInt) (u := (x20_6).toInt) (k := (v_30).toInt) (by omega) (by omega) (by omega) (by omega), ev_31]); have r9 : rs0 (rsC a_wide a_deep a_lids) (x20_6).toInt.toNat p2 = (u_27.2.1 0) := (by unfold rs0; rw [if_neg (by omega), hw_28_0]); rw [t9, r9, ev_34] at z4; omega))) (by omega))
                · skip
                  rw [i_lt] at c_35
                  refine j_iload (pc := 93) C dX0_firstOn_93 2 rfl ?_
                  exact j_iret (pc := 95) C hr hk (fun i => [].getD i 0, fun i => [x20_6].getD i 0, fun i => [].getD i (fun _ => 0), fun i => [].getD i (fun _ => 0)) rfl (show (-1 ≤ (x20_6).toInt ∧ (x20_6).toInt ≤ 11) ∧ (x20_6.toInt = -1 ∨ x20_6.toInt < (h_wares).toInt) ∧ (FST (FOL (fun u l => BT (a_mayOn l) u) (rsC a_wide a_deep a_lids) (h_wares).toInt h_leastRim p1 p2 p3) (h_wares).toInt x20_6.toInt) from ⟨by omega, by omega, (Or.inr ⟨by omega, by omega, (by have t9 : TX h_leastRim (h_wares).toInt p1 (x20_6).toInt.toNat = v_31 := (by show h_leastRim _ = _; rw [← tix (a := (p1).toInt) (w := (h_wares).toInt) (u := (x20_6).toInt) (k := (v_30).toInt) (by omega) (by omega) (by omega) (by omega), ev_31]); have r9 : rs0 (rsC a_wide a_deep a_lids) (x20_6).toInt.toNat p2 = (u_27.2.1 0) := (by unfold rs0; rw [if_neg (by omega), hw_28_0]); exact ⟨(by have z9 : (v_23).toInt = (if BT p1 (x20_6).toInt.toNat = true then 1 else 0) := (by rw [← ev_23, ← ev_22]; exact bt_rd (by omega) (by omega)); by_cases z : BT p1 (x20_6).toInt.toNat = true; exact z; (rw [if_neg z] at z9; exfalso; omega)), fun z => by exfalso; omega, (by rw [t9]; omega), (by rw [t9, r9, ev_34]; omega)⟩), hq_20_0⟩)⟩) [0, 1, 3, 4, 5, 2] (by decide) rfl (by decide) (by decide) dX0_firstOn_95
            · skip
              have el_m1 : ((-1) : Int32).toInt = (-1) := rfl
              rw [i_eq] at c_26
              refine j_iconst (pc := 47) (v := 0) C dX0_firstOn_47 (by decide) ?_
              refine j_goto (pc := 48) (tgt := 58) C dX0_firstOn_48 (by decide) ?_
              refine j_istore (pc := 58) (lv' := [(7, .int 0), (6, .int x20_6), (5, .int p1), (0, .ref h0), (1, .ref a0), (2, .int p1), (3, .int p2), (4, .int p3)]) C dX0_firstOn_58 (by decide) rfl ?_
              refine j_aload_n (pc := 60) C dX0_firstOn_60 rfl 3 rfl ?_
              refine j_get (pc := 61) (ci := 0) (v := .ref h1) C inw_0 0 rfl rfl 2 (by decide) wd_120 rfl rfl dX0_firstOn_61 ?_
              refine j_iload_n (pc := 64) C dX0_firstOn_64 rfl 5 rfl ?_
              refine j_aload_n (pc := 65) C dX0_firstOn_65 rfl 3 rfl ?_
              refine j_get (pc := 66) (ci := 0) (v := .int h_wares) C inw_0 0 rfl rfl 1 (by decide) wd_117 rfl rfl dX0_firstOn_66 ?_
              obtain ⟨v_37, ev_37⟩ : ∃ z : Int32, p1 * h_wares = z := ⟨_, rfl⟩
              obtain ⟨hv_37, hv_37a, hv_37b⟩ := mulS (x := p1) (y := h_wares) (by omega) (by omega) (by omega) (by omega)
              rw [ev_37] at hv_37
              have hv_37c := ix_mul (x := p1.toInt) (w := h_wares.toInt) (S := 2 ^ (h_wares).toInt.toNat) (r := (h_r : Nat)) (by omega) (by omega) (by omega) (by omega)
              refine j_imul (pc := 69) (v := v_37) C dX0_firstOn_69 ev_37 ?_
              refine j_iload (pc := 70) C dX0_firstOn_70 1 rfl ?_
              obtain ⟨v_38, ev_38⟩ : ∃ z : Int32, v_37 + x20_6 = z := ⟨_, rfl⟩
              have hv_38 : v_38.toInt = v_37.toInt + x20_6.toInt := by rw [← ev_38]; exact fb_addI (by omega) (by omega)
              refine j_iadd (pc := 72) (v := v_38) C dX0_firstOn_72 ev_38 ?_
              obtain ⟨v_39, ev_39⟩ : ∃ z, h_leastRim (v_38).toInt.toNat = z := ⟨_, rfl⟩
              have env_39 : (h_leastRim (v_38).toInt.toNat).toInt = v_39.toInt := by rw [ev_39]
              refine j_iald (pc := 73) (v := v_39) (k := (v_38).toInt.toNat) C 1 1 rfl rfl (i_nn (by omega)) rfl (i_lt_n (by omega) (by omega)) ev_39 dX0_firstOn_73 ?_
              refine j_istore (pc := 74) (lv' := [(8, .int v_39), (7, .int 0), (6, .int x20_6), (5, .int p1), (0, .ref h0), (1, .ref a0), (2, .int p1), (3, .int p2), (4, .int p3)]) C dX0_firstOn_74 (by decide) rfl ?_
              refine j_iload (pc := 76) C dX0_firstOn_76 0 rfl ?_
              refine j_ldc (pc := 78) C wd_116 dX0_firstOn_78 ?_
              refine j_icmp_ge (pc := 80) (tgt := 96) C dX0_firstOn_80 (by decide) (fun c_40 => ?_) (fun c_40 => ?_)
              · skip
                have el_1000000 : (1000000 : Int32).toInt = 1000000 := rfl
                rw [i_le] at c_40
                obtain ⟨v_41, ev_41⟩ : ∃ z : Int32, x20_6 + 1 = z := ⟨_, rfl⟩
                have el_1 : (1 : Int32).toInt = 1 := rfl
                have hv_41 : v_41.toInt = x20_6.toInt + (1 : Int32).toInt := by rw [← ev_41]; exact fb_addI (by omega) (by omega)
                refine j_iinc (pc := 96) (v := v_41) (lv' := [(6, .int v_41), (8, .int v_39), (7, .int 0), (5, .int p1), (0, .ref h0), (1, .ref a0), (2, .int p1), (3, .int p2), (4, .int p3)]) C dX0_firstOn_96 2 rfl ev_41 (by decide) rfl ?_
                refine j_goto (pc := 99) (tgt := 22) C dX0_firstOn_99 (by decide) ?_
                exact j_lv [0, 3, 4, 5, 6, 7, 8] rfl (ih_20 v_41 (by omega) (by omega) (fun u hu => by by_cases q : (u : Int) < (x20_6).toInt; (exact hq_20_0 u q); (rw [show u = (x20_6).toInt.toNat from (by omega)]; exact (fun z => by have z3 := z.2.2.1; have t9 : TX h_leastRim (h_wares).toInt p1 (x20_6).toInt.toNat = v_39 := (by show h_leastRim _ = _; rw [← tix (a := (p1).toInt) (w := (h_wares).toInt) (u := (x20_6).toInt) (k := (v_38).toInt) (by omega) (by omega) (by omega) (by omega), ev_39]); rw [t9] at z3; omega))) (by omega))
              · skip
                have el_1000000 : (1000000 : Int32).toInt = 1000000 := rfl
                rw [i_le] at c_40
                refine j_iload (pc := 83) C dX0_firstOn_83 1 rfl ?_
                refine j_iload (pc := 85) C dX0_firstOn_85 0 rfl ?_
                obtain ⟨v_42, ev_42⟩ : ∃ z : Int32, 0 + v_39 = z := ⟨_, rfl⟩
                have el_0 : (0 : Int32).toInt = 0 := rfl
                have := i_bd v_39
                have hv_42 : v_42.toInt = (0 : Int32).toInt + v_39.toInt := by rw [← ev_42]; exact fb_addI (by omega) (by omega)
                refine j_iadd (pc := 87) (v := v_42) C dX0_firstOn_87 ev_42 ?_
                refine j_iload (pc := 88) C dX0_firstOn_88 8 rfl ?_
                refine j_icmp_gt (pc := 90) (tgt := 96) C dX0_firstOn_90 (by decide) (fun c_43 => ?_) (fun c_43 => ?_)
                · skip
                  rw [i_lt] at c_43
                  obtain ⟨v_44, ev_44⟩ : ∃ z : Int32, x20_6 + 1 = z := ⟨_, rfl⟩
                  have el_1 : (1 : Int32).toInt = 1 := rfl
                  have hv_44 : v_44.toInt = x20_6.toInt + (1 : Int32).toInt := by rw [← ev_44]; exact fb_addI (by omega) (by omega)
                  refine j_iinc (pc := 96) (v := v_44) (lv' := [(6, .int v_44), (8, .int v_39), (7, .int 0), (5, .int p1), (0, .ref h0), (1, .ref a0), (2, .int p1), (3, .int p2), (4, .int p3)]) C dX0_firstOn_96 2 rfl ev_44 (by decide) rfl ?_
                  refine j_goto (pc := 99) (tgt := 22) C dX0_firstOn_99 (by decide) ?_
                  exact j_lv [0, 3, 4, 5, 6, 7, 8] rfl (ih_20 v_44 (by omega) (by omega) (fun u hu => by by_cases q : (u : Int) < (x20_6).toInt; (exact hq_20_0 u q); (rw [show u = (x20_6).toInt.toNat from (by omega)]; exact (fun z => by have z4 := z.2.2.2; have t9 : TX h_leastRim (h_wares).toInt p1 (x20_6).toInt.toNat = v_39 := (by show h_leastRim _ = _; rw [← tix (a := (p1).toInt) (w := (h_wares).toInt) (u := (x20_6).toInt) (k := (v_38).toInt) (by omega) (by omega) (by omega) (by omega), ev_39]); have r9 : rs0 (rsC a_wide a_deep a_lids) (x20_6).toInt.toNat p2 = 0 := if_pos (by omega); rw [t9, r9, ev_42] at z4; omega))) (by omega))
                · skip
                  rw [i_lt] at c_43
                  refine j_iload (pc := 93) C dX0_firstOn_93 2 rfl ?_
                  exact j_iret (pc := 95) C hr hk (fun i => [].getD i 0, fun i => [x20_6].getD i 0, fun i => [].getD i (fun _ => 0), fun i => [].getD i (fun _ => 0)) rfl (show (-1 ≤ (x20_6).toInt ∧ (x20_6).toInt ≤ 11) ∧ (x20_6.toInt = -1 ∨ x20_6.toInt < (h_wares).toInt) ∧ (FST (FOL (fun u l => BT (a_mayOn l) u) (rsC a_wide a_deep a_lids) (h_wares).toInt h_leastRim p1 p2 p3) (h_wares).toInt x20_6.toInt) from ⟨by omega, by omega, (Or.inr ⟨by omega, by omega, (by have t9 : TX h_leastRim (h_wares).toInt p1 (x20_6).toInt.toNat = v_39 := (by show h_leastRim _ = _; rw [← tix (a := (p1).toInt) (w := (h_wares).toInt) (u := (x20_6).toInt) (k := (v_38).toInt) (by omega) (by omega) (by omega) (by omega), ev_39]); have r9 : rs0 (rsC a_wide a_deep a_lids) (x20_6).toInt.toNat p2 = 0 := if_pos (by omega); exact ⟨(by have z9 : (v_23).toInt = (if BT p1 (x20_6).toInt.toNat = true then 1 else 0) := (by rw [← ev_23, ← ev_22]; exact bt_rd (by omega) (by omega)); by_cases z : BT p1 (x20_6).toInt.toNat = true; exact z; (rw [if_neg z] at z9; exfalso; omega)), fun z => by exfalso; omega, (by rw [t9]; omega), (by rw [t9, r9, ev_42]; omega)⟩), hq_20_0⟩)⟩) [0, 1, 2, 3, 4, 5] (by decide) rfl (by decide) (by decide) dX0_firstOn_95
    have el_0 : (0 : Int32).toInt = 0 := rfl
    exact j_lv [0, 1, 2, 3, 4, 5, 6] rfl (loop_20 4096 0 (by decide) (by omega) (fun u hu => absurd hu (by have e9 : ((0 : Int32)).toInt = 0 := rfl; omega)) (by omega))
set_option maxHeartbeats 4000000 in
set_option maxRecDepth 100000 in
theorem c_X0_inOrder (l : Launch) (D : DG) (cyC cyI cyJ cyZ cyO : ClassId) (h0 : Nat) (h1 : Nat) (a0 : Nat) (a1 : Nat) (a2 : Nat) (a7 : Nat) (h2 : Nat) (h3 : Nat) (a3 : Nat) (a4 : Nat) (a5 : Nat) (a6 : Nat) (a8 : Nat) (a9 : Nat) (a10 : Nat) (h_r : Nat) (p1 : Int32) (p2 : Int32) (p3 : Int32) (h_known : Int32) (h_wares : Int32) (a_wares : Int32) (a_shelves : Int32) (a_nests : Int32) (a_lids : Int32) (a_tops : Int32) (h_leastRim : Nat → Int32) (a_wide : Nat → Int32) (a_deep : Nat → Int32) (a_mayOn : Nat → Int32) (h_h_known : 0 ≤ (h_known).toInt ∧ (h_known).toInt ≤ 1) (h_h_wares : 0 ≤ (h_wares).toInt ∧ (h_wares).toInt ≤ 12) (h_a_wares : 0 ≤ (a_wares).toInt ∧ (a_wares).toInt ≤ 12) (h_a_shelves : 0 ≤ (a_shelves).toInt ∧ (a_shelves).toInt ≤ 4) (h_a_nests : 0 ≤ (a_nests).toInt ∧ (a_nests).toInt ≤ 4) (h_p1 : 0 ≤ (p1).toInt ∧ (p1).toInt ≤ 4095) (h_p3 : 0 ≤ (p3).toInt ∧ (p3).toInt ≤ 62) (hlr : (2 : Int) ^ (h_wares).toInt.toNat * (h_wares).toInt ≤ (h_r : Int)) (hbr : h_r ≤ 49152) (hset : (p1).toInt < (2 : Int) ^ (h_wares).toInt.toNat) : KK l D (TY cyC cyI cyJ cyZ cyO) yX0_inOrder cX0_inOrder 10 (some .int) ({ frames := 2, cells := 0, slots := 0, locals := 51 } : Room) 0 0 [.ref h0, .ref a0, .int p1, .int p2, .int p3] [(h0, .inr (0, [.int h_known, .int h_wares, .ref h1, .ref h2, .ref h3])), (h1, .inl (cyI, h_r, .inl h_leastRim)), (a0, .inr (9, [.int a_wares, .int a_shelves, .int a_nests, .ref a1, .ref a2, .ref a3, .ref a4, .ref a5, .ref a6, .int a_lids, .int a_tops, .ref a7, .ref a8, .ref a9, .ref a10])), (a1, .inl (cyI, 12, .inl a_wide)), (a2, .inl (cyI, 12, .inl a_deep)), (a7, .inl (cyI, 12, .inl a_mayOn))] (fun u => some (.int (u.2.1 0))) (fun u => (-1 ≤ (u.2.1 0).toInt ∧ (u.2.1 0).toInt ≤ 11) ∧ (SOA (fun u l => BT (a_mayOn l) u) (rsC a_wide a_deep a_lids) (h_wares).toInt h_leastRim p1 p2 (p3).toInt (u.2.1 0).toInt)) (fun u => [(h0, .inr (0, [.int h_known, .int h_wares, .ref h1, .ref h2, .ref h3])), (h1, .inl (cyI, h_r, .inl h_leastRim)), (a0, .inr (9, [.int a_wares, .int a_shelves, .int a_nests, .ref a1, .ref a2, .ref a3, .ref a4, .ref a5, .ref a6, .int a_lids, .int a_tops, .ref a7, .ref a8, .ref a9, .ref a10])), (a1, .inl (cyI, 12, .inl a_wide)), (a2, .inl (cyI, 12, .inl a_deep)), (a7, .inl (cyI, 12, .inl a_mayOn))]) := by
  refine KK.of (lv0 := [(0, .ref h0), (1, .ref a0), (2, .int p1), (3, .int p2), (4, .int p3)]) (by decide) rfl (Nat.le_of_ble_eq_true rfl) ?_
  intro p e s m args below meth c A C hr hk hin
  have hpw1 := pw1 (h_wares).toInt.toNat
  refine j_iload_n (pc := 0) C dX0_inOrder_0 rfl 2 rfl ?_
  refine j_istore (pc := 1) (lv' := [(5, .int p1), (0, .ref h0), (1, .ref a0), (2, .int p1), (3, .int p2), (4, .int p3)]) C dX0_inOrder_1 (by decide) rfl ?_
  refine j_iload_n (pc := 3) C dX0_inOrder_3 rfl 4 rfl ?_
  refine j_istore (pc := 4) (lv' := [(6, .int p2), (5, .int p1), (0, .ref h0), (1, .ref a0), (2, .int p1), (3, .int p2), (4, .int p3)]) C dX0_inOrder_4 (by decide) rfl ?_
  refine j_iconst (pc := 6) (v := (-1)) C dX0_inOrder_6 (by decide) ?_
  refine j_istore (pc := 7) (lv' := [(7, .int (-1)), (6, .int p2), (5, .int p1), (0, .ref h0), (1, .ref a0), (2, .int p1), (3, .int p2), (4, .int p3)]) C dX0_inOrder_7 (by decide) rfl ?_
  refine j_iconst (pc := 9) (v := 0) C dX0_inOrder_9 (by decide) ?_
  refine j_istore (pc := 10) (lv' := [(8, .int 0), (7, .int (-1)), (6, .int p2), (5, .int p1), (0, .ref h0), (1, .ref a0), (2, .int p1), (3, .int p2), (4, .int p3)]) C dX0_inOrder_10 (by decide) rfl ?_
  have loop_1 : ∀ (k_1 : Nat) (x1_8 : Int32) (x1_7 : Int32) (x1_6 : Int32) (x1_5 : Int32), (0 ≤ (x1_8).toInt ∧ (x1_8).toInt ≤ 63) → (-1 ≤ (x1_7).toInt ∧ (x1_7).toInt ≤ 11) → (0 ≤ (x1_5).toInt ∧ (x1_5).toInt ≤ 4095) → (x1_5.toInt < (2 : Int) ^ (h_wares).toInt.toNat ∧ x1_8.toInt ≤ (p3).toInt + 1) → (CHX (fun _ => SOC (fun u l => BT (a_mayOn l) u) (rsC a_wide a_deep a_lids) (h_wares).toInt h_leastRim) (p1, -1, p2) (x1_8.toInt).toNat (x1_5, x1_7, x1_6)) → (63 - x1_8.toInt).toNat < k_1 → J p l e ({ frames := 2, cells := 0, slots := 0, locals := 51 } : Room) s m args below meth c D A 10 0 0 (QX below D (TY cyC cyI cyJ cyZ cyO) A (fun u => some (.int (u.2.1 0))) (fun u => (-1 ≤ (u.2.1 0).toInt ∧ (u.2.1 0).toInt ≤ 11) ∧ (SOA (fun u l => BT (a_mayOn l) u) (rsC a_wide a_deep a_lids) (h_wares).toInt h_leastRim p1 p2 (p3).toInt (u.2.1 0).toInt)) (fun u => [(h0, .inr (0, [.int h_known, .int h_wares, .ref h1, .ref h2, .ref h3])), (h1, .inl (cyI, h_r, .inl h_leastRim)), (a0, .inr (9, [.int a_wares, .int a_shelves, .int a_nests, .ref a1, .ref a2, .ref a3, .ref a4, .ref a5, .ref a6, .int a_lids, .int a_tops, .ref a7, .ref a8, .ref a9, .ref a10])), (a1, .inl (cyI, 12, .inl a_wide)), (a2, .inl (cyI, 12, .inl a_deep)), (a7, .inl (cyI, 12, .inl a_mayOn))]) args s 0 0) [(h0, .inr (0, [.int h_known, .int h_wares, .ref h1, .ref h2, .ref h3])), (h1, .inl (cyI, h_r, .inl h_leastRim)), (a0, .inr (9, [.int a_wares, .int a_shelves, .int a_nests, .ref a1, .ref a2, .ref a3, .ref a4, .ref a5, .ref a6, .int a_lids, .int a_tops, .ref a7, .ref a8, .ref a9, .ref a10])), (a1, .inl (cyI, 12, .inl a_wide)), (a2, .inl (cyI, 12, .inl a_deep)), (a7, .inl (cyI, 12, .inl a_mayOn))] 12 [(8, .int x1_8), (7, .int x1_7), (6, .int x1_6), (5, .int x1_5), (0, .ref h0), (1, .ref a0), (2, .int p1), (3, .int p2), (4, .int p3)] [] := by
    intro k_1
    induction k_1 with
    | zero =>
      intro x1_8 x1_7 x1_6 x1_5 hi_1_0 hi_1_1 hi_1_3 hr_1 hq_1_0 hm_1
      exact absurd hm_1 (Nat.not_lt_zero _)
    | succ k_1 ih_1 =>
      intro x1_8 x1_7 x1_6 x1_5 hi_1_0 hi_1_1 hi_1_3 hr_1 hq_1_0 hm_1
      refine j_iload (pc := 12) C dX0_inOrder_12 0 rfl ?_
      refine j_iload (pc := 14) C dX0_inOrder_14 8 rfl ?_
      refine j_icmp_gt (pc := 16) (tgt := 82) C dX0_inOrder_16 (by decide) (fun c_2 => ?_) (fun c_2 => ?_)
      · skip
        rw [i_lt] at c_2
        refine j_iload (pc := 82) C dX0_inOrder_82 1 rfl ?_
        exact j_iret (pc := 84) C hr hk (fun i => [].getD i 0, fun i => [x1_7].getD i 0, fun i => [].getD i (fun _ => 0), fun i => [].getD i (fun _ => 0)) rfl (show (-1 ≤ (x1_7).toInt ∧ (x1_7).toInt ≤ 11) ∧ (SOA (fun u l => BT (a_mayOn l) u) (rsC a_wide a_deep a_lids) (h_wares).toInt h_leastRim p1 p2 (p3).toInt x1_7.toInt) from ⟨hi_1_1, ⟨_, _, hq_1_0, Or.inl ⟨by omega, rfl⟩⟩⟩) [0, 1, 2, 3, 4, 5] (by decide) rfl (by decide) (by decide) dX0_inOrder_84
      · skip
        rw [i_lt] at c_2
        refine j_aload_n (pc := 19) C dX0_inOrder_19 rfl 4 rfl ?_
        refine j_aload_n (pc := 20) C dX0_inOrder_20 rfl 5 rfl ?_
        refine j_iload (pc := 21) C dX0_inOrder_21 3 rfl ?_
        refine j_iload (pc := 23) C dX0_inOrder_23 1 rfl ?_
        refine j_iload (pc := 25) C dX0_inOrder_25 2 rfl ?_
        refine j_callV (pc := 27) (As := [.ref a0, .int x1_5, .int x1_7, .int x1_6]) (rest := []) (wr := []) C (c_X0_firstOn l D cyC cyI cyJ cyZ cyO h0 h1 a0 a1 a2 a7 h2 h3 a3 a4 a5 a6 a8 a9 a10 h_r x1_5 x1_7 x1_6 h_known h_wares a_wares a_shelves a_nests a_lids a_tops h_leastRim a_wide a_deep a_mayOn h_h_known h_h_wares h_a_wares h_a_shelves h_a_nests hi_1_3 hi_1_1 hlr hbr (by omega)) wd_136 wd_132 wd_137 wd_138 wd_139 ⟨by decide, by decide, rfl⟩ rfl ⟨rfl, rfl, by decide, by decide⟩ ⟨by decide, by decide⟩ [0, 1, 2, 3, 4, 5] [] rfl rfl ⟨by decide, by decide, by decide⟩ 0 rfl rfl rfl (Nat.le_of_ble_eq_true rfl) dX0_inOrder_27 (fun u_3 hw_4 => ?_)
        refine j_eq (ws2 := [(h0, .inr (0, [.int h_known, .int h_wares, .ref h1, .ref h2, .ref h3])), (h1, .inl (cyI, h_r, .inl h_leastRim)), (a0, .inr (9, [.int a_wares, .int a_shelves, .int a_nests, .ref a1, .ref a2, .ref a3, .ref a4, .ref a5, .ref a6, .int a_lids, .int a_tops, .ref a7, .ref a8, .ref a9, .ref a10])), (a1, .inl (cyI, 12, .inl a_wide)), (a2, .inl (cyI, 12, .inl a_deep)), (a7, .inl (cyI, 12, .inl a_mayOn))]) (pc2 := 30) (lv2 := [(8, .int x1_8), (7, .int x1_7), (6, .int x1_6), (5, .int x1_5), (0, .ref h0), (1, .ref a0), (2, .int p1), (3, .int p2), (4, .int p3)]) (st2 := [.int (u_3.2.1 0)]) rfl rfl rfl rfl ?_
        obtain ⟨hw_4_0, hw_4_1, hw_4_2⟩ := hw_4
        refine j_istore (pc := 30) (lv' := [(9, .int (u_3.2.1 0)), (8, .int x1_8), (7, .int x1_7), (6, .int x1_6), (5, .int x1_5), (0, .ref h0), (1, .ref a0), (2, .int p1), (3, .int p2), (4, .int p3)]) C dX0_inOrder_30 (by decide) rfl ?_
        refine j_iload (pc := 32) C dX0_inOrder_32 0 rfl ?_
        refine j_iconst (pc := 34) (v := (-1)) C dX0_inOrder_34 (by decide) ?_
        refine j_icmp_ne (pc := 35) (tgt := 40) C dX0_inOrder_35 (by decide) (fun c_5 => ?_) (fun c_5 => ?_)
        · skip
          have el_m1 : ((-1) : Int32).toInt = (-1) := rfl
          rw [i_eq] at c_5
          refine j_iload (pc := 40) C dX0_inOrder_40 3 rfl ?_
          refine j_iload (pc := 42) C dX0_inOrder_42 2 rfl ?_
          refine j_iconst (pc := 44) (v := (-1)) C dX0_inOrder_44 (by decide) ?_
          refine j_icmp_ne (pc := 45) (tgt := 52) C dX0_inOrder_45 (by decide) (fun c_6 => ?_) (fun c_6 => ?_)
          · skip
            have el_m1 : ((-1) : Int32).toInt = (-1) := rfl
            rw [i_eq] at c_6
            refine j_aload_n (pc := 52) C dX0_inOrder_52 rfl 6 rfl ?_
            refine j_iload (pc := 53) C dX0_inOrder_53 0 rfl ?_
            refine j_iload (pc := 55) C dX0_inOrder_55 2 rfl ?_
            refine j_callV (pc := 57) (As := [.int (u_3.2.1 0), .int x1_7]) (rest := [.int x1_6]) (wr := [(h0, .inr (0, [.int h_known, .int h_wares, .ref h1, .ref h2, .ref h3])), (h1, .inl (cyI, h_r, .inl h_leastRim)), (a7, .inl (cyI, 12, .inl a_mayOn))]) C (c_X9_rise l D cyC cyI cyJ cyZ cyO a0 a1 a2 a3 a4 a5 a6 a7 a8 a9 a10 (u_3.2.1 0) x1_7 a_wares a_shelves a_nests a_lids a_tops a_wide a_deep h_a_wares h_a_shelves h_a_nests (by omega) (by omega)) wd_32 wd_33 wd_119 wd_35 wd_36 ⟨by decide, by decide, rfl⟩ rfl ⟨rfl, rfl, by decide, by decide⟩ ⟨by decide, by decide⟩ [2, 3, 4] [0, 1, 5] rfl rfl ⟨by decide, by decide, by decide⟩ 2 rfl rfl rfl (Nat.le_of_ble_eq_true rfl) dX0_inOrder_57 (fun u_7 hw_8 => ?_)
            refine j_eq (ws2 := [(h0, .inr (0, [.int h_known, .int h_wares, .ref h1, .ref h2, .ref h3])), (h1, .inl (cyI, h_r, .inl h_leastRim)), (a7, .inl (cyI, 12, .inl a_mayOn)), (a0, .inr (9, [.int a_wares, .int a_shelves, .int a_nests, .ref a1, .ref a2, .ref a3, .ref a4, .ref a5, .ref a6, .int a_lids, .int a_tops, .ref a7, .ref a8, .ref a9, .ref a10])), (a1, .inl (cyI, 12, .inl a_wide)), (a2, .inl (cyI, 12, .inl a_deep))]) (pc2 := 60) (lv2 := [(9, .int (u_3.2.1 0)), (8, .int x1_8), (7, .int x1_7), (6, .int x1_6), (5, .int x1_5), (0, .ref h0), (1, .ref a0), (2, .int p1), (3, .int p2), (4, .int p3)]) (st2 := [.int (u_7.2.1 0), .int x1_6]) rfl rfl rfl rfl ?_
            have hw_8_0 : (u_7.2.1 0) = (rsC a_wide a_deep a_lids) ((u_3.2.1 0)).toInt.toNat (x1_7).toInt.toNat := hw_8
            obtain ⟨v_9, ev_9⟩ : ∃ z : Int32, x1_6 - (u_7.2.1 0) = z := ⟨_, rfl⟩
            refine j_isub (pc := 60) (v := v_9) C dX0_inOrder_60 ev_9 ?_
            refine j_istore (pc := 61) (lv' := [(6, .int v_9), (9, .int (u_3.2.1 0)), (8, .int x1_8), (7, .int x1_7), (5, .int x1_5), (0, .ref h0), (1, .ref a0), (2, .int p1), (3, .int p2), (4, .int p3)]) C dX0_inOrder_61 (by decide) rfl ?_
            refine j_iload (pc := 63) C dX0_inOrder_63 4 rfl ?_
            refine j_iconst (pc := 65) (v := 1) C dX0_inOrder_65 (by decide) ?_
            refine j_iload (pc := 66) C dX0_inOrder_66 1 rfl ?_
            obtain ⟨v_10, ev_10⟩ : ∃ z : Int32, 1 <<< ((u_3.2.1 0) &&& 31) = z := ⟨_, rfl⟩
            have el_1 : (1 : Int32).toInt = 1 := rfl
            have hv_10 : 1 ≤ v_10.toInt ∧ v_10.toInt ≤ 2048 := by rw [← ev_10]; exact shl1_iv 0 11 (by omega) (by omega) (by omega)
            have hv_10p : v_10.toInt < 2 ^ (h_wares).toInt.toNat := by rw [← ev_10]; exact shl1_lt (by omega) (by omega) (by omega)
            refine j_ishl (pc := 68) (v := v_10) C dX0_inOrder_68 ev_10 ?_
            obtain ⟨v_11, ev_11⟩ : ∃ z : Int32, x1_5 ^^^ v_10 = z := ⟨_, rfl⟩
            have hv_11 : 0 ≤ v_11.toInt ∧ v_11.toInt ≤ 4095 := by rw [← ev_11]; exact xorb 12 (by decide) (by omega) (by omega) (by omega) (by omega)
            have hv_11p : 0 ≤ v_11.toInt ∧ v_11.toInt < 2 ^ (h_wares).toInt.toNat := by rw [← ev_11]; exact xorP (by omega) (by omega) (by omega) (by omega) (by omega)
            refine j_ixor (pc := 69) (v := v_11) C dX0_inOrder_69 ev_11 ?_
            refine j_istore (pc := 70) (lv' := [(5, .int v_11), (6, .int v_9), (9, .int (u_3.2.1 0)), (8, .int x1_8), (7, .int x1_7), (0, .ref h0), (1, .ref a0), (2, .int p1), (3, .int p2), (4, .int p3)]) C dX0_inOrder_70 (by decide) rfl ?_
            refine j_iload (pc := 72) C dX0_inOrder_72 2 rfl ?_
            refine j_istore (pc := 74) (lv' := [(7, .int (u_3.2.1 0)), (5, .int v_11), (6, .int v_9), (9, .int (u_3.2.1 0)), (8, .int x1_8), (0, .ref h0), (1, .ref a0), (2, .int p1), (3, .int p2), (4, .int p3)]) C dX0_inOrder_74 (by decide) rfl ?_
            obtain ⟨v_12, ev_12⟩ : ∃ z : Int32, x1_8 + 1 = z := ⟨_, rfl⟩
            have el_1 : (1 : Int32).toInt = 1 := rfl
            have hv_12 : v_12.toInt = x1_8.toInt + (1 : Int32).toInt := by rw [← ev_12]; exact fb_addI (by omega) (by omega)
            refine j_iinc (pc := 76) (v := v_12) (lv' := [(8, .int v_12), (7, .int (u_3.2.1 0)), (5, .int v_11), (6, .int v_9), (9, .int (u_3.2.1 0)), (0, .ref h0), (1, .ref a0), (2, .int p1), (3, .int p2), (4, .int p3)]) C dX0_inOrder_76 4 rfl ev_12 (by decide) rfl ?_
            refine j_goto (pc := 79) (tgt := 12) C dX0_inOrder_79 (by decide) ?_
            refine j_subG (ws' := [(h0, .inr (0, [.int h_known, .int h_wares, .ref h1, .ref h2, .ref h3])), (h1, .inl (cyI, h_r, .inl h_leastRim)), (a0, .inr (9, [.int a_wares, .int a_shelves, .int a_nests, .ref a1, .ref a2, .ref a3, .ref a4, .ref a5, .ref a6, .int a_lids, .int a_tops, .ref a7, .ref a8, .ref a9, .ref a10])), (a1, .inl (cyI, 12, .inl a_wide)), (a2, .inl (cyI, 12, .inl a_deep)), (a7, .inl (cyI, 12, .inl a_mayOn))]) [0, 1, 3, 4, 5, 2] (by decide) rfl ?_
            exact j_lv [0, 1, 3, 2, 5, 6, 7, 8, 9] rfl (ih_1 v_12 (u_3.2.1 0) v_9 v_11 (by omega) hw_4_0 (by omega) (by omega) (CHX.step hq_1_0 (by omega) ⟨(u_3.2.1 0), hw_4_2, by omega, (by have r9 : rs0 (rsC a_wide a_deep a_lids) ((u_3.2.1 0)).toInt.toNat x1_7 = (u_7.2.1 0) := (by unfold rs0; rw [if_neg (by omega), hw_8_0]); have c9 : cx x1_5 ((u_3.2.1 0)).toInt.toNat = v_11 := (by unfold cx; rw [nI_bk2 (by omega), ev_10, ev_11]); show (v_11, (u_3.2.1 0), v_9) = (cx x1_5 ((u_3.2.1 0)).toInt.toNat, (u_3.2.1 0), x1_6 - rs0 (rsC a_wide a_deep a_lids) ((u_3.2.1 0)).toInt.toNat x1_7); rw [c9, r9, ev_9])⟩) (by omega))
          · skip
            have el_m1 : ((-1) : Int32).toInt = (-1) := rfl
            rw [i_eq] at c_6
            refine j_iconst (pc := 48) (v := 0) C dX0_inOrder_48 (by decide) ?_
            refine j_goto (pc := 49) (tgt := 60) C dX0_inOrder_49 (by decide) ?_
            obtain ⟨v_13, ev_13⟩ : ∃ z : Int32, x1_6 - 0 = z := ⟨_, rfl⟩
            have el_0 : (0 : Int32).toInt = 0 := rfl
            refine j_isub (pc := 60) (v := v_13) C dX0_inOrder_60 ev_13 ?_
            refine j_istore (pc := 61) (lv' := [(6, .int v_13), (9, .int (u_3.2.1 0)), (8, .int x1_8), (7, .int x1_7), (5, .int x1_5), (0, .ref h0), (1, .ref a0), (2, .int p1), (3, .int p2), (4, .int p3)]) C dX0_inOrder_61 (by decide) rfl ?_
            refine j_iload (pc := 63) C dX0_inOrder_63 4 rfl ?_
            refine j_iconst (pc := 65) (v := 1) C dX0_inOrder_65 (by decide) ?_
            refine j_iload (pc := 66) C dX0_inOrder_66 1 rfl ?_
            obtain ⟨v_14, ev_14⟩ : ∃ z : Int32, 1 <<< ((u_3.2.1 0) &&& 31) = z := ⟨_, rfl⟩
            have el_1 : (1 : Int32).toInt = 1 := rfl
            have hv_14 : 1 ≤ v_14.toInt ∧ v_14.toInt ≤ 2048 := by rw [← ev_14]; exact shl1_iv 0 11 (by omega) (by omega) (by omega)
            have hv_14p : v_14.toInt < 2 ^ (h_wares).toInt.toNat := by rw [← ev_14]; exact shl1_lt (by omega) (by omega) (by omega)
            refine j_ishl (pc := 68) (v := v_14) C dX0_inOrder_68 ev_14 ?_
            obtain ⟨v_15, ev_15⟩ : ∃ z : Int32, x1_5 ^^^ v_14 = z := ⟨_, rfl⟩
            have hv_15 : 0 ≤ v_15.toInt ∧ v_15.toInt ≤ 4095 := by rw [← ev_15]; exact xorb 12 (by decide) (by omega) (by omega) (by omega) (by omega)
            have hv_15p : 0 ≤ v_15.toInt ∧ v_15.toInt < 2 ^ (h_wares).toInt.toNat := by rw [← ev_15]; exact xorP (by omega) (by omega) (by omega) (by omega) (by omega)
            refine j_ixor (pc := 69) (v := v_15) C dX0_inOrder_69 ev_15 ?_
            refine j_istore (pc := 70) (lv' := [(5, .int v_15), (6, .int v_13), (9, .int (u_3.2.1 0)), (8, .int x1_8), (7, .int x1_7), (0, .ref h0), (1, .ref a0), (2, .int p1), (3, .int p2), (4, .int p3)]) C dX0_inOrder_70 (by decide) rfl ?_
            refine j_iload (pc := 72) C dX0_inOrder_72 2 rfl ?_
            refine j_istore (pc := 74) (lv' := [(7, .int (u_3.2.1 0)), (5, .int v_15), (6, .int v_13), (9, .int (u_3.2.1 0)), (8, .int x1_8), (0, .ref h0), (1, .ref a0), (2, .int p1), (3, .int p2), (4, .int p3)]) C dX0_inOrder_74 (by decide) rfl ?_
            obtain ⟨v_16, ev_16⟩ : ∃ z : Int32, x1_8 + 1 = z := ⟨_, rfl⟩
            have el_1 : (1 : Int32).toInt = 1 := rfl
            have hv_16 : v_16.toInt = x1_8.toInt + (1 : Int32).toInt := by rw [← ev_16]; exact fb_addI (by omega) (by omega)
            refine j_iinc (pc := 76) (v := v_16) (lv' := [(8, .int v_16), (7, .int (u_3.2.1 0)), (5, .int v_15), (6, .int v_13), (9, .int (u_3.2.1 0)), (0, .ref h0), (1, .ref a0), (2, .int p1), (3, .int p2), (4, .int p3)]) C dX0_inOrder_76 4 rfl ev_16 (by decide) rfl ?_
            refine j_goto (pc := 79) (tgt := 12) C dX0_inOrder_79 (by decide) ?_
            exact j_lv [0, 1, 3, 2, 5, 6, 7, 8, 9] rfl (ih_1 v_16 (u_3.2.1 0) v_13 v_15 (by omega) hw_4_0 (by omega) (by omega) (CHX.step hq_1_0 (by omega) ⟨(u_3.2.1 0), hw_4_2, by omega, (by have r9 : rs0 (rsC a_wide a_deep a_lids) ((u_3.2.1 0)).toInt.toNat x1_7 = 0 := if_pos (by omega); have c9 : cx x1_5 ((u_3.2.1 0)).toInt.toNat = v_15 := (by unfold cx; rw [nI_bk2 (by omega), ev_14, ev_15]); show (v_15, (u_3.2.1 0), v_13) = (cx x1_5 ((u_3.2.1 0)).toInt.toNat, (u_3.2.1 0), x1_6 - rs0 (rsC a_wide a_deep a_lids) ((u_3.2.1 0)).toInt.toNat x1_7); rw [c9, r9, ev_13])⟩) (by omega))
        · skip
          have el_m1 : ((-1) : Int32).toInt = (-1) := rfl
          rw [i_eq] at c_5
          refine j_iconst (pc := 38) (v := (-1)) C dX0_inOrder_38 (by decide) ?_
          have el_m1 : ((-1) : Int32).toInt = (-1) := rfl
          have el_m1 : ((-1) : Int32).toInt = (-1) := rfl
          exact j_iret (pc := 39) C hr hk (fun i => [].getD i 0, fun i => [(-1)].getD i 0, fun i => [].getD i (fun _ => 0), fun i => [].getD i (fun _ => 0)) rfl (show (-1 ≤ (((-1) : Int32)).toInt ∧ (((-1) : Int32)).toInt ≤ 11) ∧ (SOA (fun u l => BT (a_mayOn l) u) (rsC a_wide a_deep a_lids) (h_wares).toInt h_leastRim p1 p2 (p3).toInt ((-1) : Int32).toInt) from ⟨by omega, ⟨_, _, hq_1_0, Or.inr ⟨by omega, (by have y := hw_4_2; rw [show ((u_3.2.1 0)).toInt = -1 from (by omega)] at y; exact y), rfl⟩⟩⟩) [0, 1, 2, 3, 4, 5] (by decide) rfl (by decide) (by decide) dX0_inOrder_39
  have el_0 : (0 : Int32).toInt = 0 := rfl
  have el_m1 : ((-1) : Int32).toInt = (-1) := rfl
  exact j_lv [0, 1, 2, 3, 4, 5, 6, 7, 8] rfl (loop_1 4096 0 (-1) p2 p1 (by decide) (by decide) h_p1 (by omega) (CHX.zero rfl rfl) (by omega))

/-- the subset that comes next -/
theorem sub_pred : ∀ (k o l s : Nat), l < 2 ^ k → l &&& o = l → s &&& o = s → s < l → s ≤ (l - 1) &&& o := by
  intro k
  induction k with
  | zero => intro o l s hl _ _ h; exact absurd h (by have : (2 : Nat) ^ 0 = 1 := rfl; omega)
  | succ k ih =>
    intro o l s hl ho hs h
    have pk : (2 : Nat) ^ (k + 1) = 2 ^ k * 2 := Nat.pow_succ ..
    have l2 : l / 2 &&& o / 2 = l / 2 := by rw [← Nat.and_div_two, ho]
    have s2 : s / 2 &&& o / 2 = s / 2 := by rw [← Nat.and_div_two, hs]
    have lm : l % 2 = 1 → o % 2 = 1 := fun z => by
      have y : (l &&& o) % 2 = 1 := by rw [ho]; exact z
      exact (Nat.and_mod_two_eq_one.mp y).2
    have sm : s % 2 = 1 → o % 2 = 1 := fun z => by
      have y : (s &&& o) % 2 = 1 := by rw [hs]; exact z
      exact (Nat.and_mod_two_eq_one.mp y).2
    have d : ((l - 1) &&& o) / 2 = (l - 1) / 2 &&& o / 2 := Nat.and_div_two
    have m : ((l - 1) &&& o) % 2 = 1 ↔ (l - 1) % 2 = 1 ∧ o % 2 = 1 := Nat.and_mod_two_eq_one
    by_cases c : l % 2 = 1
    · rw [show (l - 1) / 2 = l / 2 by omega, l2] at d
      omega
    · have h2 : s / 2 < l / 2 := by omega
      have i := ih (o / 2) (l / 2) (s / 2) (by omega) l2 s2 h2
      rw [show (l - 1) / 2 = l / 2 - 1 by omega] at d
      rw [← d] at i
      have m2 : o % 2 = 1 → ((l - 1) &&& o) % 2 = 1 := fun z => m.mpr ⟨by omega, z⟩
      by_cases e : s % 2 = 1
      · have := m2 (sm e); omega
      · omega
/-- how many subsets of o come behind l -/
def rk : Nat → Nat → Nat → Nat
  | 0, _, _ => 0
  | k + 1, o, l => if o % 2 = 1 then 2 * rk k (o / 2) (l / 2) + l % 2 else rk k (o / 2) (l / 2)
theorem rk_s (k o l : Nat) : rk (k + 1) o l = if o % 2 = 1 then 2 * rk k (o / 2) (l / 2) + l % 2 else rk k (o / 2) (l / 2) := rfl
theorem rk_0 : ∀ k o : Nat, rk k o 0 = 0 := by
  intro k
  induction k with
  | zero => intro o; rfl
  | succ k ih =>
    intro o
    rw [rk_s, ih]
    by_cases c : o % 2 = 1
    · rw [if_pos c]
    · rw [if_neg c]
theorem rk_pred : ∀ k o l : Nat, l < 2 ^ k → l &&& o = l → 0 < l → rk k o ((l - 1) &&& o) + 1 = rk k o l := by
  intro k
  induction k with
  | zero => intro o l hl _ h; exact absurd h (by have : (2 : Nat) ^ 0 = 1 := rfl; omega)
  | succ k ih =>
    intro o l hl ho h
    have pk : (2 : Nat) ^ (k + 1) = 2 ^ k * 2 := Nat.pow_succ ..
    have l2 : l / 2 &&& o / 2 = l / 2 := by rw [← Nat.and_div_two, ho]
    have lm : l % 2 = 1 → o % 2 = 1 := fun z => by
      have y : (l &&& o) % 2 = 1 := by rw [ho]; exact z
      exact (Nat.and_mod_two_eq_one.mp y).2
    have d : ((l - 1) &&& o) / 2 = (l - 1) / 2 &&& o / 2 := Nat.and_div_two
    have m : ((l - 1) &&& o) % 2 = 1 ↔ (l - 1) % 2 = 1 ∧ o % 2 = 1 := Nat.and_mod_two_eq_one
    rw [rk_s, rk_s, d]
    by_cases c : l % 2 = 1
    · have oc := lm c
      rw [if_pos oc, if_pos oc, show (l - 1) / 2 = l / 2 by omega, l2]
      have : ¬ ((l - 1) &&& o) % 2 = 1 := fun z => by have := (m.mp z).1; omega
      omega
    · have i := ih (o / 2) (l / 2) (by omega) l2 (by omega)
      rw [show (l - 1) / 2 = l / 2 - 1 by omega]
      by_cases oc : o % 2 = 1
      · rw [if_pos oc, if_pos oc]
        have := m.mpr ⟨by omega, oc⟩
        omega
      · rw [if_neg oc, if_neg oc]; exact i
theorem rk_top : ∀ k o : Nat, o < 2 ^ k → rk k o o + 1 = 2 ^ cnB (fun j => o.testBit j) k := by
  intro k
  induction k with
  | zero => intro o _; rfl
  | succ k ih =>
    intro o ho
    have pk : (2 : Nat) ^ (k + 1) = 2 ^ k * 2 := Nat.pow_succ ..
    have i := ih (o / 2) (by omega)
    have sh : ∀ n, cnB (fun j => o.testBit j) (n + 1) = (if o % 2 = 1 then 1 else 0) + cnB (fun j => (o / 2).testBit j) n := by
      intro n
      induction n with
      | zero =>
        rw [cnB_s]
        show 0 + (if o.testBit 0 = true then 1 else 0) = _ + 0
        rw [Nat.testBit_zero]
        by_cases c : o % 2 = 1
        · rw [decide_eq_true c, if_pos rfl, if_pos c]
        · rw [decide_eq_false c, if_neg Bool.false_ne_true, if_neg c]
      | succ n ihn =>
        rw [cnB_s, ihn, cnB_s (fun j => (o / 2).testBit j)]
        show _ + (if o.testBit (n + 1) = true then 1 else 0) = _
        rw [Nat.testBit_add_one]; omega
    rw [sh k, rk_s]
    by_cases c : o % 2 = 1
    · rw [if_pos c, if_pos c, Nat.pow_add]
      have : (2 : Nat) ^ 1 = 2 := rfl
      omega
    · rw [if_neg c, if_neg c, Nat.zero_add]; exact i
/-- sets of the machine as numbers -/
theorem bt_tb {x : Int32} (h0 : 0 ≤ x.toInt) {j : Nat} (hj : j < 32) : BT x j = x.toInt.toNat.testBit j := by
  obtain ⟨n, e, hn, hn2⟩ := nI_ofI h0
  have e2 : x.toInt.toNat = n := by omega
  rw [e2, e]
  show (BitVec.ofNat 32 n).getLsbD j = _
  rw [BitVec.getLsbD_ofNat, decide_eq_true hj, Bool.true_and]
theorem and_N {x y : Int32} (h0 : 0 ≤ x.toInt) (h1 : 0 ≤ y.toInt) : (x &&& y).toInt.toNat = x.toInt.toNat &&& y.toInt.toNat := by
  obtain ⟨n, e, hn, hn2⟩ := nI_ofI h0
  obtain ⟨m, f, hm, hm2⟩ := nI_ofI h1
  have le : n &&& m ≤ n := Nat.and_le_left
  rw [show x.toInt.toNat = n by omega, show y.toInt.toNat = m by omega, e, f, n_and, nI_toInt (by omega)]
  rfl
/-- subsets -/
def SBS (s o : Int32) : Prop := 0 ≤ s.toInt ∧ s.toInt.toNat &&& o.toInt.toNat = s.toInt.toNat
theorem SBS.le {s o : Int32} (h : SBS s o) (h0 : 0 ≤ o.toInt) : s.toInt ≤ o.toInt := by
  have a := h.2
  have b : s.toInt.toNat &&& o.toInt.toNat ≤ o.toInt.toNat := Nat.and_le_right
  have := h.1
  omega
theorem SBS.bit {s o : Int32} (h : SBS s o) (h0 : 0 ≤ o.toInt) {j : Nat} (hj : j < 32) (hb : BT s j = true) : BT o j = true := by
  rw [bt_tb h.1 hj, ← h.2, Nat.testBit_and, Bool.and_eq_true] at hb
  rw [bt_tb h0 hj]; exact hb.2
theorem SBS.of {s o : Int32} (s0 : 0 ≤ s.toInt) (h0 : 0 ≤ o.toInt) (h : ∀ j, j < 32 → BT s j = true → BT o j = true) : SBS s o := by
  refine ⟨s0, Nat.eq_of_testBit_eq (fun j => ?_)⟩
  rw [Nat.testBit_and]
  rcases Nat.lt_or_ge j 32 with q | q
  · rw [← bt_tb s0 q, ← bt_tb h0 q]
    cases hs : BT s j
    · rfl
    · rw [h j q hs]; rfl
  · have b := i_bd s
    have z : s.toInt.toNat.testBit j = false := Nat.testBit_lt_two_pow (Nat.lt_of_lt_of_le (show s.toInt.toNat < 2 ^ 31 by omega) (by have := pw_mono (show 31 ≤ j by omega); exact this))
    rw [z]; rfl
/-- the least over the subsets of o that are past l -/
def MNS (o : Int32) (l : Int) (C : Int32 → Prop) (F : Int32 → Int) (D v : Int) : Prop := v ≤ D ∧ (v = D ∨ ∃ s, SBS s o ∧ C s ∧ v = F s) ∧ ∀ s, SBS s o → l < s.toInt → C s → v ≤ F s
theorem MNS.start {o : Int32} {l : Int} {C : Int32 → Prop} {F : Int32 → Int} {D v : Int} (h0 : 0 ≤ o.toInt) (hl : o.toInt ≤ l) (e : v = D) : MNS o l C F D v := ⟨by omega, Or.inl e, fun s hs h => by have := hs.le h0; exact absurd h (by omega)⟩
theorem MNS.next {o l l' : Int32} {C : Int32 → Prop} {F : Int32 → Int} {D v v' : Int} (h : MNS o l.toInt C F D v) (o0 : 0 ≤ o.toInt) (o12 : o.toInt < 4096) (hl : SBS l o) (x' : Int) (e : (l.toInt = 0 ∧ x' = -1) ∨ (0 < l.toInt ∧ l' = (l - 1) &&& o ∧ x' = l'.toInt)) (hv : (C l ∧ v' = min v (F l)) ∨ (v' = v ∧ (C l → v ≤ F l))) : MNS o x' C F D v' := by
  refine ⟨by have := h.1; omega, ?_, fun s hs q c => ?_⟩
  · rcases hv with ⟨a, b⟩ | ⟨a, b⟩
    · rcases (by omega : v' = v ∨ v' = F l) with z | z
      · rcases h.2.1 with y | ⟨s, y1, y2, y3⟩
        · exact Or.inl (by omega)
        · exact Or.inr ⟨s, y1, y2, by omega⟩
      · exact Or.inr ⟨l, hl, a, z⟩
    · rcases h.2.1 with y | ⟨s, y1, y2, y3⟩
      · exact Or.inl (by omega)
      · exact Or.inr ⟨s, y1, y2, by omega⟩
  · have below : ∀ s, SBS s o → x' < s.toInt → l.toInt ≤ s.toInt := fun s hs q => by
      rcases e with ⟨e1, e2⟩ | ⟨e1, e2, e3⟩
      · have := hs.1; omega
      · rcases Int.lt_or_le s.toInt l.toInt with k | k
        · exfalso
          have lo := hl.le o0
          have l1 : (1 : Int32).toInt = 1 := rfl
          have em : (l - 1).toInt = l.toInt - (1 : Int32).toInt := fb_subI (by omega) (by omega)
          have p12 : (2 : Nat) ^ 12 = 4096 := rfl
          have y := sub_pred 12 o.toInt.toNat l.toInt.toNat s.toInt.toNat (by omega) hl.2 hs.2 (by have := hs.1; omega)
          have z := and_N (x := l - 1) (y := o) (by omega) o0
          rw [← e2, show (l - 1).toInt.toNat = l.toInt.toNat - 1 by omega] at z
          have s0 := hs.1
          have l0 := andb_l (x := l - 1) (y := o) (by omega)
          rw [← e2] at l0
          omega
        · exact k
    rcases (by have := below s hs q; omega : l.toInt < s.toInt ∨ s.toInt = l.toInt) with k | k
    · have y := h.2.2 s hs k c
      rcases hv with ⟨_, b⟩ | ⟨a, _⟩
      · omega
      · omega
    · have es : s = l := (i_eq _ _).mpr k
      subst es
      rcases hv with ⟨_, b⟩ | ⟨a, b⟩
      · omega
      · have := b c; omega
theorem MNS.cg {o o' : Int32} {l l' : Int} {C C' : Int32 → Prop} {F F' : Int32 → Int} {D v : Int} (h : MNS o l C F D v) (eo : o = o') (el : l = l') (e : ∀ s, SBS s o → (C s ↔ C' s)) (f : ∀ s, SBS s o → C s → F s = F' s) : MNS o' l' C' F' D v := by
  subst eo; subst el
  refine ⟨h.1, ?_, fun s hs q c => ?_⟩
  · rcases h.2.1 with y | ⟨s, y1, y2, y3⟩
    · exact Or.inl y
    · exact Or.inr ⟨s, y1, (e s y1).mp y2, by rw [← f s y1 y2]; exact y3⟩
  · have c' := (e s hs).mpr c
    rw [← f s hs c']; exact h.2.2 s hs q c'
theorem SBS.next {o l : Int32} (h : SBS l o) (o0 : 0 ≤ o.toInt) (h1 : 0 < l.toInt) : SBS ((l - 1) &&& o) o := by
  have l1 : (1 : Int32).toInt = 1 := rfl
  have em : (l - 1).toInt = l.toInt - (1 : Int32).toInt := fb_subI (by have := i_bd l; omega) (by have := i_bd l; omega)
  have a := andb_l (x := l - 1) (y := o) (by omega)
  refine SBS.of a.1 o0 (fun j hj hb => ?_)
  rw [bt_and2, Bool.and_eq_true] at hb
  exact hb.2
/-- the lowest of a set, and what else is in it -/
def lwx (x : Int32) : Int32 := x &&& (-x)
def lwo (x : Int32) : Int32 := x ^^^ lwx x
theorem lw_all : ∀ a, a < 64 → ∀ b, b < 64 → (64 * a + b = 0 ∨ (0 < (lwx (nI (64 * a + b))).toInt ∧ 0 ≤ (lwo (nI (64 * a + b))).toInt ∧ (lwo (nI (64 * a + b))).toInt < (nI (64 * a + b)).toInt ∧ (List.range 12).any (fun j => lwx (nI (64 * a + b)) == nI (2 ^ j)) = true)) := by decide +kernel
theorem lw_of {x : Int32} (h0 : 1 ≤ x.toInt) (h1 : x.toInt < 4096) : 0 < (lwx x).toInt ∧ (0 ≤ (lwo x).toInt ∧ (lwo x).toInt < x.toInt) ∧ ∃ j, j < 12 ∧ lwx x = nI (2 ^ j) := by
  obtain ⟨k, e, hk, hk2⟩ := nI_ofI (x := x) (by omega)
  have z := lw_all (k / 64) (by omega) (k % 64) (by omega)
  rw [show 64 * (k / 64) + k % 64 = k by omega, ← e] at z
  rcases z with z | ⟨z1, z2, z3, z4⟩
  · omega
  · refine ⟨z1, ⟨z2, z3⟩, ?_⟩
    rw [List.any_eq_true] at z4
    obtain ⟨j, j1, j2⟩ := z4
    exact ⟨j, List.mem_range.mp j1, eq_of_beq j2⟩
theorem lwo_bt (x : Int32) {j : Nat} : BT (lwo x) j = (BT x j && !BT (-x) j) := by
  unfold lwo lwx
  rw [bx_xor, bt_and2]
  cases BT x j <;> cases BT (-x) j <;> rfl
/-- without its lowest, the reference's way -/
theorem lwo_M (x : Int32) : x &&& (lwx x ^^^ (-1)) = lwo x := bt_ext (fun j hj => by
  rw [bt_and2, bx_xor, show BT (-1) j = true from bm_1 j hj, lwo_bt]
  unfold lwx
  rw [bt_and2]
  cases BT x j <;> cases BT (-x) j <;> rfl)

/-- the class's walk through the subsets: n are left -/
def KLP (o l : Int32) (n : Int) (C : Int32 → Prop) (F : Int32 → Int) (D v : Int) : Prop := (n = 0 ∧ MNS o (-1) C F D v) ∨ (0 < n ∧ SBS l o ∧ n = ((rk 12 o.toInt.toNat l.toInt.toNat : Nat) : Int) + 1 ∧ MNS o l.toInt C F D v)
theorem SBS.rf {o : Int32} (h : 0 ≤ o.toInt) : SBS o o := ⟨h, Nat.and_self _⟩
theorem KLP.start {o : Int32} {n : Int} {C : Int32 → Prop} {F : Int32 → Int} {D v : Int} (h0 : 0 ≤ o.toInt) (h1 : o.toInt < 4096) (hn : n = 2 ^ szB o) (e : v = D) : KLP o o n C F D v := by
  have t := rk_top 12 o.toInt.toNat (by have : (2 : Nat) ^ 12 = 4096 := rfl; omega)
  have s : cnB (fun j => o.toInt.toNat.testBit j) 12 = szB o := cnB_cong 12 (fun j hj => (bt_tb h0 (by omega)).symm)
  rw [s] at t
  have en : ((2 ^ szB o : Nat) : Int) = 2 ^ szB o := by simp
  have p := Nat.two_pow_pos (szB o)
  exact Or.inr ⟨by omega, SBS.rf h0, by omega, MNS.start h0 (Int.le_refl _) e⟩
theorem KLP.next {o l l' : Int32} {n n' : Int} {C : Int32 → Prop} {F : Int32 → Int} {D v v' : Int} (h : KLP o l n C F D v) (hn : 0 < n) (o0 : 0 ≤ o.toInt) (o12 : o.toInt < 4096) (e : n' = n - 1) (el : l' = (l - 1) &&& o) (hv : (C l ∧ v' = min v (F l)) ∨ (v' = v ∧ (C l → v ≤ F l))) : KLP o l' n' C F D v' := by
  rcases h with ⟨z, _⟩ | ⟨_, h1, h2, h3⟩
  · exact absurd z (by omega)
  · have l0 := h1.1
    have lo := h1.le o0
    rcases (by omega : l.toInt = 0 ∨ 0 < l.toInt) with q | q
    · have r := rk_0 12 o.toInt.toNat
      rw [show l.toInt.toNat = 0 by omega, r] at h2
      exact Or.inl ⟨by omega, h3.next o0 o12 h1 (-1) (l' := l) (Or.inl ⟨q, rfl⟩) hv⟩
    · have r := rk_pred 12 o.toInt.toNat l.toInt.toNat (by have : (2 : Nat) ^ 12 = 4096 := rfl; omega) h1.2 (by omega)
      have nx := h1.next o0 q
      have l1 : (1 : Int32).toInt = 1 := rfl
      have em : (l - 1).toInt = l.toInt - (1 : Int32).toInt := fb_subI (by omega) (by omega)
      have z := and_N (x := l - 1) (y := o) (by omega) o0
      rw [← el, show (l - 1).toInt.toNat = l.toInt.toNat - 1 by omega] at z
      rw [← el] at nx
      refine Or.inr ⟨by omega, nx, by rw [z]; omega, h3.next o0 o12 h1 l'.toInt (Or.inr ⟨q, el, rfl⟩) hv⟩
theorem KLP.fin {o l : Int32} {n : Int} {C : Int32 → Prop} {F : Int32 → Int} {D v : Int} (h : KLP o l n C F D v) (hn : n ≤ 0) : MNS o (-1) C F D v := by
  rcases h with ⟨_, z⟩ | ⟨z, _⟩
  · exact z
  · exact absurd z (by omega)
theorem a1_BT (x : Int32) : x &&& 1 = if BT x 0 = true then 1 else 0 := by
  have o1 : ∀ i, i < 32 → (1 : Int32).toBitVec.getLsbD i = decide (i = 0) := by decide +kernel
  by_cases h : BT x 0 = true
  · rw [if_pos h]
    exact bt_ext (fun j hj => by
      rw [bt_and2, show BT 1 j = decide (j = 0) from o1 j hj]
      by_cases c : j = 0
      · rw [c, h]; rfl
      · rw [decide_eq_false c, Bool.and_false])
  · rw [if_neg h]
    exact bt_ext (fun j hj => by
      rw [bt_and2, show BT 1 j = decide (j = 0) from o1 j hj, show BT 0 j = false from bt_z j hj]
      by_cases c : j = 0
      · rw [c, Bool.eq_false_iff.mpr h]; rfl
      · rw [decide_eq_false c, Bool.and_false])
/-- the class's table of stacks, at a height -/
def SKR (L K : Nat → Int32) (h : Int) (x : Int32) : Prop := MNS (lwo x) (-1) (fun s => (L (x ^^^ s).toInt.toNat).toInt ≤ h) (fun s => (K s.toInt.toNat + 1).toInt) 12 (K x.toInt.toNat).toInt
theorem SKR.fr {L K K' : Nat → Int32} {h : Int} {x : Int32} (H : SKR L K h x) (x1 : 1 ≤ x.toInt) (x2 : x.toInt < 4096) (e : ∀ j : Nat, j ≤ x.toInt.toNat → K' j = K j) : SKR L K' h x := by
  obtain ⟨_, ⟨l1, l2⟩, _⟩ := lw_of x1 x2
  unfold SKR
  rw [e _ (Nat.le_refl _)]
  exact H.cg rfl rfl (fun _ _ => Iff.rfl) (fun s hs _ => by have := hs.le l1; have := hs.1; rw [e s.toInt.toNat (by omega)])
def SKC (w : Int) (L : Nat → Int32) (h x : Int) : Prop := ∃ K : Nat → Int32, K 0 = 0 ∧ (∀ s : Int32, 1 ≤ s.toInt → s.toInt < 2 ^ w.toNat → (BT s 0 = false ∨ s.toInt = 2 ^ w.toNat - 1) → SKR L K h s) ∧ x = (K (2 ^ w.toNat - 1)).toInt
def NEC (M : Nat → Nat → Bool) (wt br dp : Nat → Int32) (rs : Nat → Nat → Int32) (w : Int) (h x : Int) : Prop := (¬ (1 ≤ h ∧ h ≤ 999) ∧ x = -1) ∨ ((1 ≤ h ∧ h ≤ 999) ∧ (((∃ j : Nat, (j : Int) < w ∧ h < (dp j).toInt) ∧ x = -1) ∨ ((∀ j : Nat, (j : Int) < w → (dp j).toInt ≤ h) ∧ ∃ T L : Nat → Int32, HTC M wt br dp rs w.toNat w T L ∧ SKC w L h x)))

set_option maxHeartbeats 4000000 in
set_option maxRecDepth 100000 in
theorem c_J6_lowestOneBit_k (l : Launch) (D : DG) (cyC cyI cyJ cyZ cyO : ClassId) (p0 : Int32) (h_p0 : 0 ≤ (p0).toInt ∧ (p0).toInt ≤ 4095) : KK l D (TY cyC cyI cyJ cyZ cyO) yJ6_lowestOneBit_0f7a4 cJ6_lowestOneBit_0f7a4 1 (some .int) ({ frames := 0, cells := 0, slots := 0, locals := 0 } : Room) 0 0 [.int p0] [] (fun u => some (.int (u.2.1 0))) (fun u => (0 ≤ (u.2.1 0).toInt ∧ (u.2.1 0).toInt ≤ 4095) ∧ ((u.2.1 0).toInt ≤ (p0).toInt) ∧ ((u.2.1 0) = lwx p0)) (fun u => []) := by
  refine KK.of (lv0 := [(0, .int p0)]) (by decide) rfl (Nat.le_of_ble_eq_true rfl) ?_
  intro p e s m args below meth c A C hr hk hin
  refine j_iload_n (pc := 0) C dJ6_lowestOneBit_0f7a4_0 rfl 0 rfl ?_
  refine j_iload_n (pc := 1) C dJ6_lowestOneBit_0f7a4_1 rfl 0 rfl ?_
  obtain ⟨v_1, ev_1⟩ : ∃ z : Int32, -p0 = z := ⟨_, rfl⟩
  refine j_ineg (pc := 2) (v := v_1) C dJ6_lowestOneBit_0f7a4_2 ev_1 ?_
  obtain ⟨v_2, ev_2⟩ : ∃ z : Int32, p0 &&& v_1 = z := ⟨_, rfl⟩
  have hv_2 : 0 ≤ v_2.toInt ∧ v_2.toInt ≤ p0.toInt := by rw [← ev_2]; exact andb_l (by omega)
  refine j_iand (pc := 3) (v := v_2) C dJ6_lowestOneBit_0f7a4_3 ev_2 ?_
  exact j_iret (pc := 4) C hr hk (fun i => [].getD i 0, fun i => [v_2].getD i 0, fun i => [].getD i (fun _ => 0), fun i => [].getD i (fun _ => 0)) rfl (show (0 ≤ (v_2).toInt ∧ (v_2).toInt ≤ 4095) ∧ (v_2.toInt ≤ (p0).toInt) ∧ (v_2 = lwx p0) from ⟨by omega, by omega, (by unfold lwx; rw [← ev_2, ← ev_1])⟩) [] (by decide) rfl (by decide) (by decide) dJ6_lowestOneBit_0f7a4_4
set_option maxHeartbeats 4000000 in
set_option maxRecDepth 100000 in
theorem c_X0_fewestOf (l : Launch) (D : DG) (cyC cyI cyJ cyZ cyO : ClassId) (h0 : Nat) (h2 : Nat) (h3 : Nat) (h1 : Nat) (h_n : Nat) (p1 : Int32) (p2 : Int32) (h_known : Int32) (h_wares : Int32) (h_least : Nat → Int32) (h_stacks : Nat → Int32) (h_h_known : 0 ≤ (h_known).toInt ∧ (h_known).toInt ≤ 1) (h_h_wares : 0 ≤ (h_wares).toInt ∧ (h_wares).toInt ≤ 12) (h_p1 : 1 ≤ (p1).toInt ∧ (p1).toInt ≤ 4095) (hln : (2 : Int) ^ (h_wares).toInt.toNat ≤ (h_n : Int)) (hbn : h_n ≤ 4096) (hset : (p1).toInt < (2 : Int) ^ (h_wares).toInt.toNat) : KK l D (TY cyC cyI cyJ cyZ cyO) yX0_fewestOf cX0_fewestOf 8 (some .int) ({ frames := 1, cells := 0, slots := 0, locals := 20 } : Room) 0 0 [.ref h0, .int p1, .int p2] [(h0, .inr (0, [.int h_known, .int h_wares, .ref h1, .ref h2, .ref h3])), (h2, .inl (cyI, h_n, .inl h_least)), (h3, .inl (cyI, h_n, .inl h_stacks))] (fun u => some (.int (u.2.1 0))) (fun u => (MNS (lwo p1) (-1) (fun s => (h_least (p1 ^^^ s).toInt.toNat).toInt ≤ (p2).toInt) (fun s => (h_stacks s.toInt.toNat + 1).toInt) 12 (u.2.1 0).toInt)) (fun u => [(h0, .inr (0, [.int h_known, .int h_wares, .ref h1, .ref h2, .ref h3])), (h2, .inl (cyI, h_n, .inl h_least)), (h3, .inl (cyI, h_n, .inl h_stacks))]) := by
  refine KK.of (lv0 := [(0, .ref h0), (1, .int p1), (2, .int p2)]) (by decide) rfl (Nat.le_of_ble_eq_true rfl) ?_
  intro p e s m args below meth c A C hr hk hin
  have hpw1 := pw1 (h_wares).toInt.toNat
  refine j_iload_n (pc := 0) C dX0_fewestOf_0 rfl 1 rfl ?_
  refine j_callS (pc := 1) (As := [.int p1]) (rest := []) (wr := [(h0, .inr (0, [.int h_known, .int h_wares, .ref h1, .ref h2, .ref h3])), (h2, .inl (cyI, h_n, .inl h_least)), (h3, .inl (cyI, h_n, .inl h_stacks))]) C (c_J6_lowestOneBit_k l D cyC cyI cyJ cyZ cyO p1 (by omega)) wd_140 wd_85 wd_141 wd_142 ⟨by decide, by decide, rfl⟩ rfl ⟨rfl, rfl, by decide, by decide⟩ ⟨by decide, by decide⟩ [] [0, 1, 2] rfl rfl ⟨by decide, by decide, by decide⟩ rfl (Nat.le_of_ble_eq_true rfl) dX0_fewestOf_1 (fun u_1 hw_2 => ?_)
  refine j_eq (ws2 := [(h0, .inr (0, [.int h_known, .int h_wares, .ref h1, .ref h2, .ref h3])), (h2, .inl (cyI, h_n, .inl h_least)), (h3, .inl (cyI, h_n, .inl h_stacks))]) (pc2 := 4) (lv2 := [(0, .ref h0), (1, .int p1), (2, .int p2)]) (st2 := [.int (u_1.2.1 0)]) rfl rfl rfl rfl ?_
  obtain ⟨hw_2_0, hw_2_1, hw_2_2⟩ := hw_2
  refine j_istore_n (pc := 4) (lv' := [(3, .int (u_1.2.1 0)), (0, .ref h0), (1, .int p1), (2, .int p2)]) C dX0_fewestOf_4 rfl (by decide) rfl ?_
  refine j_iload_n (pc := 5) C dX0_fewestOf_5 rfl 2 rfl ?_
  refine j_iload_n (pc := 6) C dX0_fewestOf_6 rfl 0 rfl ?_
  obtain ⟨v_3, ev_3⟩ : ∃ z : Int32, p1 ^^^ (u_1.2.1 0) = z := ⟨_, rfl⟩
  have hv_3 : 0 ≤ v_3.toInt ∧ v_3.toInt ≤ 4095 := by rw [← ev_3]; exact xorb 12 (by decide) (by omega) (by omega) (by omega) (by omega)
  have hv_3p : 0 ≤ v_3.toInt ∧ v_3.toInt < 2 ^ (h_wares).toInt.toNat := by rw [← ev_3]; exact xorP (by omega) (by omega) (by omega) (by omega) (by omega)
  refine j_ixor (pc := 7) (v := v_3) C dX0_fewestOf_7 ev_3 ?_
  refine j_istore (pc := 8) (lv' := [(4, .int v_3), (3, .int (u_1.2.1 0)), (0, .ref h0), (1, .int p1), (2, .int p2)]) C dX0_fewestOf_8 (by decide) rfl ?_
  refine j_bipush (pc := 10) (v := 12) C dX0_fewestOf_10 (by decide) ?_
  refine j_istore (pc := 12) (lv' := [(5, .int 12), (4, .int v_3), (3, .int (u_1.2.1 0)), (0, .ref h0), (1, .int p1), (2, .int p2)]) C dX0_fewestOf_12 (by decide) rfl ?_
  refine j_iload (pc := 14) C dX0_fewestOf_14 1 rfl ?_
  refine j_istore (pc := 16) (lv' := [(6, .int v_3), (5, .int 12), (4, .int v_3), (3, .int (u_1.2.1 0)), (0, .ref h0), (1, .int p1), (2, .int p2)]) C dX0_fewestOf_16 (by decide) rfl ?_
  refine j_iconst (pc := 18) (v := 1) C dX0_fewestOf_18 (by decide) ?_
  refine j_iload (pc := 19) C dX0_fewestOf_19 2 rfl ?_
  refine j_callS (pc := 21) (As := [.int v_3]) (rest := [.int 1]) (wr := [(h0, .inr (0, [.int h_known, .int h_wares, .ref h1, .ref h2, .ref h3])), (h2, .inl (cyI, h_n, .inl h_least)), (h3, .inl (cyI, h_n, .inl h_stacks))]) C (c_J6_bitCount_0f7a4 l D cyC cyI cyJ cyZ cyO v_3) wd_84 wd_85 wd_143 wd_87 ⟨by decide, by decide, rfl⟩ rfl ⟨rfl, rfl, by decide, by decide⟩ ⟨by decide, by decide⟩ [] [0, 1, 2] rfl rfl ⟨by decide, by decide, by decide⟩ rfl (Nat.le_of_ble_eq_true rfl) dX0_fewestOf_21 (fun u_4 hw_5 => ?_)
  refine j_eq (ws2 := [(h0, .inr (0, [.int h_known, .int h_wares, .ref h1, .ref h2, .ref h3])), (h2, .inl (cyI, h_n, .inl h_least)), (h3, .inl (cyI, h_n, .inl h_stacks))]) (pc2 := 24) (lv2 := [(6, .int v_3), (5, .int 12), (4, .int v_3), (3, .int (u_1.2.1 0)), (0, .ref h0), (1, .int p1), (2, .int p2)]) (st2 := [.int (u_4.2.1 0), .int 1]) rfl rfl rfl rfl ?_
  obtain ⟨hw_5_0, hw_5_1⟩ := hw_5
  have hsz9 : ((u_4.2.1 0)).toInt = ((szB v_3 : Nat) : Int) := (by rw [hw_5_1]; exact bc_of (by omega) (by omega))
  have hsz8 : szB v_3 ≤ 12 := cnB_le _ 12
  obtain ⟨v_6, ev_6⟩ : ∃ z : Int32, 1 <<< ((u_4.2.1 0) &&& 31) = z := ⟨_, rfl⟩
  have el_1 : (1 : Int32).toInt = 1 := rfl
  have hv_6 : 1 ≤ v_6.toInt ∧ v_6.toInt ≤ 4096 := by rw [← ev_6]; exact shl1_iv 0 12 (by omega) (by omega) (by omega)
  refine j_ishl (pc := 24) (v := v_6) C dX0_fewestOf_24 ev_6 ?_
  refine j_istore (pc := 25) (lv' := [(7, .int v_6), (6, .int v_3), (5, .int 12), (4, .int v_3), (3, .int (u_1.2.1 0)), (0, .ref h0), (1, .int p1), (2, .int p2)]) C dX0_fewestOf_25 (by decide) rfl ?_
  have loop_7 : ∀ (k_7 : Nat) (x7_7 : Int32) (x7_6 : Int32) (x7_5 : Int32), (-2147483648 ≤ (x7_7).toInt ∧ (x7_7).toInt ≤ 2147483647) → (0 ≤ (x7_6).toInt ∧ (x7_6).toInt ≤ 4095) → (x7_6.toInt < (2 : Int) ^ (h_wares).toInt.toNat) → (KLP v_3 x7_6 x7_7.toInt (fun s => (h_least (p1 ^^^ s).toInt.toNat).toInt ≤ (p2).toInt) (fun s => (h_stacks s.toInt.toNat + 1).toInt) 12 x7_5.toInt) → (x7_7.toInt).toNat < k_7 → J p l e ({ frames := 1, cells := 0, slots := 0, locals := 20 } : Room) s m args below meth c D A 8 0 0 (QX below D (TY cyC cyI cyJ cyZ cyO) A (fun u => some (.int (u.2.1 0))) (fun u => (MNS (lwo p1) (-1) (fun s => (h_least (p1 ^^^ s).toInt.toNat).toInt ≤ (p2).toInt) (fun s => (h_stacks s.toInt.toNat + 1).toInt) 12 (u.2.1 0).toInt)) (fun u => [(h0, .inr (0, [.int h_known, .int h_wares, .ref h1, .ref h2, .ref h3])), (h2, .inl (cyI, h_n, .inl h_least)), (h3, .inl (cyI, h_n, .inl h_stacks))]) args s 0 0) [(h0, .inr (0, [.int h_known, .int h_wares, .ref h1, .ref h2, .ref h3])), (h2, .inl (cyI, h_n, .inl h_least)), (h3, .inl (cyI, h_n, .inl h_stacks))] 27 [(7, .int x7_7), (6, .int x7_6), (5, .int x7_5), (4, .int v_3), (3, .int (u_1.2.1 0)), (0, .ref h0), (1, .int p1), (2, .int p2)] [] := by
    intro k_7
    induction k_7 with
    | zero =>
      intro x7_7 x7_6 x7_5 hi_7_0 hi_7_1 hr_7 hq_7_0 hm_7
      exact absurd hm_7 (Nat.not_lt_zero _)
    | succ k_7 ih_7 =>
      intro x7_7 x7_6 x7_5 hi_7_0 hi_7_1 hr_7 hq_7_0 hm_7
      refine j_iload (pc := 27) C dX0_fewestOf_27 0 rfl ?_
      refine j_if_le (pc := 29) (tgt := 85) C dX0_fewestOf_29 (by decide) (fun c_8 => ?_) (fun c_8 => ?_)
      · skip
        have el_0 : (0 : Int32).toInt = 0 := rfl
        rw [i_le] at c_8
        refine j_iload (pc := 85) C dX0_fewestOf_85 2 rfl ?_
        exact j_iret (pc := 87) C hr hk (fun i => [].getD i 0, fun i => [x7_5].getD i 0, fun i => [].getD i (fun _ => 0), fun i => [].getD i (fun _ => 0)) rfl (show (MNS (lwo p1) (-1) (fun s => (h_least (p1 ^^^ s).toInt.toNat).toInt ≤ (p2).toInt) (fun s => (h_stacks s.toInt.toNat + 1).toInt) 12 x7_5.toInt) from ((by have ho9 : v_3 = lwo p1 := (by unfold lwo; rw [← hw_2_2, ev_3]); rw [← ho9]; exact KLP.fin hq_7_0 (by omega)))) [0, 1, 2] (by decide) rfl (by decide) (by decide) dX0_fewestOf_87
      · skip
        have el_0 : (0 : Int32).toInt = 0 := rfl
        rw [i_le] at c_8
        refine j_aload_n (pc := 32) C dX0_fewestOf_32 rfl 5 rfl ?_
        refine j_get (pc := 33) (ci := 0) (v := .ref h3) C inw_0 0 rfl rfl 4 (by decide) wd_144 rfl rfl dX0_fewestOf_33 ?_
        refine j_iload (pc := 36) C dX0_fewestOf_36 1 rfl ?_
        obtain ⟨v_9, ev_9⟩ : ∃ z, h_stacks (x7_6).toInt.toNat = z := ⟨_, rfl⟩
        have env_9 : (h_stacks (x7_6).toInt.toNat).toInt = v_9.toInt := by rw [ev_9]
        refine j_iald (pc := 38) (v := v_9) (k := (x7_6).toInt.toNat) C 2 1 rfl rfl (i_nn hi_7_1.1) rfl (i_lt_n hi_7_1.1 (by omega)) ev_9 dX0_fewestOf_38 ?_
        refine j_iconst (pc := 39) (v := 1) C dX0_fewestOf_39 (by decide) ?_
        obtain ⟨v_10, ev_10⟩ : ∃ z : Int32, v_9 + 1 = z := ⟨_, rfl⟩
        have el_1 : (1 : Int32).toInt = 1 := rfl
        refine j_iadd (pc := 40) (v := v_10) C dX0_fewestOf_40 ev_10 ?_
        refine j_iload (pc := 41) C dX0_fewestOf_41 2 rfl ?_
        refine j_icmp_ge (pc := 43) (tgt := 70) C dX0_fewestOf_43 (by decide) (fun c_11 => ?_) (fun c_11 => ?_)
        · skip
          rw [i_le] at c_11
          refine j_iload (pc := 70) C dX0_fewestOf_70 1 rfl ?_
          refine j_iconst (pc := 72) (v := 1) C dX0_fewestOf_72 (by decide) ?_
          obtain ⟨v_12, ev_12⟩ : ∃ z : Int32, x7_6 - 1 = z := ⟨_, rfl⟩
          have el_1 : (1 : Int32).toInt = 1 := rfl
          have hv_12 : v_12.toInt = x7_6.toInt - (1 : Int32).toInt := by rw [← ev_12]; exact fb_subI (by omega) (by omega)
          refine j_isub (pc := 73) (v := v_12) C dX0_fewestOf_73 ev_12 ?_
          refine j_iload (pc := 74) C dX0_fewestOf_74 3 rfl ?_
          obtain ⟨v_13, ev_13⟩ : ∃ z : Int32, v_12 &&& v_3 = z := ⟨_, rfl⟩
          have hv_13 : 0 ≤ v_13.toInt ∧ v_13.toInt ≤ v_3.toInt := by rw [← ev_13]; exact andb_r (by omega)
          refine j_iand (pc := 76) (v := v_13) C dX0_fewestOf_76 ev_13 ?_
          refine j_istore (pc := 77) (lv' := [(6, .int v_13), (7, .int x7_7), (5, .int x7_5), (4, .int v_3), (3, .int (u_1.2.1 0)), (0, .ref h0), (1, .int p1), (2, .int p2)]) C dX0_fewestOf_77 (by decide) rfl ?_
          obtain ⟨v_14, ev_14⟩ : ∃ z : Int32, x7_7 + (-1) = z := ⟨_, rfl⟩
          have el_m1 : ((-1) : Int32).toInt = (-1) := rfl
          have := i_bd x7_7
          have hv_14 : v_14.toInt = x7_7.toInt + ((-1) : Int32).toInt := by rw [← ev_14]; exact fb_addI (by omega) (by omega)
          refine j_iinc (pc := 79) (v := v_14) (lv' := [(7, .int v_14), (6, .int v_13), (5, .int x7_5), (4, .int v_3), (3, .int (u_1.2.1 0)), (0, .ref h0), (1, .int p1), (2, .int p2)]) C dX0_fewestOf_79 1 rfl ev_14 (by decide) rfl ?_
          refine j_goto (pc := 82) (tgt := 27) C dX0_fewestOf_82 (by decide) ?_
          exact j_lv [0, 1, 2, 3, 4, 5, 6, 7] rfl (ih_7 v_14 v_13 x7_5 (by omega) (by omega) (by omega) (KLP.next hq_7_0 (by omega) (by omega) (by omega) (by omega) (by rw [ev_12, ev_13]) (Or.inr ⟨rfl, fun _ => (by have g9 : (h_stacks (x7_6).toInt.toNat + 1).toInt = (v_10).toInt := (by rw [ev_9, ev_10]); show (x7_5).toInt ≤ (h_stacks (x7_6).toInt.toNat + 1).toInt; omega)⟩)) (by omega))
        · skip
          rw [i_le] at c_11
          refine j_aload_n (pc := 46) C dX0_fewestOf_46 rfl 5 rfl ?_
          refine j_get (pc := 47) (ci := 0) (v := .ref h2) C inw_0 0 rfl rfl 3 (by decide) wd_128 rfl rfl dX0_fewestOf_47 ?_
          refine j_iload_n (pc := 50) C dX0_fewestOf_50 rfl 6 rfl ?_
          refine j_iload (pc := 51) C dX0_fewestOf_51 1 rfl ?_
          obtain ⟨v_15, ev_15⟩ : ∃ z : Int32, p1 ^^^ x7_6 = z := ⟨_, rfl⟩
          have hv_15 : 0 ≤ v_15.toInt ∧ v_15.toInt ≤ 4095 := by rw [← ev_15]; exact xorb 12 (by decide) (by omega) (by omega) (by omega) (by omega)
          have hv_15p : 0 ≤ v_15.toInt ∧ v_15.toInt < 2 ^ (h_wares).toInt.toNat := by rw [← ev_15]; exact xorP (by omega) (by omega) (by omega) (by omega) (by omega)
          refine j_ixor (pc := 53) (v := v_15) C dX0_fewestOf_53 ev_15 ?_
          obtain ⟨v_16, ev_16⟩ : ∃ z, h_least (v_15).toInt.toNat = z := ⟨_, rfl⟩
          have env_16 : (h_least (v_15).toInt.toNat).toInt = v_16.toInt := by rw [ev_16]
          refine j_iald (pc := 54) (v := v_16) (k := (v_15).toInt.toNat) C 1 1 rfl rfl (i_nn (by omega)) rfl (i_lt_n (by omega) (by omega)) ev_16 dX0_fewestOf_54 ?_
          refine j_iload_n (pc := 55) C dX0_fewestOf_55 rfl 7 rfl ?_
          refine j_icmp_gt (pc := 56) (tgt := 70) C dX0_fewestOf_56 (by decide) (fun c_17 => ?_) (fun c_17 => ?_)
          · skip
            rw [i_lt] at c_17
            refine j_iload (pc := 70) C dX0_fewestOf_70 1 rfl ?_
            refine j_iconst (pc := 72) (v := 1) C dX0_fewestOf_72 (by decide) ?_
            obtain ⟨v_18, ev_18⟩ : ∃ z : Int32, x7_6 - 1 = z := ⟨_, rfl⟩
            have el_1 : (1 : Int32).toInt = 1 := rfl
            have hv_18 : v_18.toInt = x7_6.toInt - (1 : Int32).toInt := by rw [← ev_18]; exact fb_subI (by omega) (by omega)
            refine j_isub (pc := 73) (v := v_18) C dX0_fewestOf_73 ev_18 ?_
            refine j_iload (pc := 74) C dX0_fewestOf_74 3 rfl ?_
            obtain ⟨v_19, ev_19⟩ : ∃ z : Int32, v_18 &&& v_3 = z := ⟨_, rfl⟩
            have hv_19 : 0 ≤ v_19.toInt ∧ v_19.toInt ≤ v_3.toInt := by rw [← ev_19]; exact andb_r (by omega)
            refine j_iand (pc := 76) (v := v_19) C dX0_fewestOf_76 ev_19 ?_
            refine j_istore (pc := 77) (lv' := [(6, .int v_19), (7, .int x7_7), (5, .int x7_5), (4, .int v_3), (3, .int (u_1.2.1 0)), (0, .ref h0), (1, .int p1), (2, .int p2)]) C dX0_fewestOf_77 (by decide) rfl ?_
            obtain ⟨v_20, ev_20⟩ : ∃ z : Int32, x7_7 + (-1) = z := ⟨_, rfl⟩
            have el_m1 : ((-1) : Int32).toInt = (-1) := rfl
            have := i_bd x7_7
            have hv_20 : v_20.toInt = x7_7.toInt + ((-1) : Int32).toInt := by rw [← ev_20]; exact fb_addI (by omega) (by omega)
            refine j_iinc (pc := 79) (v := v_20) (lv' := [(7, .int v_20), (6, .int v_19), (5, .int x7_5), (4, .int v_3), (3, .int (u_1.2.1 0)), (0, .ref h0), (1, .int p1), (2, .int p2)]) C dX0_fewestOf_79 1 rfl ev_20 (by decide) rfl ?_
            refine j_goto (pc := 82) (tgt := 27) C dX0_fewestOf_82 (by decide) ?_
            exact j_lv [0, 1, 2, 3, 4, 5, 6, 7] rfl (ih_7 v_20 v_19 x7_5 (by omega) (by omega) (by omega) (KLP.next hq_7_0 (by omega) (by omega) (by omega) (by omega) (by rw [ev_18, ev_19]) (Or.inr ⟨rfl, fun z9 => (by have c9 : h_least (p1 ^^^ x7_6).toInt.toNat = v_16 := (by rw [ev_15, ev_16]); have z8 : (h_least (p1 ^^^ x7_6).toInt.toNat).toInt ≤ (p2).toInt := z9; rw [c9] at z8; exfalso; omega)⟩)) (by omega))
          · skip
            rw [i_lt] at c_17
            refine j_aload_n (pc := 59) C dX0_fewestOf_59 rfl 5 rfl ?_
            refine j_get (pc := 60) (ci := 0) (v := .ref h3) C inw_0 0 rfl rfl 4 (by decide) wd_144 rfl rfl dX0_fewestOf_60 ?_
            refine j_iload (pc := 63) C dX0_fewestOf_63 1 rfl ?_
            refine j_iald (pc := 65) (v := v_9) (k := (x7_6).toInt.toNat) C 2 1 rfl rfl (i_nn hi_7_1.1) rfl (i_lt_n hi_7_1.1 (by omega)) ev_9 dX0_fewestOf_65 ?_
            refine j_iconst (pc := 66) (v := 1) C dX0_fewestOf_66 (by decide) ?_
            obtain ⟨v_21, ev_21⟩ : ∃ z : Int32, v_9 + 1 = z := ⟨_, rfl⟩
            have el_1 : (1 : Int32).toInt = 1 := rfl
            refine j_iadd (pc := 67) (v := v_21) C dX0_fewestOf_67 ev_21 ?_
            refine j_istore (pc := 68) (lv' := [(5, .int v_21), (7, .int x7_7), (6, .int x7_6), (4, .int v_3), (3, .int (u_1.2.1 0)), (0, .ref h0), (1, .int p1), (2, .int p2)]) C dX0_fewestOf_68 (by decide) rfl ?_
            refine j_iload (pc := 70) C dX0_fewestOf_70 2 rfl ?_
            refine j_iconst (pc := 72) (v := 1) C dX0_fewestOf_72 (by decide) ?_
            obtain ⟨v_22, ev_22⟩ : ∃ z : Int32, x7_6 - 1 = z := ⟨_, rfl⟩
            have el_1 : (1 : Int32).toInt = 1 := rfl
            have hv_22 : v_22.toInt = x7_6.toInt - (1 : Int32).toInt := by rw [← ev_22]; exact fb_subI (by omega) (by omega)
            refine j_isub (pc := 73) (v := v_22) C dX0_fewestOf_73 ev_22 ?_
            refine j_iload (pc := 74) C dX0_fewestOf_74 3 rfl ?_
            obtain ⟨v_23, ev_23⟩ : ∃ z : Int32, v_22 &&& v_3 = z := ⟨_, rfl⟩
            have hv_23 : 0 ≤ v_23.toInt ∧ v_23.toInt ≤ v_3.toInt := by rw [← ev_23]; exact andb_r (by omega)
            refine j_iand (pc := 76) (v := v_23) C dX0_fewestOf_76 ev_23 ?_
            refine j_istore (pc := 77) (lv' := [(6, .int v_23), (5, .int v_21), (7, .int x7_7), (4, .int v_3), (3, .int (u_1.2.1 0)), (0, .ref h0), (1, .int p1), (2, .int p2)]) C dX0_fewestOf_77 (by decide) rfl ?_
            obtain ⟨v_24, ev_24⟩ : ∃ z : Int32, x7_7 + (-1) = z := ⟨_, rfl⟩
            have el_m1 : ((-1) : Int32).toInt = (-1) := rfl
            have := i_bd x7_7
            have hv_24 : v_24.toInt = x7_7.toInt + ((-1) : Int32).toInt := by rw [← ev_24]; exact fb_addI (by omega) (by omega)
            refine j_iinc (pc := 79) (v := v_24) (lv' := [(7, .int v_24), (6, .int v_23), (5, .int v_21), (4, .int v_3), (3, .int (u_1.2.1 0)), (0, .ref h0), (1, .int p1), (2, .int p2)]) C dX0_fewestOf_79 2 rfl ev_24 (by decide) rfl ?_
            refine j_goto (pc := 82) (tgt := 27) C dX0_fewestOf_82 (by decide) ?_
            exact j_lv [0, 1, 2, 3, 4, 5, 6, 7] rfl (ih_7 v_24 v_23 v_21 (by omega) (by omega) (by omega) (KLP.next hq_7_0 (by omega) (by omega) (by omega) (by omega) (by rw [ev_22, ev_23]) (Or.inl ⟨(by have c9 : h_least (p1 ^^^ x7_6).toInt.toNat = v_16 := (by rw [ev_15, ev_16]); show (h_least (p1 ^^^ x7_6).toInt.toNat).toInt ≤ (p2).toInt; rw [c9]; omega), (by have g9 : (h_stacks (x7_6).toInt.toNat + 1).toInt = (v_21).toInt := (by rw [ev_9, ev_21]); have j9 : v_21 = v_10 := (by rw [← ev_21, ← ev_10]); have j8 := congrArg Int32.toInt j9; show (v_21).toInt = min (x7_5).toInt ((h_stacks (x7_6).toInt.toNat + 1).toInt); omega)⟩)) (by omega))
  have el_12 : (12 : Int32).toInt = 12 := rfl
  exact j_lv [0, 1, 2, 3, 4, 5, 6, 7] rfl (loop_7 2147483648 v_6 v_3 12 (by omega) (by omega) (by omega) (KLP.start (by omega) (by omega) (by have h8 := shl1_I (y := (u_4.2.1 0)) (by omega) (by omega); rw [ev_6] at h8; rw [h8, show ((u_4.2.1 0)).toInt.toNat = szB v_3 from (by omega)]) rfl) (by omega))
set_option maxHeartbeats 4000000 in
set_option maxRecDepth 100000 in
theorem c_X0_fewestStacks (l : Launch) (D : DG) (cyC cyI cyJ cyZ cyO : ClassId) (h0 : Nat) (h2 : Nat) (h3 : Nat) (h1 : Nat) (h_n : Nat) (p1 : Int32) (h_known : Int32) (h_wares : Int32) (h_least : Nat → Int32) (h_stacks : Nat → Int32) (h_h_known : 0 ≤ (h_known).toInt ∧ (h_known).toInt ≤ 1) (h_h_wares : 0 ≤ (h_wares).toInt ∧ (h_wares).toInt ≤ 12) (hln : (2 : Int) ^ (h_wares).toInt.toNat ≤ (h_n : Int)) (hbn : h_n ≤ 4096) : KK l D (TY cyC cyI cyJ cyZ cyO) yX0_fewestStacks cX0_fewestStacks 4 (some .int) ({ frames := 2, cells := 0, slots := 0, locals := 47 } : Room) 0 0 [.ref h0, .int p1] [(h0, .inr (0, [.int h_known, .int h_wares, .ref h1, .ref h2, .ref h3])), (h2, .inl (cyI, h_n, .inl h_least)), (h3, .inl (cyI, h_n, .inl h_stacks))] (fun u => some (.int (u.2.1 0))) (fun u => (SKC (h_wares).toInt h_least (p1).toInt (u.2.1 0).toInt)) (fun u => [(h0, .inr (0, [.int h_known, .int h_wares, .ref h1, .ref h2, .ref h3])), (h2, .inl (cyI, h_n, .inl h_least)), (h3, .inl (cyI, h_n, .inl (u.2.2.1 0)))]) := by
  refine KK.of (lv0 := [(0, .ref h0), (1, .int p1)]) (by decide) rfl (Nat.le_of_ble_eq_true rfl) ?_
  intro p e s m args below meth c A C hr hk hin
  have hpw1 := pw1 (h_wares).toInt.toNat
  refine j_iconst (pc := 0) (v := 1) C dX0_fewestStacks_0 (by decide) ?_
  refine j_aload_n (pc := 1) C dX0_fewestStacks_1 rfl 0 rfl ?_
  refine j_get (pc := 2) (ci := 0) (v := .int h_wares) C inw_0 0 rfl rfl 1 (by decide) wd_117 rfl rfl dX0_fewestStacks_2 ?_
  obtain ⟨v_1, ev_1⟩ : ∃ z : Int32, 1 <<< (h_wares &&& 31) = z := ⟨_, rfl⟩
  have el_1 : (1 : Int32).toInt = 1 := rfl
  have hv_1 : 1 ≤ v_1.toInt ∧ v_1.toInt ≤ 4096 := by rw [← ev_1]; exact shl1_iv 0 12 (by omega) (by omega) (by omega)
  have hv_1p : v_1.toInt = 2 ^ (h_wares).toInt.toNat := by rw [← ev_1]; exact shl1_I (by omega) (by omega)
  refine j_ishl (pc := 5) (v := v_1) C dX0_fewestStacks_5 ev_1 ?_
  refine j_iconst (pc := 6) (v := 1) C dX0_fewestStacks_6 (by decide) ?_
  obtain ⟨v_2, ev_2⟩ : ∃ z : Int32, v_1 - 1 = z := ⟨_, rfl⟩
  have el_1 : (1 : Int32).toInt = 1 := rfl
  have hv_2 : v_2.toInt = v_1.toInt - (1 : Int32).toInt := by rw [← ev_2]; exact fb_subI (by omega) (by omega)
  refine j_isub (pc := 7) (v := v_2) C dX0_fewestStacks_7 ev_2 ?_
  refine j_istore_n (pc := 8) (lv' := [(2, .int v_2), (0, .ref h0), (1, .int p1)]) C dX0_fewestStacks_8 rfl (by decide) rfl ?_
  refine j_aload_n (pc := 9) C dX0_fewestStacks_9 rfl 1 rfl ?_
  refine j_get (pc := 10) (ci := 0) (v := .ref h3) C inw_0 0 rfl rfl 4 (by decide) wd_144 rfl rfl dX0_fewestStacks_10 ?_
  refine j_iconst (pc := 13) (v := 0) C dX0_fewestStacks_13 (by decide) ?_
  refine j_iconst (pc := 14) (v := 0) C dX0_fewestStacks_14 (by decide) ?_
  obtain ⟨f_3, ef_3⟩ : ∃ z, z = upd h_stacks 0 0 := ⟨_, rfl⟩
  refine j_iast (pc := 15) (k := 0) (ws' := [(h0, .inr (0, [.int h_known, .int h_wares, .ref h1, .ref h2, .ref h3])), (h2, .inl (cyI, h_n, .inl h_least)), (h3, .inl (cyI, h_n, .inl f_3))]) C 2 1 rfl rfl (by decide) (by decide) (by omega) dX0_fewestStacks_15 (by rw [ef_3]; rfl) ?_
  refine j_iconst (pc := 16) (v := 1) C dX0_fewestStacks_16 (by decide) ?_
  refine j_istore_n (pc := 17) (lv' := [(3, .int 1), (2, .int v_2), (0, .ref h0), (1, .int p1)]) C dX0_fewestStacks_17 rfl (by decide) rfl ?_
  have loop_4 : ∀ (k_4 : Nat) (x4_3 : Int32) (g4_h3 : Nat → Int32), (1 ≤ (x4_3).toInt ∧ (x4_3).toInt ≤ 4096) → (x4_3.toInt ≤ (2 : Int) ^ (h_wares).toInt.toNat) → (∀ s : Int32, 1 ≤ s.toInt → s.toInt < x4_3.toInt → (BT s 0 = false ∨ s.toInt = v_2.toInt) → SKR h_least g4_h3 (p1).toInt s) → (g4_h3 0 = 0) → (4096 - x4_3.toInt).toNat < k_4 → J p l e ({ frames := 2, cells := 0, slots := 0, locals := 47 } : Room) s m args below meth c D A 4 0 0 (QX below D (TY cyC cyI cyJ cyZ cyO) A (fun u => some (.int (u.2.1 0))) (fun u => (SKC (h_wares).toInt h_least (p1).toInt (u.2.1 0).toInt)) (fun u => [(h0, .inr (0, [.int h_known, .int h_wares, .ref h1, .ref h2, .ref h3])), (h2, .inl (cyI, h_n, .inl h_least)), (h3, .inl (cyI, h_n, .inl (u.2.2.1 0)))]) args s 0 0) [(h0, .inr (0, [.int h_known, .int h_wares, .ref h1, .ref h2, .ref h3])), (h2, .inl (cyI, h_n, .inl h_least)), (h3, .inl (cyI, h_n, .inl g4_h3))] 18 [(3, .int x4_3), (2, .int v_2), (0, .ref h0), (1, .int p1)] [] := by
    intro k_4
    induction k_4 with
    | zero =>
      intro x4_3 g4_h3 hi_4_0 hr_4 hq_4_0 hq_4_1 hm_4
      exact absurd hm_4 (Nat.not_lt_zero _)
    | succ k_4 ih_4 =>
      intro x4_3 g4_h3 hi_4_0 hr_4 hq_4_0 hq_4_1 hm_4
      refine j_iload_n (pc := 18) C dX0_fewestStacks_18 rfl 0 rfl ?_
      refine j_iload_n (pc := 19) C dX0_fewestStacks_19 rfl 1 rfl ?_
      refine j_icmp_gt (pc := 20) (tgt := 52) C dX0_fewestStacks_20 (by decide) (fun c_5 => ?_) (fun c_5 => ?_)
      · skip
        rw [i_lt] at c_5
        refine j_aload_n (pc := 52) C dX0_fewestStacks_52 rfl 2 rfl ?_
        refine j_get (pc := 53) (ci := 0) (v := .ref h3) C inw_0 0 rfl rfl 4 (by decide) wd_144 rfl rfl dX0_fewestStacks_53 ?_
        refine j_iload_n (pc := 56) C dX0_fewestStacks_56 rfl 1 rfl ?_
        obtain ⟨v_6, ev_6⟩ : ∃ z, g4_h3 (v_2).toInt.toNat = z := ⟨_, rfl⟩
        have env_6 : (g4_h3 (v_2).toInt.toNat).toInt = v_6.toInt := by rw [ev_6]
        refine j_iald (pc := 57) (v := v_6) (k := (v_2).toInt.toNat) C 2 1 rfl rfl (i_nn (by omega)) rfl (i_lt_n (by omega) (by omega)) ev_6 dX0_fewestStacks_57 ?_
        exact j_iret (pc := 58) C hr hk (fun i => [].getD i 0, fun i => [v_6].getD i 0, fun i => [g4_h3].getD i (fun _ => 0), fun i => [].getD i (fun _ => 0)) rfl (show (SKC (h_wares).toInt h_least (p1).toInt v_6.toInt) from (⟨_, hq_4_1, (fun s s0 s1 sc => hq_4_0 s s0 (by omega) (by rcases sc with y | y; exact Or.inl y; exact Or.inr (by omega))), (by have ex9 : ((2 ^ (h_wares).toInt.toNat : Nat) : Int) = 2 ^ (h_wares).toInt.toNat := (by simp); rw [show 2 ^ (h_wares).toInt.toNat - 1 = (v_2).toInt.toNat from (by omega), ev_6])⟩)) [0, 1, 2] (by decide) rfl (by decide) (by decide) dX0_fewestStacks_58
      · skip
        rw [i_lt] at c_5
        refine j_iload_n (pc := 23) C dX0_fewestStacks_23 rfl 0 rfl ?_
        refine j_iconst (pc := 24) (v := 1) C dX0_fewestStacks_24 (by decide) ?_
        obtain ⟨v_7, ev_7⟩ : ∃ z : Int32, x4_3 &&& 1 = z := ⟨_, rfl⟩
        have el_1 : (1 : Int32).toInt = 1 := rfl
        have hv_7 : 0 ≤ v_7.toInt ∧ v_7.toInt ≤ 1 := by rw [← ev_7]; exact and1_r _
        refine j_iand (pc := 25) (v := v_7) C dX0_fewestStacks_25 ev_7 ?_
        refine j_if_eq (pc := 26) (tgt := 34) C dX0_fewestStacks_26 (by decide) (fun c_8 => ?_) (fun c_8 => ?_)
        · skip
          have el_0 : (0 : Int32).toInt = 0 := rfl
          rw [i_eq] at c_8
          refine j_aload_n (pc := 34) C dX0_fewestStacks_34 rfl 2 rfl ?_
          refine j_get (pc := 35) (ci := 0) (v := .ref h3) C inw_0 0 rfl rfl 4 (by decide) wd_144 rfl rfl dX0_fewestStacks_35 ?_
          refine j_iload_n (pc := 38) C dX0_fewestStacks_38 rfl 0 rfl ?_
          refine j_aload_n (pc := 39) C dX0_fewestStacks_39 rfl 2 rfl ?_
          refine j_iload_n (pc := 40) C dX0_fewestStacks_40 rfl 0 rfl ?_
          refine j_iload_n (pc := 41) C dX0_fewestStacks_41 rfl 3 rfl ?_
          refine j_callV (pc := 42) (As := [.int x4_3, .int p1]) (rest := [.int x4_3, .ref h3]) (wr := []) C (c_X0_fewestOf l D cyC cyI cyJ cyZ cyO h0 h2 h3 h1 h_n x4_3 p1 h_known h_wares h_least g4_h3 h_h_known h_h_wares (by omega) hln hbn (by omega)) wd_145 wd_132 wd_146 wd_147 wd_148 ⟨by decide, by decide, rfl⟩ rfl ⟨rfl, rfl, by decide, by decide⟩ ⟨by decide, by decide⟩ [0, 1, 2] [] rfl rfl ⟨by decide, by decide, by decide⟩ 0 rfl rfl rfl (Nat.le_of_ble_eq_true rfl) dX0_fewestStacks_42 (fun u_9 hw_10 => ?_)
          refine j_eq (ws2 := [(h0, .inr (0, [.int h_known, .int h_wares, .ref h1, .ref h2, .ref h3])), (h2, .inl (cyI, h_n, .inl h_least)), (h3, .inl (cyI, h_n, .inl g4_h3))]) (pc2 := 45) (lv2 := [(3, .int x4_3), (2, .int v_2), (0, .ref h0), (1, .int p1)]) (st2 := [.int (u_9.2.1 0), .int x4_3, .ref h3]) rfl rfl rfl rfl ?_
          have hw_10_0 : MNS (lwo x4_3) (-1) (fun s => (h_least (x4_3 ^^^ s).toInt.toNat).toInt ≤ (p1).toInt) (fun s => (g4_h3 s.toInt.toNat + 1).toInt) 12 (u_9.2.1 0).toInt := hw_10
          obtain ⟨f_11, ef_11⟩ : ∃ z, z = upd g4_h3 (x4_3).toInt.toNat (u_9.2.1 0) := ⟨_, rfl⟩
          refine j_iast (pc := 45) (k := (x4_3).toInt.toNat) (ws' := [(h0, .inr (0, [.int h_known, .int h_wares, .ref h1, .ref h2, .ref h3])), (h2, .inl (cyI, h_n, .inl h_least)), (h3, .inl (cyI, h_n, .inl f_11))]) C 2 1 rfl rfl (i_nn (Int.le_trans (by decide) hi_4_0.1)) rfl (i_lt_n (Int.le_trans (by decide) hi_4_0.1) (by omega)) dX0_fewestStacks_45 (by rw [ef_11]; rfl) ?_
          obtain ⟨v_12, ev_12⟩ : ∃ z : Int32, x4_3 + 1 = z := ⟨_, rfl⟩
          have el_1 : (1 : Int32).toInt = 1 := rfl
          have hv_12 : v_12.toInt = x4_3.toInt + (1 : Int32).toInt := by rw [← ev_12]; exact fb_addI (by omega) (by omega)
          refine j_iinc (pc := 46) (v := v_12) (lv' := [(3, .int v_12), (2, .int v_2), (0, .ref h0), (1, .int p1)]) C dX0_fewestStacks_46 0 rfl ev_12 (by decide) rfl ?_
          refine j_goto (pc := 49) (tgt := 18) C dX0_fewestStacks_49 (by decide) ?_
          exact j_lv [0, 1, 2, 3] rfl (ih_4 v_12 f_11 (by omega) (by omega) (fun s s0 s1 sc => by by_cases q : s.toInt < (x4_3).toInt; (exact SKR.fr (hq_4_0 s s0 q sc) (by omega) (by omega) (fun j hj => by rw [ef_11]; exact pk_un (by omega))); (rw [show s = x4_3 from (i_eq _ _).mpr (by omega)]; unfold SKR; rw [ef_11, pk_us]; obtain ⟨_, ⟨o0, o1⟩, _⟩ := lw_of (x := x4_3) (by omega) (by omega); exact MNS.cg hw_10_0 rfl rfl (fun _ _ => Iff.rfl) (fun s hs9 _ => by have y := hs9.le o0; have y0 := hs9.1; rw [pk_un (show ¬ s.toInt.toNat = (x4_3).toInt.toNat from (by omega))]))) (by rw [ef_11, pk_un (show ¬ 0 = (x4_3).toInt.toNat from (by omega))]; exact hq_4_1) (by omega))
        · skip
          have el_0 : (0 : Int32).toInt = 0 := rfl
          rw [i_eq] at c_8
          have k0c_8 : v_7.toInt = 1 := by omega
          refine j_iload_n (pc := 29) C dX0_fewestStacks_29 rfl 0 rfl ?_
          refine j_iload_n (pc := 30) C dX0_fewestStacks_30 rfl 1 rfl ?_
          refine j_icmp_ne (pc := 31) (tgt := 46) C dX0_fewestStacks_31 (by decide) (fun c_13 => ?_) (fun c_13 => ?_)
          · skip
            rw [i_eq] at c_13
            obtain ⟨v_14, ev_14⟩ : ∃ z : Int32, x4_3 + 1 = z := ⟨_, rfl⟩
            have el_1 : (1 : Int32).toInt = 1 := rfl
            have hv_14 : v_14.toInt = x4_3.toInt + (1 : Int32).toInt := by rw [← ev_14]; exact fb_addI (by omega) (by omega)
            refine j_iinc (pc := 46) (v := v_14) (lv' := [(3, .int v_14), (2, .int v_2), (0, .ref h0), (1, .int p1)]) C dX0_fewestStacks_46 0 rfl ev_14 (by decide) rfl ?_
            refine j_goto (pc := 49) (tgt := 18) C dX0_fewestStacks_49 (by decide) ?_
            exact j_lv [0, 1, 2, 3] rfl (ih_4 v_14 g4_h3 (by omega) (by omega) (fun s s0 s1 sc => by by_cases q : s.toInt < (x4_3).toInt; (exact hq_4_0 s s0 q sc); (exfalso; rw [show s = x4_3 from (i_eq _ _).mpr (by omega)] at sc; have z9 : v_7 = if BT x4_3 0 = true then 1 else 0 := (by rw [← ev_7]; exact a1_BT _); rcases sc with y | y; (rw [y, if_neg Bool.false_ne_true] at z9; have z8 := congrArg Int32.toInt z9; have l0 : ((0 : Int32)).toInt = 0 := rfl; omega); omega)) hq_4_1 (by omega))
          · skip
            rw [i_eq] at c_13
            refine j_aload_n (pc := 34) C dX0_fewestStacks_34 rfl 2 rfl ?_
            refine j_get (pc := 35) (ci := 0) (v := .ref h3) C inw_0 0 rfl rfl 4 (by decide) wd_144 rfl rfl dX0_fewestStacks_35 ?_
            refine j_iload_n (pc := 38) C dX0_fewestStacks_38 rfl 0 rfl ?_
            refine j_aload_n (pc := 39) C dX0_fewestStacks_39 rfl 2 rfl ?_
            refine j_iload_n (pc := 40) C dX0_fewestStacks_40 rfl 0 rfl ?_
            refine j_iload_n (pc := 41) C dX0_fewestStacks_41 rfl 3 rfl ?_
            refine j_callV (pc := 42) (As := [.int x4_3, .int p1]) (rest := [.int x4_3, .ref h3]) (wr := []) C (c_X0_fewestOf l D cyC cyI cyJ cyZ cyO h0 h2 h3 h1 h_n x4_3 p1 h_known h_wares h_least g4_h3 h_h_known h_h_wares (by omega) hln hbn (by omega)) wd_145 wd_132 wd_146 wd_147 wd_148 ⟨by decide, by decide, rfl⟩ rfl ⟨rfl, rfl, by decide, by decide⟩ ⟨by decide, by decide⟩ [0, 1, 2] [] rfl rfl ⟨by decide, by decide, by decide⟩ 0 rfl rfl rfl (Nat.le_of_ble_eq_true rfl) dX0_fewestStacks_42 (fun u_15 hw_16 => ?_)
            refine j_eq (ws2 := [(h0, .inr (0, [.int h_known, .int h_wares, .ref h1, .ref h2, .ref h3])), (h2, .inl (cyI, h_n, .inl h_least)), (h3, .inl (cyI, h_n, .inl g4_h3))]) (pc2 := 45) (lv2 := [(3, .int x4_3), (2, .int v_2), (0, .ref h0), (1, .int p1)]) (st2 := [.int (u_15.2.1 0), .int x4_3, .ref h3]) rfl rfl rfl rfl ?_
            have hw_16_0 : MNS (lwo x4_3) (-1) (fun s => (h_least (x4_3 ^^^ s).toInt.toNat).toInt ≤ (p1).toInt) (fun s => (g4_h3 s.toInt.toNat + 1).toInt) 12 (u_15.2.1 0).toInt := hw_16
            obtain ⟨f_17, ef_17⟩ : ∃ z, z = upd g4_h3 (x4_3).toInt.toNat (u_15.2.1 0) := ⟨_, rfl⟩
            refine j_iast (pc := 45) (k := (x4_3).toInt.toNat) (ws' := [(h0, .inr (0, [.int h_known, .int h_wares, .ref h1, .ref h2, .ref h3])), (h2, .inl (cyI, h_n, .inl h_least)), (h3, .inl (cyI, h_n, .inl f_17))]) C 2 1 rfl rfl (i_nn (Int.le_trans (by decide) hi_4_0.1)) rfl (i_lt_n (Int.le_trans (by decide) hi_4_0.1) (by omega)) dX0_fewestStacks_45 (by rw [ef_17]; rfl) ?_
            obtain ⟨v_18, ev_18⟩ : ∃ z : Int32, x4_3 + 1 = z := ⟨_, rfl⟩
            have el_1 : (1 : Int32).toInt = 1 := rfl
            have hv_18 : v_18.toInt = x4_3.toInt + (1 : Int32).toInt := by rw [← ev_18]; exact fb_addI (by omega) (by omega)
            refine j_iinc (pc := 46) (v := v_18) (lv' := [(3, .int v_18), (2, .int v_2), (0, .ref h0), (1, .int p1)]) C dX0_fewestStacks_46 0 rfl ev_18 (by decide) rfl ?_
            refine j_goto (pc := 49) (tgt := 18) C dX0_fewestStacks_49 (by decide) ?_
            exact j_lv [0, 1, 2, 3] rfl (ih_4 v_18 f_17 (by omega) (by omega) (fun s s0 s1 sc => by by_cases q : s.toInt < (x4_3).toInt; (exact SKR.fr (hq_4_0 s s0 q sc) (by omega) (by omega) (fun j hj => by rw [ef_17]; exact pk_un (by omega))); (rw [show s = x4_3 from (i_eq _ _).mpr (by omega)]; unfold SKR; rw [ef_17, pk_us]; obtain ⟨_, ⟨o0, o1⟩, _⟩ := lw_of (x := x4_3) (by omega) (by omega); exact MNS.cg hw_16_0 rfl rfl (fun _ _ => Iff.rfl) (fun s hs9 _ => by have y := hs9.le o0; have y0 := hs9.1; rw [pk_un (show ¬ s.toInt.toNat = (x4_3).toInt.toNat from (by omega))]))) (by rw [ef_17, pk_un (show ¬ 0 = (x4_3).toInt.toNat from (by omega))]; exact hq_4_1) (by omega))
  have el_1 : (1 : Int32).toInt = 1 := rfl
  exact j_lv [0, 1, 2, 3] rfl (loop_4 5000 1 f_3 (by decide) (by omega) (fun s s0 s1 => absurd s1 (by have e9 : ((1 : Int32)).toInt = 1 := rfl; omega)) (by rw [ef_3]; exact pk_us) (by omega))

theorem cn_rx {x : Int32} {b : Nat} (hb : b < 12) (h : BT x b = true) : ∀ k : Nat, k ≤ 12 → cnB (BT x) k = cnB (BT (cx x b)) k + (if b < k then 1 else 0) := by
  intro k
  induction k with
  | zero => intro _; rw [if_neg (by omega)]; rfl
  | succ k ih =>
    intro hk
    rw [cnB_s, cnB_s, ih (by omega), cx_bt hb (by omega)]
    by_cases c : k = b
    · rw [c, h, decide_eq_true rfl, if_neg (show ¬ b < b by omega), if_pos (show b < b + 1 by omega), if_pos rfl]
      show cnB (BT (cx x b)) b + 0 + 1 = cnB (BT (cx x b)) b + 0 + 1
      rfl
    · rw [decide_eq_false c, Bool.xor_false]
      by_cases d : b < k
      · rw [if_pos d, if_pos (show b < k + 1 by omega)]
        exact Nat.add_right_comm _ _ _
      · rw [if_neg d, if_neg (show ¬ b < k + 1 by omega), Nat.add_zero, Nat.add_zero]
theorem sz_rx {x : Int32} {b : Nat} (hb : b < 12) (h : BT x b = true) : szB x = szB (cx x b) + 1 := by
  unfold szB
  rw [cn_rx hb h 12 (Nat.le_refl 12), if_pos hb]
theorem cn_z {P : Nat → Bool} : ∀ k : Nat, cnB P k = 0 → ∀ j : Nat, j < k → P j = false := by
  intro k
  induction k with
  | zero => intro _ j hj; exact absurd hj (Nat.not_lt_zero _)
  | succ k ih =>
    intro h j hj
    rw [cnB_s] at h
    by_cases c : P k = true
    · rw [if_pos c] at h; omega
    · rw [if_neg c] at h
      by_cases e : j = k
      · rw [e]; exact Bool.eq_false_iff.mpr c
      · exact ih (by omega) j (by omega)
theorem sz_z {x : Int32} (h0 : 0 ≤ x.toInt) (h1 : x.toInt < 4096) (h : szB x = 0) : x = 0 := bt_ext (fun j hj => by
  rw [show BT 0 j = false from bt_z j hj]
  by_cases c : j < 12
  · exact cn_z 12 h j c
  · exact bt_hi (n := 12) h0 (by omega) (by omega) hj)
theorem sz_p {x : Int32} {j : Nat} (hj : j < 12) (h : BT x j = true) : 1 ≤ szB x := by rw [sz_rx hj h]; omega
theorem cx_in {x : Int32} {b j : Nat} (hb : b < 12) (h : BT x b = true) (hj : j < 32) (z : BT (cx x b) j = true) : BT x j = true := by
  rw [cx_bt hb hj] at z
  by_cases c : j = b
  · rw [c]; exact h
  · rw [decide_eq_false c, Bool.xor_false] at z; exact z
theorem wS_cx {wt : Nat → Int32} {x : Int32} {b : Nat} (hb : b < 12) (h : BT x b = true) : ∀ k : Nat, k ≤ 12 → wS wt x k = wS wt (cx x b) k + (if b < k then wt b else 0) := by
  intro k
  induction k with
  | zero => intro _; rw [if_neg (by omega)]; show (0 : Int32) = 0 + 0; rfl
  | succ k ih =>
    intro hk
    rw [wS_s, wS_s, ih (by omega), cx_bt hb (by omega)]
    by_cases c : k = b
    · rw [c, h, decide_eq_true rfl, if_neg (show ¬ b < b by omega), if_pos (show b < b + 1 by omega), if_pos rfl, Int32.add_zero]
      show wS wt (cx x b) b + wt b = wS wt (cx x b) b + 0 + wt b
      rw [Int32.add_zero]
    · rw [decide_eq_false c, Bool.xor_false]
      by_cases d : b < k
      · rw [if_pos d, if_pos (show b < k + 1 by omega), Int32.add_assoc, Int32.add_assoc, Int32.add_comm (wt b)]
      · rw [if_neg d, if_neg (show ¬ b < k + 1 by omega), Int32.add_zero, Int32.add_zero]
theorem wS_z (wt : Nat → Int32) : ∀ k : Nat, k ≤ 12 → wS wt 0 k = 0 := by
  intro k
  induction k with
  | zero => intro _; rfl
  | succ k ih => intro h; rw [wS_s, ih (by omega), show BT 0 k = false from bt_z k (by omega), if_neg Bool.false_ne_true, Int32.add_zero]
/-- an order: one after another out of what is left, from place p on -/
def PMT (w : Int) : Nat → Int32 → Nat → (Nat → Int32) → Prop
  | 0, s, _, _ => s = 0
  | n + 1, s, p, t => (0 ≤ (t p).toInt ∧ (t p).toInt < w) ∧ BT s (t p).toInt.toNat = true ∧ PMT w n (cx s (t p).toInt.toNat) (p + 1) t
theorem PMT.cg {w : Int} : ∀ (n : Nat) (s : Int32) (p : Nat) (t t' : Nat → Int32), (∀ i, p ≤ i → i < p + n → t' i = t i) → PMT w n s p t → PMT w n s p t' := by
  intro n
  induction n with
  | zero => intro s p t t' _ h; exact h
  | succ n ih =>
    intro s p t t' e h
    obtain ⟨h1, h2, h3⟩ := h
    have ep := e p (Nat.le_refl p) (by omega)
    refine ⟨?_, ?_, ?_⟩
    · rw [ep]; exact h1
    · rw [ep]; exact h2
    · rw [ep]; exact ih _ _ t t' (fun i hi hj => e i (by omega) (by omega)) h3
theorem PMT.wt {w : Int} {wt : Nat → Int32} (w12 : w ≤ 12) : ∀ (n : Nat) (s : Int32) (p m : Nat) (t : Nat → Int32), m = p + n → PMT w n s p t → wtF wt t p m = wS wt s w.toNat := by
  intro n
  induction n with
  | zero =>
    intro s p m t e h
    have h' : s = 0 := h
    rw [h', wS_z wt _ (by omega), wtF_0 wt t (show m ≤ p by omega)]
  | succ n ih =>
    intro s p m t e h
    obtain ⟨h1, h2, h3⟩ := h
    rw [wtF_low wt t m (show p < m by omega), ih _ (p + 1) m t (by omega) h3, wS_cx (show (t p).toInt.toNat < 12 by omega) h2 w.toNat (by omega), if_pos (show (t p).toInt.toNat < w.toNat by omega), Int32.add_comm]
theorem PMT.sz {w : Int} (w12 : w ≤ 12) : ∀ (n : Nat) (s : Int32) (p : Nat) (t : Nat → Int32), PMT w n s p t → szB s = n := by
  intro n
  induction n with
  | zero => intro s p t h; have h' : s = 0 := h; rw [h']; exact szB_0
  | succ n ih =>
    intro s p t h
    obtain ⟨h1, h2, h3⟩ := h
    rw [sz_rx (show (t p).toInt.toNat < 12 by omega) h2, ih _ _ t h3]
/-- all of an order lie in the set, no two alike -/
theorem PMT.bit {w : Int} (w12 : w ≤ 12) : ∀ (n : Nat) (s : Int32) (p : Nat) (t : Nat → Int32), PMT w n s p t → ∀ i, p ≤ i → i < p + n → (0 ≤ (t i).toInt ∧ (t i).toInt < w) ∧ BT s (t i).toInt.toNat = true := by
  intro n
  induction n with
  | zero => intro s p t _ i h1 h2; omega
  | succ n ih =>
    intro s p t h i h1 h2
    obtain ⟨a1, a2, a3⟩ := h
    by_cases c : i = p
    · rw [c]; exact ⟨a1, a2⟩
    · obtain ⟨b1, b2⟩ := ih _ _ t a3 i (by omega) (by omega)
      refine ⟨b1, ?_⟩
      rw [cx_bt (show (t p).toInt.toNat < 12 by omega) (by omega)] at b2
      by_cases d : (t i).toInt.toNat = (t p).toInt.toNat
      · rw [d]; exact a2
      · rw [decide_eq_false d, Bool.xor_false] at b2; exact b2
theorem PMT.ne {w : Int} (w12 : w ≤ 12) : ∀ (n : Nat) (s : Int32) (p : Nat) (t : Nat → Int32), PMT w n s p t → ∀ i j, p ≤ i → i < j → j < p + n → ¬ t i = t j := by
  intro n
  induction n with
  | zero => intro s p t _ i j h1 h2 h3; omega
  | succ n ih =>
    intro s p t h i j h1 h2 h3
    obtain ⟨a1, a2, a3⟩ := h
    by_cases c : i = p
    · intro e
      obtain ⟨_, b2⟩ := PMT.bit w12 _ _ _ t a3 j (by omega) (by omega)
      rw [← e, c, cx_bt (show (t p).toInt.toNat < 12 by omega) (by omega), a2, decide_eq_true rfl] at b2
      exact absurd b2 (by decide)
    · exact ih _ _ t a3 i j (by omega) h2 (by omega)
/-- an order that begins as t does, the rest out of what is left; those whose next one is less than X -/
def CDN (w : Int) (m p : Nat) (s : Int32) (t t' : Nat → Int32) : Prop := (∀ i, i < p → t' i = t i) ∧ PMT w (m - p) s p t'
def CDX (w : Int) (m p : Nat) (s : Int32) (t : Nat → Int32) (X : Int) (t' : Nat → Int32) : Prop := CDN w m p s t t' ∧ (t' p).toInt < X
/-- the first order that differs is less -/
def LXE (m : Nat) (a b : Nat → Int32) : Prop := (∀ i, i < m → a i = b i) ∨ ∃ i, i < m ∧ (∀ j, j < i → a j = b j) ∧ (a i).toInt < (b i).toInt
theorem LXE.anti {m : Nat} {a b : Nat → Int32} (h : LXE m a b) (h' : LXE m b a) : ∀ i, i < m → a i = b i := by
  rcases h with h | ⟨i, h1, h2, h3⟩
  · exact h
  · exfalso
    rcases h' with h' | ⟨j, g1, g2, g3⟩
    · rw [h' i h1] at h3; omega
    · rcases Nat.lt_trichotomy i j with q | q | q
      · rw [g2 i q] at h3; omega
      · rw [q] at h3; omega
      · rw [h2 j q] at g3; omega
theorem LXE.cl {m : Nat} {a b a' : Nat → Int32} (h : LXE m a b) (e : ∀ i, i < m → a' i = a i) : LXE m a' b := by
  rcases h with h | ⟨i, h1, h2, h3⟩
  · exact Or.inl (fun i hi => (e i hi).trans (h i hi))
  · exact Or.inr ⟨i, h1, fun j hj => (e j (by omega)).trans (h2 j hj), by rw [e i h1]; exact h3⟩
/-- of those of C that stand the best: what was found so far against what is found behind them -/
def IMP (m : Nat) (C ok : (Nat → Int32) → Prop) (V : (Nat → Int32) → Int) (fd : Prop) (c : Int) (o : Nat → Int32) (fd' : Prop) (c' : Int) (o' : Nat → Int32) : Prop :=
  ((fd' ↔ fd) ∧ c' = c ∧ (∀ i, i < m → o' i = o i) ∧ ∀ t, C t → ok t → fd ∧ c ≤ V t) ∨
  (fd' ∧ (fd → c' < c) ∧ ∃ z, C z ∧ ok z ∧ (∀ i, i < m → o' i = z i) ∧ c' = V z ∧ ∀ t, C t → ok t → c' ≤ V t ∧ (V t = c' → LXE m z t))
theorem IMP.none {m : Nat} {C ok : (Nat → Int32) → Prop} {V : (Nat → Int32) → Int} {fd fd' : Prop} {c c' : Int} {o o' : Nat → Int32} (h : ∀ t, C t → ok t → fd ∧ c ≤ V t) (e0 : fd' ↔ fd) (e1 : c' = c) (e2 : ∀ i, i < m → o' i = o i) : IMP m C ok V fd c o fd' c' o' := Or.inl ⟨e0, e1, e2, h⟩
theorem IMP.sub {m : Nat} {C C' ok : (Nat → Int32) → Prop} {V : (Nat → Int32) → Int} {fd fd' : Prop} {c c' : Int} {o o' : Nat → Int32} (h : IMP m C ok V fd c o fd' c' o') (h1 : ∀ t, C t → C' t) (h2 : ∀ t, C' t → ok t → C t) : IMP m C' ok V fd c o fd' c' o' := by
  rcases h with ⟨a, b, d, e⟩ | ⟨a, b, z, z1, z2, z3, z4, z5⟩
  · exact Or.inl ⟨a, b, d, fun t ht k => e t (h2 t ht k) k⟩
  · exact Or.inr ⟨a, b, z, h1 z z1, z2, z3, z4, fun t ht k => z5 t (h2 t ht k) k⟩
theorem IMP.cg {m : Nat} {C ok ok' : (Nat → Int32) → Prop} {V V' : (Nat → Int32) → Int} {fd fd' : Prop} {c c' : Int} {o o' : Nat → Int32} (h : IMP m C ok V fd c o fd' c' o') (h1 : ∀ t, C t → (ok t ↔ ok' t)) (h2 : ∀ t, C t → V t = V' t) : IMP m C ok' V' fd c o fd' c' o' := by
  rcases h with ⟨a, b, d, e⟩ | ⟨a, b, z, z1, z2, z3, z4, z5⟩
  · exact Or.inl ⟨a, b, d, fun t ht k => by rw [← h2 t ht]; exact e t ht ((h1 t ht).mpr k)⟩
  · exact Or.inr ⟨a, b, z, z1, (h1 z z1).mp z2, z3, by rw [← h2 z z1]; exact z4, fun t ht k => by rw [← h2 t ht]; exact z5 t ht ((h1 t ht).mpr k)⟩
theorem IMP.trans {m : Nat} {C C1 C2 ok : (Nat → Int32) → Prop} {V : (Nat → Int32) → Int} {fd fd1 fd2 : Prop} {c c1 c2 : Int} {o o1 o2 : Nat → Int32} (h : IMP m C1 ok V fd c o fd1 c1 o1) (h' : IMP m C2 ok V fd1 c1 o1 fd2 c2 o2) (s1 : ∀ t, C1 t → C t) (s2 : ∀ t, C2 t → C t) (s3 : ∀ t, C t → C1 t ∨ C2 t) (lx : ∀ t t', C1 t → C2 t' → LXE m t t') : IMP m C ok V fd c o fd2 c2 o2 := by
  rcases h with ⟨a1, a2, a3, a4⟩ | ⟨a1, a2, z, z1, z2, z3, z4, z5⟩
  · rcases h' with ⟨b1, b2, b3, b4⟩ | ⟨b1, b2, y, y1, y2, y3, y4, y5⟩
    · refine Or.inl ⟨b1.trans a1, b2.trans a2, fun i hi => (b3 i hi).trans (a3 i hi), fun t ht k => ?_⟩
      rcases s3 t ht with q | q
      · exact a4 t q k
      · have y := b4 t q k; exact ⟨a1.mp y.1, by omega⟩
    · refine Or.inr ⟨b1, fun f => by have := b2 (a1.mpr f); omega, y, s2 y y1, y2, y3, y4, fun t ht k => ?_⟩
      rcases s3 t ht with q | q
      · have x := a4 t q k
        have := b2 (a1.mpr x.1)
        exact ⟨by omega, fun e => by omega⟩
      · exact y5 t q k
  · rcases h' with ⟨b1, b2, b3, b4⟩ | ⟨b1, b2, y, y1, y2, y3, y4, y5⟩
    · refine Or.inr ⟨b1.mpr a1, fun f => by have := a2 f; omega, z, s1 z z1, z2, fun i hi => (b3 i hi).trans (z3 i hi), by omega, fun t ht k => ?_⟩
      rcases s3 t ht with q | q
      · rw [b2]; exact z5 t q k
      · have y := b4 t q k; exact ⟨by omega, fun _ => lx z t z1 q⟩
    · have lt := b2 a1
      refine Or.inr ⟨b1, fun f => by have := a2 f; omega, y, s2 y y1, y2, y3, y4, fun t ht k => ?_⟩
      rcases s3 t ht with q | q
      · have x := (z5 t q k).1; exact ⟨by omega, fun e => by omega⟩
      · exact y5 t q k
theorem IMP.uniq {m : Nat} {C ok : (Nat → Int32) → Prop} {V : (Nat → Int32) → Int} {fd f1 f2 g : Prop} {c d c1 c2 : Int} {o q o1 o2 : Nat → Int32} (h : IMP m C ok V fd c o f1 c1 o1) (h' : IMP m C ok V g d q f2 c2 o2) (n : ¬ fd) (n' : ¬ g) : (f1 ↔ f2) ∧ (f1 → c1 = c2 ∧ ∀ i, i < m → o1 i = o2 i) := by
  rcases h with ⟨a1, a2, a3, a4⟩ | ⟨a1, a2, z, z1, z2, z3, z4, z5⟩
  · have nf : ¬ f1 := fun x => n (a1.mp x)
    rcases h' with ⟨b1, b2, b3, b4⟩ | ⟨b1, b2, y, y1, y2, y3, y4, y5⟩
    · exact ⟨⟨fun x => absurd x nf, fun x => absurd (b1.mp x) n'⟩, fun x => absurd x nf⟩
    · exact absurd (a4 y y1 y2).1 n
  · rcases h' with ⟨b1, b2, b3, b4⟩ | ⟨b1, b2, y, y1, y2, y3, y4, y5⟩
    · exact absurd (b4 z z1 z2).1 n'
    · have x := z5 y y1 y2
      have x' := y5 z z1 z2
      have e : c1 = c2 := by omega
      refine ⟨⟨fun _ => b1, fun _ => a1⟩, fun _ => ⟨e, fun i hi => ?_⟩⟩
      rw [z3 i hi, y3 i hi]
      exact LXE.anti (x.2 (by omega)) (x'.2 (by omega)) i hi
/-- a node: the next one below X -/
theorem IMP.start {w : Int} {m p : Nat} {s : Int32} {t : Nat → Int32} {ok : (Nat → Int32) → Prop} {V : (Nat → Int32) → Int} {fd : Prop} {c : Int} {o : Nat → Int32} {X : Int} (hp : p < m) (hX : X ≤ 0) : IMP m (CDX w m p s t X) ok V fd c o fd c o :=
  IMP.none (fun t' h _ => by
    exfalso
    obtain ⟨⟨_, h2⟩, h3⟩ := h
    rw [show m - p = (m - p - 1) + 1 by omega] at h2
    have := h2.1.1
    omega) Iff.rfl rfl (fun _ _ => rfl)
theorem IMP.skip {w : Int} {m p : Nat} {s : Int32} {t : Nat → Int32} {ok : (Nat → Int32) → Prop} {V : (Nat → Int32) → Int} {fd fd' : Prop} {c c' : Int} {o o' : Nat → Int32} {X X' : Int} (h : IMP m (CDX w m p s t X) ok V fd c o fd' c' o') (e : X' = X + 1) (n : ∀ t', CDN w m p s t t' → (t' p).toInt = X → ¬ ok t') : IMP m (CDX w m p s t X') ok V fd c o fd' c' o' :=
  h.sub (fun t' ht => ⟨ht.1, by have := ht.2; omega⟩) (fun t' ht k => ⟨ht.1, by
    have h2 := ht.2
    by_cases q : (t' p).toInt = X
    · exact absurd k (n t' ht.1 q)
    · omega⟩)
theorem CDN.child {w : Int} {m p : Nat} {s : Int32} {t t1 t' : Nat → Int32} {x : Int32} (hp : p < m) (x0 : 0 ≤ x.toInt) (xw : x.toInt < w) (hb : BT s x.toInt.toNat = true) (e : ∀ i, i < p → t1 i = t i) (ex : t1 p = x) : CDN w m (p + 1) (cx s x.toInt.toNat) t1 t' ↔ (CDN w m p s t t' ∧ t' p = x) := by
  have em : m - p = (m - (p + 1)) + 1 := by omega
  constructor
  · rintro ⟨h1, h2⟩
    have hx : t' p = x := (h1 p (Nat.lt_succ_self p)).trans ex
    refine ⟨⟨fun i hi => (h1 i (by omega)).trans (e i hi), ?_⟩, hx⟩
    rw [em]
    refine ⟨?_, ?_, ?_⟩
    · rw [hx]; exact ⟨x0, xw⟩
    · rw [hx]; exact hb
    · rw [hx]; exact h2
  · rintro ⟨⟨h1, h2⟩, hx⟩
    rw [em] at h2
    obtain ⟨_, _, h3⟩ := h2
    rw [hx] at h3
    refine ⟨fun i hi => ?_, h3⟩
    by_cases q : i = p
    · rw [q, hx, ex]
    · rw [h1 i (by omega), e i (by omega)]
theorem IMP.step {w : Int} {m p : Nat} {s s' : Int32} {t t1 : Nat → Int32} {ok : (Nat → Int32) → Prop} {V : (Nat → Int32) → Int} {fd fd1 fd2 : Prop} {c c1 c2 : Int} {o o1 o2 : Nat → Int32} {X X' : Int} {x : Int32} (h : IMP m (CDX w m p s t X) ok V fd c o fd1 c1 o1) (h' : IMP m (CDN w m (p + 1) s' t1) ok V fd1 c1 o1 fd2 c2 o2) (es : s' = cx s x.toInt.toNat) (eX : X = x.toInt) (e : X' = X + 1) (hp : p < m) (x0 : 0 ≤ x.toInt) (xw : x.toInt < w) (hb : BT s x.toInt.toNat = true) (et : ∀ i, i < p → t1 i = t i) (ex : t1 p = x) : IMP m (CDX w m p s t X') ok V fd c o fd2 c2 o2 := by
  subst es
  have ch := fun t' => CDN.child (t' := t') hp x0 xw hb et ex
  refine IMP.trans h h' (fun t' ht => ⟨ht.1, by have := ht.2; omega⟩) (fun t' ht => ?_) (fun t' ht => ?_) (fun a b ha hb' => ?_)
  · obtain ⟨y1, y2⟩ := (ch t').mp ht
    exact ⟨y1, by rw [y2]; omega⟩
  · by_cases q : (t' p).toInt < X
    · exact Or.inl ⟨ht.1, q⟩
    · exact Or.inr ((ch t').mpr ⟨ht.1, (i_eq _ _).mpr (by have := ht.2; omega)⟩)
  · obtain ⟨y1, y2⟩ := (ch b).mp hb'
    exact Or.inr ⟨p, hp, fun j hj => (ha.1.1 j hj).trans (y1.1 j hj).symm, by rw [y2]; have := ha.2; omega⟩
theorem IMP.fin {w : Int} {m p : Nat} {s : Int32} {t : Nat → Int32} {ok : (Nat → Int32) → Prop} {V : (Nat → Int32) → Int} {fd fd' : Prop} {c c' : Int} {o o' : Nat → Int32} {X : Int} (h : IMP m (CDX w m p s t X) ok V fd c o fd' c' o') (hp : p < m) (hX : w ≤ X) : IMP m (CDN w m p s t) ok V fd c o fd' c' o' :=
  h.sub (fun t' ht => ht.1) (fun t' ht _ => ⟨ht, by
    have h2 := ht.2
    rw [show m - p = (m - p - 1) + 1 by omega] at h2
    have := h2.1.2
    omega⟩)
theorem CDN.leaf {w : Int} {m p : Nat} {t t' : Nat → Int32} (hp : m ≤ p) (h : CDN w m p 0 t t') : ∀ i, i < m → t' i = t i := fun i hi => h.1 i (by omega)
theorem CDN.self {w : Int} {m p : Nat} (t : Nat → Int32) (hp : m ≤ p) : CDN w m p 0 t t := ⟨fun _ _ => rfl, by rw [show m - p = 0 by omega]; exact rfl⟩
/-- one that is taken at the end of a way -/
theorem IMP.take {w : Int} {m p : Nat} {s : Int32} {t : Nat → Int32} {ok : (Nat → Int32) → Prop} {V : (Nat → Int32) → Int} {fd fd' : Prop} {c c' : Int} {o o' : Nat → Int32} (hs : s = 0) (hp : m ≤ p) (k : ok t) (hV : ∀ t', (∀ i, i < m → t' i = t i) → V t' = V t) (hf : fd') (hc : fd → c' < c) (eo : ∀ i, i < m → o' i = t i) (ec : c' = V t) : IMP m (CDN w m p s t) ok V fd c o fd' c' o' := by
  subst hs
  exact Or.inr ⟨hf, hc, t, CDN.self t hp, k, eo, ec, fun t' ht _ => by
    have e := ht.leaf hp
    exact ⟨by rw [hV t' e]; omega, fun _ => Or.inl (fun i hi => (e i hi).symm)⟩⟩

theorem hiF_mono {rs : Nat → Nat → Int32} {dp r : Nat → Int32} {H : Int32} : ∀ n : Nat, ¬ H < hiF rs dp r n → ∀ p : Nat, p ≤ n → ¬ H < hiF rs dp r p := by
  intro n
  induction n with
  | zero => intro h p hp; rw [show p = 0 by omega]; exact h
  | succ n ih =>
    intro h p hp
    by_cases e : p = n + 1
    · rw [e]; exact h
    · refine ih (fun z => h ?_) p (by omega)
      rw [hiF_s]
      by_cases c : hiF rs dp r n < ftF rs r n + dp (r n).toInt.toNat
      · rw [if_pos c]; rw [Int32.lt_iff_toInt_lt] at z c ⊢; omega
      · rw [if_neg c]; exact z
theorem hiF_at {rs : Nat → Nat → Int32} {dp r : Nat → Int32} {H : Int32} {n q : Nat} (h : ¬ H < hiF rs dp r n) (hq : q < n) : ¬ H < ftF rs r q + dp (r q).toInt.toNat := fun z => by
  have y := hiF_mono n h (q + 1) hq
  rw [hiF_s] at y
  by_cases c : hiF rs dp r q < ftF rs r q + dp (r q).toInt.toNat
  · rw [if_pos c] at y; exact y z
  · rw [if_neg c] at y
    rw [Int32.lt_iff_toInt_lt] at y c z
    omega
theorem hiF_up {rs : Nat → Nat → Int32} {dp r : Nat → Int32} {H : Int32} {n : Nat} (h : ¬ H < hiF rs dp r n) (h' : ¬ H < ftF rs r n + dp (r n).toInt.toNat) : ¬ H < hiF rs dp r (n + 1) := by
  rw [hiF_s]
  by_cases c : hiF rs dp r n < ftF rs r n + dp (r n).toInt.toNat
  · rw [if_pos c]; exact h'
  · rw [if_neg c]; exact h
/-- what an order's first p cost -/
def SUMP (tm wt : Nat → Int32) (t : Nat → Int32) (m : Nat) (rc : Int32) (p : Nat) : Int32 := sumF (fun i => tm (t i).toInt.toNat * prC wt t (nI i) (nI m) rc) p
theorem SUMP_s (tm wt : Nat → Int32) (t : Nat → Int32) (m : Nat) (rc : Int32) (p : Nat) : SUMP tm wt t m rc (p + 1) = SUMP tm wt t m rc p + tm (t p).toInt.toNat * prC wt t (nI p) (nI m) rc := rfl
/-- numbers that were told -/
def NBS (w : Int) (wt : Nat → Int32) (rc H : Int32) : Prop := (0 ≤ w ∧ w ≤ 12) ∧ (∀ j : Nat, (j : Int) < w → 0 ≤ (wt j).toInt ∧ (wt j).toInt ≤ 999) ∧ (0 ≤ rc.toInt ∧ rc.toInt ≤ 999) ∧ 0 ≤ H.toInt
def TMB (tm : Nat → Int32) : Prop := ∀ j : Nat, 0 ≤ (tm j).toInt ∧ (tm j).toInt ≤ 30
theorem wtF_bd {wt t : Nat → Int32} {w : Int} (hw : ∀ j : Nat, (j : Int) < w → 0 ≤ (wt j).toInt ∧ (wt j).toInt ≤ 999) {p : Nat} : ∀ n : Nat, n ≤ 7 → (∀ j, j < n → 0 ≤ (t j).toInt ∧ (t j).toInt < w) → 0 ≤ (wtF wt t p n).toInt ∧ (wtF wt t p n).toInt ≤ 999 * (n : Int) := by
  intro n
  induction n with
  | zero => intro _ _; rw [wtF_0 wt t (Nat.zero_le p)]; exact ⟨by decide, by decide⟩
  | succ n ih =>
    intro h7 ht
    obtain ⟨a, b⟩ := ih (by omega) (fun j hj => ht j (by omega))
    by_cases c : p ≤ n
    · have y := ht n (Nat.lt_succ_self n)
      have x := hw (t n).toInt.toNat (by omega)
      have e : (wtF wt t p n + wt (t n).toInt.toNat).toInt = (wtF wt t p n).toInt + (wt (t n).toInt.toNat).toInt := fb_addI (by omega) (by omega)
      rw [wtF_top wt t p c, e]
      exact ⟨by omega, by omega⟩
    · have z : (0 : Int32).toInt = 0 := rfl
      rw [wtF_0 wt t (show n + 1 ≤ p by omega)]
      exact ⟨by omega, by omega⟩
theorem dbl {y : Int32} (h : 0 ≤ y.toInt) (h' : y.toInt < 1000000000) : ((2 : Int32) * y).toInt = 2 * y.toInt := by
  have e2 : (2 : Int32).toInt = 2 := rfl
  rw [fb_mulI (by rw [e2]; omega) (by rw [e2]; omega), e2]
theorem prC_bd {wt t : Nat → Int32} {w : Int} {rc H : Int32} (nb : NBS w wt rc H) {i m : Nat} (hm : m ≤ 7) (hi : i < m) (ht : ∀ j, j < m → 0 ≤ (t j).toInt ∧ (t j).toInt < w) : 0 ≤ (prC wt t (nI i) (nI m) rc).toInt ∧ (prC wt t (nI i) (nI m) rc).toInt ≤ 29970 := by
  obtain ⟨_, hw, ⟨r0, r1⟩, _⟩ := nb
  have ei : (nI i).toInt = (i : Int) := nI_toInt (by omega)
  have em : (nI m).toInt = (m : Int) := nI_toInt (by omega)
  have e1 : (1 : Int32).toInt = 1 := rfl
  have e2 : (2 : Int32).toInt = 2 := rfl
  unfold prC
  rw [show (nI i).toInt.toNat = i by omega, show (nI m).toInt.toNat = m by omega]
  obtain ⟨a, b⟩ := wtF_bd (p := i + 1) hw m hm ht
  have y := ht i hi
  obtain ⟨c0, c1⟩ := hw (t i).toInt.toNat (by omega)
  have f1 : (nI m - 1).toInt = (m : Int) - 1 := (fb_subI (by omega) (by omega)).trans (by omega)
  have f2 : (nI m - 1 - nI i).toInt = (m : Int) - 1 - (i : Int) := (fb_subI (by omega) (by omega)).trans (by omega)
  have k0 : 0 ≤ rc.toInt * (nI m - 1 - nI i).toInt := Int.mul_nonneg r0 (by omega)
  have k1 : rc.toInt * (nI m - 1 - nI i).toInt ≤ 999 * 6 := Int.mul_le_mul r1 (by omega) (by omega) (by omega)
  have f3 : (rc * (nI m - 1 - nI i)).toInt = rc.toInt * (nI m - 1 - nI i).toInt := fb_mulI (by omega) (by omega)
  have f4 : (wtF wt t (i + 1) m + rc * (nI m - 1 - nI i)).toInt = (wtF wt t (i + 1) m).toInt + (rc * (nI m - 1 - nI i)).toInt := fb_addI (by omega) (by omega)
  have f5 : ((2 : Int32) * (wtF wt t (i + 1) m + rc * (nI m - 1 - nI i))).toInt = 2 * (wtF wt t (i + 1) m + rc * (nI m - 1 - nI i)).toInt := dbl (by omega) (by omega)
  have f6 : (wt (t i).toInt.toNat + rc).toInt = (wt (t i).toInt.toNat).toInt + rc.toInt := fb_addI (by omega) (by omega)
  have f7 : (wt (t i).toInt.toNat + rc + 2 * (wtF wt t (i + 1) m + rc * (nI m - 1 - nI i))).toInt = (wt (t i).toInt.toNat + rc).toInt + ((2 : Int32) * (wtF wt t (i + 1) m + rc * (nI m - 1 - nI i))).toInt := fb_addI (by omega) (by omega)
  rw [f7]
  exact ⟨by omega, by omega⟩
theorem SUMP_bd {tm wt t : Nat → Int32} {w : Int} {rc H : Int32} (nb : NBS w wt rc H) (tb : TMB tm) {m : Nat} (hm : m ≤ 7) (ht : ∀ j, j < m → 0 ≤ (t j).toInt ∧ (t j).toInt < w) : ∀ p : Nat, p ≤ m → 0 ≤ (SUMP tm wt t m rc p).toInt ∧ (SUMP tm wt t m rc p).toInt ≤ 899100 * (p : Int) ∧ ∀ q, q ≤ p → (SUMP tm wt t m rc q).toInt ≤ (SUMP tm wt t m rc p).toInt := by
  intro p
  induction p with
  | zero =>
    intro _
    have z : (SUMP tm wt t m rc 0).toInt = 0 := rfl
    exact ⟨by omega, by omega, fun q hq => by rw [show q = 0 by omega]; omega⟩
  | succ p ih =>
    intro hp
    obtain ⟨a, b, c⟩ := ih (by omega)
    obtain ⟨d0, d1⟩ := prC_bd nb hm (show p < m by omega) ht
    obtain ⟨t0, t1⟩ := tb (t p).toInt.toNat
    have k0 : 0 ≤ (tm (t p).toInt.toNat).toInt * (prC wt t (nI p) (nI m) rc).toInt := Int.mul_nonneg t0 d0
    have k1 : (tm (t p).toInt.toNat).toInt * (prC wt t (nI p) (nI m) rc).toInt ≤ 30 * 29970 := Int.mul_le_mul t1 d1 d0 (by omega)
    have f1 : (tm (t p).toInt.toNat * prC wt t (nI p) (nI m) rc).toInt = (tm (t p).toInt.toNat).toInt * (prC wt t (nI p) (nI m) rc).toInt := fb_mulI (by omega) (by omega)
    have f2 : (SUMP tm wt t m rc p + tm (t p).toInt.toNat * prC wt t (nI p) (nI m) rc).toInt = (SUMP tm wt t m rc p).toInt + (tm (t p).toInt.toNat * prC wt t (nI p) (nI m) rc).toInt := fb_addI (by omega) (by omega)
    rw [SUMP_s, f2]
    refine ⟨by omega, by omega, fun q hq => ?_⟩
    by_cases e : q = p + 1
    · rw [e, SUMP_s, f2]; omega
    · have := c q (by omega); omega
/-- its first p are in order -/
def PXO (w : Int) (M : Nat → Nat → Bool) (wt br dp : Nat → Int32) (rs : Nat → Nat → Int32) (m : Nat) (H : Int32) (p : Nat) (t : Nat → Int32) : Prop := (∀ i, i < p → 0 ≤ (t i).toInt ∧ (t i).toInt < w) ∧ myF M t p ∧ (∀ i, i < p → ¬ br (t i).toInt.toNat < wtF wt t (i + 1) m) ∧ ¬ H < hiF rs dp t p
theorem PXO.ok {w : Int} {M : Nat → Nat → Bool} {wt br dp : Nat → Int32} {rs : Nat → Nat → Int32} {m : Nat} {H : Int32} {t : Nat → Int32} (h : PXO w M wt br dp rs m H m t) : RFZ M wt br dp rs t m H 0 := Or.inr ⟨h.2.1, Or.inr ⟨h.2.2.1, Or.inr ⟨rfl, h.2.2.2⟩⟩⟩
theorem RFZ.parts {M : Nat → Nat → Bool} {wt br dp : Nat → Int32} {rs : Nat → Nat → Int32} {m : Nat} {H : Int32} {t : Nat → Int32} (h : RFZ M wt br dp rs t m H 0) : myF M t m ∧ brF wt br t m ∧ ¬ H < hiF rs dp t m := by
  rcases h with ⟨a, _⟩ | ⟨a, ⟨b, _⟩ | ⟨b, ⟨c, _⟩ | ⟨_, c⟩⟩⟩
  · exact absurd a (by decide)
  · exact absurd b (by decide)
  · exact absurd c (by decide)
  · exact ⟨a, b, c⟩
/-- a way so far, what is left; a next one of it -/
def PRE (w : Int) (M : Nat → Nat → Bool) (wt br dp : Nat → Int32) (rs : Nat → Nat → Int32) (tm : Nat → Int32) (rc H : Int32) (m p : Nat) (s : Int32) (t : Nat → Int32) (foot spent : Int32) : Prop :=
  ((0 ≤ s.toInt ∧ s.toInt < 4096) ∧ szB s + p = m ∧ m ≤ 7 ∧ p < m) ∧ (p = 0 → foot = 0) ∧ ∀ t', CDN w m p s t t' → PXO w M wt br dp rs m H p t' ∧ spent = SUMP tm wt t' m rc p ∧ ∀ q, p = q + 1 → foot = ftF rs t' q
def PRT (w : Int) (M : Nat → Nat → Bool) (wt br dp : Nat → Int32) (rs : Nat → Nat → Int32) (tm : Nat → Int32) (rc H : Int32) (m p : Nat) (s : Int32) (t : Nat → Int32) (foot spent : Int32) : Prop :=
  ((0 ≤ s.toInt ∧ s.toInt < 4096) ∧ szB s + p + 1 = m ∧ m ≤ 7) ∧ ∀ t', CDN w m (p + 1) s t t' → PXO w M wt br dp rs m H p t' ∧ myF M t' (p + 1) ∧ (0 ≤ (t' p).toInt ∧ (t' p).toInt < w) ∧ spent = SUMP tm wt t' m rc p ∧ foot = ftF rs t' p
def OKF (M : Nat → Nat → Bool) (wt br dp : Nat → Int32) (rs : Nat → Nat → Int32) (m : Nat) (H : Int32) (t : Nat → Int32) : Prop := RFZ M wt br dp rs t m H 0
def VLF (tm wt : Nat → Int32) (m : Nat) (rc : Int32) (t : Nat → Int32) : Int := (SUMP tm wt t m rc m).toInt
theorem PRE.root {w : Int} {M : Nat → Nat → Bool} {wt br dp : Nat → Int32} {rs : Nat → Nat → Int32} {tm : Nat → Int32} {rc H : Int32} {m : Nat} {s : Int32} {t : Nat → Int32} {foot spent : Int32} (nb : NBS w wt rc H) (h0 : 0 ≤ s.toInt ∧ s.toInt < 4096) (hs : szB s = m) (m7 : m ≤ 7) (m1 : 1 ≤ m) (ef : foot = 0) (es : spent = 0) : PRE w M wt br dp rs tm rc H m 0 s t foot spent :=
  ⟨⟨h0, by omega, m7, m1⟩, fun _ => ef, fun t' _ => ⟨⟨fun i hi => absurd hi (Nat.not_lt_zero _), fun i _ hi => absurd hi (Nat.not_lt_zero _), fun i hi => absurd hi (Nat.not_lt_zero _), fun z => by
    have z' : H < 0 := z
    rw [Int32.lt_iff_toInt_lt] at z'
    have := nb.2.2.2
    have e0 : (0 : Int32).toInt = 0 := rfl
    omega⟩, es, fun q hq => absurd hq (by omega)⟩⟩
section
variable {w : Int} {M : Nat → Nat → Bool} {wt br dp : Nat → Int32} {rs : Nat → Nat → Int32} {tm : Nat → Int32} {rc H : Int32} {m p : Nat} {s : Int32} {t : Nat → Int32} {foot spent : Int32}
/-- what of an order lies in range -/
theorem PRT.rng (nb : NBS w wt rc H) (h : PRT w M wt br dp rs tm rc H m p s t foot spent) {t' : Nat → Int32} (ht : CDN w m (p + 1) s t t') : ∀ j, j < m → 0 ≤ (t' j).toInt ∧ (t' j).toInt < w := fun j hj => by
  obtain ⟨y1, _, y3, _⟩ := h.2 t' ht
  by_cases a : j < p
  · exact y1.1 j a
  · by_cases b : j = p
    · rw [b]; exact y3
    · exact (PMT.bit nb.1.2 _ _ _ t' ht.2 j (by omega) (by omega)).1
theorem PRT.wgt (nb : NBS w wt rc H) (h : PRT w M wt br dp rs tm rc H m p s t foot spent) {t' : Nat → Int32} (ht : CDN w m (p + 1) s t t') {x : Int32} (hx : x = wS wt s w.toNat) : wtF wt t' (p + 1) m = x := by
  rw [hx]
  exact PMT.wt nb.1.2 _ _ _ _ t' (by have := h.1.2.1; omega) ht.2
theorem PRT.heavy (nb : NBS w wt rc H) (h : PRT w M wt br dp rs tm rc H m p s t foot spent) {x y : Int32} (ex : t p = x) (hy : y = wS wt s w.toNat) (hv : (br x.toInt.toNat).toInt < y.toInt) {V : (Nat → Int32) → Int} {fd : Prop} {c : Int} {o : Nat → Int32} : IMP m (CDN w m (p + 1) s t) (OKF M wt br dp rs m H) V fd c o fd c o :=
  IMP.none (fun t' ht k => by
    exfalso
    have b := (RFZ.parts k).2.1 p (by have := h.1.2.1; omega)
    rw [h.wgt nb ht hy, ht.1 p (Nat.lt_succ_self p), ex, Int32.lt_iff_toInt_lt] at b
    exact b hv) Iff.rfl rfl (fun _ _ => rfl)
theorem PRT.tall (h : PRT w M wt br dp rs tm rc H m p s t foot spent) {x z : Int32} (ex : t p = x) (ez : z = foot + dp x.toInt.toNat) (hv : H.toInt < z.toInt) {V : (Nat → Int32) → Int} {fd : Prop} {c : Int} {o : Nat → Int32} : IMP m (CDN w m (p + 1) s t) (OKF M wt br dp rs m H) V fd c o fd c o :=
  IMP.none (fun t' ht k => by
    exfalso
    have b := hiF_at (RFZ.parts k).2.2 (show p < m by have := h.1.2.1; omega)
    rw [← (h.2 t' ht).2.2.2.2, ht.1 p (Nat.lt_succ_self p), ex, ← ez, Int32.lt_iff_toInt_lt] at b
    exact b hv) Iff.rfl rfl (fun _ _ => rfl)
theorem PRT.sum (nb : NBS w wt rc H) (h : PRT w M wt br dp rs tm rc H m p s t foot spent) {x y z l : Int32} (ex : t p = x) (hy : y = wS wt s w.toNat) (el : l.toInt = (p : Int)) {mm : Int32} (em : mm.toInt = (m : Int)) (ez : z = spent + tm x.toInt.toNat * (wt x.toInt.toNat + rc + 2 * (y + rc * (mm - 1 - l)))) {t' : Nat → Int32} (ht : CDN w m (p + 1) s t t') : z = SUMP tm wt t' m rc (p + 1) := by
  have m7 := h.1.2.2
  have hs := h.1.2.1
  have e1 : l = nI p := (i_eq _ _).mpr (by rw [nI_toInt (by omega)]; exact el)
  have e2 : mm = nI m := (i_eq _ _).mpr (by rw [nI_toInt (by omega)]; exact em)
  have ei : (nI p).toInt.toNat = p := by rw [nI_toInt (by omega)]; omega
  have ej : (nI m).toInt.toNat = m := by rw [nI_toInt (by omega)]; omega
  rw [ez, SUMP_s, ← (h.2 t' ht).2.2.2.1]
  unfold prC
  rw [ei, ej, h.wgt nb ht hy, ht.1 p (Nat.lt_succ_self p), ex, e1, e2]
theorem PRT.dear (nb : NBS w wt rc H) (tb : TMB tm) (h : PRT w M wt br dp rs tm rc H m p s t foot spent) {z : Int32} (hz : ∀ t', CDN w m (p + 1) s t t' → z = SUMP tm wt t' m rc (p + 1)) {fd : Prop} {c : Int} {o : Nat → Int32} (hf : fd) (hc : c ≤ z.toInt) : IMP m (CDN w m (p + 1) s t) (OKF M wt br dp rs m H) (VLF tm wt m rc) fd c o fd c o :=
  IMP.none (fun t' ht _ => ⟨hf, by
    have y := (SUMP_bd nb tb h.1.2.2 (h.rng nb ht) m (Nat.le_refl m)).2.2 (p + 1) (by have := h.1.2.1; omega)
    rw [hz t' ht] at hc
    unfold VLF
    omega⟩) Iff.rfl rfl (fun _ _ => rfl)
/-- the next one may stand -/
theorem PRT.up (nb : NBS w wt rc H) (h : PRT w M wt br dp rs tm rc H m p s t foot spent) {x y z : Int32} (ex : t p = x) (hy : y = wS wt s w.toNat) (hv : ¬ (br x.toInt.toNat).toInt < y.toInt) (ez : z = foot + dp x.toInt.toNat) (hh : ¬ H.toInt < z.toInt) {t' : Nat → Int32} (ht : CDN w m (p + 1) s t t') : PXO w M wt br dp rs m H (p + 1) t' := by
  obtain ⟨y1, y2, y3, _, y5⟩ := h.2 t' ht
  have xp : t' p = x := (ht.1 p (Nat.lt_succ_self p)).trans ex
  refine ⟨fun i hi => ?_, y2, fun i hi => ?_, hiF_up y1.2.2.2 ?_⟩
  · by_cases c : i = p
    · rw [c]; exact y3
    · exact y1.1 i (by omega)
  · by_cases c : i = p
    · rw [c, h.wgt nb ht hy, xp, Int32.lt_iff_toInt_lt]; exact hv
    · exact y1.2.2.1 i (by omega)
  · rw [← y5, xp, ← ez, Int32.lt_iff_toInt_lt]; exact hh
theorem PRT.leaf (h : PRT w M wt br dp rs tm rc H m p s t foot spent) (hs : s = 0) {z : Int32} (hz : ∀ t', CDN w m (p + 1) s t t' → z = SUMP tm wt t' m rc (p + 1)) (hu : ∀ t', CDN w m (p + 1) s t t' → PXO w M wt br dp rs m H (p + 1) t') {fd fd' : Prop} {c c' : Int} {o o' : Nat → Int32} (hf : fd') (hc : fd → z.toInt < c) (ec : c' = z.toInt) (eo : ∀ i, i < m → o' i = t i) : IMP m (CDN w m (p + 1) s t) (OKF M wt br dp rs m H) (VLF tm wt m rc) fd c o fd' c' o' := by
  have e := h.1.2.1
  rw [hs, szB_0] at e
  have em : p + 1 = m := by omega
  have cs : CDN w m (p + 1) s t t := by rw [hs]; exact CDN.self t (by omega)
  have k := hu t cs
  have zz := hz t cs
  rw [em] at k zz
  refine IMP.take hs (by omega) k.ok (fun t' et => ?_) hf (fun f => by have := hc f; omega) eo ?_
  · have c' : CDN w m (p + 1) s t t' := by rw [hs]; exact ⟨fun i hi => et i (by omega), by rw [show m - (p + 1) = 0 by omega]; exact rfl⟩
    have z' := hz t' c'
    rw [em] at z'
    unfold VLF
    rw [← z', zz]
  · unfold VLF
    rw [ec, zz]
theorem PRT.next (h : PRT w M wt br dp rs tm rc H m p s t foot spent) (hs : ¬ s = 0) {z f1 : Int32} (hz : ∀ t', CDN w m (p + 1) s t t' → z = SUMP tm wt t' m rc (p + 1)) (hu : ∀ t', CDN w m (p + 1) s t t' → PXO w M wt br dp rs m H (p + 1) t') (ef : f1 = foot) {q : Nat} (eq : q = p + 1) : PRE w M wt br dp rs tm rc H m q s t f1 z := by
  subst eq; subst ef
  obtain ⟨⟨a, b, c⟩, d⟩ := h
  have s1 : ¬ szB s = 0 := fun e => hs (sz_z a.1 a.2 e)
  refine ⟨⟨a, by omega, c, by omega⟩, fun e => absurd e (by omega), fun t' ht => ⟨hu t' ht, hz t' ht, fun q hq => ?_⟩⟩
  rw [show q = p by omega]
  exact (d t' ht).2.2.2.2
theorem PRE.child (nb : NBS w wt rc H) (h : PRE w M wt br dp rs tm rc H m p s t foot spent) {x r f1 s1 : Int32} {t1 : Nat → Int32} (x0 : 0 ≤ x.toInt) (xw : x.toInt < w) (hb : BT s x.toInt.toNat = true) (es : s1 = cx s x.toInt.toNat) (et : ∀ i, i < p → t1 i = t i) (ex : t1 p = x) (hM : ∀ q, p = q + 1 → M x.toInt.toNat (t q).toInt.toNat = true) (er : (p = 0 → r = 0) ∧ ∀ q, p = q + 1 → r = rs x.toInt.toNat (t q).toInt.toNat) (ef : f1 = foot + r) : PRT w M wt br dp rs tm rc H m p s1 t1 f1 spent := by
  subst es
  obtain ⟨⟨a, b, c, d⟩, e, k⟩ := h
  have w12 := nb.1.2
  have z := sz_rx (show x.toInt.toNat < 12 by omega) hb
  have y := cx_lt (show x.toInt.toNat < 12 by omega) a.1 hb
  refine ⟨⟨⟨y.1, by omega⟩, by omega, c⟩, fun t' ht => ?_⟩
  obtain ⟨c1, xp⟩ := (CDN.child d x0 xw hb et ex).mp ht
  obtain ⟨k1, k2, k3⟩ := k t' c1
  refine ⟨k1, fun i i1 i2 => ?_, by rw [xp]; exact ⟨x0, xw⟩, k2, ?_⟩
  · by_cases q : i = p
    · rw [q, xp, c1.1 (p - 1) (by omega)]
      exact hM (p - 1) (by omega)
    · exact k1.2.1 i i1 (by omega)
  · rcases Nat.eq_zero_or_pos p with q | q
    · rw [ef, e q, er.1 q, q]; rfl
    · obtain ⟨q', hq⟩ : ∃ q', p = q' + 1 := ⟨p - 1, by omega⟩
      rw [ef, k3 q' hq, er.2 q' hq, hq, ftF_s, ← hq, xp, c1.1 q' (by omega)]
theorem PRE.skip (nb : NBS w wt rc H) (h : PRE w M wt br dp rs tm rc H m p s t foot spent) {x : Int32} (x0 : 0 ≤ x.toInt) (hn : ¬ (BT s x.toInt.toNat = true ∧ ∀ q, p = q + 1 → M x.toInt.toNat (t q).toInt.toNat = true)) : ∀ t', CDN w m p s t t' → (t' p).toInt = x.toInt → ¬ OKF M wt br dp rs m H t' := fun t' ht e k => by
  obtain ⟨⟨a, b, c, d⟩, _⟩ := h
  have xp : t' p = x := (i_eq _ _).mpr e
  have h2 := ht.2
  rw [show m - p = (m - p - 1) + 1 by omega] at h2
  refine hn ⟨by have := h2.2.1; rw [xp] at this; exact this, fun q hq => ?_⟩
  have y := (RFZ.parts k).1 p (by omega) d
  rw [xp, show p - 1 = q by omega, ht.1 q (by omega)] at y
  exact y
end

/-- whether an asking was met below place n; what it costs by then -/
def aF (t : Nat → Int32) (a : Int32) : Nat → Bool
  | 0 => false
  | n + 1 => aF t a n || decide (t n = a)
def aS (wt : Nat → Int32) (rc : Int32) (t : Nat → Int32) (a : Int32) : Nat → Int32
  | 0 => 0
  | n + 1 => aS wt rc t a n + (if aF t a n = true then 2 * (wt (t n).toInt.toNat + rc) else 0) + (if t n = a then wt (t n).toInt.toNat + rc else 0)
theorem aF_s (t : Nat → Int32) (a : Int32) (n : Nat) : aF t a (n + 1) = (aF t a n || decide (t n = a)) := rfl
theorem aS_s (wt : Nat → Int32) (rc : Int32) (t : Nat → Int32) (a : Int32) (n : Nat) : aS wt rc t a (n + 1) = aS wt rc t a n + (if aF t a n = true then 2 * (wt (t n).toInt.toNat + rc) else 0) + (if t n = a then wt (t n).toInt.toNat + rc else 0) := rfl
theorem aF_cg {t t' : Nat → Int32} {a : Int32} : ∀ n : Nat, (∀ i, i < n → t i = t' i) → aF t a n = aF t' a n := by
  intro n
  induction n with
  | zero => intro _; rfl
  | succ n ih => intro h; rw [aF_s, aF_s, ih (fun i hi => h i (by omega)), h n (Nat.lt_succ_self n)]
theorem aS_cg {wt t t' : Nat → Int32} {rc a : Int32} : ∀ n : Nat, (∀ i, i < n → t i = t' i) → aS wt rc t a n = aS wt rc t' a n := by
  intro n
  induction n with
  | zero => intro _; rfl
  | succ n ih => intro h; rw [aS_s, aS_s, ih (fun i hi => h i (by omega)), h n (Nat.lt_succ_self n), aF_cg n (fun i hi => h i (by omega))]
theorem aF_n {t : Nat → Int32} {a : Int32} : ∀ n : Nat, (∀ i, i < n → ¬ t i = a) → aF t a n = false := by
  intro n
  induction n with
  | zero => intro _; rfl
  | succ n ih => intro h; rw [aF_s, ih (fun i hi => h i (by omega)), decide_eq_false (h n (Nat.lt_succ_self n))]; rfl
theorem aS_n {wt t : Nat → Int32} {rc a : Int32} : ∀ n : Nat, (∀ i, i < n → ¬ t i = a) → aS wt rc t a n = 0 := by
  intro n
  induction n with
  | zero => intro _; rfl
  | succ n ih => intro h; rw [aS_s, ih (fun i hi => h i (by omega)), aF_n n (fun i hi => h i (by omega)), if_neg Bool.false_ne_true, if_neg (h n (Nat.lt_succ_self n)), Int32.add_zero, Int32.add_zero]
theorem aS_q {wt t : Nat → Int32} {rc a : Int32} {q m : Nat} (e : t q = a) (ne : ∀ i, i < m → ¬ i = q → ¬ t i = a) : ∀ n : Nat, n ≤ m → q < n → aF t a n = true ∧ aS wt rc t a n = lcF wt t rc q n := by
  intro n
  induction n with
  | zero => intro _ h; exact absurd h (Nat.not_lt_zero _)
  | succ n ih =>
    intro hm hq
    by_cases c : n = q
    · have nn : ∀ i, i < n → ¬ t i = a := fun i hi => ne i (by omega) (by omega)
      rw [aF_s, aS_s, lcF_s, aS_n n nn, aF_n n nn, if_neg Bool.false_ne_true, if_pos (show q ≤ n by omega), if_pos c, lcF_0 wt t rc (show n ≤ q by omega), show t n = a by rw [c]; exact e, decide_eq_true rfl, if_pos rfl, Int32.add_zero, Int32.one_mul]
      exact ⟨rfl, rfl⟩
    · obtain ⟨i1, i2⟩ := ih (by omega) (by omega)
      rw [aF_s, aS_s, lcF_s, i1, i2, if_pos rfl, if_pos (show q ≤ n by omega), if_neg c, if_neg (ne n (by omega) c), Int32.add_zero]
      exact ⟨rfl, rfl⟩
theorem sumF_z {h : Nat → Int32} : ∀ n : Nat, (∀ i, i < n → h i = 0) → sumF h n = 0 := by
  intro n
  induction n with
  | zero => intro _; rfl
  | succ n ih => intro e; rw [sumF_s, ih (fun i hi => e i (by omega)), e n (Nat.lt_succ_self n), Int32.add_zero]
theorem sumF_one {h : Nat → Int32} {q : Nat} : ∀ n : Nat, q < n → (∀ i, i < n → ¬ i = q → h i = 0) → sumF h n = h q := by
  intro n
  induction n with
  | zero => intro hq; exact absurd hq (Nat.not_lt_zero _)
  | succ n ih =>
    intro hq e
    by_cases c : n = q
    · rw [sumF_s, sumF_z n (fun i hi => e i (by omega) (by omega)), c, Int32.zero_add]
    · rw [sumF_s, ih (by omega) (fun i hi => e i (by omega)), e n (Nat.lt_succ_self n) c, Int32.add_zero]
theorem add4 (a b c d : Int32) : a + b + (c + d) = a + c + (b + d) := by
  rw [Int32.add_assoc, ← Int32.add_assoc b, Int32.add_comm b c, Int32.add_assoc c, ← Int32.add_assoc a c]
theorem sumF_add {h k : Nat → Int32} : ∀ n : Nat, sumF (fun i => h i + k i) n = sumF h n + sumF k n := by
  intro n
  induction n with
  | zero => show (0 : Int32) = 0 + 0; rfl
  | succ n ih => rw [sumF_s, sumF_s, sumF_s, ih, add4]
theorem sumF_sw {d : Nat → Nat → Int32} {g : Nat → Int32} {m : Nat} : ∀ n : Nat, sumF (fun k => sumF (fun i => d k i * g i) m) n = sumF (fun i => sumF (fun k => d k i) n * g i) m := by
  intro n
  induction n with
  | zero =>
    refine (sumF_z m (fun i _ => ?_)).symm
    show (0 : Int32) * g i = 0
    rw [Int32.zero_mul]
  | succ n ih =>
    rw [sumF_s, ih, ← sumF_add]
    refine sumF_cong m (fun i _ => ?_)
    rw [sumF_s, Int32.add_mul]
theorem tmF_bd {a : Nat → Int32} {j : Nat} : ∀ n : Nat, n ≤ 30 → 0 ≤ (tmF a n j).toInt ∧ (tmF a n j).toInt ≤ (n : Int) := by
  intro n
  induction n with
  | zero => intro _; have z : (tmF a 0 j).toInt = 0 := rfl; rw [z]; exact ⟨by decide, by decide⟩
  | succ n ih =>
    intro hn
    obtain ⟨x, y⟩ := ih (by omega)
    have e : tmF a (n + 1) j = tmF a n j + (if a n = nI j then 1 else 0) := rfl
    have e1 : (1 : Int32).toInt = 1 := rfl
    rw [e]
    by_cases c : a n = nI j
    · rw [if_pos c, fb_addI (by omega) (by omega)]; exact ⟨by omega, by omega⟩
    · rw [if_neg c, Int32.add_zero]; exact ⟨by omega, by omega⟩
theorem TMB.of (a : Nat → Int32) {n : Nat} (h : n ≤ 30) : TMB (tmF a n) := fun j => by have := tmF_bd (a := a) (j := j) n h; exact ⟨by omega, by omega⟩
/-- the wares of a row as a set -/
def SETR (s : Int32) (r : Nat → Int32) (n : Nat) : Prop := (0 ≤ s.toInt ∧ s.toInt < 4096) ∧ ∀ j : Nat, j < 12 → (BT s j = true ↔ ∃ p, p < n ∧ (r p).toInt = (j : Int))
theorem SETR.zero (r : Nat → Int32) {n : Nat} (hn : n = 0) : SETR 0 r n := ⟨⟨by decide, by decide⟩, fun j hj => ⟨fun z => by rw [show BT 0 j = false from bt_z j (by omega)] at z; exact absurd z Bool.false_ne_true, fun ⟨p, p1, _⟩ => by omega⟩⟩
theorem sh_rg : ∀ n, n < 12 → 0 ≤ ((1 : Int32) <<< (nI n &&& 31)).toInt ∧ ((1 : Int32) <<< (nI n &&& 31)).toInt ≤ 4095 := by decide +kernel
theorem SETR.add {s s' x : Int32} {r : Nat → Int32} {n n' : Nat} (h : SETR s r n) (hn : n' = n + 1) (es : s' = s ||| ((1 : Int32) <<< (x &&& 31))) (hx : r n = x) (x0 : 0 ≤ x.toInt) (x1 : x.toInt < 12) : SETR s' r n' := by
  subst hn; subst es
  have ex : nI x.toInt.toNat = x := nI_bk2 x0
  have y := sh_rg x.toInt.toNat (by omega)
  rw [ex] at y
  have o := orb (x := s) (y := (1 : Int32) <<< (x &&& 31)) 12 (by decide) h.1.1 y.1 (by have := h.1.2; omega) (by omega)
  refine ⟨⟨o.1, by omega⟩, fun j hj => ?_⟩
  have b := bs_s32 x.toInt.toNat (by omega) j (by omega)
  rw [ex] at b
  rw [bt_or2, show BT ((1 : Int32) <<< (x &&& 31)) j = decide (j = x.toInt.toNat) from b, Bool.or_eq_true, h.2 j hj, decide_eq_true_iff]
  constructor
  · rintro (⟨p, p1, p2⟩ | q)
    · exact ⟨p, by omega, p2⟩
    · exact ⟨n, by omega, by rw [hx]; omega⟩
  · rintro ⟨p, p1, p2⟩
    by_cases c : p = n
    · rw [c, hx] at p2; exact Or.inr (by omega)
    · exact Or.inl ⟨p, by omega, p2⟩
theorem SETR.cg {s : Int32} {r r' : Nat → Int32} {n : Nat} (h : SETR s r n) (e : ∀ p, p < n → r p = r' p) : SETR s r' n :=
  ⟨h.1, fun j hj => (h.2 j hj).trans ⟨fun ⟨p, p1, p2⟩ => ⟨p, p1, by rw [← e p p1]; exact p2⟩, fun ⟨p, p1, p2⟩ => ⟨p, p1, by rw [e p p1]; exact p2⟩⟩⟩
theorem SETR.sz {s : Int32} {r : Nat → Int32} {n : Nat} (h : SETR s r n) (hr : ∀ p, p < n → 0 ≤ (r p).toInt ∧ (r p).toInt < 12) (ne : ∀ p q, p < q → q < n → ¬ r p = r q) : szB s = n := by
  unfold szB
  refine cnB_row 12 n (fun p => (r p).toInt.toNat) (fun p hp => ?_) (fun p q hpq hq e => ?_) (fun w hw hb => ?_)
  · have y := hr p hp
    refine ⟨show (r p).toInt.toNat < 12 by omega, ?_⟩
    show BT s (r p).toInt.toNat = true
    exact (h.2 _ (by omega)).mpr ⟨p, hp, by omega⟩
  · have y := hr p (by omega)
    have y' := hr q hq
    have e' : (r p).toInt.toNat = (r q).toInt.toNat := e
    exact ne p q hpq hq ((i_eq _ _).mpr (by omega))
  · obtain ⟨p, p1, p2⟩ := (h.2 w hw).mp hb
    exact ⟨p, p1, show (r p).toInt.toNat = w by omega⟩
/-- the best of a row -/
def BSQ (w : Int) (ok : (Nat → Int32) → Prop) (V : (Nat → Int32) → Int) (r : Nat → Int32) (n : Nat) (what x : Int) : Prop :=
  (¬ (0 ≤ what ∧ what ≤ (n : Int) ∧ (n : Int) ≤ 7) ∧ x = -1) ∨ ((0 ≤ what ∧ what ≤ (n : Int) ∧ (n : Int) ≤ 7) ∧ ∃ (s : Int32) (t0 o0 o : Nat → Int32) (fd0 fd : Prop) (c0 c : Int), SETR s r n ∧ ¬ fd0 ∧ IMP n (CDN w n 0 s t0) ok V fd0 c0 o0 fd c o ∧ ((¬ fd ∧ x = -1) ∨ (fd ∧ ((what = 0 ∧ x = c) ∨ (¬ what = 0 ∧ x = (o (what.toNat - 1)).toInt)))))
/-- what all askings of a row cost: the reference -/
def VMF (t f : Nat → Int32) (rc : Int32) (m : Nat) (z : Nat → Int32) : Int := (sumF (fun k => aS (wtM t) rc z (f (422 + k)) m) (f 421).toInt.toNat).toInt
/-- the reference: what is left of a set -/
def lfO (s u : Int32) : Int32 := s &&& (u ^^^ (-1))
theorem lfO_bt (s u : Int32) {j : Nat} (hj : j < 32) : BT (lfO s u) j = (BT s j && !BT u j) := by
  unfold lfO
  rw [bt_and2, bx_xor, show BT (-1) j = true from bm_1 j hj, Bool.xor_true]
theorem lfO_0 (s : Int32) : lfO s 0 = s := bt_ext (fun j hj => by rw [lfO_bt s 0 hj, show BT 0 j = false from bt_z j hj]; cases BT s j <;> rfl)
theorem lfO_rg {s u : Int32} (h : 0 ≤ s.toInt ∧ s.toInt < 4096) : 0 ≤ (lfO s u).toInt ∧ (lfO s u).toInt < 4096 := by
  have a := andb_l (x := s) (y := u ^^^ (-1)) h.1
  unfold lfO
  exact ⟨a.1, by omega⟩
theorem lfO_up {s u : Int32} {b : Nat} (hb : b < 12) (h : BT (lfO s u) b = true) : lfO s (u ||| ((1 : Int32) <<< (nI b &&& 31))) = cx (lfO s u) b := bt_ext (fun j hj => by
  rw [lfO_bt _ _ hj, cx_bt hb hj, lfO_bt _ _ hj, bt_or2, show BT ((1 : Int32) <<< (nI b &&& 31)) j = decide (j = b) from bs_s32 b hb j hj]
  rw [lfO_bt _ _ (show b < 32 by omega), Bool.and_eq_true] at h
  by_cases c : j = b
  · rw [c, decide_eq_true rfl, h.1]
    have h2 := h.2
    cases q : BT u b
    · rfl
    · rw [q] at h2; exact absurd h2 (by decide)
  · rw [decide_eq_false c, Bool.or_false, Bool.xor_false])

set_option maxHeartbeats 4000000 in
set_option maxRecDepth 100000 in
theorem c_X6_extend_z (l : Launch) (D : DG) (cyC cyI cyJ cyZ cyO : ClassId) (s0 : Nat) (s1 : Nat) (s2 : Nat) (s3 : Nat) (a0 : Nat) (a1 : Nat) (a2 : Nat) (a3 : Nat) (a4 : Nat) (a7 : Nat) (a5 : Nat) (a6 : Nat) (a8 : Nat) (a9 : Nat) (a10 : Nat) (p0 : Int32) (p2 : Int32) (p3 : Int32) (p4 : Int32) (s_cost : Int32) (s_found : Int32) (s_size : Int32) (s_height : Int32) (s_reach : Int32) (a_wares : Int32) (a_shelves : Int32) (a_nests : Int32) (a_lids : Int32) (a_tops : Int32) (s_order : Nat → Int32) (s_trial : Nat → Int32) (s_times : Nat → Int32) (a_wide : Nat → Int32) (a_deep : Nat → Int32) (a_weight : Nat → Int32) (a_bears : Nat → Int32) (a_mayOn : Nat → Int32) (h_s_found : 0 ≤ (s_found).toInt ∧ (s_found).toInt ≤ 1) (h_s_size : 0 ≤ (s_size).toInt ∧ (s_size).toInt ≤ 7) (h_a_wares : 0 ≤ (a_wares).toInt ∧ (a_wares).toInt ≤ 12) (h_a_shelves : 0 ≤ (a_shelves).toInt ∧ (a_shelves).toInt ≤ 4) (h_a_nests : 0 ≤ (a_nests).toInt ∧ (a_nests).toInt ≤ 4) (h_s_trial : Iv 7 (0) (11) s_trial) (hdp9 : (p0).toInt = 7 - ((0 : Nat) : Int)) : KK l D (TY cyC cyI cyJ cyZ cyO) yX6_extend cX6_extend 9 none ({ frames := 1, cells := 0, slots := 0, locals := 29 } : Room) 0 0 [.ref s0, .ref a0, .int p0, .int p2, .int p3, .int p4] [(s0, .inr (6, [.ref s1, .int s_cost, .int s_found, .int s_size, .int s_height, .int s_reach, .ref s2, .ref s3])), (s1, .inl (cyI, 7, .inl s_order)), (s2, .inl (cyI, 7, .inl s_trial)), (s3, .inl (cyI, 12, .inl s_times)), (a0, .inr (9, [.int a_wares, .int a_shelves, .int a_nests, .ref a1, .ref a2, .ref a3, .ref a4, .ref a5, .ref a6, .int a_lids, .int a_tops, .ref a7, .ref a8, .ref a9, .ref a10])), (a1, .inl (cyI, 12, .inl a_wide)), (a2, .inl (cyI, 12, .inl a_deep)), (a3, .inl (cyI, 12, .inl a_weight)), (a4, .inl (cyI, 12, .inl a_bears)), (a7, .inl (cyI, 12, .inl a_mayOn))] (fun u => none) (fun u => (0 ≤ (u.2.1 1).toInt ∧ (u.2.1 1).toInt ≤ 1) ∧ (Iv 7 (0) (11) (u.2.2.1 1)) ∧ (∀ tm : Nat → Int32, NBS (a_wares).toInt a_weight s_reach s_height → TMB tm → (∀ j : Nat, j < 12 → BT p2 j = true → s_times j = tm j) → PRE (a_wares).toInt (fun u l => BT (a_mayOn l) u) a_weight a_bears a_deep (rsC a_wide a_deep a_lids) tm s_reach s_height (s_size).toInt.toNat (p0).toInt.toNat p2 s_trial p3 p4 → IMP (s_size).toInt.toNat (CDN (a_wares).toInt (s_size).toInt.toNat (p0).toInt.toNat p2 s_trial) (OKF (fun u l => BT (a_mayOn l) u) a_weight a_bears a_deep (rsC a_wide a_deep a_lids) (s_size).toInt.toNat s_height) (VLF tm a_weight (s_size).toInt.toNat s_reach) ((s_found).toInt = 1) (s_cost).toInt s_order (((u.2.1 1)).toInt = 1) ((u.2.1 0)).toInt (u.2.2.1 0)) ∧ (∀ i : Nat, (i : Int) < (p0).toInt → (u.2.2.1 1) i = s_trial i)) (fun u => [(s0, .inr (6, [.ref s1, .int (u.2.1 0), .int (u.2.1 1), .int s_size, .int s_height, .int s_reach, .ref s2, .ref s3])), (s1, .inl (cyI, 7, .inl (u.2.2.1 0))), (s2, .inl (cyI, 7, .inl (u.2.2.1 1))), (s3, .inl (cyI, 12, .inl s_times)), (a0, .inr (9, [.int a_wares, .int a_shelves, .int a_nests, .ref a1, .ref a2, .ref a3, .ref a4, .ref a5, .ref a6, .int a_lids, .int a_tops, .ref a7, .ref a8, .ref a9, .ref a10])), (a1, .inl (cyI, 12, .inl a_wide)), (a2, .inl (cyI, 12, .inl a_deep)), (a3, .inl (cyI, 12, .inl a_weight)), (a4, .inl (cyI, 12, .inl a_bears)), (a7, .inl (cyI, 12, .inl a_mayOn))]) := by
  refine KK.of (lv0 := [(0, .ref s0), (1, .ref a0), (2, .int p0), (3, .int p2), (4, .int p3), (5, .int p4)]) (by decide) rfl (Nat.le_of_ble_eq_true rfl) ?_
  intro p e s m args below meth c A C hr hk hin
  refine j_iload_n (pc := 0) C dX6_extend_0 rfl 2 rfl ?_
  refine j_aload_n (pc := 1) C dX6_extend_1 rfl 0 rfl ?_
  refine j_get (pc := 2) (ci := 6) (v := .int s_size) C inw_6 0 rfl rfl 3 (by decide) wd_149 rfl rfl dX6_extend_2 ?_
  refine j_icmp_lt_f (pc := 5) (tgt := 9) C dX6_extend_5 (by decide) (by rw [i_lt]; omega) ?_
  exact j_vret (pc := 8) C hr hk (fun i => [].getD i 0, fun i => [s_cost, s_found].getD i 0, fun i => [s_order, s_trial].getD i (fun _ => 0), fun i => [].getD i (fun _ => 0)) rfl (show (0 ≤ (s_found).toInt ∧ (s_found).toInt ≤ 1) ∧ (Iv 7 (0) (11) s_trial) ∧ (∀ tm : Nat → Int32, NBS (a_wares).toInt a_weight s_reach s_height → TMB tm → (∀ j : Nat, j < 12 → BT p2 j = true → s_times j = tm j) → PRE (a_wares).toInt (fun u l => BT (a_mayOn l) u) a_weight a_bears a_deep (rsC a_wide a_deep a_lids) tm s_reach s_height (s_size).toInt.toNat (p0).toInt.toNat p2 s_trial p3 p4 → IMP (s_size).toInt.toNat (CDN (a_wares).toInt (s_size).toInt.toNat (p0).toInt.toNat p2 s_trial) (OKF (fun u l => BT (a_mayOn l) u) a_weight a_bears a_deep (rsC a_wide a_deep a_lids) (s_size).toInt.toNat s_height) (VLF tm a_weight (s_size).toInt.toNat s_reach) ((s_found).toInt = 1) (s_cost).toInt s_order ((s_found).toInt = 1) (s_cost).toInt s_order) ∧ (∀ i : Nat, (i : Int) < (p0).toInt → s_trial i = s_trial i) from ⟨h_s_found, h_s_trial, (fun tm nb tb ht pre => by exfalso; have y9 := pre.1.2.2.2; omega), (fun i hi => rfl)⟩) [0, 1, 2, 3, 4, 5, 6, 7, 8, 9] (by decide) rfl (by decide) (by decide) dX6_extend_8
set_option maxHeartbeats 4000000 in
set_option maxRecDepth 100000 in
def S_c_X6_extend (n9 : Nat) : Prop := ∀ (l : Launch) (D : DG) (cyC cyI cyJ cyZ cyO : ClassId) (s0 : Nat) (s1 : Nat) (s2 : Nat) (s3 : Nat) (a0 : Nat) (a1 : Nat) (a2 : Nat) (a3 : Nat) (a4 : Nat) (a7 : Nat) (a5 : Nat) (a6 : Nat) (a8 : Nat) (a9 : Nat) (a10 : Nat) (p0 : Int32) (p2 : Int32) (p3 : Int32) (p4 : Int32) (s_cost : Int32) (s_found : Int32) (s_size : Int32) (s_height : Int32) (s_reach : Int32) (a_wares : Int32) (a_shelves : Int32) (a_nests : Int32) (a_lids : Int32) (a_tops : Int32) (s_order : Nat → Int32) (s_trial : Nat → Int32) (s_times : Nat → Int32) (a_wide : Nat → Int32) (a_deep : Nat → Int32) (a_weight : Nat → Int32) (a_bears : Nat → Int32) (a_mayOn : Nat → Int32) (h_s_found : 0 ≤ (s_found).toInt ∧ (s_found).toInt ≤ 1) (h_s_size : 0 ≤ (s_size).toInt ∧ (s_size).toInt ≤ 7) (h_a_wares : 0 ≤ (a_wares).toInt ∧ (a_wares).toInt ≤ 12) (h_a_shelves : 0 ≤ (a_shelves).toInt ∧ (a_shelves).toInt ≤ 4) (h_a_nests : 0 ≤ (a_nests).toInt ∧ (a_nests).toInt ≤ 4) (h_s_trial : Iv 7 (0) (11) s_trial) (hdp9 : (p0).toInt = 7 - ((n9 : Nat) : Int)), KK l D (TY cyC cyI cyJ cyZ cyO) yX6_extend cX6_extend 9 none ({ frames := 1 + 2 * n9, cells := 0, slots := 0, locals := 29 + 57 * n9 } : Room) 0 0 [.ref s0, .ref a0, .int p0, .int p2, .int p3, .int p4] [(s0, .inr (6, [.ref s1, .int s_cost, .int s_found, .int s_size, .int s_height, .int s_reach, .ref s2, .ref s3])), (s1, .inl (cyI, 7, .inl s_order)), (s2, .inl (cyI, 7, .inl s_trial)), (s3, .inl (cyI, 12, .inl s_times)), (a0, .inr (9, [.int a_wares, .int a_shelves, .int a_nests, .ref a1, .ref a2, .ref a3, .ref a4, .ref a5, .ref a6, .int a_lids, .int a_tops, .ref a7, .ref a8, .ref a9, .ref a10])), (a1, .inl (cyI, 12, .inl a_wide)), (a2, .inl (cyI, 12, .inl a_deep)), (a3, .inl (cyI, 12, .inl a_weight)), (a4, .inl (cyI, 12, .inl a_bears)), (a7, .inl (cyI, 12, .inl a_mayOn))] (fun u => none) (fun u => (0 ≤ (u.2.1 1).toInt ∧ (u.2.1 1).toInt ≤ 1) ∧ (Iv 7 (0) (11) (u.2.2.1 1)) ∧ (∀ tm : Nat → Int32, NBS (a_wares).toInt a_weight s_reach s_height → TMB tm → (∀ j : Nat, j < 12 → BT p2 j = true → s_times j = tm j) → PRE (a_wares).toInt (fun u l => BT (a_mayOn l) u) a_weight a_bears a_deep (rsC a_wide a_deep a_lids) tm s_reach s_height (s_size).toInt.toNat (p0).toInt.toNat p2 s_trial p3 p4 → IMP (s_size).toInt.toNat (CDN (a_wares).toInt (s_size).toInt.toNat (p0).toInt.toNat p2 s_trial) (OKF (fun u l => BT (a_mayOn l) u) a_weight a_bears a_deep (rsC a_wide a_deep a_lids) (s_size).toInt.toNat s_height) (VLF tm a_weight (s_size).toInt.toNat s_reach) ((s_found).toInt = 1) (s_cost).toInt s_order (((u.2.1 1)).toInt = 1) ((u.2.1 0)).toInt (u.2.2.1 0)) ∧ (∀ i : Nat, (i : Int) < (p0).toInt → (u.2.2.1 1) i = s_trial i)) (fun u => [(s0, .inr (6, [.ref s1, .int (u.2.1 0), .int (u.2.1 1), .int s_size, .int s_height, .int s_reach, .ref s2, .ref s3])), (s1, .inl (cyI, 7, .inl (u.2.2.1 0))), (s2, .inl (cyI, 7, .inl (u.2.2.1 1))), (s3, .inl (cyI, 12, .inl s_times)), (a0, .inr (9, [.int a_wares, .int a_shelves, .int a_nests, .ref a1, .ref a2, .ref a3, .ref a4, .ref a5, .ref a6, .int a_lids, .int a_tops, .ref a7, .ref a8, .ref a9, .ref a10])), (a1, .inl (cyI, 12, .inl a_wide)), (a2, .inl (cyI, 12, .inl a_deep)), (a3, .inl (cyI, 12, .inl a_weight)), (a4, .inl (cyI, 12, .inl a_bears)), (a7, .inl (cyI, 12, .inl a_mayOn))])
set_option maxHeartbeats 4000000 in
set_option maxRecDepth 100000 in
theorem c_X6_tryOn_s (l : Launch) (D : DG) (cyC cyI cyJ cyZ cyO : ClassId) (s0 : Nat) (s1 : Nat) (s2 : Nat) (s3 : Nat) (a0 : Nat) (a1 : Nat) (a2 : Nat) (a3 : Nat) (a4 : Nat) (a7 : Nat) (a5 : Nat) (a6 : Nat) (a8 : Nat) (a9 : Nat) (a10 : Nat) (p1 : Int32) (p0 : Int32) (p3 : Int32) (p4 : Int32) (p5 : Int32) (s_cost : Int32) (s_found : Int32) (s_size : Int32) (s_height : Int32) (s_reach : Int32) (a_wares : Int32) (a_shelves : Int32) (a_nests : Int32) (a_lids : Int32) (a_tops : Int32) (s_order : Nat → Int32) (s_trial : Nat → Int32) (s_times : Nat → Int32) (a_wide : Nat → Int32) (a_deep : Nat → Int32) (a_weight : Nat → Int32) (a_bears : Nat → Int32) (a_mayOn : Nat → Int32) (n9 : Nat) (h_s_found : 0 ≤ (s_found).toInt ∧ (s_found).toInt ≤ 1) (h_s_size : 0 ≤ (s_size).toInt ∧ (s_size).toInt ≤ 7) (h_a_wares : 0 ≤ (a_wares).toInt ∧ (a_wares).toInt ≤ 12) (h_a_shelves : 0 ≤ (a_shelves).toInt ∧ (a_shelves).toInt ≤ 4) (h_a_nests : 0 ≤ (a_nests).toInt ∧ (a_nests).toInt ≤ 4) (h_p1 : 0 ≤ (p1).toInt ∧ (p1).toInt ≤ 11) (h_s_trial : Iv 7 (0) (11) s_trial) (hdp9 : (p0).toInt = 7 - (((n9 + 1) : Nat) : Int)) (h9 : n9 < 7) (hA9 : S_c_X6_extend n9) : KK l D (TY cyC cyI cyJ cyZ cyO) yX6_tryOn cX6_tryOn 10 none ({ frames := 0 + 2 * (n9 + 1), cells := 0, slots := 0, locals := 0 + 57 * (n9 + 1) } : Room) 0 0 [.ref s0, .ref a0, .int p1, .int p0, .int p3, .int p4, .int p5] [(s0, .inr (6, [.ref s1, .int s_cost, .int s_found, .int s_size, .int s_height, .int s_reach, .ref s2, .ref s3])), (s1, .inl (cyI, 7, .inl s_order)), (s2, .inl (cyI, 7, .inl s_trial)), (s3, .inl (cyI, 12, .inl s_times)), (a0, .inr (9, [.int a_wares, .int a_shelves, .int a_nests, .ref a1, .ref a2, .ref a3, .ref a4, .ref a5, .ref a6, .int a_lids, .int a_tops, .ref a7, .ref a8, .ref a9, .ref a10])), (a1, .inl (cyI, 12, .inl a_wide)), (a2, .inl (cyI, 12, .inl a_deep)), (a3, .inl (cyI, 12, .inl a_weight)), (a4, .inl (cyI, 12, .inl a_bears)), (a7, .inl (cyI, 12, .inl a_mayOn))] (fun u => none) (fun u => (0 ≤ (u.2.1 1).toInt ∧ (u.2.1 1).toInt ≤ 1) ∧ (Iv 7 (0) (11) (u.2.2.1 1)) ∧ (∀ tm : Nat → Int32, NBS (a_wares).toInt a_weight s_reach s_height → TMB tm → (s_times (p1).toInt.toNat = tm (p1).toInt.toNat) → (∀ j : Nat, j < 12 → BT p3 j = true → s_times j = tm j) → PRT (a_wares).toInt (fun u l => BT (a_mayOn l) u) a_weight a_bears a_deep (rsC a_wide a_deep a_lids) tm s_reach s_height (s_size).toInt.toNat (p0).toInt.toNat p3 (upd s_trial (p0).toInt.toNat p1) p4 p5 → IMP (s_size).toInt.toNat (CDN (a_wares).toInt (s_size).toInt.toNat ((p0).toInt.toNat + 1) p3 (upd s_trial (p0).toInt.toNat p1)) (OKF (fun u l => BT (a_mayOn l) u) a_weight a_bears a_deep (rsC a_wide a_deep a_lids) (s_size).toInt.toNat s_height) (VLF tm a_weight (s_size).toInt.toNat s_reach) ((s_found).toInt = 1) (s_cost).toInt s_order (((u.2.1 1)).toInt = 1) ((u.2.1 0)).toInt (u.2.2.1 0)) ∧ (∀ i : Nat, (i : Int) < (p0).toInt → (u.2.2.1 1) i = s_trial i)) (fun u => [(s0, .inr (6, [.ref s1, .int (u.2.1 0), .int (u.2.1 1), .int s_size, .int s_height, .int s_reach, .ref s2, .ref s3])), (s1, .inl (cyI, 7, .inl (u.2.2.1 0))), (s2, .inl (cyI, 7, .inl (u.2.2.1 1))), (s3, .inl (cyI, 12, .inl s_times)), (a0, .inr (9, [.int a_wares, .int a_shelves, .int a_nests, .ref a1, .ref a2, .ref a3, .ref a4, .ref a5, .ref a6, .int a_lids, .int a_tops, .ref a7, .ref a8, .ref a9, .ref a10])), (a1, .inl (cyI, 12, .inl a_wide)), (a2, .inl (cyI, 12, .inl a_deep)), (a3, .inl (cyI, 12, .inl a_weight)), (a4, .inl (cyI, 12, .inl a_bears)), (a7, .inl (cyI, 12, .inl a_mayOn))]) := by
  refine KK.of (lv0 := [(0, .ref s0), (1, .ref a0), (2, .int p1), (3, .int p0), (4, .int p3), (5, .int p4), (6, .int p5)]) (by decide) rfl (Nat.le_of_ble_eq_true rfl) ?_
  intro p e s m args below meth c A C hr hk hin
  refine j_aload_n (pc := 0) C dX6_tryOn_0 rfl 1 rfl ?_
  refine j_iload (pc := 1) C dX6_tryOn_1 4 rfl ?_
  refine j_callV (pc := 3) (As := [.int p3]) (rest := []) (wr := [(s0, .inr (6, [.ref s1, .int s_cost, .int s_found, .int s_size, .int s_height, .int s_reach, .ref s2, .ref s3])), (s1, .inl (cyI, 7, .inl s_order)), (s2, .inl (cyI, 7, .inl s_trial)), (s3, .inl (cyI, 12, .inl s_times)), (a1, .inl (cyI, 12, .inl a_wide)), (a2, .inl (cyI, 12, .inl a_deep)), (a4, .inl (cyI, 12, .inl a_bears)), (a7, .inl (cyI, 12, .inl a_mayOn))]) C (c_X9_weightOf l D cyC cyI cyJ cyZ cyO a0 a3 a1 a2 a4 a5 a6 a7 a8 a9 a10 p3 a_wares a_shelves a_nests a_lids a_tops a_weight h_a_wares h_a_shelves h_a_nests) wd_124 wd_33 wd_150 wd_126 wd_127 ⟨by decide, by decide, rfl⟩ rfl ⟨rfl, rfl, (by show (0 : Nat) + 1 ≤ 0 + 2 * (n9 + 1); omega), (by show 8 + (4 + 11) + (0 : Nat) ≤ 0 + 57 * (n9 + 1); omega)⟩ ⟨Nat.le_of_ble_eq_true rfl, Nat.le_of_ble_eq_true rfl⟩ [4, 7] [0, 1, 2, 3, 5, 6, 8, 9] rfl rfl ⟨by decide, by decide, by decide⟩ 4 rfl rfl rfl (Nat.le_of_ble_eq_true rfl) dX6_tryOn_3 (fun u_1 hw_2 => ?_)
  refine j_eq (ws2 := [(s0, .inr (6, [.ref s1, .int s_cost, .int s_found, .int s_size, .int s_height, .int s_reach, .ref s2, .ref s3])), (s1, .inl (cyI, 7, .inl s_order)), (s2, .inl (cyI, 7, .inl s_trial)), (s3, .inl (cyI, 12, .inl s_times)), (a1, .inl (cyI, 12, .inl a_wide)), (a2, .inl (cyI, 12, .inl a_deep)), (a4, .inl (cyI, 12, .inl a_bears)), (a7, .inl (cyI, 12, .inl a_mayOn)), (a0, .inr (9, [.int a_wares, .int a_shelves, .int a_nests, .ref a1, .ref a2, .ref a3, .ref a4, .ref a5, .ref a6, .int a_lids, .int a_tops, .ref a7, .ref a8, .ref a9, .ref a10])), (a3, .inl (cyI, 12, .inl a_weight))]) (pc2 := 6) (lv2 := [(0, .ref s0), (1, .ref a0), (2, .int p1), (3, .int p0), (4, .int p3), (5, .int p4), (6, .int p5)]) (st2 := [.int (u_1.2.1 0)]) rfl rfl rfl rfl ?_
  have hw_2_0 : (u_1.2.1 0) = wS a_weight p3 (a_wares).toInt.toNat := hw_2
  refine j_istore (pc := 6) (lv' := [(7, .int (u_1.2.1 0)), (0, .ref s0), (1, .ref a0), (2, .int p1), (3, .int p0), (4, .int p3), (5, .int p4), (6, .int p5)]) C dX6_tryOn_6 (by decide) rfl ?_
  refine j_iload (pc := 8) C dX6_tryOn_8 0 rfl ?_
  refine j_aload_n (pc := 10) C dX6_tryOn_10 rfl 2 rfl ?_
  refine j_get (pc := 11) (ci := 9) (v := .ref a4) C inw_9 8 rfl rfl 6 (by decide) wd_151 rfl rfl dX6_tryOn_11 ?_
  refine j_iload_n (pc := 14) C dX6_tryOn_14 rfl 3 rfl ?_
  obtain ⟨v_3, ev_3⟩ : ∃ z, a_bears (p1).toInt.toNat = z := ⟨_, rfl⟩
  have env_3 : (a_bears (p1).toInt.toNat).toInt = v_3.toInt := by rw [ev_3]
  refine j_iald (pc := 15) (v := v_3) (k := (p1).toInt.toNat) C 6 1 rfl rfl (i_nn h_p1.1) rfl (i_lt_n h_p1.1 (Int.lt_of_le_of_lt h_p1.2 (by decide))) ev_3 dX6_tryOn_15 ?_
  refine j_icmp_gt (pc := 16) (tgt := 35) C dX6_tryOn_16 (by decide) (fun c_4 => ?_) (fun c_4 => ?_)
  · skip
    rw [i_lt] at c_4
    exact j_vret (pc := 35) C hr hk (fun i => [].getD i 0, fun i => [s_cost, s_found].getD i 0, fun i => [s_order, s_trial].getD i (fun _ => 0), fun i => [].getD i (fun _ => 0)) rfl (show (0 ≤ (s_found).toInt ∧ (s_found).toInt ≤ 1) ∧ (Iv 7 (0) (11) s_trial) ∧ (∀ tm : Nat → Int32, NBS (a_wares).toInt a_weight s_reach s_height → TMB tm → (s_times (p1).toInt.toNat = tm (p1).toInt.toNat) → (∀ j : Nat, j < 12 → BT p3 j = true → s_times j = tm j) → PRT (a_wares).toInt (fun u l => BT (a_mayOn l) u) a_weight a_bears a_deep (rsC a_wide a_deep a_lids) tm s_reach s_height (s_size).toInt.toNat (p0).toInt.toNat p3 (upd s_trial (p0).toInt.toNat p1) p4 p5 → IMP (s_size).toInt.toNat (CDN (a_wares).toInt (s_size).toInt.toNat ((p0).toInt.toNat + 1) p3 (upd s_trial (p0).toInt.toNat p1)) (OKF (fun u l => BT (a_mayOn l) u) a_weight a_bears a_deep (rsC a_wide a_deep a_lids) (s_size).toInt.toNat s_height) (VLF tm a_weight (s_size).toInt.toNat s_reach) ((s_found).toInt = 1) (s_cost).toInt s_order ((s_found).toInt = 1) (s_cost).toInt s_order) ∧ (∀ i : Nat, (i : Int) < (p0).toInt → s_trial i = s_trial i) from ⟨h_s_found, h_s_trial, (fun tm nb tb h1 h2 pre => pre.heavy nb (x := p1) (y := (u_1.2.1 0)) pk_us hw_2_0 (by rw [ev_3]; omega)), (fun i hi => rfl)⟩) [0, 1, 2, 3, 8, 4, 5, 9, 6, 7] (by decide) rfl (by decide) (by decide) dX6_tryOn_35
  · skip
    rw [i_lt] at c_4
    refine j_iload (pc := 19) C dX6_tryOn_19 6 rfl ?_
    refine j_aload_n (pc := 21) C dX6_tryOn_21 rfl 2 rfl ?_
    refine j_get (pc := 22) (ci := 9) (v := .ref a2) C inw_9 8 rfl rfl 4 (by decide) wd_152 rfl rfl dX6_tryOn_22 ?_
    refine j_iload_n (pc := 25) C dX6_tryOn_25 rfl 3 rfl ?_
    obtain ⟨v_5, ev_5⟩ : ∃ z, a_deep (p1).toInt.toNat = z := ⟨_, rfl⟩
    have env_5 : (a_deep (p1).toInt.toNat).toInt = v_5.toInt := by rw [ev_5]
    refine j_iald (pc := 26) (v := v_5) (k := (p1).toInt.toNat) C 5 1 rfl rfl (i_nn h_p1.1) rfl (i_lt_n h_p1.1 (Int.lt_of_le_of_lt h_p1.2 (by decide))) ev_5 dX6_tryOn_26 ?_
    obtain ⟨v_6, ev_6⟩ : ∃ z : Int32, p4 + v_5 = z := ⟨_, rfl⟩
    refine j_iadd (pc := 27) (v := v_6) C dX6_tryOn_27 ev_6 ?_
    refine j_aload_n (pc := 28) C dX6_tryOn_28 rfl 1 rfl ?_
    refine j_get (pc := 29) (ci := 6) (v := .int s_height) C inw_6 0 rfl rfl 4 (by decide) wd_153 rfl rfl dX6_tryOn_29 ?_
    refine j_icmp_le (pc := 32) (tgt := 36) C dX6_tryOn_32 (by decide) (fun c_7 => ?_) (fun c_7 => ?_)
    · skip
      rw [i_le] at c_7
      refine j_aload_n (pc := 36) C dX6_tryOn_36 rfl 2 rfl ?_
      refine j_get (pc := 37) (ci := 9) (v := .ref a3) C inw_9 8 rfl rfl 5 (by decide) wd_154 rfl rfl dX6_tryOn_37 ?_
      refine j_iload_n (pc := 40) C dX6_tryOn_40 rfl 3 rfl ?_
      obtain ⟨v_8, ev_8⟩ : ∃ z, a_weight (p1).toInt.toNat = z := ⟨_, rfl⟩
      have env_8 : (a_weight (p1).toInt.toNat).toInt = v_8.toInt := by rw [ev_8]
      refine j_iald (pc := 41) (v := v_8) (k := (p1).toInt.toNat) C 9 1 rfl rfl (i_nn h_p1.1) rfl (i_lt_n h_p1.1 (Int.lt_of_le_of_lt h_p1.2 (by decide))) ev_8 dX6_tryOn_41 ?_
      refine j_aload_n (pc := 42) C dX6_tryOn_42 rfl 1 rfl ?_
      refine j_get (pc := 43) (ci := 6) (v := .int s_reach) C inw_6 0 rfl rfl 5 (by decide) wd_155 rfl rfl dX6_tryOn_43 ?_
      obtain ⟨v_9, ev_9⟩ : ∃ z : Int32, v_8 + s_reach = z := ⟨_, rfl⟩
      refine j_iadd (pc := 46) (v := v_9) C dX6_tryOn_46 ev_9 ?_
      refine j_iconst (pc := 47) (v := 2) C dX6_tryOn_47 (by decide) ?_
      refine j_iload (pc := 48) C dX6_tryOn_48 0 rfl ?_
      refine j_aload_n (pc := 50) C dX6_tryOn_50 rfl 1 rfl ?_
      refine j_get (pc := 51) (ci := 6) (v := .int s_reach) C inw_6 0 rfl rfl 5 (by decide) wd_155 rfl rfl dX6_tryOn_51 ?_
      refine j_aload_n (pc := 54) C dX6_tryOn_54 rfl 1 rfl ?_
      refine j_get (pc := 55) (ci := 6) (v := .int s_size) C inw_6 0 rfl rfl 3 (by decide) wd_149 rfl rfl dX6_tryOn_55 ?_
      refine j_iconst (pc := 58) (v := 1) C dX6_tryOn_58 (by decide) ?_
      obtain ⟨v_10, ev_10⟩ : ∃ z : Int32, s_size - 1 = z := ⟨_, rfl⟩
      have el_1 : (1 : Int32).toInt = 1 := rfl
      have hv_10 : v_10.toInt = s_size.toInt - (1 : Int32).toInt := by rw [← ev_10]; exact fb_subI (by omega) (by omega)
      refine j_isub (pc := 59) (v := v_10) C dX6_tryOn_59 ev_10 ?_
      refine j_iload_n (pc := 60) C dX6_tryOn_60 rfl 4 rfl ?_
      obtain ⟨v_11, ev_11⟩ : ∃ z : Int32, v_10 - p0 = z := ⟨_, rfl⟩
      have hv_11 : v_11.toInt = v_10.toInt - p0.toInt := by rw [← ev_11]; exact fb_subI (by omega) (by omega)
      refine j_isub (pc := 61) (v := v_11) C dX6_tryOn_61 ev_11 ?_
      obtain ⟨v_12, ev_12⟩ : ∃ z : Int32, s_reach * v_11 = z := ⟨_, rfl⟩
      refine j_imul (pc := 62) (v := v_12) C dX6_tryOn_62 ev_12 ?_
      obtain ⟨v_13, ev_13⟩ : ∃ z : Int32, (u_1.2.1 0) + v_12 = z := ⟨_, rfl⟩
      refine j_iadd (pc := 63) (v := v_13) C dX6_tryOn_63 ev_13 ?_
      obtain ⟨v_14, ev_14⟩ : ∃ z : Int32, 2 * v_13 = z := ⟨_, rfl⟩
      have el_2 : (2 : Int32).toInt = 2 := rfl
      refine j_imul (pc := 64) (v := v_14) C dX6_tryOn_64 ev_14 ?_
      obtain ⟨v_15, ev_15⟩ : ∃ z : Int32, v_9 + v_14 = z := ⟨_, rfl⟩
      refine j_iadd (pc := 65) (v := v_15) C dX6_tryOn_65 ev_15 ?_
      refine j_istore (pc := 66) (lv' := [(8, .int v_15), (7, .int (u_1.2.1 0)), (0, .ref s0), (1, .ref a0), (2, .int p1), (3, .int p0), (4, .int p3), (5, .int p4), (6, .int p5)]) C dX6_tryOn_66 (by decide) rfl ?_
      refine j_iload (pc := 68) C dX6_tryOn_68 8 rfl ?_
      refine j_aload_n (pc := 70) C dX6_tryOn_70 rfl 2 rfl ?_
      refine j_get (pc := 71) (ci := 6) (v := .ref s3) C inw_6 0 rfl rfl 7 (by decide) wd_156 rfl rfl dX6_tryOn_71 ?_
      refine j_iload_n (pc := 74) C dX6_tryOn_74 rfl 4 rfl ?_
      obtain ⟨v_16, ev_16⟩ : ∃ z, s_times (p1).toInt.toNat = z := ⟨_, rfl⟩
      have env_16 : (s_times (p1).toInt.toNat).toInt = v_16.toInt := by rw [ev_16]
      refine j_iald (pc := 75) (v := v_16) (k := (p1).toInt.toNat) C 3 1 rfl rfl (i_nn h_p1.1) rfl (i_lt_n h_p1.1 (Int.lt_of_le_of_lt h_p1.2 (by decide))) ev_16 dX6_tryOn_75 ?_
      refine j_iload (pc := 76) C dX6_tryOn_76 0 rfl ?_
      obtain ⟨v_17, ev_17⟩ : ∃ z : Int32, v_16 * v_15 = z := ⟨_, rfl⟩
      refine j_imul (pc := 78) (v := v_17) C dX6_tryOn_78 ev_17 ?_
      obtain ⟨v_18, ev_18⟩ : ∃ z : Int32, p5 + v_17 = z := ⟨_, rfl⟩
      refine j_iadd (pc := 79) (v := v_18) C dX6_tryOn_79 ev_18 ?_
      refine j_istore (pc := 80) (lv' := [(9, .int v_18), (8, .int v_15), (7, .int (u_1.2.1 0)), (0, .ref s0), (1, .ref a0), (2, .int p1), (3, .int p0), (4, .int p3), (5, .int p4), (6, .int p5)]) C dX6_tryOn_80 (by decide) rfl ?_
      refine j_aload_n (pc := 82) C dX6_tryOn_82 rfl 3 rfl ?_
      refine j_get (pc := 83) (ci := 6) (v := .int s_found) C inw_6 0 rfl rfl 2 (by decide) wd_157 rfl rfl dX6_tryOn_83 ?_
      refine j_if_eq (pc := 86) (tgt := 99) C dX6_tryOn_86 (by decide) (fun c_19 => ?_) (fun c_19 => ?_)
      · skip
        have el_0 : (0 : Int32).toInt = 0 := rfl
        rw [i_eq] at c_19
        refine j_aload_n (pc := 99) C dX6_tryOn_99 rfl 3 rfl ?_
        refine j_get (pc := 100) (ci := 6) (v := .ref s2) C inw_6 0 rfl rfl 6 (by decide) wd_158 rfl rfl dX6_tryOn_100 ?_
        refine j_iload_n (pc := 103) C dX6_tryOn_103 rfl 6 rfl ?_
        refine j_iload_n (pc := 104) C dX6_tryOn_104 rfl 5 rfl ?_
        obtain ⟨f_20, ef_20⟩ : ∃ z, z = upd s_trial (p0).toInt.toNat p1 := ⟨_, rfl⟩
        have hf_20 : Iv 7 (0) (11) f_20 := by rw [ef_20]; exact Iv.upd h_s_trial (by omega) (by omega)
        refine j_iast (pc := 105) (k := (p0).toInt.toNat) (ws' := [(s0, .inr (6, [.ref s1, .int s_cost, .int s_found, .int s_size, .int s_height, .int s_reach, .ref s2, .ref s3])), (s1, .inl (cyI, 7, .inl s_order)), (s2, .inl (cyI, 7, .inl f_20)), (s3, .inl (cyI, 12, .inl s_times)), (a1, .inl (cyI, 12, .inl a_wide)), (a2, .inl (cyI, 12, .inl a_deep)), (a4, .inl (cyI, 12, .inl a_bears)), (a7, .inl (cyI, 12, .inl a_mayOn)), (a0, .inr (9, [.int a_wares, .int a_shelves, .int a_nests, .ref a1, .ref a2, .ref a3, .ref a4, .ref a5, .ref a6, .int a_lids, .int a_tops, .ref a7, .ref a8, .ref a9, .ref a10])), (a3, .inl (cyI, 12, .inl a_weight))]) C 2 1 rfl rfl (i_nn (by omega)) rfl (i_lt_n (by omega) (by omega)) dX6_tryOn_105 (by rw [ef_20]; rfl) ?_
        refine j_iload (pc := 106) C dX6_tryOn_106 7 rfl ?_
        refine j_if_ne (pc := 108) (tgt := 142) C dX6_tryOn_108 (by decide) (fun c_21 => ?_) (fun c_21 => ?_)
        · skip
          have el_0 : (0 : Int32).toInt = 0 := rfl
          rw [i_eq] at c_21
          refine j_aload_n (pc := 142) C dX6_tryOn_142 rfl 3 rfl ?_
          refine j_aload_n (pc := 143) C dX6_tryOn_143 rfl 4 rfl ?_
          refine j_iload_n (pc := 144) C dX6_tryOn_144 rfl 6 rfl ?_
          refine j_iconst (pc := 145) (v := 1) C dX6_tryOn_145 (by decide) ?_
          obtain ⟨v_22, ev_22⟩ : ∃ z : Int32, p0 + 1 = z := ⟨_, rfl⟩
          have el_1 : (1 : Int32).toInt = 1 := rfl
          have hv_22 : v_22.toInt = p0.toInt + (1 : Int32).toInt := by rw [← ev_22]; exact fb_addI (by omega) (by omega)
          refine j_iadd (pc := 146) (v := v_22) C dX6_tryOn_146 ev_22 ?_
          refine j_iload (pc := 147) C dX6_tryOn_147 7 rfl ?_
          refine j_iload (pc := 149) C dX6_tryOn_149 8 rfl ?_
          refine j_iload (pc := 151) C dX6_tryOn_151 0 rfl ?_
          refine j_callV (pc := 153) (As := [.ref a0, .int v_22, .int p3, .int p4, .int v_18]) (rest := []) (wr := []) C (hA9 l D cyC cyI cyJ cyZ cyO s0 s1 s2 s3 a0 a1 a2 a3 a4 a7 a5 a6 a8 a9 a10 v_22 p3 p4 v_18 s_cost s_found s_size s_height s_reach a_wares a_shelves a_nests a_lids a_tops s_order f_20 s_times a_wide a_deep a_weight a_bears a_mayOn h_s_found h_s_size h_a_wares h_a_shelves h_a_nests hf_20 (by omega)) wd_159 wd_160 wd_161 wd_162 wd_163 ⟨by decide, by decide, rfl⟩ rfl ⟨rfl, rfl, (by show (1 + 2 * n9 : Nat) + 1 ≤ 0 + 2 * (n9 + 1); omega), (by show 8 + (9 + 11) + (29 + 57 * n9 : Nat) ≤ 0 + 57 * (n9 + 1); omega)⟩ ⟨Nat.le_of_ble_eq_true rfl, Nat.le_of_ble_eq_true rfl⟩ [0, 1, 2, 3, 8, 4, 5, 9, 6, 7] [] rfl rfl ⟨by decide, by decide, by decide⟩ 0 rfl rfl rfl (Nat.le_of_ble_eq_true rfl) dX6_tryOn_153 (fun u_23 hw_24 => ?_)
          refine j_eq (ws2 := [(s0, .inr (6, [.ref s1, .int (u_23.2.1 0), .int (u_23.2.1 1), .int s_size, .int s_height, .int s_reach, .ref s2, .ref s3])), (s1, .inl (cyI, 7, .inl (u_23.2.2.1 0))), (s2, .inl (cyI, 7, .inl (u_23.2.2.1 1))), (s3, .inl (cyI, 12, .inl s_times)), (a0, .inr (9, [.int a_wares, .int a_shelves, .int a_nests, .ref a1, .ref a2, .ref a3, .ref a4, .ref a5, .ref a6, .int a_lids, .int a_tops, .ref a7, .ref a8, .ref a9, .ref a10])), (a1, .inl (cyI, 12, .inl a_wide)), (a2, .inl (cyI, 12, .inl a_deep)), (a3, .inl (cyI, 12, .inl a_weight)), (a4, .inl (cyI, 12, .inl a_bears)), (a7, .inl (cyI, 12, .inl a_mayOn))]) (pc2 := 156) (lv2 := [(9, .int v_18), (8, .int v_15), (7, .int (u_1.2.1 0)), (0, .ref s0), (1, .ref a0), (2, .int p1), (3, .int p0), (4, .int p3), (5, .int p4), (6, .int p5)]) (st2 := []) rfl rfl rfl rfl ?_
          obtain ⟨hw_24_0, hw_24_1, hw_24_2, hw_24_3⟩ := hw_24
          exact j_vret (pc := 156) C hr hk (fun i => [].getD i 0, fun i => [(u_23.2.1 0), (u_23.2.1 1)].getD i 0, fun i => [(u_23.2.2.1 0), (u_23.2.2.1 1)].getD i (fun _ => 0), fun i => [].getD i (fun _ => 0)) rfl (show (0 ≤ ((u_23.2.1 1)).toInt ∧ ((u_23.2.1 1)).toInt ≤ 1) ∧ (Iv 7 (0) (11) (u_23.2.2.1 1)) ∧ (∀ tm : Nat → Int32, NBS (a_wares).toInt a_weight s_reach s_height → TMB tm → (s_times (p1).toInt.toNat = tm (p1).toInt.toNat) → (∀ j : Nat, j < 12 → BT p3 j = true → s_times j = tm j) → PRT (a_wares).toInt (fun u l => BT (a_mayOn l) u) a_weight a_bears a_deep (rsC a_wide a_deep a_lids) tm s_reach s_height (s_size).toInt.toNat (p0).toInt.toNat p3 (upd s_trial (p0).toInt.toNat p1) p4 p5 → IMP (s_size).toInt.toNat (CDN (a_wares).toInt (s_size).toInt.toNat ((p0).toInt.toNat + 1) p3 (upd s_trial (p0).toInt.toNat p1)) (OKF (fun u l => BT (a_mayOn l) u) a_weight a_bears a_deep (rsC a_wide a_deep a_lids) (s_size).toInt.toNat s_height) (VLF tm a_weight (s_size).toInt.toNat s_reach) ((s_found).toInt = 1) (s_cost).toInt s_order (((u_23.2.1 1)).toInt = 1) ((u_23.2.1 0)).toInt (u_23.2.2.1 0)) ∧ (∀ i : Nat, (i : Int) < (p0).toInt → (u_23.2.2.1 1) i = s_trial i) from ⟨hw_24_0, hw_24_1, (fun tm nb tb h1 h2 pre => by have y9 := hw_24_2 tm nb tb h2 (by rw [show (v_22).toInt.toNat = (p0).toInt.toNat + 1 from (by omega), ef_20]; exact pre.next (by rw [i_eq]; omega) (z := v_18) (fun t9 c9 => pre.sum nb (x := p1) (y := (u_1.2.1 0)) (l := p0) (mm := s_size) pk_us hw_2_0 (by omega) (by omega) (by rw [← ev_18, ← ev_17, ← ev_16, ← ev_15, ← ev_14, ← ev_13, ← ev_12, ← ev_11, ← ev_10, ← ev_9, ← ev_8, h1]) c9) (fun t9 c9 => pre.up nb (x := p1) (y := (u_1.2.1 0)) (z := v_6) pk_us hw_2_0 (by rw [ev_3]; omega) (by rw [ev_5, ev_6]) (by omega) c9) rfl rfl); rw [show (v_22).toInt.toNat = (p0).toInt.toNat + 1 from (by omega), ef_20] at y9; exact y9), (fun i hi => by rw [hw_24_3 i (by omega), ef_20]; exact pk_un (by omega))⟩) [0, 1, 2, 3, 4, 5, 6, 7, 8, 9] (by decide) rfl (by decide) (by decide) dX6_tryOn_156
        · skip
          have el_0 : (0 : Int32).toInt = 0 := rfl
          rw [i_eq] at c_21
          refine j_aload_n (pc := 111) C dX6_tryOn_111 rfl 3 rfl ?_
          refine j_iconst (pc := 112) (v := 1) C dX6_tryOn_112 (by decide) ?_
          refine j_put (pc := 113) (ci := 6) (v := .int 1) (ws' := [(s0, .inr (6, [.ref s1, .int s_cost, .int 1, .int s_size, .int s_height, .int s_reach, .ref s2, .ref s3])), (s1, .inl (cyI, 7, .inl s_order)), (s2, .inl (cyI, 7, .inl f_20)), (s3, .inl (cyI, 12, .inl s_times)), (a1, .inl (cyI, 12, .inl a_wide)), (a2, .inl (cyI, 12, .inl a_deep)), (a4, .inl (cyI, 12, .inl a_bears)), (a7, .inl (cyI, 12, .inl a_mayOn)), (a0, .inr (9, [.int a_wares, .int a_shelves, .int a_nests, .ref a1, .ref a2, .ref a3, .ref a4, .ref a5, .ref a6, .int a_lids, .int a_tops, .ref a7, .ref a8, .ref a9, .ref a10])), (a3, .inl (cyI, 12, .inl a_weight))]) C inw_6 0 rfl rfl 2 (by decide) wd_157 rfl tyX6_ok nmX6 rfl (tyX6_ok 2 (by decide)) rfl rfl (Nat.le_of_ble_eq_true rfl) dX6_tryOn_113 rfl ?_
          refine j_aload_n (pc := 116) C dX6_tryOn_116 rfl 3 rfl ?_
          refine j_iload (pc := 117) C dX6_tryOn_117 0 rfl ?_
          refine j_put (pc := 119) (ci := 6) (v := .int v_18) (ws' := [(s0, .inr (6, [.ref s1, .int v_18, .int 1, .int s_size, .int s_height, .int s_reach, .ref s2, .ref s3])), (s1, .inl (cyI, 7, .inl s_order)), (s2, .inl (cyI, 7, .inl f_20)), (s3, .inl (cyI, 12, .inl s_times)), (a1, .inl (cyI, 12, .inl a_wide)), (a2, .inl (cyI, 12, .inl a_deep)), (a4, .inl (cyI, 12, .inl a_bears)), (a7, .inl (cyI, 12, .inl a_mayOn)), (a0, .inr (9, [.int a_wares, .int a_shelves, .int a_nests, .ref a1, .ref a2, .ref a3, .ref a4, .ref a5, .ref a6, .int a_lids, .int a_tops, .ref a7, .ref a8, .ref a9, .ref a10])), (a3, .inl (cyI, 12, .inl a_weight))]) C inw_6 0 rfl rfl 1 (by decide) wd_164 rfl tyX6_ok nmX6 rfl (tyX6_ok 1 (by decide)) rfl rfl (Nat.le_of_ble_eq_true rfl) dX6_tryOn_119 rfl ?_
          refine j_aload_n (pc := 122) C dX6_tryOn_122 rfl 3 rfl ?_
          refine j_get (pc := 123) (ci := 6) (v := .ref s2) C inw_6 0 rfl rfl 6 (by decide) wd_158 rfl rfl dX6_tryOn_123 ?_
          refine j_iconst (pc := 126) (v := 0) C dX6_tryOn_126 (by decide) ?_
          refine j_aload_n (pc := 127) C dX6_tryOn_127 rfl 3 rfl ?_
          refine j_get (pc := 128) (ci := 6) (v := .ref s1) C inw_6 0 rfl rfl 0 (by decide) wd_165 rfl rfl dX6_tryOn_128 ?_
          refine j_iconst (pc := 131) (v := 0) C dX6_tryOn_131 (by decide) ?_
          refine j_aload_n (pc := 132) C dX6_tryOn_132 rfl 3 rfl ?_
          refine j_get (pc := 133) (ci := 6) (v := .int s_size) C inw_6 0 rfl rfl 3 (by decide) wd_149 rfl rfl dX6_tryOn_133 ?_
          obtain ⟨f_25, ef_25⟩ : ∃ z, z = va_cpy f_20 s_order 0 0 (s_size).toInt.toNat := ⟨_, rfl⟩
          refine j_acpy (pc := 136) (ks := 0) (kd := 0) (kn := (s_size).toInt.toNat) (ws' := [(s0, .inr (6, [.ref s1, .int v_18, .int 1, .int s_size, .int s_height, .int s_reach, .ref s2, .ref s3])), (s1, .inl (cyI, 7, .inl f_25)), (s2, .inl (cyI, 7, .inl f_20)), (s3, .inl (cyI, 12, .inl s_times)), (a1, .inl (cyI, 12, .inl a_wide)), (a2, .inl (cyI, 12, .inl a_deep)), (a4, .inl (cyI, 12, .inl a_bears)), (a7, .inl (cyI, 12, .inl a_mayOn)), (a0, .inr (9, [.int a_wares, .int a_shelves, .int a_nests, .ref a1, .ref a2, .ref a3, .ref a4, .ref a5, .ref a6, .int a_lids, .int a_tops, .ref a7, .ref a8, .ref a9, .ref a10])), (a3, .inl (cyI, 12, .inl a_weight))]) C wd_166 wd_25 wd_26 wd_27 2 1 1 rfl rfl rfl (by decide) (by decide) (i_nn (by omega)) (by decide) (by decide) rfl (by omega) (by omega) (by show 1 ≤ (0 + 2 * (n9 + 1) : Nat); omega) (Nat.le_trans (m := 18) (Nat.le_of_ble_eq_true rfl) (by show 18 ≤ (0 + 57 * (n9 + 1) : Nat); omega)) dX6_tryOn_136 (by rw [ef_25]; rfl) ?_
          refine j_goto (pc := 139) (tgt := 156) C dX6_tryOn_139 (by decide) ?_
          have el_1 : (1 : Int32).toInt = 1 := rfl
          have el_1 : (1 : Int32).toInt = 1 := rfl
          have el_1 : (1 : Int32).toInt = 1 := rfl
          exact j_vret (pc := 156) C hr hk (fun i => [].getD i 0, fun i => [v_18, 1].getD i 0, fun i => [f_25, f_20].getD i (fun _ => 0), fun i => [].getD i (fun _ => 0)) rfl (show (0 ≤ ((1 : Int32)).toInt ∧ ((1 : Int32)).toInt ≤ 1) ∧ (Iv 7 (0) (11) f_20) ∧ (∀ tm : Nat → Int32, NBS (a_wares).toInt a_weight s_reach s_height → TMB tm → (s_times (p1).toInt.toNat = tm (p1).toInt.toNat) → (∀ j : Nat, j < 12 → BT p3 j = true → s_times j = tm j) → PRT (a_wares).toInt (fun u l => BT (a_mayOn l) u) a_weight a_bears a_deep (rsC a_wide a_deep a_lids) tm s_reach s_height (s_size).toInt.toNat (p0).toInt.toNat p3 (upd s_trial (p0).toInt.toNat p1) p4 p5 → IMP (s_size).toInt.toNat (CDN (a_wares).toInt (s_size).toInt.toNat ((p0).toInt.toNat + 1) p3 (upd s_trial (p0).toInt.toNat p1)) (OKF (fun u l => BT (a_mayOn l) u) a_weight a_bears a_deep (rsC a_wide a_deep a_lids) (s_size).toInt.toNat s_height) (VLF tm a_weight (s_size).toInt.toNat s_reach) ((s_found).toInt = 1) (s_cost).toInt s_order (((1 : Int32)).toInt = 1) (v_18).toInt f_25) ∧ (∀ i : Nat, (i : Int) < (p0).toInt → f_20 i = s_trial i) from ⟨by omega, hf_20, (fun tm nb tb h1 h2 pre => pre.leaf ((i_eq _ _).mpr (by omega)) (z := v_18) (fun t9 c9 => pre.sum nb (x := p1) (y := (u_1.2.1 0)) (l := p0) (mm := s_size) pk_us hw_2_0 (by omega) (by omega) (by rw [← ev_18, ← ev_17, ← ev_16, ← ev_15, ← ev_14, ← ev_13, ← ev_12, ← ev_11, ← ev_10, ← ev_9, ← ev_8, h1]) c9) (fun t9 c9 => pre.up nb (x := p1) (y := (u_1.2.1 0)) (z := v_6) pk_us hw_2_0 (by rw [ev_3]; omega) (by rw [ev_5, ev_6]) (by omega) c9) rfl (fun f9 => by omega) rfl (fun i hi => by rw [ef_25, cpy_full hi, ef_20])), (fun i hi => by rw [ef_20]; exact pk_un (by omega))⟩) [0, 1, 2, 3, 8, 4, 5, 9, 6, 7] (by decide) rfl (by decide) (by decide) dX6_tryOn_156
      · skip
        have el_0 : (0 : Int32).toInt = 0 := rfl
        rw [i_eq] at c_19
        have k0c_19 : s_found.toInt = 1 := by omega
        refine j_iload (pc := 89) C dX6_tryOn_89 0 rfl ?_
        refine j_aload_n (pc := 91) C dX6_tryOn_91 rfl 3 rfl ?_
        refine j_get (pc := 92) (ci := 6) (v := .int s_cost) C inw_6 0 rfl rfl 1 (by decide) wd_164 rfl rfl dX6_tryOn_92 ?_
        refine j_icmp_lt (pc := 95) (tgt := 99) C dX6_tryOn_95 (by decide) (fun c_26 => ?_) (fun c_26 => ?_)
        · skip
          rw [i_lt] at c_26
          refine j_aload_n (pc := 99) C dX6_tryOn_99 rfl 3 rfl ?_
          refine j_get (pc := 100) (ci := 6) (v := .ref s2) C inw_6 0 rfl rfl 6 (by decide) wd_158 rfl rfl dX6_tryOn_100 ?_
          refine j_iload_n (pc := 103) C dX6_tryOn_103 rfl 6 rfl ?_
          refine j_iload_n (pc := 104) C dX6_tryOn_104 rfl 5 rfl ?_
          obtain ⟨f_27, ef_27⟩ : ∃ z, z = upd s_trial (p0).toInt.toNat p1 := ⟨_, rfl⟩
          have hf_27 : Iv 7 (0) (11) f_27 := by rw [ef_27]; exact Iv.upd h_s_trial (by omega) (by omega)
          refine j_iast (pc := 105) (k := (p0).toInt.toNat) (ws' := [(s0, .inr (6, [.ref s1, .int s_cost, .int s_found, .int s_size, .int s_height, .int s_reach, .ref s2, .ref s3])), (s1, .inl (cyI, 7, .inl s_order)), (s2, .inl (cyI, 7, .inl f_27)), (s3, .inl (cyI, 12, .inl s_times)), (a1, .inl (cyI, 12, .inl a_wide)), (a2, .inl (cyI, 12, .inl a_deep)), (a4, .inl (cyI, 12, .inl a_bears)), (a7, .inl (cyI, 12, .inl a_mayOn)), (a0, .inr (9, [.int a_wares, .int a_shelves, .int a_nests, .ref a1, .ref a2, .ref a3, .ref a4, .ref a5, .ref a6, .int a_lids, .int a_tops, .ref a7, .ref a8, .ref a9, .ref a10])), (a3, .inl (cyI, 12, .inl a_weight))]) C 2 1 rfl rfl (i_nn (by omega)) rfl (i_lt_n (by omega) (by omega)) dX6_tryOn_105 (by rw [ef_27]; rfl) ?_
          refine j_iload (pc := 106) C dX6_tryOn_106 7 rfl ?_
          refine j_if_ne (pc := 108) (tgt := 142) C dX6_tryOn_108 (by decide) (fun c_28 => ?_) (fun c_28 => ?_)
          · skip
            have el_0 : (0 : Int32).toInt = 0 := rfl
            rw [i_eq] at c_28
            refine j_aload_n (pc := 142) C dX6_tryOn_142 rfl 3 rfl ?_
            refine j_aload_n (pc := 143) C dX6_tryOn_143 rfl 4 rfl ?_
            refine j_iload_n (pc := 144) C dX6_tryOn_144 rfl 6 rfl ?_
            refine j_iconst (pc := 145) (v := 1) C dX6_tryOn_145 (by decide) ?_
            obtain ⟨v_29, ev_29⟩ : ∃ z : Int32, p0 + 1 = z := ⟨_, rfl⟩
            have el_1 : (1 : Int32).toInt = 1 := rfl
            have hv_29 : v_29.toInt = p0.toInt + (1 : Int32).toInt := by rw [← ev_29]; exact fb_addI (by omega) (by omega)
            refine j_iadd (pc := 146) (v := v_29) C dX6_tryOn_146 ev_29 ?_
            refine j_iload (pc := 147) C dX6_tryOn_147 7 rfl ?_
            refine j_iload (pc := 149) C dX6_tryOn_149 8 rfl ?_
            refine j_iload (pc := 151) C dX6_tryOn_151 0 rfl ?_
            refine j_callV (pc := 153) (As := [.ref a0, .int v_29, .int p3, .int p4, .int v_18]) (rest := []) (wr := []) C (hA9 l D cyC cyI cyJ cyZ cyO s0 s1 s2 s3 a0 a1 a2 a3 a4 a7 a5 a6 a8 a9 a10 v_29 p3 p4 v_18 s_cost s_found s_size s_height s_reach a_wares a_shelves a_nests a_lids a_tops s_order f_27 s_times a_wide a_deep a_weight a_bears a_mayOn h_s_found h_s_size h_a_wares h_a_shelves h_a_nests hf_27 (by omega)) wd_159 wd_160 wd_161 wd_162 wd_163 ⟨by decide, by decide, rfl⟩ rfl ⟨rfl, rfl, (by show (1 + 2 * n9 : Nat) + 1 ≤ 0 + 2 * (n9 + 1); omega), (by show 8 + (9 + 11) + (29 + 57 * n9 : Nat) ≤ 0 + 57 * (n9 + 1); omega)⟩ ⟨Nat.le_of_ble_eq_true rfl, Nat.le_of_ble_eq_true rfl⟩ [0, 1, 2, 3, 8, 4, 5, 9, 6, 7] [] rfl rfl ⟨by decide, by decide, by decide⟩ 0 rfl rfl rfl (Nat.le_of_ble_eq_true rfl) dX6_tryOn_153 (fun u_30 hw_31 => ?_)
            refine j_eq (ws2 := [(s0, .inr (6, [.ref s1, .int (u_30.2.1 0), .int (u_30.2.1 1), .int s_size, .int s_height, .int s_reach, .ref s2, .ref s3])), (s1, .inl (cyI, 7, .inl (u_30.2.2.1 0))), (s2, .inl (cyI, 7, .inl (u_30.2.2.1 1))), (s3, .inl (cyI, 12, .inl s_times)), (a0, .inr (9, [.int a_wares, .int a_shelves, .int a_nests, .ref a1, .ref a2, .ref a3, .ref a4, .ref a5, .ref a6, .int a_lids, .int a_tops, .ref a7, .ref a8, .ref a9, .ref a10])), (a1, .inl (cyI, 12, .inl a_wide)), (a2, .inl (cyI, 12, .inl a_deep)), (a3, .inl (cyI, 12, .inl a_weight)), (a4, .inl (cyI, 12, .inl a_bears)), (a7, .inl (cyI, 12, .inl a_mayOn))]) (pc2 := 156) (lv2 := [(9, .int v_18), (8, .int v_15), (7, .int (u_1.2.1 0)), (0, .ref s0), (1, .ref a0), (2, .int p1), (3, .int p0), (4, .int p3), (5, .int p4), (6, .int p5)]) (st2 := []) rfl rfl rfl rfl ?_
            obtain ⟨hw_31_0, hw_31_1, hw_31_2, hw_31_3⟩ := hw_31
            exact j_vret (pc := 156) C hr hk (fun i => [].getD i 0, fun i => [(u_30.2.1 0), (u_30.2.1 1)].getD i 0, fun i => [(u_30.2.2.1 0), (u_30.2.2.1 1)].getD i (fun _ => 0), fun i => [].getD i (fun _ => 0)) rfl (show (0 ≤ ((u_30.2.1 1)).toInt ∧ ((u_30.2.1 1)).toInt ≤ 1) ∧ (Iv 7 (0) (11) (u_30.2.2.1 1)) ∧ (∀ tm : Nat → Int32, NBS (a_wares).toInt a_weight s_reach s_height → TMB tm → (s_times (p1).toInt.toNat = tm (p1).toInt.toNat) → (∀ j : Nat, j < 12 → BT p3 j = true → s_times j = tm j) → PRT (a_wares).toInt (fun u l => BT (a_mayOn l) u) a_weight a_bears a_deep (rsC a_wide a_deep a_lids) tm s_reach s_height (s_size).toInt.toNat (p0).toInt.toNat p3 (upd s_trial (p0).toInt.toNat p1) p4 p5 → IMP (s_size).toInt.toNat (CDN (a_wares).toInt (s_size).toInt.toNat ((p0).toInt.toNat + 1) p3 (upd s_trial (p0).toInt.toNat p1)) (OKF (fun u l => BT (a_mayOn l) u) a_weight a_bears a_deep (rsC a_wide a_deep a_lids) (s_size).toInt.toNat s_height) (VLF tm a_weight (s_size).toInt.toNat s_reach) ((s_found).toInt = 1) (s_cost).toInt s_order (((u_30.2.1 1)).toInt = 1) ((u_30.2.1 0)).toInt (u_30.2.2.1 0)) ∧ (∀ i : Nat, (i : Int) < (p0).toInt → (u_30.2.2.1 1) i = s_trial i) from ⟨hw_31_0, hw_31_1, (fun tm nb tb h1 h2 pre => by have y9 := hw_31_2 tm nb tb h2 (by rw [show (v_29).toInt.toNat = (p0).toInt.toNat + 1 from (by omega), ef_27]; exact pre.next (by rw [i_eq]; omega) (z := v_18) (fun t9 c9 => pre.sum nb (x := p1) (y := (u_1.2.1 0)) (l := p0) (mm := s_size) pk_us hw_2_0 (by omega) (by omega) (by rw [← ev_18, ← ev_17, ← ev_16, ← ev_15, ← ev_14, ← ev_13, ← ev_12, ← ev_11, ← ev_10, ← ev_9, ← ev_8, h1]) c9) (fun t9 c9 => pre.up nb (x := p1) (y := (u_1.2.1 0)) (z := v_6) pk_us hw_2_0 (by rw [ev_3]; omega) (by rw [ev_5, ev_6]) (by omega) c9) rfl rfl); rw [show (v_29).toInt.toNat = (p0).toInt.toNat + 1 from (by omega), ef_27] at y9; exact y9), (fun i hi => by rw [hw_31_3 i (by omega), ef_27]; exact pk_un (by omega))⟩) [0, 1, 2, 3, 4, 5, 6, 7, 8, 9] (by decide) rfl (by decide) (by decide) dX6_tryOn_156
          · skip
            have el_0 : (0 : Int32).toInt = 0 := rfl
            rw [i_eq] at c_28
            refine j_aload_n (pc := 111) C dX6_tryOn_111 rfl 3 rfl ?_
            refine j_iconst (pc := 112) (v := 1) C dX6_tryOn_112 (by decide) ?_
            refine j_put (pc := 113) (ci := 6) (v := .int 1) (ws' := [(s0, .inr (6, [.ref s1, .int s_cost, .int 1, .int s_size, .int s_height, .int s_reach, .ref s2, .ref s3])), (s1, .inl (cyI, 7, .inl s_order)), (s2, .inl (cyI, 7, .inl f_27)), (s3, .inl (cyI, 12, .inl s_times)), (a1, .inl (cyI, 12, .inl a_wide)), (a2, .inl (cyI, 12, .inl a_deep)), (a4, .inl (cyI, 12, .inl a_bears)), (a7, .inl (cyI, 12, .inl a_mayOn)), (a0, .inr (9, [.int a_wares, .int a_shelves, .int a_nests, .ref a1, .ref a2, .ref a3, .ref a4, .ref a5, .ref a6, .int a_lids, .int a_tops, .ref a7, .ref a8, .ref a9, .ref a10])), (a3, .inl (cyI, 12, .inl a_weight))]) C inw_6 0 rfl rfl 2 (by decide) wd_157 rfl tyX6_ok nmX6 rfl (tyX6_ok 2 (by decide)) rfl rfl (Nat.le_of_ble_eq_true rfl) dX6_tryOn_113 rfl ?_
            refine j_aload_n (pc := 116) C dX6_tryOn_116 rfl 3 rfl ?_
            refine j_iload (pc := 117) C dX6_tryOn_117 0 rfl ?_
            refine j_put (pc := 119) (ci := 6) (v := .int v_18) (ws' := [(s0, .inr (6, [.ref s1, .int v_18, .int 1, .int s_size, .int s_height, .int s_reach, .ref s2, .ref s3])), (s1, .inl (cyI, 7, .inl s_order)), (s2, .inl (cyI, 7, .inl f_27)), (s3, .inl (cyI, 12, .inl s_times)), (a1, .inl (cyI, 12, .inl a_wide)), (a2, .inl (cyI, 12, .inl a_deep)), (a4, .inl (cyI, 12, .inl a_bears)), (a7, .inl (cyI, 12, .inl a_mayOn)), (a0, .inr (9, [.int a_wares, .int a_shelves, .int a_nests, .ref a1, .ref a2, .ref a3, .ref a4, .ref a5, .ref a6, .int a_lids, .int a_tops, .ref a7, .ref a8, .ref a9, .ref a10])), (a3, .inl (cyI, 12, .inl a_weight))]) C inw_6 0 rfl rfl 1 (by decide) wd_164 rfl tyX6_ok nmX6 rfl (tyX6_ok 1 (by decide)) rfl rfl (Nat.le_of_ble_eq_true rfl) dX6_tryOn_119 rfl ?_
            refine j_aload_n (pc := 122) C dX6_tryOn_122 rfl 3 rfl ?_
            refine j_get (pc := 123) (ci := 6) (v := .ref s2) C inw_6 0 rfl rfl 6 (by decide) wd_158 rfl rfl dX6_tryOn_123 ?_
            refine j_iconst (pc := 126) (v := 0) C dX6_tryOn_126 (by decide) ?_
            refine j_aload_n (pc := 127) C dX6_tryOn_127 rfl 3 rfl ?_
            refine j_get (pc := 128) (ci := 6) (v := .ref s1) C inw_6 0 rfl rfl 0 (by decide) wd_165 rfl rfl dX6_tryOn_128 ?_
            refine j_iconst (pc := 131) (v := 0) C dX6_tryOn_131 (by decide) ?_
            refine j_aload_n (pc := 132) C dX6_tryOn_132 rfl 3 rfl ?_
            refine j_get (pc := 133) (ci := 6) (v := .int s_size) C inw_6 0 rfl rfl 3 (by decide) wd_149 rfl rfl dX6_tryOn_133 ?_
            obtain ⟨f_32, ef_32⟩ : ∃ z, z = va_cpy f_27 s_order 0 0 (s_size).toInt.toNat := ⟨_, rfl⟩
            refine j_acpy (pc := 136) (ks := 0) (kd := 0) (kn := (s_size).toInt.toNat) (ws' := [(s0, .inr (6, [.ref s1, .int v_18, .int 1, .int s_size, .int s_height, .int s_reach, .ref s2, .ref s3])), (s1, .inl (cyI, 7, .inl f_32)), (s2, .inl (cyI, 7, .inl f_27)), (s3, .inl (cyI, 12, .inl s_times)), (a1, .inl (cyI, 12, .inl a_wide)), (a2, .inl (cyI, 12, .inl a_deep)), (a4, .inl (cyI, 12, .inl a_bears)), (a7, .inl (cyI, 12, .inl a_mayOn)), (a0, .inr (9, [.int a_wares, .int a_shelves, .int a_nests, .ref a1, .ref a2, .ref a3, .ref a4, .ref a5, .ref a6, .int a_lids, .int a_tops, .ref a7, .ref a8, .ref a9, .ref a10])), (a3, .inl (cyI, 12, .inl a_weight))]) C wd_166 wd_25 wd_26 wd_27 2 1 1 rfl rfl rfl (by decide) (by decide) (i_nn (by omega)) (by decide) (by decide) rfl (by omega) (by omega) (by show 1 ≤ (0 + 2 * (n9 + 1) : Nat); omega) (Nat.le_trans (m := 18) (Nat.le_of_ble_eq_true rfl) (by show 18 ≤ (0 + 57 * (n9 + 1) : Nat); omega)) dX6_tryOn_136 (by rw [ef_32]; rfl) ?_
            refine j_goto (pc := 139) (tgt := 156) C dX6_tryOn_139 (by decide) ?_
            have el_1 : (1 : Int32).toInt = 1 := rfl
            have el_1 : (1 : Int32).toInt = 1 := rfl
            have el_1 : (1 : Int32).toInt = 1 := rfl
            exact j_vret (pc := 156) C hr hk (fun i => [].getD i 0, fun i => [v_18, 1].getD i 0, fun i => [f_32, f_27].getD i (fun _ => 0), fun i => [].getD i (fun _ => 0)) rfl (show (0 ≤ ((1 : Int32)).toInt ∧ ((1 : Int32)).toInt ≤ 1) ∧ (Iv 7 (0) (11) f_27) ∧ (∀ tm : Nat → Int32, NBS (a_wares).toInt a_weight s_reach s_height → TMB tm → (s_times (p1).toInt.toNat = tm (p1).toInt.toNat) → (∀ j : Nat, j < 12 → BT p3 j = true → s_times j = tm j) → PRT (a_wares).toInt (fun u l => BT (a_mayOn l) u) a_weight a_bears a_deep (rsC a_wide a_deep a_lids) tm s_reach s_height (s_size).toInt.toNat (p0).toInt.toNat p3 (upd s_trial (p0).toInt.toNat p1) p4 p5 → IMP (s_size).toInt.toNat (CDN (a_wares).toInt (s_size).toInt.toNat ((p0).toInt.toNat + 1) p3 (upd s_trial (p0).toInt.toNat p1)) (OKF (fun u l => BT (a_mayOn l) u) a_weight a_bears a_deep (rsC a_wide a_deep a_lids) (s_size).toInt.toNat s_height) (VLF tm a_weight (s_size).toInt.toNat s_reach) ((s_found).toInt = 1) (s_cost).toInt s_order (((1 : Int32)).toInt = 1) (v_18).toInt f_32) ∧ (∀ i : Nat, (i : Int) < (p0).toInt → f_27 i = s_trial i) from ⟨by omega, hf_27, (fun tm nb tb h1 h2 pre => pre.leaf ((i_eq _ _).mpr (by omega)) (z := v_18) (fun t9 c9 => pre.sum nb (x := p1) (y := (u_1.2.1 0)) (l := p0) (mm := s_size) pk_us hw_2_0 (by omega) (by omega) (by rw [← ev_18, ← ev_17, ← ev_16, ← ev_15, ← ev_14, ← ev_13, ← ev_12, ← ev_11, ← ev_10, ← ev_9, ← ev_8, h1]) c9) (fun t9 c9 => pre.up nb (x := p1) (y := (u_1.2.1 0)) (z := v_6) pk_us hw_2_0 (by rw [ev_3]; omega) (by rw [ev_5, ev_6]) (by omega) c9) rfl (fun f9 => by omega) rfl (fun i hi => by rw [ef_32, cpy_full hi, ef_27])), (fun i hi => by rw [ef_27]; exact pk_un (by omega))⟩) [0, 1, 2, 3, 8, 4, 5, 9, 6, 7] (by decide) rfl (by decide) (by decide) dX6_tryOn_156
        · skip
          rw [i_lt] at c_26
          exact j_vret (pc := 98) C hr hk (fun i => [].getD i 0, fun i => [s_cost, s_found].getD i 0, fun i => [s_order, s_trial].getD i (fun _ => 0), fun i => [].getD i (fun _ => 0)) rfl (show (0 ≤ (s_found).toInt ∧ (s_found).toInt ≤ 1) ∧ (Iv 7 (0) (11) s_trial) ∧ (∀ tm : Nat → Int32, NBS (a_wares).toInt a_weight s_reach s_height → TMB tm → (s_times (p1).toInt.toNat = tm (p1).toInt.toNat) → (∀ j : Nat, j < 12 → BT p3 j = true → s_times j = tm j) → PRT (a_wares).toInt (fun u l => BT (a_mayOn l) u) a_weight a_bears a_deep (rsC a_wide a_deep a_lids) tm s_reach s_height (s_size).toInt.toNat (p0).toInt.toNat p3 (upd s_trial (p0).toInt.toNat p1) p4 p5 → IMP (s_size).toInt.toNat (CDN (a_wares).toInt (s_size).toInt.toNat ((p0).toInt.toNat + 1) p3 (upd s_trial (p0).toInt.toNat p1)) (OKF (fun u l => BT (a_mayOn l) u) a_weight a_bears a_deep (rsC a_wide a_deep a_lids) (s_size).toInt.toNat s_height) (VLF tm a_weight (s_size).toInt.toNat s_reach) ((s_found).toInt = 1) (s_cost).toInt s_order ((s_found).toInt = 1) (s_cost).toInt s_order) ∧ (∀ i : Nat, (i : Int) < (p0).toInt → s_trial i = s_trial i) from ⟨h_s_found, h_s_trial, (fun tm nb tb h1 h2 pre => pre.dear nb tb (z := v_18) (fun t9 c9 => pre.sum nb (x := p1) (y := (u_1.2.1 0)) (l := p0) (mm := s_size) pk_us hw_2_0 (by omega) (by omega) (by rw [← ev_18, ← ev_17, ← ev_16, ← ev_15, ← ev_14, ← ev_13, ← ev_12, ← ev_11, ← ev_10, ← ev_9, ← ev_8, h1]) c9) (by omega) (by omega)), (fun i hi => rfl)⟩) [0, 1, 2, 3, 8, 4, 5, 9, 6, 7] (by decide) rfl (by decide) (by decide) dX6_tryOn_98
    · skip
      rw [i_le] at c_7
      exact j_vret (pc := 35) C hr hk (fun i => [].getD i 0, fun i => [s_cost, s_found].getD i 0, fun i => [s_order, s_trial].getD i (fun _ => 0), fun i => [].getD i (fun _ => 0)) rfl (show (0 ≤ (s_found).toInt ∧ (s_found).toInt ≤ 1) ∧ (Iv 7 (0) (11) s_trial) ∧ (∀ tm : Nat → Int32, NBS (a_wares).toInt a_weight s_reach s_height → TMB tm → (s_times (p1).toInt.toNat = tm (p1).toInt.toNat) → (∀ j : Nat, j < 12 → BT p3 j = true → s_times j = tm j) → PRT (a_wares).toInt (fun u l => BT (a_mayOn l) u) a_weight a_bears a_deep (rsC a_wide a_deep a_lids) tm s_reach s_height (s_size).toInt.toNat (p0).toInt.toNat p3 (upd s_trial (p0).toInt.toNat p1) p4 p5 → IMP (s_size).toInt.toNat (CDN (a_wares).toInt (s_size).toInt.toNat ((p0).toInt.toNat + 1) p3 (upd s_trial (p0).toInt.toNat p1)) (OKF (fun u l => BT (a_mayOn l) u) a_weight a_bears a_deep (rsC a_wide a_deep a_lids) (s_size).toInt.toNat s_height) (VLF tm a_weight (s_size).toInt.toNat s_reach) ((s_found).toInt = 1) (s_cost).toInt s_order ((s_found).toInt = 1) (s_cost).toInt s_order) ∧ (∀ i : Nat, (i : Int) < (p0).toInt → s_trial i = s_trial i) from ⟨h_s_found, h_s_trial, (fun tm nb tb h1 h2 pre => pre.tall (x := p1) (z := v_6) pk_us (by rw [ev_5, ev_6]) (by omega)), (fun i hi => rfl)⟩) [0, 1, 2, 3, 8, 4, 5, 9, 6, 7] (by decide) rfl (by decide) (by decide) dX6_tryOn_35
set_option maxHeartbeats 4000000 in
set_option maxRecDepth 100000 in
theorem c_X6_extend_s (l : Launch) (D : DG) (cyC cyI cyJ cyZ cyO : ClassId) (s0 : Nat) (s1 : Nat) (s2 : Nat) (s3 : Nat) (a0 : Nat) (a1 : Nat) (a2 : Nat) (a3 : Nat) (a4 : Nat) (a7 : Nat) (a5 : Nat) (a6 : Nat) (a8 : Nat) (a9 : Nat) (a10 : Nat) (p0 : Int32) (p2 : Int32) (p3 : Int32) (p4 : Int32) (s_cost : Int32) (s_found : Int32) (s_size : Int32) (s_height : Int32) (s_reach : Int32) (a_wares : Int32) (a_shelves : Int32) (a_nests : Int32) (a_lids : Int32) (a_tops : Int32) (s_order : Nat → Int32) (s_trial : Nat → Int32) (s_times : Nat → Int32) (a_wide : Nat → Int32) (a_deep : Nat → Int32) (a_weight : Nat → Int32) (a_bears : Nat → Int32) (a_mayOn : Nat → Int32) (n9 : Nat) (h_s_found : 0 ≤ (s_found).toInt ∧ (s_found).toInt ≤ 1) (h_s_size : 0 ≤ (s_size).toInt ∧ (s_size).toInt ≤ 7) (h_a_wares : 0 ≤ (a_wares).toInt ∧ (a_wares).toInt ≤ 12) (h_a_shelves : 0 ≤ (a_shelves).toInt ∧ (a_shelves).toInt ≤ 4) (h_a_nests : 0 ≤ (a_nests).toInt ∧ (a_nests).toInt ≤ 4) (h_s_trial : Iv 7 (0) (11) s_trial) (hdp9 : (p0).toInt = 7 - (((n9 + 1) : Nat) : Int)) (h9 : n9 < 7) (hA9 : S_c_X6_extend n9) : KK l D (TY cyC cyI cyJ cyZ cyO) yX6_extend cX6_extend 9 none ({ frames := 1 + 2 * (n9 + 1), cells := 0, slots := 0, locals := 29 + 57 * (n9 + 1) } : Room) 0 0 [.ref s0, .ref a0, .int p0, .int p2, .int p3, .int p4] [(s0, .inr (6, [.ref s1, .int s_cost, .int s_found, .int s_size, .int s_height, .int s_reach, .ref s2, .ref s3])), (s1, .inl (cyI, 7, .inl s_order)), (s2, .inl (cyI, 7, .inl s_trial)), (s3, .inl (cyI, 12, .inl s_times)), (a0, .inr (9, [.int a_wares, .int a_shelves, .int a_nests, .ref a1, .ref a2, .ref a3, .ref a4, .ref a5, .ref a6, .int a_lids, .int a_tops, .ref a7, .ref a8, .ref a9, .ref a10])), (a1, .inl (cyI, 12, .inl a_wide)), (a2, .inl (cyI, 12, .inl a_deep)), (a3, .inl (cyI, 12, .inl a_weight)), (a4, .inl (cyI, 12, .inl a_bears)), (a7, .inl (cyI, 12, .inl a_mayOn))] (fun u => none) (fun u => (0 ≤ (u.2.1 1).toInt ∧ (u.2.1 1).toInt ≤ 1) ∧ (Iv 7 (0) (11) (u.2.2.1 1)) ∧ (∀ tm : Nat → Int32, NBS (a_wares).toInt a_weight s_reach s_height → TMB tm → (∀ j : Nat, j < 12 → BT p2 j = true → s_times j = tm j) → PRE (a_wares).toInt (fun u l => BT (a_mayOn l) u) a_weight a_bears a_deep (rsC a_wide a_deep a_lids) tm s_reach s_height (s_size).toInt.toNat (p0).toInt.toNat p2 s_trial p3 p4 → IMP (s_size).toInt.toNat (CDN (a_wares).toInt (s_size).toInt.toNat (p0).toInt.toNat p2 s_trial) (OKF (fun u l => BT (a_mayOn l) u) a_weight a_bears a_deep (rsC a_wide a_deep a_lids) (s_size).toInt.toNat s_height) (VLF tm a_weight (s_size).toInt.toNat s_reach) ((s_found).toInt = 1) (s_cost).toInt s_order (((u.2.1 1)).toInt = 1) ((u.2.1 0)).toInt (u.2.2.1 0)) ∧ (∀ i : Nat, (i : Int) < (p0).toInt → (u.2.2.1 1) i = s_trial i)) (fun u => [(s0, .inr (6, [.ref s1, .int (u.2.1 0), .int (u.2.1 1), .int s_size, .int s_height, .int s_reach, .ref s2, .ref s3])), (s1, .inl (cyI, 7, .inl (u.2.2.1 0))), (s2, .inl (cyI, 7, .inl (u.2.2.1 1))), (s3, .inl (cyI, 12, .inl s_times)), (a0, .inr (9, [.int a_wares, .int a_shelves, .int a_nests, .ref a1, .ref a2, .ref a3, .ref a4, .ref a5, .ref a6, .int a_lids, .int a_tops, .ref a7, .ref a8, .ref a9, .ref a10])), (a1, .inl (cyI, 12, .inl a_wide)), (a2, .inl (cyI, 12, .inl a_deep)), (a3, .inl (cyI, 12, .inl a_weight)), (a4, .inl (cyI, 12, .inl a_bears)), (a7, .inl (cyI, 12, .inl a_mayOn))]) := by
  refine KK.of (lv0 := [(0, .ref s0), (1, .ref a0), (2, .int p0), (3, .int p2), (4, .int p3), (5, .int p4)]) (by decide) rfl (Nat.le_of_ble_eq_true rfl) ?_
  intro p e s m args below meth c A C hr hk hin
  refine j_iload_n (pc := 0) C dX6_extend_0 rfl 2 rfl ?_
  refine j_aload_n (pc := 1) C dX6_extend_1 rfl 0 rfl ?_
  refine j_get (pc := 2) (ci := 6) (v := .int s_size) C inw_6 0 rfl rfl 3 (by decide) wd_149 rfl rfl dX6_extend_2 ?_
  refine j_icmp_lt (pc := 5) (tgt := 9) C dX6_extend_5 (by decide) (fun c_1 => ?_) (fun c_1 => ?_)
  · skip
    rw [i_lt] at c_1
    refine j_iload_n (pc := 9) C dX6_extend_9 rfl 2 rfl ?_
    refine j_if_ne (pc := 10) (tgt := 17) C dX6_extend_10 (by decide) (fun c_2 => ?_) (fun c_2 => ?_)
    · skip
      have el_0 : (0 : Int32).toInt = 0 := rfl
      rw [i_eq] at c_2
      refine j_iload_n (pc := 17) C dX6_extend_17 rfl 3 rfl ?_
      refine j_aload_n (pc := 18) C dX6_extend_18 rfl 1 rfl ?_
      refine j_get (pc := 19) (ci := 9) (v := .ref a7) C inw_9 4 rfl rfl 11 (by decide) wd_167 rfl rfl dX6_extend_19 ?_
      refine j_aload_n (pc := 22) C dX6_extend_22 rfl 0 rfl ?_
      refine j_get (pc := 23) (ci := 6) (v := .ref s2) C inw_6 0 rfl rfl 6 (by decide) wd_158 rfl rfl dX6_extend_23 ?_
      refine j_iload_n (pc := 26) C dX6_extend_26 rfl 2 rfl ?_
      refine j_iconst (pc := 27) (v := 1) C dX6_extend_27 (by decide) ?_
      obtain ⟨v_3, ev_3⟩ : ∃ z : Int32, p0 - 1 = z := ⟨_, rfl⟩
      have el_1 : (1 : Int32).toInt = 1 := rfl
      have hv_3 : v_3.toInt = p0.toInt - (1 : Int32).toInt := by rw [← ev_3]; exact fb_subI (by omega) (by omega)
      refine j_isub (pc := 28) (v := v_3) C dX6_extend_28 ev_3 ?_
      obtain ⟨v_4, ev_4⟩ : ∃ z, s_trial (v_3).toInt.toNat = z := ⟨_, rfl⟩
      have env_4 : (s_trial (v_3).toInt.toNat).toInt = v_4.toInt := by rw [ev_4]
      have hv_4 := h_s_trial (v_3).toInt.toNat (i_lt_n (by omega) (by omega)); rw [ev_4] at hv_4
      refine j_iald (pc := 29) (v := v_4) (k := (v_3).toInt.toNat) C 2 1 rfl rfl (i_nn (by omega)) rfl (i_lt_n (by omega) (by omega)) ev_4 dX6_extend_29 ?_
      obtain ⟨v_5, ev_5⟩ : ∃ z, a_mayOn (v_4).toInt.toNat = z := ⟨_, rfl⟩
      have env_5 : (a_mayOn (v_4).toInt.toNat).toInt = v_5.toInt := by rw [ev_5]
      refine j_iald (pc := 30) (v := v_5) (k := (v_4).toInt.toNat) C 9 1 rfl rfl (i_nn hv_4.1) rfl (i_lt_n hv_4.1 (Int.lt_of_le_of_lt hv_4.2 (by decide))) ev_5 dX6_extend_30 ?_
      obtain ⟨v_6, ev_6⟩ : ∃ z : Int32, p2 &&& v_5 = z := ⟨_, rfl⟩
      refine j_iand (pc := 31) (v := v_6) C dX6_extend_31 ev_6 ?_
      refine j_istore (pc := 32) (lv' := [(6, .int v_6), (0, .ref s0), (1, .ref a0), (2, .int p0), (3, .int p2), (4, .int p3), (5, .int p4)]) C dX6_extend_32 (by decide) rfl ?_
      refine j_iconst (pc := 34) (v := 0) C dX6_extend_34 (by decide) ?_
      refine j_istore (pc := 35) (lv' := [(7, .int 0), (6, .int v_6), (0, .ref s0), (1, .ref a0), (2, .int p0), (3, .int p2), (4, .int p3), (5, .int p4)]) C dX6_extend_35 (by decide) rfl ?_
      have loop_7 : ∀ (k_7 : Nat) (x7_7 : Int32) (y7_s0_1 : Int32) (y7_s0_2 : Int32) (g7_s1 : Nat → Int32) (g7_s2 : Nat → Int32), (0 ≤ (x7_7).toInt ∧ (x7_7).toInt ≤ 12) → (0 ≤ (y7_s0_2).toInt ∧ (y7_s0_2).toInt ≤ 1) → (Iv 7 (0) (11) g7_s2) → (x7_7.toInt ≤ (a_wares).toInt) → (∀ i : Nat, (i : Int) < (p0).toInt → g7_s2 i = s_trial i) → (∀ tm : Nat → Int32, NBS (a_wares).toInt a_weight s_reach s_height → TMB tm → (∀ j : Nat, j < 12 → BT p2 j = true → s_times j = tm j) → PRE (a_wares).toInt (fun u l => BT (a_mayOn l) u) a_weight a_bears a_deep (rsC a_wide a_deep a_lids) tm s_reach s_height (s_size).toInt.toNat (p0).toInt.toNat p2 s_trial p3 p4 → IMP (s_size).toInt.toNat (CDX (a_wares).toInt (s_size).toInt.toNat (p0).toInt.toNat p2 s_trial x7_7.toInt) (OKF (fun u l => BT (a_mayOn l) u) a_weight a_bears a_deep (rsC a_wide a_deep a_lids) (s_size).toInt.toNat s_height) (VLF tm a_weight (s_size).toInt.toNat s_reach) ((s_found).toInt = 1) (s_cost).toInt s_order ((y7_s0_2).toInt = 1) (y7_s0_1).toInt g7_s1) → (12 - x7_7.toInt).toNat < k_7 → J p l e ({ frames := 1 + 2 * (n9 + 1), cells := 0, slots := 0, locals := 29 + 57 * (n9 + 1) } : Room) s m args below meth c D A 9 0 0 (QX below D (TY cyC cyI cyJ cyZ cyO) A (fun u => none) (fun u => (0 ≤ (u.2.1 1).toInt ∧ (u.2.1 1).toInt ≤ 1) ∧ (Iv 7 (0) (11) (u.2.2.1 1)) ∧ (∀ tm : Nat → Int32, NBS (a_wares).toInt a_weight s_reach s_height → TMB tm → (∀ j : Nat, j < 12 → BT p2 j = true → s_times j = tm j) → PRE (a_wares).toInt (fun u l => BT (a_mayOn l) u) a_weight a_bears a_deep (rsC a_wide a_deep a_lids) tm s_reach s_height (s_size).toInt.toNat (p0).toInt.toNat p2 s_trial p3 p4 → IMP (s_size).toInt.toNat (CDN (a_wares).toInt (s_size).toInt.toNat (p0).toInt.toNat p2 s_trial) (OKF (fun u l => BT (a_mayOn l) u) a_weight a_bears a_deep (rsC a_wide a_deep a_lids) (s_size).toInt.toNat s_height) (VLF tm a_weight (s_size).toInt.toNat s_reach) ((s_found).toInt = 1) (s_cost).toInt s_order (((u.2.1 1)).toInt = 1) ((u.2.1 0)).toInt (u.2.2.1 0)) ∧ (∀ i : Nat, (i : Int) < (p0).toInt → (u.2.2.1 1) i = s_trial i)) (fun u => [(s0, .inr (6, [.ref s1, .int (u.2.1 0), .int (u.2.1 1), .int s_size, .int s_height, .int s_reach, .ref s2, .ref s3])), (s1, .inl (cyI, 7, .inl (u.2.2.1 0))), (s2, .inl (cyI, 7, .inl (u.2.2.1 1))), (s3, .inl (cyI, 12, .inl s_times)), (a0, .inr (9, [.int a_wares, .int a_shelves, .int a_nests, .ref a1, .ref a2, .ref a3, .ref a4, .ref a5, .ref a6, .int a_lids, .int a_tops, .ref a7, .ref a8, .ref a9, .ref a10])), (a1, .inl (cyI, 12, .inl a_wide)), (a2, .inl (cyI, 12, .inl a_deep)), (a3, .inl (cyI, 12, .inl a_weight)), (a4, .inl (cyI, 12, .inl a_bears)), (a7, .inl (cyI, 12, .inl a_mayOn))]) args s 0 0) [(s0, .inr (6, [.ref s1, .int y7_s0_1, .int y7_s0_2, .int s_size, .int s_height, .int s_reach, .ref s2, .ref s3])), (s1, .inl (cyI, 7, .inl g7_s1)), (s2, .inl (cyI, 7, .inl g7_s2)), (s3, .inl (cyI, 12, .inl s_times)), (a0, .inr (9, [.int a_wares, .int a_shelves, .int a_nests, .ref a1, .ref a2, .ref a3, .ref a4, .ref a5, .ref a6, .int a_lids, .int a_tops, .ref a7, .ref a8, .ref a9, .ref a10])), (a1, .inl (cyI, 12, .inl a_wide)), (a2, .inl (cyI, 12, .inl a_deep)), (a3, .inl (cyI, 12, .inl a_weight)), (a4, .inl (cyI, 12, .inl a_bears)), (a7, .inl (cyI, 12, .inl a_mayOn))] 37 [(7, .int x7_7), (6, .int v_6), (0, .ref s0), (1, .ref a0), (2, .int p0), (3, .int p2), (4, .int p3), (5, .int p4)] [] := by
        intro k_7
        induction k_7 with
        | zero =>
          intro x7_7 y7_s0_1 y7_s0_2 g7_s1 g7_s2 hi_7_0 hi_7_2 hi_7_4 hr_7 hq_7_0 hq_7_1 hm_7
          exact absurd hm_7 (Nat.not_lt_zero _)
        | succ k_7 ih_7 =>
          intro x7_7 y7_s0_1 y7_s0_2 g7_s1 g7_s2 hi_7_0 hi_7_2 hi_7_4 hr_7 hq_7_0 hq_7_1 hm_7
          refine j_iload (pc := 37) C dX6_extend_37 0 rfl ?_
          refine j_aload_n (pc := 39) C dX6_extend_39 rfl 3 rfl ?_
          refine j_get (pc := 40) (ci := 9) (v := .int a_wares) C inw_9 4 rfl rfl 0 (by decide) wd_168 rfl rfl dX6_extend_40 ?_
          refine j_icmp_ge (pc := 43) (tgt := 108) C dX6_extend_43 (by decide) (fun c_8 => ?_) (fun c_8 => ?_)
          · skip
            rw [i_le] at c_8
            exact j_vret (pc := 108) C hr hk (fun i => [].getD i 0, fun i => [y7_s0_1, y7_s0_2].getD i 0, fun i => [g7_s1, g7_s2].getD i (fun _ => 0), fun i => [].getD i (fun _ => 0)) rfl (show (0 ≤ (y7_s0_2).toInt ∧ (y7_s0_2).toInt ≤ 1) ∧ (Iv 7 (0) (11) g7_s2) ∧ (∀ tm : Nat → Int32, NBS (a_wares).toInt a_weight s_reach s_height → TMB tm → (∀ j : Nat, j < 12 → BT p2 j = true → s_times j = tm j) → PRE (a_wares).toInt (fun u l => BT (a_mayOn l) u) a_weight a_bears a_deep (rsC a_wide a_deep a_lids) tm s_reach s_height (s_size).toInt.toNat (p0).toInt.toNat p2 s_trial p3 p4 → IMP (s_size).toInt.toNat (CDN (a_wares).toInt (s_size).toInt.toNat (p0).toInt.toNat p2 s_trial) (OKF (fun u l => BT (a_mayOn l) u) a_weight a_bears a_deep (rsC a_wide a_deep a_lids) (s_size).toInt.toNat s_height) (VLF tm a_weight (s_size).toInt.toNat s_reach) ((s_found).toInt = 1) (s_cost).toInt s_order ((y7_s0_2).toInt = 1) (y7_s0_1).toInt g7_s1) ∧ (∀ i : Nat, (i : Int) < (p0).toInt → g7_s2 i = s_trial i) from ⟨hi_7_2, hi_7_4, (fun tm nb tb ht pre => (hq_7_1 tm nb tb ht pre).fin (by have y9 := pre.1.2.2.2; exact y9) (by omega)), hq_7_0⟩) [0, 1, 2, 3, 4, 5, 6, 7, 8, 9] (by decide) rfl (by decide) (by decide) dX6_extend_108
          · skip
            rw [i_le] at c_8
            refine j_iload (pc := 46) C dX6_extend_46 1 rfl ?_
            refine j_iload (pc := 48) C dX6_extend_48 0 rfl ?_
            obtain ⟨v_9, ev_9⟩ : ∃ z : Int32, ((v_6 : Int32).toUInt32 >>> ((x7_7 : Int32).toUInt32 &&& Int32.toUInt32 31)).toInt32 = z := ⟨_, rfl⟩
            refine j_iushr (pc := 50) (v := v_9) C dX6_extend_50 ev_9 ?_
            refine j_iconst (pc := 51) (v := 1) C dX6_extend_51 (by decide) ?_
            obtain ⟨v_10, ev_10⟩ : ∃ z : Int32, v_9 &&& 1 = z := ⟨_, rfl⟩
            have el_1 : (1 : Int32).toInt = 1 := rfl
            have hv_10 : 0 ≤ v_10.toInt ∧ v_10.toInt ≤ 1 := by rw [← ev_10]; exact and1_r _
            refine j_iand (pc := 52) (v := v_10) C dX6_extend_52 ev_10 ?_
            refine j_iconst (pc := 53) (v := 1) C dX6_extend_53 (by decide) ?_
            refine j_icmp_ne (pc := 54) (tgt := 102) C dX6_extend_54 (by decide) (fun c_11 => ?_) (fun c_11 => ?_)
            · skip
              have el_1 : (1 : Int32).toInt = 1 := rfl
              rw [i_eq] at c_11
              have k0c_11 : v_10.toInt = 0 := by omega
              obtain ⟨v_12, ev_12⟩ : ∃ z : Int32, x7_7 + 1 = z := ⟨_, rfl⟩
              have el_1 : (1 : Int32).toInt = 1 := rfl
              have hv_12 : v_12.toInt = x7_7.toInt + (1 : Int32).toInt := by rw [← ev_12]; exact fb_addI (by omega) (by omega)
              refine j_iinc (pc := 102) (v := v_12) (lv' := [(7, .int v_12), (6, .int v_6), (0, .ref s0), (1, .ref a0), (2, .int p0), (3, .int p2), (4, .int p3), (5, .int p4)]) C dX6_extend_102 0 rfl ev_12 (by decide) rfl ?_
              refine j_goto (pc := 105) (tgt := 37) C dX6_extend_105 (by decide) ?_
              exact j_lv [0, 1, 2, 3, 4, 5, 6, 7] rfl (ih_7 v_12 y7_s0_1 y7_s0_2 g7_s1 g7_s2 (by omega) hi_7_2 hi_7_4 (by omega) hq_7_0 (fun tm nb tb ht pre => (hq_7_1 tm nb tb ht pre).skip (by omega) (pre.skip nb (x := x7_7) (by omega) (fun z => by have z9 : (v_10).toInt = (if BT v_6 (x7_7).toInt.toNat = true then 1 else 0) := (by rw [← ev_10, ← ev_9]; exact bt_rd (by omega) (by omega)); have b9 : BT v_6 (x7_7).toInt.toNat = (BT p2 (x7_7).toInt.toNat && BT (a_mayOn (s_trial ((p0).toInt.toNat - 1)).toInt.toNat) (x7_7).toInt.toNat) := (by rw [show s_trial ((p0).toInt.toNat - 1) = v_4 from (by rw [← ev_4, show (v_3).toInt.toNat = (p0).toInt.toNat - 1 from (by omega)]), ev_5, ← ev_6, bt_and2]); have z7 := z.2 ((p0).toInt.toNat - 1) (by omega); rw [if_pos (by rw [b9, z.1]; exact z7)] at z9; omega))) (by omega))
            · skip
              have el_1 : (1 : Int32).toInt = 1 := rfl
              rw [i_eq] at c_11
              refine j_iload_n (pc := 57) C dX6_extend_57 rfl 4 rfl ?_
              have el_0 : (0 : Int32).toInt = 0 := rfl
              refine j_if_ne_t (pc := 58) (tgt := 65) C dX6_extend_58 (by decide) (by rw [i_eq]; omega) ?_
              refine j_aload_n (pc := 65) C dX6_extend_65 rfl 3 rfl ?_
              refine j_iload (pc := 66) C dX6_extend_66 0 rfl ?_
              refine j_aload_n (pc := 68) C dX6_extend_68 rfl 2 rfl ?_
              refine j_get (pc := 69) (ci := 6) (v := .ref s2) C inw_6 0 rfl rfl 6 (by decide) wd_158 rfl rfl dX6_extend_69 ?_
              refine j_iload_n (pc := 72) C dX6_extend_72 rfl 4 rfl ?_
              refine j_iconst (pc := 73) (v := 1) C dX6_extend_73 (by decide) ?_
              obtain ⟨v_13, ev_13⟩ : ∃ z : Int32, p0 - 1 = z := ⟨_, rfl⟩
              have el_1 : (1 : Int32).toInt = 1 := rfl
              have hv_13 : v_13.toInt = p0.toInt - (1 : Int32).toInt := by rw [← ev_13]; exact fb_subI (by omega) (by omega)
              refine j_isub (pc := 74) (v := v_13) C dX6_extend_74 ev_13 ?_
              obtain ⟨v_14, ev_14⟩ : ∃ z, g7_s2 (v_13).toInt.toNat = z := ⟨_, rfl⟩
              have env_14 : (g7_s2 (v_13).toInt.toNat).toInt = v_14.toInt := by rw [ev_14]
              have hv_14 := hi_7_4 (v_13).toInt.toNat (i_lt_n (by omega) (by omega)); rw [ev_14] at hv_14
              refine j_iald (pc := 75) (v := v_14) (k := (v_13).toInt.toNat) C 2 1 rfl rfl (i_nn (by omega)) rfl (i_lt_n (by omega) (by omega)) ev_14 dX6_extend_75 ?_
              refine j_callV (pc := 76) (As := [.int x7_7, .int v_14]) (rest := []) (wr := [(s0, .inr (6, [.ref s1, .int y7_s0_1, .int y7_s0_2, .int s_size, .int s_height, .int s_reach, .ref s2, .ref s3])), (s1, .inl (cyI, 7, .inl g7_s1)), (s2, .inl (cyI, 7, .inl g7_s2)), (s3, .inl (cyI, 12, .inl s_times)), (a3, .inl (cyI, 12, .inl a_weight)), (a4, .inl (cyI, 12, .inl a_bears)), (a7, .inl (cyI, 12, .inl a_mayOn))]) C (c_X9_rise l D cyC cyI cyJ cyZ cyO a0 a1 a2 a3 a4 a5 a6 a7 a8 a9 a10 x7_7 v_14 a_wares a_shelves a_nests a_lids a_tops a_wide a_deep h_a_wares h_a_shelves h_a_nests (by omega) hv_14) wd_32 wd_33 wd_169 wd_35 wd_36 ⟨by decide, by decide, rfl⟩ rfl ⟨rfl, rfl, (by show (0 : Nat) + 1 ≤ 1 + 2 * (n9 + 1); omega), (by show 8 + (4 + 11) + (0 : Nat) ≤ 29 + 57 * (n9 + 1); omega)⟩ ⟨Nat.le_of_ble_eq_true rfl, Nat.le_of_ble_eq_true rfl⟩ [4, 5, 6] [0, 1, 2, 3, 7, 8, 9] rfl rfl ⟨by decide, by decide, by decide⟩ 4 rfl rfl rfl (Nat.le_of_ble_eq_true rfl) dX6_extend_76 (fun u_15 hw_16 => ?_)
              refine j_eq (ws2 := [(s0, .inr (6, [.ref s1, .int y7_s0_1, .int y7_s0_2, .int s_size, .int s_height, .int s_reach, .ref s2, .ref s3])), (s1, .inl (cyI, 7, .inl g7_s1)), (s2, .inl (cyI, 7, .inl g7_s2)), (s3, .inl (cyI, 12, .inl s_times)), (a3, .inl (cyI, 12, .inl a_weight)), (a4, .inl (cyI, 12, .inl a_bears)), (a7, .inl (cyI, 12, .inl a_mayOn)), (a0, .inr (9, [.int a_wares, .int a_shelves, .int a_nests, .ref a1, .ref a2, .ref a3, .ref a4, .ref a5, .ref a6, .int a_lids, .int a_tops, .ref a7, .ref a8, .ref a9, .ref a10])), (a1, .inl (cyI, 12, .inl a_wide)), (a2, .inl (cyI, 12, .inl a_deep))]) (pc2 := 79) (lv2 := [(7, .int x7_7), (6, .int v_6), (0, .ref s0), (1, .ref a0), (2, .int p0), (3, .int p2), (4, .int p3), (5, .int p4)]) (st2 := [.int (u_15.2.1 0)]) rfl rfl rfl rfl ?_
              have hw_16_0 : (u_15.2.1 0) = (rsC a_wide a_deep a_lids) (x7_7).toInt.toNat (v_14).toInt.toNat := hw_16
              refine j_istore (pc := 79) (lv' := [(8, .int (u_15.2.1 0)), (7, .int x7_7), (6, .int v_6), (0, .ref s0), (1, .ref a0), (2, .int p0), (3, .int p2), (4, .int p3), (5, .int p4)]) C dX6_extend_79 (by decide) rfl ?_
              refine j_aload_n (pc := 81) C dX6_extend_81 rfl 3 rfl ?_
              refine j_aload_n (pc := 82) C dX6_extend_82 rfl 4 rfl ?_
              refine j_iload (pc := 83) C dX6_extend_83 1 rfl ?_
              refine j_iload_n (pc := 85) C dX6_extend_85 rfl 5 rfl ?_
              refine j_iload_n (pc := 86) C dX6_extend_86 rfl 6 rfl ?_
              refine j_iconst (pc := 87) (v := 1) C dX6_extend_87 (by decide) ?_
              refine j_iload (pc := 88) C dX6_extend_88 1 rfl ?_
              obtain ⟨v_17, ev_17⟩ : ∃ z : Int32, 1 <<< (x7_7 &&& 31) = z := ⟨_, rfl⟩
              have el_1 : (1 : Int32).toInt = 1 := rfl
              have hv_17 : 1 ≤ v_17.toInt ∧ v_17.toInt ≤ 2048 := by rw [← ev_17]; exact shl1_iv 0 11 (by omega) (by omega) (by omega)
              refine j_ishl (pc := 90) (v := v_17) C dX6_extend_90 ev_17 ?_
              obtain ⟨v_18, ev_18⟩ : ∃ z : Int32, p2 ^^^ v_17 = z := ⟨_, rfl⟩
              refine j_ixor (pc := 91) (v := v_18) C dX6_extend_91 ev_18 ?_
              refine j_iload (pc := 92) C dX6_extend_92 7 rfl ?_
              refine j_iload (pc := 94) C dX6_extend_94 0 rfl ?_
              obtain ⟨v_19, ev_19⟩ : ∃ z : Int32, p3 + (u_15.2.1 0) = z := ⟨_, rfl⟩
              refine j_iadd (pc := 96) (v := v_19) C dX6_extend_96 ev_19 ?_
              refine j_iload (pc := 97) C dX6_extend_97 8 rfl ?_
              refine j_callV (pc := 99) (As := [.ref a0, .int x7_7, .int p0, .int v_18, .int v_19, .int p4]) (rest := []) (wr := []) C (c_X6_tryOn_s l D cyC cyI cyJ cyZ cyO s0 s1 s2 s3 a0 a1 a2 a3 a4 a7 a5 a6 a8 a9 a10 x7_7 p0 v_18 v_19 p4 y7_s0_1 y7_s0_2 s_size s_height s_reach a_wares a_shelves a_nests a_lids a_tops g7_s1 g7_s2 s_times a_wide a_deep a_weight a_bears a_mayOn n9 hi_7_2 h_s_size h_a_wares h_a_shelves h_a_nests (by omega) hi_7_4 hdp9 h9 hA9) wd_170 wd_160 wd_171 wd_172 wd_173 ⟨by decide, by decide, rfl⟩ rfl ⟨rfl, rfl, (by show (0 + 2 * (n9 + 1) : Nat) + 1 ≤ 1 + 2 * (n9 + 1); omega), (by show 8 + (10 + 11) + (0 + 57 * (n9 + 1) : Nat) ≤ 29 + 57 * (n9 + 1); omega)⟩ ⟨Nat.le_of_ble_eq_true rfl, Nat.le_of_ble_eq_true rfl⟩ [0, 1, 2, 3, 7, 8, 9, 4, 5, 6] [] rfl rfl ⟨by decide, by decide, by decide⟩ 0 rfl rfl rfl (Nat.le_of_ble_eq_true rfl) dX6_extend_99 (fun u_20 hw_21 => ?_)
              refine j_eq (ws2 := [(s0, .inr (6, [.ref s1, .int (u_20.2.1 0), .int (u_20.2.1 1), .int s_size, .int s_height, .int s_reach, .ref s2, .ref s3])), (s1, .inl (cyI, 7, .inl (u_20.2.2.1 0))), (s2, .inl (cyI, 7, .inl (u_20.2.2.1 1))), (s3, .inl (cyI, 12, .inl s_times)), (a0, .inr (9, [.int a_wares, .int a_shelves, .int a_nests, .ref a1, .ref a2, .ref a3, .ref a4, .ref a5, .ref a6, .int a_lids, .int a_tops, .ref a7, .ref a8, .ref a9, .ref a10])), (a1, .inl (cyI, 12, .inl a_wide)), (a2, .inl (cyI, 12, .inl a_deep)), (a3, .inl (cyI, 12, .inl a_weight)), (a4, .inl (cyI, 12, .inl a_bears)), (a7, .inl (cyI, 12, .inl a_mayOn))]) (pc2 := 102) (lv2 := [(8, .int (u_15.2.1 0)), (7, .int x7_7), (6, .int v_6), (0, .ref s0), (1, .ref a0), (2, .int p0), (3, .int p2), (4, .int p3), (5, .int p4)]) (st2 := []) rfl rfl rfl rfl ?_
              obtain ⟨hw_21_0, hw_21_1, hw_21_2, hw_21_3⟩ := hw_21
              obtain ⟨v_22, ev_22⟩ : ∃ z : Int32, x7_7 + 1 = z := ⟨_, rfl⟩
              have el_1 : (1 : Int32).toInt = 1 := rfl
              have hv_22 : v_22.toInt = x7_7.toInt + (1 : Int32).toInt := by rw [← ev_22]; exact fb_addI (by omega) (by omega)
              refine j_iinc (pc := 102) (v := v_22) (lv' := [(7, .int v_22), (8, .int (u_15.2.1 0)), (6, .int v_6), (0, .ref s0), (1, .ref a0), (2, .int p0), (3, .int p2), (4, .int p3), (5, .int p4)]) C dX6_extend_102 1 rfl ev_22 (by decide) rfl ?_
              refine j_goto (pc := 105) (tgt := 37) C dX6_extend_105 (by decide) ?_
              exact j_lv [0, 2, 3, 4, 5, 6, 7, 8] rfl (ih_7 v_22 (u_20.2.1 0) (u_20.2.1 1) (u_20.2.2.1 0) (u_20.2.2.1 1) (by omega) hw_21_0 hw_21_1 (by omega) (fun i hi => (hw_21_3 i hi).trans (hq_7_0 i hi)) (fun tm nb tb ht pre => by have y8 : BT v_6 (x7_7).toInt.toNat = true := (by have z9 : (v_10).toInt = (if BT v_6 (x7_7).toInt.toNat = true then 1 else 0) := (by rw [← ev_10, ← ev_9]; exact bt_rd (by omega) (by omega)); by_cases z : BT v_6 (x7_7).toInt.toNat = true; exact z; (rw [if_neg z] at z9; exfalso; omega)); have b9 : BT v_6 (x7_7).toInt.toNat = (BT p2 (x7_7).toInt.toNat && BT (a_mayOn (s_trial ((p0).toInt.toNat - 1)).toInt.toNat) (x7_7).toInt.toNat) := (by rw [show s_trial ((p0).toInt.toNat - 1) = v_4 from (by rw [← ev_4, show (v_3).toInt.toNat = (p0).toInt.toNat - 1 from (by omega)]), ev_5, ← ev_6, bt_and2]); rw [b9, Bool.and_eq_true] at y8; have hb9 := y8.1; have hm9 := y8.2; have co : v_18 = cx p2 (x7_7).toInt.toNat := (by unfold cx; rw [nI_bk2 (by omega), ev_17, ev_18]); exact (hq_7_1 tm nb tb ht pre).step (x := x7_7) (t1 := upd g7_s2 (p0).toInt.toNat x7_7) (hw_21_2 tm nb tb (ht _ (by omega) hb9) (fun j hj hz => ht j hj (by rw [co] at hz; exact cx_in (by omega) hb9 (by omega) hz)) (pre.child nb (x := x7_7) (r := (u_15.2.1 0)) (by omega) (by omega) hb9 co (fun i hi => by rw [pk_un (show ¬ i = (p0).toInt.toNat from (by omega))]; exact hq_7_0 i (by omega)) pk_us (fun q hq => by rw [show q = (p0).toInt.toNat - 1 from (by omega)]; exact hm9) ⟨fun z => by exfalso; omega, fun q hq => by rw [show q = (p0).toInt.toNat - 1 from (by omega), hw_16_0, ← ev_14, show (v_13).toInt.toNat = (p0).toInt.toNat - 1 from (by omega), hq_7_0 ((p0).toInt.toNat - 1) (by omega)]⟩ ev_19.symm)) co rfl (by omega) (by have y9 := pre.1.2.2.2; exact y9) (by omega) (by omega) hb9 (fun i hi => by rw [pk_un (show ¬ i = (p0).toInt.toNat from (by omega))]; exact hq_7_0 i (by omega)) pk_us) (by omega))
      have el_0 : (0 : Int32).toInt = 0 := rfl
      exact j_lv [0, 1, 2, 3, 4, 5, 6, 7] rfl (loop_7 4096 0 s_cost s_found s_order s_trial (by decide) h_s_found h_s_trial (by omega) (fun i hi => rfl) (fun tm nb tb ht pre => IMP.start (by have y9 := pre.1.2.2.2; exact y9) (by decide)) (by omega))
    · skip
      have el_0 : (0 : Int32).toInt = 0 := rfl
      rw [i_eq] at c_2
      refine j_iload_n (pc := 13) C dX6_extend_13 rfl 3 rfl ?_
      refine j_goto (pc := 14) (tgt := 32) C dX6_extend_14 (by decide) ?_
      refine j_istore (pc := 32) (lv' := [(6, .int p2), (0, .ref s0), (1, .ref a0), (2, .int p0), (3, .int p2), (4, .int p3), (5, .int p4)]) C dX6_extend_32 (by decide) rfl ?_
      refine j_iconst (pc := 34) (v := 0) C dX6_extend_34 (by decide) ?_
      refine j_istore (pc := 35) (lv' := [(7, .int 0), (6, .int p2), (0, .ref s0), (1, .ref a0), (2, .int p0), (3, .int p2), (4, .int p3), (5, .int p4)]) C dX6_extend_35 (by decide) rfl ?_
      have loop_23 : ∀ (k_23 : Nat) (x23_7 : Int32) (y23_s0_1 : Int32) (y23_s0_2 : Int32) (g23_s1 : Nat → Int32) (g23_s2 : Nat → Int32), (0 ≤ (x23_7).toInt ∧ (x23_7).toInt ≤ 12) → (0 ≤ (y23_s0_2).toInt ∧ (y23_s0_2).toInt ≤ 1) → (Iv 7 (0) (11) g23_s2) → (x23_7.toInt ≤ (a_wares).toInt) → (∀ i : Nat, (i : Int) < (p0).toInt → g23_s2 i = s_trial i) → (∀ tm : Nat → Int32, NBS (a_wares).toInt a_weight s_reach s_height → TMB tm → (∀ j : Nat, j < 12 → BT p2 j = true → s_times j = tm j) → PRE (a_wares).toInt (fun u l => BT (a_mayOn l) u) a_weight a_bears a_deep (rsC a_wide a_deep a_lids) tm s_reach s_height (s_size).toInt.toNat (p0).toInt.toNat p2 s_trial p3 p4 → IMP (s_size).toInt.toNat (CDX (a_wares).toInt (s_size).toInt.toNat (p0).toInt.toNat p2 s_trial x23_7.toInt) (OKF (fun u l => BT (a_mayOn l) u) a_weight a_bears a_deep (rsC a_wide a_deep a_lids) (s_size).toInt.toNat s_height) (VLF tm a_weight (s_size).toInt.toNat s_reach) ((s_found).toInt = 1) (s_cost).toInt s_order ((y23_s0_2).toInt = 1) (y23_s0_1).toInt g23_s1) → (12 - x23_7.toInt).toNat < k_23 → J p l e ({ frames := 1 + 2 * (n9 + 1), cells := 0, slots := 0, locals := 29 + 57 * (n9 + 1) } : Room) s m args below meth c D A 9 0 0 (QX below D (TY cyC cyI cyJ cyZ cyO) A (fun u => none) (fun u => (0 ≤ (u.2.1 1).toInt ∧ (u.2.1 1).toInt ≤ 1) ∧ (Iv 7 (0) (11) (u.2.2.1 1)) ∧ (∀ tm : Nat → Int32, NBS (a_wares).toInt a_weight s_reach s_height → TMB tm → (∀ j : Nat, j < 12 → BT p2 j = true → s_times j = tm j) → PRE (a_wares).toInt (fun u l => BT (a_mayOn l) u) a_weight a_bears a_deep (rsC a_wide a_deep a_lids) tm s_reach s_height (s_size).toInt.toNat (p0).toInt.toNat p2 s_trial p3 p4 → IMP (s_size).toInt.toNat (CDN (a_wares).toInt (s_size).toInt.toNat (p0).toInt.toNat p2 s_trial) (OKF (fun u l => BT (a_mayOn l) u) a_weight a_bears a_deep (rsC a_wide a_deep a_lids) (s_size).toInt.toNat s_height) (VLF tm a_weight (s_size).toInt.toNat s_reach) ((s_found).toInt = 1) (s_cost).toInt s_order (((u.2.1 1)).toInt = 1) ((u.2.1 0)).toInt (u.2.2.1 0)) ∧ (∀ i : Nat, (i : Int) < (p0).toInt → (u.2.2.1 1) i = s_trial i)) (fun u => [(s0, .inr (6, [.ref s1, .int (u.2.1 0), .int (u.2.1 1), .int s_size, .int s_height, .int s_reach, .ref s2, .ref s3])), (s1, .inl (cyI, 7, .inl (u.2.2.1 0))), (s2, .inl (cyI, 7, .inl (u.2.2.1 1))), (s3, .inl (cyI, 12, .inl s_times)), (a0, .inr (9, [.int a_wares, .int a_shelves, .int a_nests, .ref a1, .ref a2, .ref a3, .ref a4, .ref a5, .ref a6, .int a_lids, .int a_tops, .ref a7, .ref a8, .ref a9, .ref a10])), (a1, .inl (cyI, 12, .inl a_wide)), (a2, .inl (cyI, 12, .inl a_deep)), (a3, .inl (cyI, 12, .inl a_weight)), (a4, .inl (cyI, 12, .inl a_bears)), (a7, .inl (cyI, 12, .inl a_mayOn))]) args s 0 0) [(s0, .inr (6, [.ref s1, .int y23_s0_1, .int y23_s0_2, .int s_size, .int s_height, .int s_reach, .ref s2, .ref s3])), (s1, .inl (cyI, 7, .inl g23_s1)), (s2, .inl (cyI, 7, .inl g23_s2)), (s3, .inl (cyI, 12, .inl s_times)), (a0, .inr (9, [.int a_wares, .int a_shelves, .int a_nests, .ref a1, .ref a2, .ref a3, .ref a4, .ref a5, .ref a6, .int a_lids, .int a_tops, .ref a7, .ref a8, .ref a9, .ref a10])), (a1, .inl (cyI, 12, .inl a_wide)), (a2, .inl (cyI, 12, .inl a_deep)), (a3, .inl (cyI, 12, .inl a_weight)), (a4, .inl (cyI, 12, .inl a_bears)), (a7, .inl (cyI, 12, .inl a_mayOn))] 37 [(7, .int x23_7), (6, .int p2), (0, .ref s0), (1, .ref a0), (2, .int p0), (3, .int p2), (4, .int p3), (5, .int p4)] [] := by
        intro k_23
        induction k_23 with
        | zero =>
          intro x23_7 y23_s0_1 y23_s0_2 g23_s1 g23_s2 hi_23_0 hi_23_2 hi_23_4 hr_23 hq_23_0 hq_23_1 hm_23
          exact absurd hm_23 (Nat.not_lt_zero _)
        | succ k_23 ih_23 =>
          intro x23_7 y23_s0_1 y23_s0_2 g23_s1 g23_s2 hi_23_0 hi_23_2 hi_23_4 hr_23 hq_23_0 hq_23_1 hm_23
          refine j_iload (pc := 37) C dX6_extend_37 0 rfl ?_
          refine j_aload_n (pc := 39) C dX6_extend_39 rfl 3 rfl ?_
          refine j_get (pc := 40) (ci := 9) (v := .int a_wares) C inw_9 4 rfl rfl 0 (by decide) wd_168 rfl rfl dX6_extend_40 ?_
          refine j_icmp_ge (pc := 43) (tgt := 108) C dX6_extend_43 (by decide) (fun c_24 => ?_) (fun c_24 => ?_)
          · skip
            rw [i_le] at c_24
            exact j_vret (pc := 108) C hr hk (fun i => [].getD i 0, fun i => [y23_s0_1, y23_s0_2].getD i 0, fun i => [g23_s1, g23_s2].getD i (fun _ => 0), fun i => [].getD i (fun _ => 0)) rfl (show (0 ≤ (y23_s0_2).toInt ∧ (y23_s0_2).toInt ≤ 1) ∧ (Iv 7 (0) (11) g23_s2) ∧ (∀ tm : Nat → Int32, NBS (a_wares).toInt a_weight s_reach s_height → TMB tm → (∀ j : Nat, j < 12 → BT p2 j = true → s_times j = tm j) → PRE (a_wares).toInt (fun u l => BT (a_mayOn l) u) a_weight a_bears a_deep (rsC a_wide a_deep a_lids) tm s_reach s_height (s_size).toInt.toNat (p0).toInt.toNat p2 s_trial p3 p4 → IMP (s_size).toInt.toNat (CDN (a_wares).toInt (s_size).toInt.toNat (p0).toInt.toNat p2 s_trial) (OKF (fun u l => BT (a_mayOn l) u) a_weight a_bears a_deep (rsC a_wide a_deep a_lids) (s_size).toInt.toNat s_height) (VLF tm a_weight (s_size).toInt.toNat s_reach) ((s_found).toInt = 1) (s_cost).toInt s_order ((y23_s0_2).toInt = 1) (y23_s0_1).toInt g23_s1) ∧ (∀ i : Nat, (i : Int) < (p0).toInt → g23_s2 i = s_trial i) from ⟨hi_23_2, hi_23_4, (fun tm nb tb ht pre => (hq_23_1 tm nb tb ht pre).fin (by have y9 := pre.1.2.2.2; exact y9) (by omega)), hq_23_0⟩) [0, 1, 2, 3, 4, 5, 6, 7, 8, 9] (by decide) rfl (by decide) (by decide) dX6_extend_108
          · skip
            rw [i_le] at c_24
            refine j_iload (pc := 46) C dX6_extend_46 1 rfl ?_
            refine j_iload (pc := 48) C dX6_extend_48 0 rfl ?_
            obtain ⟨v_25, ev_25⟩ : ∃ z : Int32, ((p2 : Int32).toUInt32 >>> ((x23_7 : Int32).toUInt32 &&& Int32.toUInt32 31)).toInt32 = z := ⟨_, rfl⟩
            refine j_iushr (pc := 50) (v := v_25) C dX6_extend_50 ev_25 ?_
            refine j_iconst (pc := 51) (v := 1) C dX6_extend_51 (by decide) ?_
            obtain ⟨v_26, ev_26⟩ : ∃ z : Int32, v_25 &&& 1 = z := ⟨_, rfl⟩
            have el_1 : (1 : Int32).toInt = 1 := rfl
            have hv_26 : 0 ≤ v_26.toInt ∧ v_26.toInt ≤ 1 := by rw [← ev_26]; exact and1_r _
            refine j_iand (pc := 52) (v := v_26) C dX6_extend_52 ev_26 ?_
            refine j_iconst (pc := 53) (v := 1) C dX6_extend_53 (by decide) ?_
            refine j_icmp_ne (pc := 54) (tgt := 102) C dX6_extend_54 (by decide) (fun c_27 => ?_) (fun c_27 => ?_)
            · skip
              have el_1 : (1 : Int32).toInt = 1 := rfl
              rw [i_eq] at c_27
              have k0c_27 : v_26.toInt = 0 := by omega
              obtain ⟨v_28, ev_28⟩ : ∃ z : Int32, x23_7 + 1 = z := ⟨_, rfl⟩
              have el_1 : (1 : Int32).toInt = 1 := rfl
              have hv_28 : v_28.toInt = x23_7.toInt + (1 : Int32).toInt := by rw [← ev_28]; exact fb_addI (by omega) (by omega)
              refine j_iinc (pc := 102) (v := v_28) (lv' := [(7, .int v_28), (6, .int p2), (0, .ref s0), (1, .ref a0), (2, .int p0), (3, .int p2), (4, .int p3), (5, .int p4)]) C dX6_extend_102 0 rfl ev_28 (by decide) rfl ?_
              refine j_goto (pc := 105) (tgt := 37) C dX6_extend_105 (by decide) ?_
              exact j_lv [0, 1, 2, 3, 4, 5, 6, 7] rfl (ih_23 v_28 y23_s0_1 y23_s0_2 g23_s1 g23_s2 (by omega) hi_23_2 hi_23_4 (by omega) hq_23_0 (fun tm nb tb ht pre => (hq_23_1 tm nb tb ht pre).skip (by omega) (pre.skip nb (x := x23_7) (by omega) (fun z => by have z9 : (v_26).toInt = (if BT p2 (x23_7).toInt.toNat = true then 1 else 0) := (by rw [← ev_26, ← ev_25]; exact bt_rd (by omega) (by omega)); rw [if_pos z.1] at z9; omega))) (by omega))
            · skip
              have el_1 : (1 : Int32).toInt = 1 := rfl
              rw [i_eq] at c_27
              refine j_iload_n (pc := 57) C dX6_extend_57 rfl 4 rfl ?_
              refine j_if_ne (pc := 58) (tgt := 65) C dX6_extend_58 (by decide) (fun c_29 => ?_) (fun c_29 => ?_)
              · skip
                have el_0 : (0 : Int32).toInt = 0 := rfl
                rw [i_eq] at c_29
                refine j_aload_n (pc := 65) C dX6_extend_65 rfl 3 rfl ?_
                refine j_iload (pc := 66) C dX6_extend_66 0 rfl ?_
                refine j_aload_n (pc := 68) C dX6_extend_68 rfl 2 rfl ?_
                refine j_get (pc := 69) (ci := 6) (v := .ref s2) C inw_6 0 rfl rfl 6 (by decide) wd_158 rfl rfl dX6_extend_69 ?_
                refine j_iload_n (pc := 72) C dX6_extend_72 rfl 4 rfl ?_
                refine j_iconst (pc := 73) (v := 1) C dX6_extend_73 (by decide) ?_
                obtain ⟨v_30, ev_30⟩ : ∃ z : Int32, p0 - 1 = z := ⟨_, rfl⟩
                have el_1 : (1 : Int32).toInt = 1 := rfl
                have hv_30 : v_30.toInt = p0.toInt - (1 : Int32).toInt := by rw [← ev_30]; exact fb_subI (by omega) (by omega)
                refine j_isub (pc := 74) (v := v_30) C dX6_extend_74 ev_30 ?_
                obtain ⟨v_31, ev_31⟩ : ∃ z, g23_s2 (v_30).toInt.toNat = z := ⟨_, rfl⟩
                have env_31 : (g23_s2 (v_30).toInt.toNat).toInt = v_31.toInt := by rw [ev_31]
                have hv_31 := hi_23_4 (v_30).toInt.toNat (i_lt_n (by omega) (by omega)); rw [ev_31] at hv_31
                refine j_iald (pc := 75) (v := v_31) (k := (v_30).toInt.toNat) C 2 1 rfl rfl (i_nn (by omega)) rfl (i_lt_n (by omega) (by omega)) ev_31 dX6_extend_75 ?_
                refine j_callV (pc := 76) (As := [.int x23_7, .int v_31]) (rest := []) (wr := [(s0, .inr (6, [.ref s1, .int y23_s0_1, .int y23_s0_2, .int s_size, .int s_height, .int s_reach, .ref s2, .ref s3])), (s1, .inl (cyI, 7, .inl g23_s1)), (s2, .inl (cyI, 7, .inl g23_s2)), (s3, .inl (cyI, 12, .inl s_times)), (a3, .inl (cyI, 12, .inl a_weight)), (a4, .inl (cyI, 12, .inl a_bears)), (a7, .inl (cyI, 12, .inl a_mayOn))]) C (c_X9_rise l D cyC cyI cyJ cyZ cyO a0 a1 a2 a3 a4 a5 a6 a7 a8 a9 a10 x23_7 v_31 a_wares a_shelves a_nests a_lids a_tops a_wide a_deep h_a_wares h_a_shelves h_a_nests (by omega) hv_31) wd_32 wd_33 wd_169 wd_35 wd_36 ⟨by decide, by decide, rfl⟩ rfl ⟨rfl, rfl, (by show (0 : Nat) + 1 ≤ 1 + 2 * (n9 + 1); omega), (by show 8 + (4 + 11) + (0 : Nat) ≤ 29 + 57 * (n9 + 1); omega)⟩ ⟨Nat.le_of_ble_eq_true rfl, Nat.le_of_ble_eq_true rfl⟩ [4, 5, 6] [0, 1, 2, 3, 7, 8, 9] rfl rfl ⟨by decide, by decide, by decide⟩ 4 rfl rfl rfl (Nat.le_of_ble_eq_true rfl) dX6_extend_76 (fun u_32 hw_33 => ?_)
                refine j_eq (ws2 := [(s0, .inr (6, [.ref s1, .int y23_s0_1, .int y23_s0_2, .int s_size, .int s_height, .int s_reach, .ref s2, .ref s3])), (s1, .inl (cyI, 7, .inl g23_s1)), (s2, .inl (cyI, 7, .inl g23_s2)), (s3, .inl (cyI, 12, .inl s_times)), (a3, .inl (cyI, 12, .inl a_weight)), (a4, .inl (cyI, 12, .inl a_bears)), (a7, .inl (cyI, 12, .inl a_mayOn)), (a0, .inr (9, [.int a_wares, .int a_shelves, .int a_nests, .ref a1, .ref a2, .ref a3, .ref a4, .ref a5, .ref a6, .int a_lids, .int a_tops, .ref a7, .ref a8, .ref a9, .ref a10])), (a1, .inl (cyI, 12, .inl a_wide)), (a2, .inl (cyI, 12, .inl a_deep))]) (pc2 := 79) (lv2 := [(7, .int x23_7), (6, .int p2), (0, .ref s0), (1, .ref a0), (2, .int p0), (3, .int p2), (4, .int p3), (5, .int p4)]) (st2 := [.int (u_32.2.1 0)]) rfl rfl rfl rfl ?_
                have hw_33_0 : (u_32.2.1 0) = (rsC a_wide a_deep a_lids) (x23_7).toInt.toNat (v_31).toInt.toNat := hw_33
                refine j_istore (pc := 79) (lv' := [(8, .int (u_32.2.1 0)), (7, .int x23_7), (6, .int p2), (0, .ref s0), (1, .ref a0), (2, .int p0), (3, .int p2), (4, .int p3), (5, .int p4)]) C dX6_extend_79 (by decide) rfl ?_
                refine j_aload_n (pc := 81) C dX6_extend_81 rfl 3 rfl ?_
                refine j_aload_n (pc := 82) C dX6_extend_82 rfl 4 rfl ?_
                refine j_iload (pc := 83) C dX6_extend_83 1 rfl ?_
                refine j_iload_n (pc := 85) C dX6_extend_85 rfl 5 rfl ?_
                refine j_iload_n (pc := 86) C dX6_extend_86 rfl 6 rfl ?_
                refine j_iconst (pc := 87) (v := 1) C dX6_extend_87 (by decide) ?_
                refine j_iload (pc := 88) C dX6_extend_88 1 rfl ?_
                obtain ⟨v_34, ev_34⟩ : ∃ z : Int32, 1 <<< (x23_7 &&& 31) = z := ⟨_, rfl⟩
                have el_1 : (1 : Int32).toInt = 1 := rfl
                have hv_34 : 1 ≤ v_34.toInt ∧ v_34.toInt ≤ 2048 := by rw [← ev_34]; exact shl1_iv 0 11 (by omega) (by omega) (by omega)
                refine j_ishl (pc := 90) (v := v_34) C dX6_extend_90 ev_34 ?_
                obtain ⟨v_35, ev_35⟩ : ∃ z : Int32, p2 ^^^ v_34 = z := ⟨_, rfl⟩
                refine j_ixor (pc := 91) (v := v_35) C dX6_extend_91 ev_35 ?_
                refine j_iload (pc := 92) C dX6_extend_92 7 rfl ?_
                refine j_iload (pc := 94) C dX6_extend_94 0 rfl ?_
                obtain ⟨v_36, ev_36⟩ : ∃ z : Int32, p3 + (u_32.2.1 0) = z := ⟨_, rfl⟩
                refine j_iadd (pc := 96) (v := v_36) C dX6_extend_96 ev_36 ?_
                refine j_iload (pc := 97) C dX6_extend_97 8 rfl ?_
                refine j_callV (pc := 99) (As := [.ref a0, .int x23_7, .int p0, .int v_35, .int v_36, .int p4]) (rest := []) (wr := []) C (c_X6_tryOn_s l D cyC cyI cyJ cyZ cyO s0 s1 s2 s3 a0 a1 a2 a3 a4 a7 a5 a6 a8 a9 a10 x23_7 p0 v_35 v_36 p4 y23_s0_1 y23_s0_2 s_size s_height s_reach a_wares a_shelves a_nests a_lids a_tops g23_s1 g23_s2 s_times a_wide a_deep a_weight a_bears a_mayOn n9 hi_23_2 h_s_size h_a_wares h_a_shelves h_a_nests (by omega) hi_23_4 hdp9 h9 hA9) wd_170 wd_160 wd_171 wd_172 wd_173 ⟨by decide, by decide, rfl⟩ rfl ⟨rfl, rfl, (by show (0 + 2 * (n9 + 1) : Nat) + 1 ≤ 1 + 2 * (n9 + 1); omega), (by show 8 + (10 + 11) + (0 + 57 * (n9 + 1) : Nat) ≤ 29 + 57 * (n9 + 1); omega)⟩ ⟨Nat.le_of_ble_eq_true rfl, Nat.le_of_ble_eq_true rfl⟩ [0, 1, 2, 3, 7, 8, 9, 4, 5, 6] [] rfl rfl ⟨by decide, by decide, by decide⟩ 0 rfl rfl rfl (Nat.le_of_ble_eq_true rfl) dX6_extend_99 (fun u_37 hw_38 => ?_)
                refine j_eq (ws2 := [(s0, .inr (6, [.ref s1, .int (u_37.2.1 0), .int (u_37.2.1 1), .int s_size, .int s_height, .int s_reach, .ref s2, .ref s3])), (s1, .inl (cyI, 7, .inl (u_37.2.2.1 0))), (s2, .inl (cyI, 7, .inl (u_37.2.2.1 1))), (s3, .inl (cyI, 12, .inl s_times)), (a0, .inr (9, [.int a_wares, .int a_shelves, .int a_nests, .ref a1, .ref a2, .ref a3, .ref a4, .ref a5, .ref a6, .int a_lids, .int a_tops, .ref a7, .ref a8, .ref a9, .ref a10])), (a1, .inl (cyI, 12, .inl a_wide)), (a2, .inl (cyI, 12, .inl a_deep)), (a3, .inl (cyI, 12, .inl a_weight)), (a4, .inl (cyI, 12, .inl a_bears)), (a7, .inl (cyI, 12, .inl a_mayOn))]) (pc2 := 102) (lv2 := [(8, .int (u_32.2.1 0)), (7, .int x23_7), (6, .int p2), (0, .ref s0), (1, .ref a0), (2, .int p0), (3, .int p2), (4, .int p3), (5, .int p4)]) (st2 := []) rfl rfl rfl rfl ?_
                obtain ⟨hw_38_0, hw_38_1, hw_38_2, hw_38_3⟩ := hw_38
                obtain ⟨v_39, ev_39⟩ : ∃ z : Int32, x23_7 + 1 = z := ⟨_, rfl⟩
                have el_1 : (1 : Int32).toInt = 1 := rfl
                have hv_39 : v_39.toInt = x23_7.toInt + (1 : Int32).toInt := by rw [← ev_39]; exact fb_addI (by omega) (by omega)
                refine j_iinc (pc := 102) (v := v_39) (lv' := [(7, .int v_39), (8, .int (u_32.2.1 0)), (6, .int p2), (0, .ref s0), (1, .ref a0), (2, .int p0), (3, .int p2), (4, .int p3), (5, .int p4)]) C dX6_extend_102 1 rfl ev_39 (by decide) rfl ?_
                refine j_goto (pc := 105) (tgt := 37) C dX6_extend_105 (by decide) ?_
                exact j_lv [0, 2, 3, 4, 5, 6, 7, 8] rfl (ih_23 v_39 (u_37.2.1 0) (u_37.2.1 1) (u_37.2.2.1 0) (u_37.2.2.1 1) (by omega) hw_38_0 hw_38_1 (by omega) (fun i hi => (hw_38_3 i hi).trans (hq_23_0 i hi)) (fun tm nb tb ht pre => by have y8 : BT p2 (x23_7).toInt.toNat = true := (by have z9 : (v_26).toInt = (if BT p2 (x23_7).toInt.toNat = true then 1 else 0) := (by rw [← ev_26, ← ev_25]; exact bt_rd (by omega) (by omega)); by_cases z : BT p2 (x23_7).toInt.toNat = true; exact z; (rw [if_neg z] at z9; exfalso; omega)); have hb9 := y8; have co : v_35 = cx p2 (x23_7).toInt.toNat := (by unfold cx; rw [nI_bk2 (by omega), ev_34, ev_35]); exact (hq_23_1 tm nb tb ht pre).step (x := x23_7) (t1 := upd g23_s2 (p0).toInt.toNat x23_7) (hw_38_2 tm nb tb (ht _ (by omega) hb9) (fun j hj hz => ht j hj (by rw [co] at hz; exact cx_in (by omega) hb9 (by omega) hz)) (pre.child nb (x := x23_7) (r := (u_32.2.1 0)) (by omega) (by omega) hb9 co (fun i hi => by rw [pk_un (show ¬ i = (p0).toInt.toNat from (by omega))]; exact hq_23_0 i (by omega)) pk_us (fun q hq => by exfalso; omega) ⟨fun z => by exfalso; omega, fun q hq => by rw [show q = (p0).toInt.toNat - 1 from (by omega), hw_33_0, ← ev_31, show (v_30).toInt.toNat = (p0).toInt.toNat - 1 from (by omega), hq_23_0 ((p0).toInt.toNat - 1) (by omega)]⟩ ev_36.symm)) co rfl (by omega) (by have y9 := pre.1.2.2.2; exact y9) (by omega) (by omega) hb9 (fun i hi => by rw [pk_un (show ¬ i = (p0).toInt.toNat from (by omega))]; exact hq_23_0 i (by omega)) pk_us) (by omega))
              · skip
                have el_0 : (0 : Int32).toInt = 0 := rfl
                rw [i_eq] at c_29
                refine j_iconst (pc := 61) (v := 0) C dX6_extend_61 (by decide) ?_
                refine j_goto (pc := 62) (tgt := 79) C dX6_extend_62 (by decide) ?_
                refine j_istore (pc := 79) (lv' := [(8, .int 0), (7, .int x23_7), (6, .int p2), (0, .ref s0), (1, .ref a0), (2, .int p0), (3, .int p2), (4, .int p3), (5, .int p4)]) C dX6_extend_79 (by decide) rfl ?_
                refine j_aload_n (pc := 81) C dX6_extend_81 rfl 3 rfl ?_
                refine j_aload_n (pc := 82) C dX6_extend_82 rfl 4 rfl ?_
                refine j_iload (pc := 83) C dX6_extend_83 1 rfl ?_
                refine j_iload_n (pc := 85) C dX6_extend_85 rfl 5 rfl ?_
                refine j_iload_n (pc := 86) C dX6_extend_86 rfl 6 rfl ?_
                refine j_iconst (pc := 87) (v := 1) C dX6_extend_87 (by decide) ?_
                refine j_iload (pc := 88) C dX6_extend_88 1 rfl ?_
                obtain ⟨v_40, ev_40⟩ : ∃ z : Int32, 1 <<< (x23_7 &&& 31) = z := ⟨_, rfl⟩
                have el_1 : (1 : Int32).toInt = 1 := rfl
                have hv_40 : 1 ≤ v_40.toInt ∧ v_40.toInt ≤ 2048 := by rw [← ev_40]; exact shl1_iv 0 11 (by omega) (by omega) (by omega)
                refine j_ishl (pc := 90) (v := v_40) C dX6_extend_90 ev_40 ?_
                obtain ⟨v_41, ev_41⟩ : ∃ z : Int32, p2 ^^^ v_40 = z := ⟨_, rfl⟩
                refine j_ixor (pc := 91) (v := v_41) C dX6_extend_91 ev_41 ?_
                refine j_iload (pc := 92) C dX6_extend_92 7 rfl ?_
                refine j_iload (pc := 94) C dX6_extend_94 0 rfl ?_
                obtain ⟨v_42, ev_42⟩ : ∃ z : Int32, p3 + 0 = z := ⟨_, rfl⟩
                have el_0 : (0 : Int32).toInt = 0 := rfl
                refine j_iadd (pc := 96) (v := v_42) C dX6_extend_96 ev_42 ?_
                refine j_iload (pc := 97) C dX6_extend_97 8 rfl ?_
                refine j_callV (pc := 99) (As := [.ref a0, .int x23_7, .int p0, .int v_41, .int v_42, .int p4]) (rest := []) (wr := []) C (c_X6_tryOn_s l D cyC cyI cyJ cyZ cyO s0 s1 s2 s3 a0 a1 a2 a3 a4 a7 a5 a6 a8 a9 a10 x23_7 p0 v_41 v_42 p4 y23_s0_1 y23_s0_2 s_size s_height s_reach a_wares a_shelves a_nests a_lids a_tops g23_s1 g23_s2 s_times a_wide a_deep a_weight a_bears a_mayOn n9 hi_23_2 h_s_size h_a_wares h_a_shelves h_a_nests (by omega) hi_23_4 hdp9 h9 hA9) wd_170 wd_160 wd_171 wd_172 wd_173 ⟨by decide, by decide, rfl⟩ rfl ⟨rfl, rfl, (by show (0 + 2 * (n9 + 1) : Nat) + 1 ≤ 1 + 2 * (n9 + 1); omega), (by show 8 + (10 + 11) + (0 + 57 * (n9 + 1) : Nat) ≤ 29 + 57 * (n9 + 1); omega)⟩ ⟨Nat.le_of_ble_eq_true rfl, Nat.le_of_ble_eq_true rfl⟩ [0, 1, 2, 3, 4, 5, 6, 7, 8, 9] [] rfl rfl ⟨by decide, by decide, by decide⟩ 0 rfl rfl rfl (Nat.le_of_ble_eq_true rfl) dX6_extend_99 (fun u_43 hw_44 => ?_)
                refine j_eq (ws2 := [(s0, .inr (6, [.ref s1, .int (u_43.2.1 0), .int (u_43.2.1 1), .int s_size, .int s_height, .int s_reach, .ref s2, .ref s3])), (s1, .inl (cyI, 7, .inl (u_43.2.2.1 0))), (s2, .inl (cyI, 7, .inl (u_43.2.2.1 1))), (s3, .inl (cyI, 12, .inl s_times)), (a0, .inr (9, [.int a_wares, .int a_shelves, .int a_nests, .ref a1, .ref a2, .ref a3, .ref a4, .ref a5, .ref a6, .int a_lids, .int a_tops, .ref a7, .ref a8, .ref a9, .ref a10])), (a1, .inl (cyI, 12, .inl a_wide)), (a2, .inl (cyI, 12, .inl a_deep)), (a3, .inl (cyI, 12, .inl a_weight)), (a4, .inl (cyI, 12, .inl a_bears)), (a7, .inl (cyI, 12, .inl a_mayOn))]) (pc2 := 102) (lv2 := [(8, .int 0), (7, .int x23_7), (6, .int p2), (0, .ref s0), (1, .ref a0), (2, .int p0), (3, .int p2), (4, .int p3), (5, .int p4)]) (st2 := []) rfl rfl rfl rfl ?_
                obtain ⟨hw_44_0, hw_44_1, hw_44_2, hw_44_3⟩ := hw_44
                obtain ⟨v_45, ev_45⟩ : ∃ z : Int32, x23_7 + 1 = z := ⟨_, rfl⟩
                have el_1 : (1 : Int32).toInt = 1 := rfl
                have hv_45 : v_45.toInt = x23_7.toInt + (1 : Int32).toInt := by rw [← ev_45]; exact fb_addI (by omega) (by omega)
                refine j_iinc (pc := 102) (v := v_45) (lv' := [(7, .int v_45), (8, .int 0), (6, .int p2), (0, .ref s0), (1, .ref a0), (2, .int p0), (3, .int p2), (4, .int p3), (5, .int p4)]) C dX6_extend_102 1 rfl ev_45 (by decide) rfl ?_
                refine j_goto (pc := 105) (tgt := 37) C dX6_extend_105 (by decide) ?_
                exact j_lv [0, 2, 3, 4, 5, 6, 7, 8] rfl (ih_23 v_45 (u_43.2.1 0) (u_43.2.1 1) (u_43.2.2.1 0) (u_43.2.2.1 1) (by omega) hw_44_0 hw_44_1 (by omega) (fun i hi => (hw_44_3 i hi).trans (hq_23_0 i hi)) (fun tm nb tb ht pre => by have y8 : BT p2 (x23_7).toInt.toNat = true := (by have z9 : (v_26).toInt = (if BT p2 (x23_7).toInt.toNat = true then 1 else 0) := (by rw [← ev_26, ← ev_25]; exact bt_rd (by omega) (by omega)); by_cases z : BT p2 (x23_7).toInt.toNat = true; exact z; (rw [if_neg z] at z9; exfalso; omega)); have hb9 := y8; have co : v_41 = cx p2 (x23_7).toInt.toNat := (by unfold cx; rw [nI_bk2 (by omega), ev_40, ev_41]); exact (hq_23_1 tm nb tb ht pre).step (x := x23_7) (t1 := upd g23_s2 (p0).toInt.toNat x23_7) (hw_44_2 tm nb tb (ht _ (by omega) hb9) (fun j hj hz => ht j hj (by rw [co] at hz; exact cx_in (by omega) hb9 (by omega) hz)) (pre.child nb (x := x23_7) (r := (0 : Int32)) (by omega) (by omega) hb9 co (fun i hi => by rw [pk_un (show ¬ i = (p0).toInt.toNat from (by omega))]; exact hq_23_0 i (by omega)) pk_us (fun q hq => by exfalso; omega) ⟨fun _ => rfl, fun q hq => by exfalso; omega⟩ ev_42.symm)) co rfl (by omega) (by have y9 := pre.1.2.2.2; exact y9) (by omega) (by omega) hb9 (fun i hi => by rw [pk_un (show ¬ i = (p0).toInt.toNat from (by omega))]; exact hq_23_0 i (by omega)) pk_us) (by omega))
      have el_0 : (0 : Int32).toInt = 0 := rfl
      exact j_lv [0, 1, 2, 3, 4, 5, 6, 7] rfl (loop_23 4096 0 s_cost s_found s_order s_trial (by decide) h_s_found h_s_trial (by omega) (fun i hi => rfl) (fun tm nb tb ht pre => IMP.start (by have y9 := pre.1.2.2.2; exact y9) (by decide)) (by omega))
  · skip
    rw [i_lt] at c_1
    exact j_vret (pc := 8) C hr hk (fun i => [].getD i 0, fun i => [s_cost, s_found].getD i 0, fun i => [s_order, s_trial].getD i (fun _ => 0), fun i => [].getD i (fun _ => 0)) rfl (show (0 ≤ (s_found).toInt ∧ (s_found).toInt ≤ 1) ∧ (Iv 7 (0) (11) s_trial) ∧ (∀ tm : Nat → Int32, NBS (a_wares).toInt a_weight s_reach s_height → TMB tm → (∀ j : Nat, j < 12 → BT p2 j = true → s_times j = tm j) → PRE (a_wares).toInt (fun u l => BT (a_mayOn l) u) a_weight a_bears a_deep (rsC a_wide a_deep a_lids) tm s_reach s_height (s_size).toInt.toNat (p0).toInt.toNat p2 s_trial p3 p4 → IMP (s_size).toInt.toNat (CDN (a_wares).toInt (s_size).toInt.toNat (p0).toInt.toNat p2 s_trial) (OKF (fun u l => BT (a_mayOn l) u) a_weight a_bears a_deep (rsC a_wide a_deep a_lids) (s_size).toInt.toNat s_height) (VLF tm a_weight (s_size).toInt.toNat s_reach) ((s_found).toInt = 1) (s_cost).toInt s_order ((s_found).toInt = 1) (s_cost).toInt s_order) ∧ (∀ i : Nat, (i : Int) < (p0).toInt → s_trial i = s_trial i) from ⟨h_s_found, h_s_trial, (fun tm nb tb ht pre => by exfalso; have y9 := pre.1.2.2.2; omega), (fun i hi => rfl)⟩) [0, 1, 2, 3, 4, 5, 6, 7, 8, 9] (by decide) rfl (by decide) (by decide) dX6_extend_8
set_option maxHeartbeats 4000000 in
set_option maxRecDepth 100000 in
theorem S_fam_c_X6_extend : ∀ n9 : Nat, n9 ≤ 7 → S_c_X6_extend n9 := by
  intro n9
  induction n9 with
  | zero => exact fun _ => c_X6_extend_z
  | succ n9 ih =>
    intro h
    have i := ih (by omega)
    exact (fun l D cyC cyI cyJ cyZ cyO s0 s1 s2 s3 a0 a1 a2 a3 a4 a7 a5 a6 a8 a9 a10 p0 p2 p3 p4 s_cost s_found s_size s_height s_reach a_wares a_shelves a_nests a_lids a_tops s_order s_trial s_times a_wide a_deep a_weight a_bears a_mayOn h_s_found h_s_size h_a_wares h_a_shelves h_a_nests h_s_trial hdp9 => c_X6_extend_s l D cyC cyI cyJ cyZ cyO s0 s1 s2 s3 a0 a1 a2 a3 a4 a7 a5 a6 a8 a9 a10 p0 p2 p3 p4 s_cost s_found s_size s_height s_reach a_wares a_shelves a_nests a_lids a_tops s_order s_trial s_times a_wide a_deep a_weight a_bears a_mayOn n9 h_s_found h_s_size h_a_wares h_a_shelves h_a_nests h_s_trial hdp9 (by omega) i)
set_option maxHeartbeats 4000000 in
set_option maxRecDepth 100000 in
theorem c_X6_extend_0 (l : Launch) (D : DG) (cyC cyI cyJ cyZ cyO : ClassId) (s0 : Nat) (s1 : Nat) (s2 : Nat) (s3 : Nat) (a0 : Nat) (a1 : Nat) (a2 : Nat) (a3 : Nat) (a4 : Nat) (a7 : Nat) (a5 : Nat) (a6 : Nat) (a8 : Nat) (a9 : Nat) (a10 : Nat) (p0 : Int32) (p2 : Int32) (p3 : Int32) (p4 : Int32) (s_cost : Int32) (s_found : Int32) (s_size : Int32) (s_height : Int32) (s_reach : Int32) (a_wares : Int32) (a_shelves : Int32) (a_nests : Int32) (a_lids : Int32) (a_tops : Int32) (s_order : Nat → Int32) (s_trial : Nat → Int32) (s_times : Nat → Int32) (a_wide : Nat → Int32) (a_deep : Nat → Int32) (a_weight : Nat → Int32) (a_bears : Nat → Int32) (a_mayOn : Nat → Int32) (h_s_found : 0 ≤ (s_found).toInt ∧ (s_found).toInt ≤ 1) (h_s_size : 0 ≤ (s_size).toInt ∧ (s_size).toInt ≤ 7) (h_a_wares : 0 ≤ (a_wares).toInt ∧ (a_wares).toInt ≤ 12) (h_a_shelves : 0 ≤ (a_shelves).toInt ∧ (a_shelves).toInt ≤ 4) (h_a_nests : 0 ≤ (a_nests).toInt ∧ (a_nests).toInt ≤ 4) (h_s_trial : Iv 7 (0) (11) s_trial) (hdp9 : (p0).toInt = 7 - ((7 : Nat) : Int)) : KK l D (TY cyC cyI cyJ cyZ cyO) yX6_extend cX6_extend 9 none ({ frames := 15, cells := 0, slots := 0, locals := 428 } : Room) 0 0 [.ref s0, .ref a0, .int p0, .int p2, .int p3, .int p4] [(s0, .inr (6, [.ref s1, .int s_cost, .int s_found, .int s_size, .int s_height, .int s_reach, .ref s2, .ref s3])), (s1, .inl (cyI, 7, .inl s_order)), (s2, .inl (cyI, 7, .inl s_trial)), (s3, .inl (cyI, 12, .inl s_times)), (a0, .inr (9, [.int a_wares, .int a_shelves, .int a_nests, .ref a1, .ref a2, .ref a3, .ref a4, .ref a5, .ref a6, .int a_lids, .int a_tops, .ref a7, .ref a8, .ref a9, .ref a10])), (a1, .inl (cyI, 12, .inl a_wide)), (a2, .inl (cyI, 12, .inl a_deep)), (a3, .inl (cyI, 12, .inl a_weight)), (a4, .inl (cyI, 12, .inl a_bears)), (a7, .inl (cyI, 12, .inl a_mayOn))] (fun u => none) (fun u => (0 ≤ (u.2.1 1).toInt ∧ (u.2.1 1).toInt ≤ 1) ∧ (Iv 7 (0) (11) (u.2.2.1 1)) ∧ (∀ tm : Nat → Int32, NBS (a_wares).toInt a_weight s_reach s_height → TMB tm → (∀ j : Nat, j < 12 → BT p2 j = true → s_times j = tm j) → PRE (a_wares).toInt (fun u l => BT (a_mayOn l) u) a_weight a_bears a_deep (rsC a_wide a_deep a_lids) tm s_reach s_height (s_size).toInt.toNat (p0).toInt.toNat p2 s_trial p3 p4 → IMP (s_size).toInt.toNat (CDN (a_wares).toInt (s_size).toInt.toNat (p0).toInt.toNat p2 s_trial) (OKF (fun u l => BT (a_mayOn l) u) a_weight a_bears a_deep (rsC a_wide a_deep a_lids) (s_size).toInt.toNat s_height) (VLF tm a_weight (s_size).toInt.toNat s_reach) ((s_found).toInt = 1) (s_cost).toInt s_order (((u.2.1 1)).toInt = 1) ((u.2.1 0)).toInt (u.2.2.1 0)) ∧ (∀ i : Nat, (i : Int) < (p0).toInt → (u.2.2.1 1) i = s_trial i)) (fun u => [(s0, .inr (6, [.ref s1, .int (u.2.1 0), .int (u.2.1 1), .int s_size, .int s_height, .int s_reach, .ref s2, .ref s3])), (s1, .inl (cyI, 7, .inl (u.2.2.1 0))), (s2, .inl (cyI, 7, .inl (u.2.2.1 1))), (s3, .inl (cyI, 12, .inl s_times)), (a0, .inr (9, [.int a_wares, .int a_shelves, .int a_nests, .ref a1, .ref a2, .ref a3, .ref a4, .ref a5, .ref a6, .int a_lids, .int a_tops, .ref a7, .ref a8, .ref a9, .ref a10])), (a1, .inl (cyI, 12, .inl a_wide)), (a2, .inl (cyI, 12, .inl a_deep)), (a3, .inl (cyI, 12, .inl a_weight)), (a4, .inl (cyI, 12, .inl a_bears)), (a7, .inl (cyI, 12, .inl a_mayOn))]) := (S_fam_c_X6_extend 7 (Nat.le_refl _)) l D cyC cyI cyJ cyZ cyO s0 s1 s2 s3 a0 a1 a2 a3 a4 a7 a5 a6 a8 a9 a10 p0 p2 p3 p4 s_cost s_found s_size s_height s_reach a_wares a_shelves a_nests a_lids a_tops s_order s_trial s_times a_wide a_deep a_weight a_bears a_mayOn h_s_found h_s_size h_a_wares h_a_shelves h_a_nests h_s_trial hdp9
set_option maxHeartbeats 4000000 in
set_option maxRecDepth 100000 in
theorem c_X6_find (l : Launch) (D : DG) (cyC cyI cyJ cyZ cyO : ClassId) (s0 : Nat) (s1 : Nat) (s2 : Nat) (s3 : Nat) (a0 : Nat) (a1 : Nat) (a2 : Nat) (a3 : Nat) (a4 : Nat) (a7 : Nat) (a8 : Nat) (a9 : Nat) (n0 : Nat) (n4 : Nat) (q0 : Nat) (q1 : Nat) (a5 : Nat) (a6 : Nat) (a10 : Nat) (n1 : Nat) (n2 : Nat) (n3 : Nat) (p0 : Int32) (s_cost : Int32) (s_found : Int32) (s_size : Int32) (s_height : Int32) (s_reach : Int32) (a_wares : Int32) (a_shelves : Int32) (a_nests : Int32) (a_lids : Int32) (a_tops : Int32) (n_askings : Int32) (n_cost : Int32) (n_laid : Int32) (q_size : Int32) (s_order : Nat → Int32) (s_trial : Nat → Int32) (s_times : Nat → Int32) (a_wide : Nat → Int32) (a_deep : Nat → Int32) (a_weight : Nat → Int32) (a_bears : Nat → Int32) (a_mayOn : Nat → Int32) (a_height : Nat → Int32) (a_reach : Nat → Int32) (n_asking : Nat → Int32) (q_ware : Nat → Int32) (h_s_found : 0 ≤ (s_found).toInt ∧ (s_found).toInt ≤ 1) (h_s_size : 0 ≤ (s_size).toInt ∧ (s_size).toInt ≤ 7) (h_a_wares : 0 ≤ (a_wares).toInt ∧ (a_wares).toInt ≤ 12) (h_a_shelves : 0 ≤ (a_shelves).toInt ∧ (a_shelves).toInt ≤ 4) (h_a_nests : 0 ≤ (a_nests).toInt ∧ (a_nests).toInt ≤ 4) (h_n_askings : 0 ≤ (n_askings).toInt ∧ (n_askings).toInt ≤ 30) (h_n_laid : 0 ≤ (n_laid).toInt ∧ (n_laid).toInt ≤ 1) (h_q_size : 0 ≤ (q_size).toInt ∧ (q_size).toInt ≤ 12) (h_p0 : 0 ≤ (p0).toInt ∧ (p0).toInt ≤ 3) (h_s_trial : Iv 7 (0) (11) s_trial) (h_n_asking : Iv 30 (0) (11) n_asking) (h_q_ware : Iv 12 (0) (11) q_ware) : KK l D (TY cyC cyI cyJ cyZ cyO) yX6_find cX6_find 8 (some .boolean) ({ frames := 16, cells := 0, slots := 0, locals := 456 } : Room) 0 0 [.ref s0, .ref a0, .ref n0, .ref q0, .int p0] [(s0, .inr (6, [.ref s1, .int s_cost, .int s_found, .int s_size, .int s_height, .int s_reach, .ref s2, .ref s3])), (s1, .inl (cyI, 7, .inl s_order)), (s2, .inl (cyI, 7, .inl s_trial)), (s3, .inl (cyI, 12, .inl s_times)), (a0, .inr (9, [.int a_wares, .int a_shelves, .int a_nests, .ref a1, .ref a2, .ref a3, .ref a4, .ref a5, .ref a6, .int a_lids, .int a_tops, .ref a7, .ref a8, .ref a9, .ref a10])), (a1, .inl (cyI, 12, .inl a_wide)), (a2, .inl (cyI, 12, .inl a_deep)), (a3, .inl (cyI, 12, .inl a_weight)), (a4, .inl (cyI, 12, .inl a_bears)), (a7, .inl (cyI, 12, .inl a_mayOn)), (a8, .inl (cyI, 4, .inl a_height)), (a9, .inl (cyI, 4, .inl a_reach)), (n0, .inr (7, [.ref n1, .ref n2, .ref n3, .ref n4, .int n_askings, .int n_cost, .int n_laid])), (n4, .inl (cyI, 30, .inl n_asking)), (q0, .inr (4, [.ref q1, .int q_size])), (q1, .inl (cyI, 12, .inl q_ware))] (fun u => some (.int (u.2.1 0))) (fun u => (0 ≤ (u.2.1 0).toInt ∧ (u.2.1 0).toInt ≤ 1) ∧ (0 ≤ (u.2.1 2).toInt ∧ (u.2.1 2).toInt ≤ 1) ∧ (0 ≤ (u.2.1 3).toInt ∧ (u.2.1 3).toInt ≤ 7) ∧ (Iv 7 (0) (11) (u.2.2.1 1)) ∧ (NBS (a_wares).toInt a_weight (a_reach (p0).toInt.toNat) (a_height (p0).toInt.toNat) → (1 ≤ (q_size).toInt ∧ (q_size).toInt ≤ 7) → (∀ i j : Nat, i < j → (j : Int) < (q_size).toInt → ¬ q_ware i = q_ware j) → ∃ (s9 : Int32) (t9 o9 : Nat → Int32) (d9 : Prop) (c9 : Int), SETR s9 q_ware (q_size).toInt.toNat ∧ ¬ d9 ∧ IMP (q_size).toInt.toNat (CDN (a_wares).toInt (q_size).toInt.toNat 0 s9 t9) (OKF (fun u l => BT (a_mayOn l) u) a_weight a_bears a_deep (rsC a_wide a_deep a_lids) (q_size).toInt.toNat (a_height (p0).toInt.toNat)) (VLF (tmF n_asking (n_askings).toInt.toNat) a_weight (q_size).toInt.toNat (a_reach (p0).toInt.toNat)) d9 c9 o9 ((u.2.1 0).toInt = 1) ((u.2.1 1)).toInt (u.2.2.1 0))) (fun u => [(s0, .inr (6, [.ref s1, .int (u.2.1 1), .int (u.2.1 2), .int (u.2.1 3), .int (u.2.1 4), .int (u.2.1 5), .ref s2, .ref s3])), (s1, .inl (cyI, 7, .inl (u.2.2.1 0))), (s2, .inl (cyI, 7, .inl (u.2.2.1 1))), (s3, .inl (cyI, 12, .inl (u.2.2.1 2))), (a0, .inr (9, [.int a_wares, .int a_shelves, .int a_nests, .ref a1, .ref a2, .ref a3, .ref a4, .ref a5, .ref a6, .int a_lids, .int a_tops, .ref a7, .ref a8, .ref a9, .ref a10])), (a1, .inl (cyI, 12, .inl a_wide)), (a2, .inl (cyI, 12, .inl a_deep)), (a3, .inl (cyI, 12, .inl a_weight)), (a4, .inl (cyI, 12, .inl a_bears)), (a7, .inl (cyI, 12, .inl a_mayOn)), (a8, .inl (cyI, 4, .inl a_height)), (a9, .inl (cyI, 4, .inl a_reach)), (n0, .inr (7, [.ref n1, .ref n2, .ref n3, .ref n4, .int n_askings, .int n_cost, .int n_laid])), (n4, .inl (cyI, 30, .inl n_asking)), (q0, .inr (4, [.ref q1, .int q_size])), (q1, .inl (cyI, 12, .inl q_ware))]) := by
  refine KK.of (lv0 := [(0, .ref s0), (1, .ref a0), (2, .ref n0), (3, .ref q0), (4, .int p0)]) (by decide) rfl (Nat.le_of_ble_eq_true rfl) ?_
  intro p e s m args below meth c A C hr hk hin
  refine j_aload_n (pc := 0) C dX6_find_0 rfl 0 rfl ?_
  refine j_aload_n (pc := 1) C dX6_find_1 rfl 3 rfl ?_
  refine j_get (pc := 2) (ci := 4) (v := .int q_size) C inw_4 14 rfl rfl 1 (by decide) wd_174 rfl rfl dX6_find_2 ?_
  refine j_bipush (pc := 5) (v := 7) C dX6_find_5 (by decide) ?_
  have el_7 : (7 : Int32).toInt = 7 := rfl
  obtain ⟨v_1, ev_1⟩ : ∃ z : Int32, (if (7 : Int32) < q_size then 7 else q_size) = z := ⟨_, rfl⟩
  have hv_1 : v_1.toInt = min q_size.toInt (7 : Int32).toInt := by rw [← ev_1]; exact mmin_I _ _
  refine j_mmin (pc := 7) (v := v_1) C wd_175 wd_122 wd_6 wd_123 (by decide) (Nat.le_of_ble_eq_true rfl) (by decide) (by decide) ev_1 dX6_find_7 ?_
  refine j_put (pc := 10) (ci := 6) (v := .int v_1) (ws' := [(s0, .inr (6, [.ref s1, .int s_cost, .int s_found, .int v_1, .int s_height, .int s_reach, .ref s2, .ref s3])), (s1, .inl (cyI, 7, .inl s_order)), (s2, .inl (cyI, 7, .inl s_trial)), (s3, .inl (cyI, 12, .inl s_times)), (a0, .inr (9, [.int a_wares, .int a_shelves, .int a_nests, .ref a1, .ref a2, .ref a3, .ref a4, .ref a5, .ref a6, .int a_lids, .int a_tops, .ref a7, .ref a8, .ref a9, .ref a10])), (a1, .inl (cyI, 12, .inl a_wide)), (a2, .inl (cyI, 12, .inl a_deep)), (a3, .inl (cyI, 12, .inl a_weight)), (a4, .inl (cyI, 12, .inl a_bears)), (a7, .inl (cyI, 12, .inl a_mayOn)), (a8, .inl (cyI, 4, .inl a_height)), (a9, .inl (cyI, 4, .inl a_reach)), (n0, .inr (7, [.ref n1, .ref n2, .ref n3, .ref n4, .int n_askings, .int n_cost, .int n_laid])), (n4, .inl (cyI, 30, .inl n_asking)), (q0, .inr (4, [.ref q1, .int q_size])), (q1, .inl (cyI, 12, .inl q_ware))]) C inw_6 0 rfl rfl 3 (by decide) wd_149 rfl tyX6_ok nmX6 rfl (tyX6_ok 3 (by decide)) rfl rfl (Nat.le_of_ble_eq_true rfl) dX6_find_10 rfl ?_
  refine j_aload_n (pc := 13) C dX6_find_13 rfl 0 rfl ?_
  refine j_aload_n (pc := 14) C dX6_find_14 rfl 1 rfl ?_
  refine j_get (pc := 15) (ci := 9) (v := .ref a8) C inw_9 4 rfl rfl 12 (by decide) wd_176 rfl rfl dX6_find_15 ?_
  refine j_iload (pc := 18) C dX6_find_18 4 rfl ?_
  obtain ⟨v_2, ev_2⟩ : ∃ z, a_height (p0).toInt.toNat = z := ⟨_, rfl⟩
  have env_2 : (a_height (p0).toInt.toNat).toInt = v_2.toInt := by rw [ev_2]
  refine j_iald (pc := 20) (v := v_2) (k := (p0).toInt.toNat) C 10 1 rfl rfl (i_nn h_p0.1) rfl (i_lt_n h_p0.1 (Int.lt_of_le_of_lt h_p0.2 (by decide))) ev_2 dX6_find_20 ?_
  refine j_put (pc := 21) (ci := 6) (v := .int v_2) (ws' := [(s0, .inr (6, [.ref s1, .int s_cost, .int s_found, .int v_1, .int v_2, .int s_reach, .ref s2, .ref s3])), (s1, .inl (cyI, 7, .inl s_order)), (s2, .inl (cyI, 7, .inl s_trial)), (s3, .inl (cyI, 12, .inl s_times)), (a0, .inr (9, [.int a_wares, .int a_shelves, .int a_nests, .ref a1, .ref a2, .ref a3, .ref a4, .ref a5, .ref a6, .int a_lids, .int a_tops, .ref a7, .ref a8, .ref a9, .ref a10])), (a1, .inl (cyI, 12, .inl a_wide)), (a2, .inl (cyI, 12, .inl a_deep)), (a3, .inl (cyI, 12, .inl a_weight)), (a4, .inl (cyI, 12, .inl a_bears)), (a7, .inl (cyI, 12, .inl a_mayOn)), (a8, .inl (cyI, 4, .inl a_height)), (a9, .inl (cyI, 4, .inl a_reach)), (n0, .inr (7, [.ref n1, .ref n2, .ref n3, .ref n4, .int n_askings, .int n_cost, .int n_laid])), (n4, .inl (cyI, 30, .inl n_asking)), (q0, .inr (4, [.ref q1, .int q_size])), (q1, .inl (cyI, 12, .inl q_ware))]) C inw_6 0 rfl rfl 4 (by decide) wd_153 rfl tyX6_ok nmX6 rfl (tyX6_ok 4 (by decide)) rfl rfl (Nat.le_of_ble_eq_true rfl) dX6_find_21 rfl ?_
  refine j_aload_n (pc := 24) C dX6_find_24 rfl 0 rfl ?_
  refine j_aload_n (pc := 25) C dX6_find_25 rfl 1 rfl ?_
  refine j_get (pc := 26) (ci := 9) (v := .ref a9) C inw_9 4 rfl rfl 13 (by decide) wd_177 rfl rfl dX6_find_26 ?_
  refine j_iload (pc := 29) C dX6_find_29 4 rfl ?_
  obtain ⟨v_3, ev_3⟩ : ∃ z, a_reach (p0).toInt.toNat = z := ⟨_, rfl⟩
  have env_3 : (a_reach (p0).toInt.toNat).toInt = v_3.toInt := by rw [ev_3]
  refine j_iald (pc := 31) (v := v_3) (k := (p0).toInt.toNat) C 11 1 rfl rfl (i_nn h_p0.1) rfl (i_lt_n h_p0.1 (Int.lt_of_le_of_lt h_p0.2 (by decide))) ev_3 dX6_find_31 ?_
  refine j_put (pc := 32) (ci := 6) (v := .int v_3) (ws' := [(s0, .inr (6, [.ref s1, .int s_cost, .int s_found, .int v_1, .int v_2, .int v_3, .ref s2, .ref s3])), (s1, .inl (cyI, 7, .inl s_order)), (s2, .inl (cyI, 7, .inl s_trial)), (s3, .inl (cyI, 12, .inl s_times)), (a0, .inr (9, [.int a_wares, .int a_shelves, .int a_nests, .ref a1, .ref a2, .ref a3, .ref a4, .ref a5, .ref a6, .int a_lids, .int a_tops, .ref a7, .ref a8, .ref a9, .ref a10])), (a1, .inl (cyI, 12, .inl a_wide)), (a2, .inl (cyI, 12, .inl a_deep)), (a3, .inl (cyI, 12, .inl a_weight)), (a4, .inl (cyI, 12, .inl a_bears)), (a7, .inl (cyI, 12, .inl a_mayOn)), (a8, .inl (cyI, 4, .inl a_height)), (a9, .inl (cyI, 4, .inl a_reach)), (n0, .inr (7, [.ref n1, .ref n2, .ref n3, .ref n4, .int n_askings, .int n_cost, .int n_laid])), (n4, .inl (cyI, 30, .inl n_asking)), (q0, .inr (4, [.ref q1, .int q_size])), (q1, .inl (cyI, 12, .inl q_ware))]) C inw_6 0 rfl rfl 5 (by decide) wd_155 rfl tyX6_ok nmX6 rfl (tyX6_ok 5 (by decide)) rfl rfl (Nat.le_of_ble_eq_true rfl) dX6_find_32 rfl ?_
  refine j_aload_n (pc := 35) C dX6_find_35 rfl 0 rfl ?_
  refine j_iconst (pc := 36) (v := 0) C dX6_find_36 (by decide) ?_
  refine j_put (pc := 37) (ci := 6) (v := .int 0) (ws' := [(s0, .inr (6, [.ref s1, .int s_cost, .int 0, .int v_1, .int v_2, .int v_3, .ref s2, .ref s3])), (s1, .inl (cyI, 7, .inl s_order)), (s2, .inl (cyI, 7, .inl s_trial)), (s3, .inl (cyI, 12, .inl s_times)), (a0, .inr (9, [.int a_wares, .int a_shelves, .int a_nests, .ref a1, .ref a2, .ref a3, .ref a4, .ref a5, .ref a6, .int a_lids, .int a_tops, .ref a7, .ref a8, .ref a9, .ref a10])), (a1, .inl (cyI, 12, .inl a_wide)), (a2, .inl (cyI, 12, .inl a_deep)), (a3, .inl (cyI, 12, .inl a_weight)), (a4, .inl (cyI, 12, .inl a_bears)), (a7, .inl (cyI, 12, .inl a_mayOn)), (a8, .inl (cyI, 4, .inl a_height)), (a9, .inl (cyI, 4, .inl a_reach)), (n0, .inr (7, [.ref n1, .ref n2, .ref n3, .ref n4, .int n_askings, .int n_cost, .int n_laid])), (n4, .inl (cyI, 30, .inl n_asking)), (q0, .inr (4, [.ref q1, .int q_size])), (q1, .inl (cyI, 12, .inl q_ware))]) C inw_6 0 rfl rfl 2 (by decide) wd_157 rfl tyX6_ok nmX6 rfl (tyX6_ok 2 (by decide)) rfl rfl (Nat.le_of_ble_eq_true rfl) dX6_find_37 rfl ?_
  refine j_iconst (pc := 40) (v := 0) C dX6_find_40 (by decide) ?_
  refine j_istore (pc := 41) (lv' := [(5, .int 0), (0, .ref s0), (1, .ref a0), (2, .ref n0), (3, .ref q0), (4, .int p0)]) C dX6_find_41 (by decide) rfl ?_
  refine j_iconst (pc := 43) (v := 0) C dX6_find_43 (by decide) ?_
  refine j_istore (pc := 44) (lv' := [(6, .int 0), (5, .int 0), (0, .ref s0), (1, .ref a0), (2, .ref n0), (3, .ref q0), (4, .int p0)]) C dX6_find_44 (by decide) rfl ?_
  have loop_4 : ∀ (k_4 : Nat) (x4_6 : Int32) (x4_5 : Int32) (g4_s3 : Nat → Int32), (0 ≤ (x4_6).toInt ∧ (x4_6).toInt ≤ 7) → (x4_6.toInt ≤ v_1.toInt) → (SETR x4_5 q_ware (x4_6.toInt).toNat) → (∀ p : Nat, (p : Int) < x4_6.toInt → g4_s3 (q_ware p).toInt.toNat = tmF n_asking (n_askings).toInt.toNat (q_ware p).toInt.toNat) → (7 - x4_6.toInt).toNat < k_4 → J p l e ({ frames := 16, cells := 0, slots := 0, locals := 456 } : Room) s m args below meth c D A 8 0 0 (QX below D (TY cyC cyI cyJ cyZ cyO) A (fun u => some (.int (u.2.1 0))) (fun u => (0 ≤ (u.2.1 0).toInt ∧ (u.2.1 0).toInt ≤ 1) ∧ (0 ≤ (u.2.1 2).toInt ∧ (u.2.1 2).toInt ≤ 1) ∧ (0 ≤ (u.2.1 3).toInt ∧ (u.2.1 3).toInt ≤ 7) ∧ (Iv 7 (0) (11) (u.2.2.1 1)) ∧ (NBS (a_wares).toInt a_weight (a_reach (p0).toInt.toNat) (a_height (p0).toInt.toNat) → (1 ≤ (q_size).toInt ∧ (q_size).toInt ≤ 7) → (∀ i j : Nat, i < j → (j : Int) < (q_size).toInt → ¬ q_ware i = q_ware j) → ∃ (s9 : Int32) (t9 o9 : Nat → Int32) (d9 : Prop) (c9 : Int), SETR s9 q_ware (q_size).toInt.toNat ∧ ¬ d9 ∧ IMP (q_size).toInt.toNat (CDN (a_wares).toInt (q_size).toInt.toNat 0 s9 t9) (OKF (fun u l => BT (a_mayOn l) u) a_weight a_bears a_deep (rsC a_wide a_deep a_lids) (q_size).toInt.toNat (a_height (p0).toInt.toNat)) (VLF (tmF n_asking (n_askings).toInt.toNat) a_weight (q_size).toInt.toNat (a_reach (p0).toInt.toNat)) d9 c9 o9 ((u.2.1 0).toInt = 1) ((u.2.1 1)).toInt (u.2.2.1 0))) (fun u => [(s0, .inr (6, [.ref s1, .int (u.2.1 1), .int (u.2.1 2), .int (u.2.1 3), .int (u.2.1 4), .int (u.2.1 5), .ref s2, .ref s3])), (s1, .inl (cyI, 7, .inl (u.2.2.1 0))), (s2, .inl (cyI, 7, .inl (u.2.2.1 1))), (s3, .inl (cyI, 12, .inl (u.2.2.1 2))), (a0, .inr (9, [.int a_wares, .int a_shelves, .int a_nests, .ref a1, .ref a2, .ref a3, .ref a4, .ref a5, .ref a6, .int a_lids, .int a_tops, .ref a7, .ref a8, .ref a9, .ref a10])), (a1, .inl (cyI, 12, .inl a_wide)), (a2, .inl (cyI, 12, .inl a_deep)), (a3, .inl (cyI, 12, .inl a_weight)), (a4, .inl (cyI, 12, .inl a_bears)), (a7, .inl (cyI, 12, .inl a_mayOn)), (a8, .inl (cyI, 4, .inl a_height)), (a9, .inl (cyI, 4, .inl a_reach)), (n0, .inr (7, [.ref n1, .ref n2, .ref n3, .ref n4, .int n_askings, .int n_cost, .int n_laid])), (n4, .inl (cyI, 30, .inl n_asking)), (q0, .inr (4, [.ref q1, .int q_size])), (q1, .inl (cyI, 12, .inl q_ware))]) args s 0 0) [(s0, .inr (6, [.ref s1, .int s_cost, .int 0, .int v_1, .int v_2, .int v_3, .ref s2, .ref s3])), (s1, .inl (cyI, 7, .inl s_order)), (s2, .inl (cyI, 7, .inl s_trial)), (s3, .inl (cyI, 12, .inl g4_s3)), (a0, .inr (9, [.int a_wares, .int a_shelves, .int a_nests, .ref a1, .ref a2, .ref a3, .ref a4, .ref a5, .ref a6, .int a_lids, .int a_tops, .ref a7, .ref a8, .ref a9, .ref a10])), (a1, .inl (cyI, 12, .inl a_wide)), (a2, .inl (cyI, 12, .inl a_deep)), (a3, .inl (cyI, 12, .inl a_weight)), (a4, .inl (cyI, 12, .inl a_bears)), (a7, .inl (cyI, 12, .inl a_mayOn)), (a8, .inl (cyI, 4, .inl a_height)), (a9, .inl (cyI, 4, .inl a_reach)), (n0, .inr (7, [.ref n1, .ref n2, .ref n3, .ref n4, .int n_askings, .int n_cost, .int n_laid])), (n4, .inl (cyI, 30, .inl n_asking)), (q0, .inr (4, [.ref q1, .int q_size])), (q1, .inl (cyI, 12, .inl q_ware))] 46 [(6, .int x4_6), (5, .int x4_5), (0, .ref s0), (1, .ref a0), (2, .ref n0), (3, .ref q0), (4, .int p0)] [] := by
    intro k_4
    induction k_4 with
    | zero =>
      intro x4_6 x4_5 g4_s3 hi_4_0 hr_4 hq_4_0 hq_4_1 hm_4
      exact absurd hm_4 (Nat.not_lt_zero _)
    | succ k_4 ih_4 =>
      intro x4_6 x4_5 g4_s3 hi_4_0 hr_4 hq_4_0 hq_4_1 hm_4
      refine j_iload (pc := 46) C dX6_find_46 0 rfl ?_
      refine j_aload_n (pc := 48) C dX6_find_48 rfl 2 rfl ?_
      refine j_get (pc := 49) (ci := 6) (v := .int v_1) C inw_6 0 rfl rfl 3 (by decide) wd_149 rfl rfl dX6_find_49 ?_
      refine j_icmp_ge (pc := 52) (tgt := 92) C dX6_find_52 (by decide) (fun c_5 => ?_) (fun c_5 => ?_)
      · skip
        rw [i_le] at c_5
        refine j_aload_n (pc := 92) C dX6_find_92 rfl 2 rfl ?_
        refine j_aload_n (pc := 93) C dX6_find_93 rfl 3 rfl ?_
        refine j_iconst (pc := 94) (v := 0) C dX6_find_94 (by decide) ?_
        refine j_iload (pc := 95) C dX6_find_95 1 rfl ?_
        refine j_iconst (pc := 97) (v := 0) C dX6_find_97 (by decide) ?_
        refine j_iconst (pc := 98) (v := 0) C dX6_find_98 (by decide) ?_
        refine j_callV (pc := 99) (As := [.ref a0, .int 0, .int x4_5, .int 0, .int 0]) (rest := []) (wr := [(a8, .inl (cyI, 4, .inl a_height)), (a9, .inl (cyI, 4, .inl a_reach)), (n0, .inr (7, [.ref n1, .ref n2, .ref n3, .ref n4, .int n_askings, .int n_cost, .int n_laid])), (n4, .inl (cyI, 30, .inl n_asking)), (q0, .inr (4, [.ref q1, .int q_size])), (q1, .inl (cyI, 12, .inl q_ware))]) C (c_X6_extend_0 l D cyC cyI cyJ cyZ cyO s0 s1 s2 s3 a0 a1 a2 a3 a4 a7 a5 a6 a8 a9 a10 0 x4_5 0 0 s_cost 0 v_1 v_2 v_3 a_wares a_shelves a_nests a_lids a_tops s_order s_trial g4_s3 a_wide a_deep a_weight a_bears a_mayOn (by decide) (by omega) h_a_wares h_a_shelves h_a_nests h_s_trial (by decide)) wd_159 wd_160 wd_161 wd_162 wd_163 ⟨by decide, by decide, rfl⟩ rfl ⟨rfl, rfl, by decide, by decide⟩ ⟨by decide, by decide⟩ [0, 1, 2, 3, 4, 5, 6, 7, 8, 9] [10, 11, 12, 13, 14, 15] rfl rfl ⟨by decide, by decide, by decide⟩ 0 rfl rfl rfl (Nat.le_of_ble_eq_true rfl) dX6_find_99 (fun u_6 hw_7 => ?_)
        refine j_eq (ws2 := [(a8, .inl (cyI, 4, .inl a_height)), (a9, .inl (cyI, 4, .inl a_reach)), (n0, .inr (7, [.ref n1, .ref n2, .ref n3, .ref n4, .int n_askings, .int n_cost, .int n_laid])), (n4, .inl (cyI, 30, .inl n_asking)), (q0, .inr (4, [.ref q1, .int q_size])), (q1, .inl (cyI, 12, .inl q_ware)), (s0, .inr (6, [.ref s1, .int (u_6.2.1 0), .int (u_6.2.1 1), .int v_1, .int v_2, .int v_3, .ref s2, .ref s3])), (s1, .inl (cyI, 7, .inl (u_6.2.2.1 0))), (s2, .inl (cyI, 7, .inl (u_6.2.2.1 1))), (s3, .inl (cyI, 12, .inl g4_s3)), (a0, .inr (9, [.int a_wares, .int a_shelves, .int a_nests, .ref a1, .ref a2, .ref a3, .ref a4, .ref a5, .ref a6, .int a_lids, .int a_tops, .ref a7, .ref a8, .ref a9, .ref a10])), (a1, .inl (cyI, 12, .inl a_wide)), (a2, .inl (cyI, 12, .inl a_deep)), (a3, .inl (cyI, 12, .inl a_weight)), (a4, .inl (cyI, 12, .inl a_bears)), (a7, .inl (cyI, 12, .inl a_mayOn))]) (pc2 := 102) (lv2 := [(6, .int x4_6), (5, .int x4_5), (0, .ref s0), (1, .ref a0), (2, .ref n0), (3, .ref q0), (4, .int p0)]) (st2 := []) rfl rfl rfl rfl ?_
        obtain ⟨hw_7_0, hw_7_1, hw_7_2, hw_7_3⟩ := hw_7
        refine j_aload_n (pc := 102) C dX6_find_102 rfl 2 rfl ?_
        refine j_get (pc := 103) (ci := 6) (v := .int (u_6.2.1 1)) C inw_6 6 rfl rfl 2 (by decide) wd_157 rfl rfl dX6_find_103 ?_
        exact j_zret (pc := 106) C hr (nb_01 ⟨by omega, by omega⟩).1 hk (fun i => [].getD i 0, fun i => [(u_6.2.1 1), (u_6.2.1 0), (u_6.2.1 1), v_1, v_2, v_3].getD i 0, fun i => [(u_6.2.2.1 0), (u_6.2.2.1 1), g4_s3].getD i (fun _ => 0), fun i => [].getD i (fun _ => 0)) rfl (show (0 ≤ ((u_6.2.1 1)).toInt ∧ ((u_6.2.1 1)).toInt ≤ 1) ∧ (0 ≤ ((u_6.2.1 1)).toInt ∧ ((u_6.2.1 1)).toInt ≤ 1) ∧ (0 ≤ (v_1).toInt ∧ (v_1).toInt ≤ 7) ∧ (Iv 7 (0) (11) (u_6.2.2.1 1)) ∧ (NBS (a_wares).toInt a_weight (a_reach (p0).toInt.toNat) (a_height (p0).toInt.toNat) → (1 ≤ (q_size).toInt ∧ (q_size).toInt ≤ 7) → (∀ i j : Nat, i < j → (j : Int) < (q_size).toInt → ¬ q_ware i = q_ware j) → ∃ (s9 : Int32) (t9 o9 : Nat → Int32) (d9 : Prop) (c9 : Int), SETR s9 q_ware (q_size).toInt.toNat ∧ ¬ d9 ∧ IMP (q_size).toInt.toNat (CDN (a_wares).toInt (q_size).toInt.toNat 0 s9 t9) (OKF (fun u l => BT (a_mayOn l) u) a_weight a_bears a_deep (rsC a_wide a_deep a_lids) (q_size).toInt.toNat (a_height (p0).toInt.toNat)) (VLF (tmF n_asking (n_askings).toInt.toNat) a_weight (q_size).toInt.toNat (a_reach (p0).toInt.toNat)) d9 c9 o9 ((u_6.2.1 1).toInt = 1) ((u_6.2.1 0)).toInt (u_6.2.2.1 0)) from ⟨hw_7_0, hw_7_0, by omega, hw_7_1, (fun nb rg ij => by have x9 := hq_4_0; rw [show (x4_6.toInt).toNat = (q_size).toInt.toNat from (by omega)] at x9; have z9 : szB x4_5 = (q_size).toInt.toNat := SETR.sz x9 (fun p hp => by have y9 := h_q_ware p (by omega); omega) (fun p q hp hq => ij p q hp (by omega)); have em : (v_1).toInt.toNat = (q_size).toInt.toNat := (by omega); have t9 : ∀ j : Nat, j < 12 → BT x4_5 j = true → g4_s3 j = tmF n_asking (n_askings).toInt.toNat j := (fun j hj hz => by obtain ⟨p, p1, p2⟩ := (x9.2 j hj).mp hz; have y := hq_4_1 p (by omega); rw [show (q_ware p).toInt.toNat = j from (by omega)] at y; exact y); have nb9 : NBS (a_wares).toInt a_weight v_3 v_2 := (by rw [← ev_3, ← ev_2]; exact nb); have y9 := hw_7_2 (tmF n_asking (n_askings).toInt.toNat) nb9 (TMB.of _ (by omega)) t9 (PRE.root nb9 x9.1 (by rw [z9]; exact em.symm) (by omega) (by omega) rfl rfl); rw [em, ← ev_3, ← ev_2] at y9; exact ⟨x4_5, s_trial, _, _, _, x9, (by decide), y9⟩)⟩) [6, 7, 8, 9, 10, 11, 12, 13, 14, 15, 0, 1, 2, 3, 4, 5] (by decide) rfl (by decide) (by decide) dX6_find_106
      · skip
        rw [i_le] at c_5
        refine j_aload_n (pc := 55) C dX6_find_55 rfl 5 rfl ?_
        refine j_get (pc := 56) (ci := 4) (v := .ref q1) C inw_4 14 rfl rfl 0 (by decide) wd_178 rfl rfl dX6_find_56 ?_
        refine j_iload (pc := 59) C dX6_find_59 0 rfl ?_
        obtain ⟨v_8, ev_8⟩ : ∃ z, q_ware (x4_6).toInt.toNat = z := ⟨_, rfl⟩
        have env_8 : (q_ware (x4_6).toInt.toNat).toInt = v_8.toInt := by rw [ev_8]
        have hv_8 := h_q_ware (x4_6).toInt.toNat (i_lt_n hi_4_0.1 (Int.lt_of_le_of_lt hi_4_0.2 (by decide))); rw [ev_8] at hv_8
        refine j_iald (pc := 61) (v := v_8) (k := (x4_6).toInt.toNat) C 15 1 rfl rfl (i_nn hi_4_0.1) rfl (i_lt_n hi_4_0.1 (Int.lt_of_le_of_lt hi_4_0.2 (by decide))) ev_8 dX6_find_61 ?_
        refine j_istore (pc := 62) (lv' := [(7, .int v_8), (6, .int x4_6), (5, .int x4_5), (0, .ref s0), (1, .ref a0), (2, .ref n0), (3, .ref q0), (4, .int p0)]) C dX6_find_62 (by decide) rfl ?_
        refine j_iload (pc := 64) C dX6_find_64 2 rfl ?_
        refine j_iconst (pc := 66) (v := 1) C dX6_find_66 (by decide) ?_
        refine j_iload (pc := 67) C dX6_find_67 0 rfl ?_
        obtain ⟨v_9, ev_9⟩ : ∃ z : Int32, 1 <<< (v_8 &&& 31) = z := ⟨_, rfl⟩
        have el_1 : (1 : Int32).toInt = 1 := rfl
        have hv_9 : 1 ≤ v_9.toInt ∧ v_9.toInt ≤ 2048 := by rw [← ev_9]; exact shl1_iv 0 11 (by omega) (by omega) (by omega)
        refine j_ishl (pc := 69) (v := v_9) C dX6_find_69 ev_9 ?_
        obtain ⟨v_10, ev_10⟩ : ∃ z : Int32, x4_5 ||| v_9 = z := ⟨_, rfl⟩
        refine j_ior (pc := 70) (v := v_10) C dX6_find_70 ev_10 ?_
        refine j_istore (pc := 71) (lv' := [(5, .int v_10), (7, .int v_8), (6, .int x4_6), (0, .ref s0), (1, .ref a0), (2, .ref n0), (3, .ref q0), (4, .int p0)]) C dX6_find_71 (by decide) rfl ?_
        refine j_aload_n (pc := 73) C dX6_find_73 rfl 3 rfl ?_
        refine j_get (pc := 74) (ci := 6) (v := .ref s3) C inw_6 0 rfl rfl 7 (by decide) wd_156 rfl rfl dX6_find_74 ?_
        refine j_iload (pc := 77) C dX6_find_77 1 rfl ?_
        refine j_aload_n (pc := 79) C dX6_find_79 rfl 5 rfl ?_
        refine j_iload (pc := 80) C dX6_find_80 1 rfl ?_
        refine j_callV (pc := 82) (As := [.int v_8]) (rest := [.int v_8, .ref s3]) (wr := [(s0, .inr (6, [.ref s1, .int s_cost, .int 0, .int v_1, .int v_2, .int v_3, .ref s2, .ref s3])), (s1, .inl (cyI, 7, .inl s_order)), (s2, .inl (cyI, 7, .inl s_trial)), (s3, .inl (cyI, 12, .inl g4_s3)), (a0, .inr (9, [.int a_wares, .int a_shelves, .int a_nests, .ref a1, .ref a2, .ref a3, .ref a4, .ref a5, .ref a6, .int a_lids, .int a_tops, .ref a7, .ref a8, .ref a9, .ref a10])), (a1, .inl (cyI, 12, .inl a_wide)), (a2, .inl (cyI, 12, .inl a_deep)), (a3, .inl (cyI, 12, .inl a_weight)), (a4, .inl (cyI, 12, .inl a_bears)), (a7, .inl (cyI, 12, .inl a_mayOn)), (a8, .inl (cyI, 4, .inl a_height)), (a9, .inl (cyI, 4, .inl a_reach)), (q0, .inr (4, [.ref q1, .int q_size])), (q1, .inl (cyI, 12, .inl q_ware))]) C (c_X7_timesAsked l D cyC cyI cyJ cyZ cyO n0 n4 n1 n2 n3 v_8 n_askings n_cost n_laid n_asking h_n_askings h_n_laid hv_8 h_n_asking) wd_179 wd_9 wd_180 wd_181 wd_182 ⟨by decide, by decide, rfl⟩ rfl ⟨rfl, rfl, by decide, by decide⟩ ⟨by decide, by decide⟩ [12, 13] [0, 1, 2, 3, 4, 5, 6, 7, 8, 9, 10, 11, 14, 15] rfl rfl ⟨by decide, by decide, by decide⟩ 12 rfl rfl rfl (Nat.le_of_ble_eq_true rfl) dX6_find_82 (fun u_11 hw_12 => ?_)
        refine j_eq (ws2 := [(s0, .inr (6, [.ref s1, .int s_cost, .int 0, .int v_1, .int v_2, .int v_3, .ref s2, .ref s3])), (s1, .inl (cyI, 7, .inl s_order)), (s2, .inl (cyI, 7, .inl s_trial)), (s3, .inl (cyI, 12, .inl g4_s3)), (a0, .inr (9, [.int a_wares, .int a_shelves, .int a_nests, .ref a1, .ref a2, .ref a3, .ref a4, .ref a5, .ref a6, .int a_lids, .int a_tops, .ref a7, .ref a8, .ref a9, .ref a10])), (a1, .inl (cyI, 12, .inl a_wide)), (a2, .inl (cyI, 12, .inl a_deep)), (a3, .inl (cyI, 12, .inl a_weight)), (a4, .inl (cyI, 12, .inl a_bears)), (a7, .inl (cyI, 12, .inl a_mayOn)), (a8, .inl (cyI, 4, .inl a_height)), (a9, .inl (cyI, 4, .inl a_reach)), (q0, .inr (4, [.ref q1, .int q_size])), (q1, .inl (cyI, 12, .inl q_ware)), (n0, .inr (7, [.ref n1, .ref n2, .ref n3, .ref n4, .int n_askings, .int n_cost, .int n_laid])), (n4, .inl (cyI, 30, .inl n_asking))]) (pc2 := 85) (lv2 := [(5, .int v_10), (7, .int v_8), (6, .int x4_6), (0, .ref s0), (1, .ref a0), (2, .ref n0), (3, .ref q0), (4, .int p0)]) (st2 := [.int (u_11.2.1 0), .int v_8, .ref s3]) rfl rfl rfl rfl ?_
        have hw_12_0 : (u_11.2.1 0) = tmF n_asking (n_askings).toInt.toNat (v_8).toInt.toNat := hw_12
        obtain ⟨f_13, ef_13⟩ : ∃ z, z = upd g4_s3 (v_8).toInt.toNat (u_11.2.1 0) := ⟨_, rfl⟩
        refine j_iast (pc := 85) (k := (v_8).toInt.toNat) (ws' := [(s0, .inr (6, [.ref s1, .int s_cost, .int 0, .int v_1, .int v_2, .int v_3, .ref s2, .ref s3])), (s1, .inl (cyI, 7, .inl s_order)), (s2, .inl (cyI, 7, .inl s_trial)), (s3, .inl (cyI, 12, .inl f_13)), (a0, .inr (9, [.int a_wares, .int a_shelves, .int a_nests, .ref a1, .ref a2, .ref a3, .ref a4, .ref a5, .ref a6, .int a_lids, .int a_tops, .ref a7, .ref a8, .ref a9, .ref a10])), (a1, .inl (cyI, 12, .inl a_wide)), (a2, .inl (cyI, 12, .inl a_deep)), (a3, .inl (cyI, 12, .inl a_weight)), (a4, .inl (cyI, 12, .inl a_bears)), (a7, .inl (cyI, 12, .inl a_mayOn)), (a8, .inl (cyI, 4, .inl a_height)), (a9, .inl (cyI, 4, .inl a_reach)), (q0, .inr (4, [.ref q1, .int q_size])), (q1, .inl (cyI, 12, .inl q_ware)), (n0, .inr (7, [.ref n1, .ref n2, .ref n3, .ref n4, .int n_askings, .int n_cost, .int n_laid])), (n4, .inl (cyI, 30, .inl n_asking))]) C 3 1 rfl rfl (i_nn hv_8.1) rfl (i_lt_n hv_8.1 (Int.lt_of_le_of_lt hv_8.2 (by decide))) dX6_find_85 (by rw [ef_13]; rfl) ?_
        obtain ⟨v_14, ev_14⟩ : ∃ z : Int32, x4_6 + 1 = z := ⟨_, rfl⟩
        have el_1 : (1 : Int32).toInt = 1 := rfl
        have hv_14 : v_14.toInt = x4_6.toInt + (1 : Int32).toInt := by rw [← ev_14]; exact fb_addI (by omega) (by omega)
        refine j_iinc (pc := 86) (v := v_14) (lv' := [(6, .int v_14), (5, .int v_10), (7, .int v_8), (0, .ref s0), (1, .ref a0), (2, .ref n0), (3, .ref q0), (4, .int p0)]) C dX6_find_86 2 rfl ev_14 (by decide) rfl ?_
        refine j_goto (pc := 89) (tgt := 46) C dX6_find_89 (by decide) ?_
        refine j_subG (ws' := [(s0, .inr (6, [.ref s1, .int s_cost, .int 0, .int v_1, .int v_2, .int v_3, .ref s2, .ref s3])), (s1, .inl (cyI, 7, .inl s_order)), (s2, .inl (cyI, 7, .inl s_trial)), (s3, .inl (cyI, 12, .inl f_13)), (a0, .inr (9, [.int a_wares, .int a_shelves, .int a_nests, .ref a1, .ref a2, .ref a3, .ref a4, .ref a5, .ref a6, .int a_lids, .int a_tops, .ref a7, .ref a8, .ref a9, .ref a10])), (a1, .inl (cyI, 12, .inl a_wide)), (a2, .inl (cyI, 12, .inl a_deep)), (a3, .inl (cyI, 12, .inl a_weight)), (a4, .inl (cyI, 12, .inl a_bears)), (a7, .inl (cyI, 12, .inl a_mayOn)), (a8, .inl (cyI, 4, .inl a_height)), (a9, .inl (cyI, 4, .inl a_reach)), (n0, .inr (7, [.ref n1, .ref n2, .ref n3, .ref n4, .int n_askings, .int n_cost, .int n_laid])), (n4, .inl (cyI, 30, .inl n_asking)), (q0, .inr (4, [.ref q1, .int q_size])), (q1, .inl (cyI, 12, .inl q_ware))]) [0, 1, 2, 3, 4, 5, 6, 7, 8, 9, 10, 11, 14, 15, 12, 13] (by decide) rfl ?_
        exact j_lv [0, 1, 3, 4, 5, 6, 7] rfl (ih_4 v_14 v_10 f_13 (by omega) (by omega) (SETR.add (x := v_8) hq_4_0 (by omega) (by rw [← ev_10, ← ev_9]) ev_8 (by omega) (by omega)) (fun p hp => by rw [ef_13]; by_cases q9 : (q_ware p).toInt.toNat = (v_8).toInt.toNat; (rw [q9, pk_us, hw_12_0]); (rw [pk_un q9]; exact hq_4_1 p (by by_cases q8 : p = (x4_6).toInt.toNat; (exfalso; exact q9 (by rw [q8, ev_8])); omega))) (by omega))
  have el_0 : (0 : Int32).toInt = 0 := rfl
  have el_0 : (0 : Int32).toInt = 0 := rfl
  exact j_lv [0, 1, 2, 3, 4, 5, 6] rfl (loop_4 4096 0 0 s_times (by decide) (by omega) (SETR.zero _ rfl) (fun p hp => absurd hp (by have e9 : ((0 : Int32)).toInt = 0 := rfl; omega)) (by omega))
