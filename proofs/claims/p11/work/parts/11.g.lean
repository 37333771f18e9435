theorem wd_109 : Cond.fieldLink RX6 33 "BowlShelf$Search" "size" "I" ∈ WALL := wl_in (by decide +kernel) (by decide +kernel)
theorem wd_110 : Cond.code yX9_weightOf cX9_weightOf 4 (some .int) ∈ WALL := wl_in (by decide +kernel) (by decide +kernel)
theorem wd_111 : Cond.methodLink RX6 76 yX9_weightOf ∈ WALL := wl_in (by decide +kernel) (by decide +kernel)
theorem wd_112 : Cond.instanceMethod yX9_weightOf ∈ WALL := wl_in (by decide +kernel) (by decide +kernel)
theorem wd_113 : Cond.selects RX9 yX9_weightOf yX9_weightOf ∈ WALL := wl_in (by decide +kernel) (by decide +kernel)
theorem wd_114 : Cond.fieldLink RX6 79 "BowlShelf$Told" "bears" "[I" ∈ WALL := wl_in (by decide +kernel) (by decide +kernel)
theorem wd_115 : Cond.fieldLink RX6 82 "BowlShelf$Told" "deep" "[I" ∈ WALL := wl_in (by decide +kernel) (by decide +kernel)
theorem wd_116 : Cond.fieldLink RX6 39 "BowlShelf$Search" "height" "I" ∈ WALL := wl_in (by decide +kernel) (by decide +kernel)
theorem wd_117 : Cond.fieldLink RX6 85 "BowlShelf$Told" "weight" "[I" ∈ WALL := wl_in (by decide +kernel) (by decide +kernel)
theorem wd_118 : Cond.fieldLink RX6 44 "BowlShelf$Search" "reach" "I" ∈ WALL := wl_in (by decide +kernel) (by decide +kernel)
theorem wd_119 : Cond.fieldLink RX6 18 "BowlShelf$Search" "times" "[I" ∈ WALL := wl_in (by decide +kernel) (by decide +kernel)
theorem wd_120 : Cond.fieldLink RX6 46 "BowlShelf$Search" "found" "Z" ∈ WALL := wl_in (by decide +kernel) (by decide +kernel)
theorem wd_121 : Cond.fieldLink RX6 15 "BowlShelf$Search" "trial" "[I" ∈ WALL := wl_in (by decide +kernel) (by decide +kernel)
theorem wd_122 : Cond.code yX6_extend cX6_extend 9 none ∈ WALL := wl_in (by decide +kernel) (by decide +kernel)
theorem wd_123 : Cond.initialized RX6 ∈ WALL := wl_in (by decide +kernel) (by decide +kernel)
theorem wd_124 : Cond.methodLink RX6 59 yX6_extend ∈ WALL := wl_in (by decide +kernel) (by decide +kernel)
theorem wd_125 : Cond.instanceMethod yX6_extend ∈ WALL := wl_in (by decide +kernel) (by decide +kernel)
theorem wd_126 : Cond.selects RX6 yX6_extend yX6_extend ∈ WALL := wl_in (by decide +kernel) (by decide +kernel)
theorem wd_127 : Cond.fieldLink RX6 88 "BowlShelf$Search" "cost" "I" ∈ WALL := wl_in (by decide +kernel) (by decide +kernel)
theorem wd_128 : Cond.fieldLink RX6 11 "BowlShelf$Search" "order" "[I" ∈ WALL := wl_in (by decide +kernel) (by decide +kernel)
theorem wd_129 : Cond.methodLink RX6 91 arraycopyName ∈ WALL := wl_in (by decide +kernel) (by decide +kernel)
theorem wd_130 : Cond.fieldLink RX6 63 "BowlShelf$Told" "mayOn" "[I" ∈ WALL := wl_in (by decide +kernel) (by decide +kernel)
theorem wd_131 : Cond.fieldLink RX6 66 "BowlShelf$Told" "wares" "I" ∈ WALL := wl_in (by decide +kernel) (by decide +kernel)
theorem wd_132 : Cond.methodLink RX6 69 yX9_rise ∈ WALL := wl_in (by decide +kernel) (by decide +kernel)
theorem wd_133 : Cond.code yX6_tryOn cX6_tryOn 10 none ∈ WALL := wl_in (by decide +kernel) (by decide +kernel)
theorem wd_134 : Cond.methodLink RX6 72 yX6_tryOn ∈ WALL := wl_in (by decide +kernel) (by decide +kernel)
theorem wd_135 : Cond.instanceMethod yX6_tryOn ∈ WALL := wl_in (by decide +kernel) (by decide +kernel)
theorem wd_136 : Cond.selects RX6 yX6_tryOn yX6_tryOn ∈ WALL := wl_in (by decide +kernel) (by decide +kernel)
theorem wd_137 : Cond.fieldLink RX6 21 "BowlShelf$Pile" "size" "I" ∈ WALL := wl_in (by decide +kernel) (by decide +kernel)
theorem wd_138 : Cond.methodLink RX6 27 Lib.Math.min.name ∈ WALL := wl_in (by decide +kernel) (by decide +kernel)
theorem wd_139 : Cond.static Lib.Math.min.name ∈ WALL := wl_in (by decide +kernel) (by decide +kernel)
theorem wd_140 : Cond.code Lib.Math.min.name Lib.Math.min.code 2 (some .int) ∈ WALL := wl_in (by decide +kernel) (by decide +kernel)
theorem wd_141 : Cond.fieldLink RX6 34 "BowlShelf$Told" "height" "[I" ∈ WALL := wl_in (by decide +kernel) (by decide +kernel)
theorem wd_142 : Cond.fieldLink RX6 41 "BowlShelf$Told" "reach" "[I" ∈ WALL := wl_in (by decide +kernel) (by decide +kernel)
theorem wd_143 : Cond.fieldLink RX6 50 "BowlShelf$Pile" "ware" "[I" ∈ WALL := wl_in (by decide +kernel) (by decide +kernel)
theorem wd_144 : Cond.code yX7_timesAsked cX7_timesAsked 4 (some .int) ∈ WALL := wl_in (by decide +kernel) (by decide +kernel)
theorem wd_145 : Cond.methodLink RX6 53 yX7_timesAsked ∈ WALL := wl_in (by decide +kernel) (by decide +kernel)
theorem wd_146 : Cond.instanceMethod yX7_timesAsked ∈ WALL := wl_in (by decide +kernel) (by decide +kernel)
theorem wd_147 : Cond.selects RX7 yX7_timesAsked yX7_timesAsked ∈ WALL := wl_in (by decide +kernel) (by decide +kernel)
theorem wd_148 : Cond.fieldLink RX2 9 "BowlShelf$Odds" "digits" "[J" ∈ WALL := wl_in (by decide +kernel) (by decide +kernel)
theorem wd_149 : Cond.code yJ7_fill_d0a16 cJ7_fill_d0a16 5 none ∈ WALL := wl_in (by decide +kernel) (by decide +kernel)
theorem wd_150 : Cond.methodLink RX2 13 yJ7_fill_d0a16 ∈ WALL := wl_in (by decide +kernel) (by decide +kernel)
theorem wd_151 : Cond.static yJ7_fill_d0a16 ∈ WALL := wl_in (by decide +kernel) (by decide +kernel)
theorem wd_152 : Cond.constantLong RX2 19 (1000000000) ∈ WALL := wl_in (by decide +kernel) (by decide +kernel)
theorem dX6_extend_0 : decode cX6_extend 0 = .ok (.iload_n 2, 1) := by decide +kernel
theorem dX6_extend_1 : decode cX6_extend 1 = .ok (.aload_n 0, 1) := by decide +kernel
theorem dX6_extend_2 : decode cX6_extend 2 = .ok (.getfield 33, 3) := by decide +kernel
theorem dX6_extend_5 : decode cX6_extend 5 = .ok (.if_icmp .lt 4, 3) := by decide +kernel
theorem dX6_extend_8 : decode cX6_extend 8 = .ok (.return_, 1) := by decide +kernel
theorem dX6_extend_9 : decode cX6_extend 9 = .ok (.iload_n 2, 1) := by decide +kernel
theorem dX6_extend_10 : decode cX6_extend 10 = .ok (.ifCond .ne 7, 3) := by decide +kernel
theorem dX6_extend_13 : decode cX6_extend 13 = .ok (.iload_n 3, 1) := by decide +kernel
theorem dX6_extend_14 : decode cX6_extend 14 = .ok (.goto 18, 3) := by decide +kernel
theorem dX6_extend_17 : decode cX6_extend 17 = .ok (.iload_n 3, 1) := by decide +kernel
theorem dX6_extend_18 : decode cX6_extend 18 = .ok (.aload_n 1, 1) := by decide +kernel
theorem dX6_extend_19 : decode cX6_extend 19 = .ok (.getfield 63, 3) := by decide +kernel
theorem dX6_extend_22 : decode cX6_extend 22 = .ok (.aload_n 0, 1) := by decide +kernel
theorem dX6_extend_23 : decode cX6_extend 23 = .ok (.getfield 15, 3) := by decide +kernel
theorem dX6_extend_26 : decode cX6_extend 26 = .ok (.iload_n 2, 1) := by decide +kernel
theorem dX6_extend_27 : decode cX6_extend 27 = .ok (.iconst 1, 1) := by decide +kernel
theorem dX6_extend_28 : decode cX6_extend 28 = .ok (.isub, 1) := by decide +kernel
theorem dX6_extend_29 : decode cX6_extend 29 = .ok (.iaload, 1) := by decide +kernel
theorem dX6_extend_30 : decode cX6_extend 30 = .ok (.iaload, 1) := by decide +kernel
theorem dX6_extend_31 : decode cX6_extend 31 = .ok (.iand, 1) := by decide +kernel
theorem dX6_extend_32 : decode cX6_extend 32 = .ok (.istore 6, 2) := by decide +kernel
theorem dX6_extend_34 : decode cX6_extend 34 = .ok (.iconst 0, 1) := by decide +kernel
theorem dX6_extend_35 : decode cX6_extend 35 = .ok (.istore 7, 2) := by decide +kernel
theorem dX6_extend_37 : decode cX6_extend 37 = .ok (.iload 7, 2) := by decide +kernel
theorem dX6_extend_39 : decode cX6_extend 39 = .ok (.aload_n 1, 1) := by decide +kernel
theorem dX6_extend_40 : decode cX6_extend 40 = .ok (.getfield 66, 3) := by decide +kernel
theorem dX6_extend_43 : decode cX6_extend 43 = .ok (.if_icmp .ge 65, 3) := by decide +kernel
theorem dX6_extend_46 : decode cX6_extend 46 = .ok (.iload 6, 2) := by decide +kernel
theorem dX6_extend_48 : decode cX6_extend 48 = .ok (.iload 7, 2) := by decide +kernel
theorem dX6_extend_50 : decode cX6_extend 50 = .ok (.iushr, 1) := by decide +kernel
theorem dX6_extend_51 : decode cX6_extend 51 = .ok (.iconst 1, 1) := by decide +kernel
theorem dX6_extend_52 : decode cX6_extend 52 = .ok (.iand, 1) := by decide +kernel
theorem dX6_extend_53 : decode cX6_extend 53 = .ok (.iconst 1, 1) := by decide +kernel
theorem dX6_extend_54 : decode cX6_extend 54 = .ok (.if_icmp .ne 48, 3) := by decide +kernel
theorem dX6_extend_57 : decode cX6_extend 57 = .ok (.iload_n 2, 1) := by decide +kernel
theorem dX6_extend_58 : decode cX6_extend 58 = .ok (.ifCond .ne 7, 3) := by decide +kernel
theorem dX6_extend_61 : decode cX6_extend 61 = .ok (.iconst 0, 1) := by decide +kernel
theorem dX6_extend_62 : decode cX6_extend 62 = .ok (.goto 17, 3) := by decide +kernel
theorem dX6_extend_65 : decode cX6_extend 65 = .ok (.aload_n 1, 1) := by decide +kernel
theorem dX6_extend_66 : decode cX6_extend 66 = .ok (.iload 7, 2) := by decide +kernel
theorem dX6_extend_68 : decode cX6_extend 68 = .ok (.aload_n 0, 1) := by decide +kernel
theorem dX6_extend_69 : decode cX6_extend 69 = .ok (.getfield 15, 3) := by decide +kernel
theorem dX6_extend_72 : decode cX6_extend 72 = .ok (.iload_n 2, 1) := by decide +kernel
theorem dX6_extend_73 : decode cX6_extend 73 = .ok (.iconst 1, 1) := by decide +kernel
theorem dX6_extend_74 : decode cX6_extend 74 = .ok (.isub, 1) := by decide +kernel
theorem dX6_extend_75 : decode cX6_extend 75 = .ok (.iaload, 1) := by decide +kernel
theorem dX6_extend_76 : decode cX6_extend 76 = .ok (.invokevirtual 69, 3) := by decide +kernel
theorem dX6_extend_79 : decode cX6_extend 79 = .ok (.istore 8, 2) := by decide +kernel
theorem dX6_extend_81 : decode cX6_extend 81 = .ok (.aload_n 0, 1) := by decide +kernel
theorem dX6_extend_82 : decode cX6_extend 82 = .ok (.aload_n 1, 1) := by decide +kernel
theorem dX6_extend_83 : decode cX6_extend 83 = .ok (.iload 7, 2) := by decide +kernel
theorem dX6_extend_85 : decode cX6_extend 85 = .ok (.iload_n 2, 1) := by decide +kernel
theorem dX6_extend_86 : decode cX6_extend 86 = .ok (.iload_n 3, 1) := by decide +kernel
theorem dX6_extend_87 : decode cX6_extend 87 = .ok (.iconst 1, 1) := by decide +kernel
theorem dX6_extend_88 : decode cX6_extend 88 = .ok (.iload 7, 2) := by decide +kernel
theorem dX6_extend_90 : decode cX6_extend 90 = .ok (.ishl, 1) := by decide +kernel
theorem dX6_extend_91 : decode cX6_extend 91 = .ok (.ixor, 1) := by decide +kernel
theorem dX6_extend_92 : decode cX6_extend 92 = .ok (.iload 4, 2) := by decide +kernel
theorem dX6_extend_94 : decode cX6_extend 94 = .ok (.iload 8, 2) := by decide +kernel
theorem dX6_extend_96 : decode cX6_extend 96 = .ok (.iadd, 1) := by decide +kernel
theorem dX6_extend_97 : decode cX6_extend 97 = .ok (.iload 5, 2) := by decide +kernel
theorem dX6_extend_99 : decode cX6_extend 99 = .ok (.invokevirtual 72, 3) := by decide +kernel
theorem dX6_extend_102 : decode cX6_extend 102 = .ok (.iinc 7 1, 3) := by decide +kernel
theorem dX6_extend_105 : decode cX6_extend 105 = .ok (.goto (-68), 3) := by decide +kernel
theorem dX6_extend_108 : decode cX6_extend 108 = .ok (.return_, 1) := by decide +kernel
theorem dX6_tryOn_0 : decode cX6_tryOn 0 = .ok (.aload_n 1, 1) := by decide +kernel
theorem dX6_tryOn_1 : decode cX6_tryOn 1 = .ok (.iload 4, 2) := by decide +kernel
theorem dX6_tryOn_3 : decode cX6_tryOn 3 = .ok (.invokevirtual 76, 3) := by decide +kernel
theorem dX6_tryOn_6 : decode cX6_tryOn 6 = .ok (.istore 7, 2) := by decide +kernel
theorem dX6_tryOn_8 : decode cX6_tryOn 8 = .ok (.iload 7, 2) := by decide +kernel
theorem dX6_tryOn_10 : decode cX6_tryOn 10 = .ok (.aload_n 1, 1) := by decide +kernel
theorem dX6_tryOn_11 : decode cX6_tryOn 11 = .ok (.getfield 79, 3) := by decide +kernel
theorem dX6_tryOn_14 : decode cX6_tryOn 14 = .ok (.iload_n 2, 1) := by decide +kernel
theorem dX6_tryOn_15 : decode cX6_tryOn 15 = .ok (.iaload, 1) := by decide +kernel
theorem dX6_tryOn_16 : decode cX6_tryOn 16 = .ok (.if_icmp .gt 19, 3) := by decide +kernel
theorem dX6_tryOn_19 : decode cX6_tryOn 19 = .ok (.iload 5, 2) := by decide +kernel
theorem dX6_tryOn_21 : decode cX6_tryOn 21 = .ok (.aload_n 1, 1) := by decide +kernel
theorem dX6_tryOn_22 : decode cX6_tryOn 22 = .ok (.getfield 82, 3) := by decide +kernel
theorem dX6_tryOn_25 : decode cX6_tryOn 25 = .ok (.iload_n 2, 1) := by decide +kernel
theorem dX6_tryOn_26 : decode cX6_tryOn 26 = .ok (.iaload, 1) := by decide +kernel
theorem dX6_tryOn_27 : decode cX6_tryOn 27 = .ok (.iadd, 1) := by decide +kernel
theorem dX6_tryOn_28 : decode cX6_tryOn 28 = .ok (.aload_n 0, 1) := by decide +kernel
theorem dX6_tryOn_29 : decode cX6_tryOn 29 = .ok (.getfield 39, 3) := by decide +kernel
theorem dX6_tryOn_32 : decode cX6_tryOn 32 = .ok (.if_icmp .le 4, 3) := by decide +kernel
theorem dX6_tryOn_35 : decode cX6_tryOn 35 = .ok (.return_, 1) := by decide +kernel
theorem dX6_tryOn_36 : decode cX6_tryOn 36 = .ok (.aload_n 1, 1) := by decide +kernel
theorem dX6_tryOn_37 : decode cX6_tryOn 37 = .ok (.getfield 85, 3) := by decide +kernel
theorem dX6_tryOn_40 : decode cX6_tryOn 40 = .ok (.iload_n 2, 1) := by decide +kernel
theorem dX6_tryOn_41 : decode cX6_tryOn 41 = .ok (.iaload, 1) := by decide +kernel
theorem dX6_tryOn_42 : decode cX6_tryOn 42 = .ok (.aload_n 0, 1) := by decide +kernel
theorem dX6_tryOn_43 : decode cX6_tryOn 43 = .ok (.getfield 44, 3) := by decide +kernel
theorem dX6_tryOn_46 : decode cX6_tryOn 46 = .ok (.iadd, 1) := by decide +kernel
theorem dX6_tryOn_47 : decode cX6_tryOn 47 = .ok (.iconst 2, 1) := by decide +kernel
theorem dX6_tryOn_48 : decode cX6_tryOn 48 = .ok (.iload 7, 2) := by decide +kernel
theorem dX6_tryOn_50 : decode cX6_tryOn 50 = .ok (.aload_n 0, 1) := by decide +kernel
theorem dX6_tryOn_51 : decode cX6_tryOn 51 = .ok (.getfield 44, 3) := by decide +kernel
theorem dX6_tryOn_54 : decode cX6_tryOn 54 = .ok (.aload_n 0, 1) := by decide +kernel
theorem dX6_tryOn_55 : decode cX6_tryOn 55 = .ok (.getfield 33, 3) := by decide +kernel
theorem dX6_tryOn_58 : decode cX6_tryOn 58 = .ok (.iconst 1, 1) := by decide +kernel
theorem dX6_tryOn_59 : decode cX6_tryOn 59 = .ok (.isub, 1) := by decide +kernel
theorem dX6_tryOn_60 : decode cX6_tryOn 60 = .ok (.iload_n 3, 1) := by decide +kernel
theorem dX6_tryOn_61 : decode cX6_tryOn 61 = .ok (.isub, 1) := by decide +kernel
theorem dX6_tryOn_62 : decode cX6_tryOn 62 = .ok (.imul, 1) := by decide +kernel
theorem dX6_tryOn_63 : decode cX6_tryOn 63 = .ok (.iadd, 1) := by decide +kernel
theorem dX6_tryOn_64 : decode cX6_tryOn 64 = .ok (.imul, 1) := by decide +kernel
theorem dX6_tryOn_65 : decode cX6_tryOn 65 = .ok (.iadd, 1) := by decide +kernel
theorem dX6_tryOn_66 : decode cX6_tryOn 66 = .ok (.istore 8, 2) := by decide +kernel
theorem dX6_tryOn_68 : decode cX6_tryOn 68 = .ok (.iload 6, 2) := by decide +kernel
theorem dX6_tryOn_70 : decode cX6_tryOn 70 = .ok (.aload_n 0, 1) := by decide +kernel
theorem dX6_tryOn_71 : decode cX6_tryOn 71 = .ok (.getfield 18, 3) := by decide +kernel
theorem dX6_tryOn_74 : decode cX6_tryOn 74 = .ok (.iload_n 2, 1) := by decide +kernel
theorem dX6_tryOn_75 : decode cX6_tryOn 75 = .ok (.iaload, 1) := by decide +kernel
theorem dX6_tryOn_76 : decode cX6_tryOn 76 = .ok (.iload 8, 2) := by decide +kernel
theorem dX6_tryOn_78 : decode cX6_tryOn 78 = .ok (.imul, 1) := by decide +kernel
theorem dX6_tryOn_79 : decode cX6_tryOn 79 = .ok (.iadd, 1) := by decide +kernel
theorem dX6_tryOn_80 : decode cX6_tryOn 80 = .ok (.istore 9, 2) := by decide +kernel
theorem dX6_tryOn_82 : decode cX6_tryOn 82 = .ok (.aload_n 0, 1) := by decide +kernel
theorem dX6_tryOn_83 : decode cX6_tryOn 83 = .ok (.getfield 46, 3) := by decide +kernel
theorem dX6_tryOn_86 : decode cX6_tryOn 86 = .ok (.ifCond .eq 13, 3) := by decide +kernel
theorem dX6_tryOn_89 : decode cX6_tryOn 89 = .ok (.iload 9, 2) := by decide +kernel
theorem dX6_tryOn_91 : decode cX6_tryOn 91 = .ok (.aload_n 0, 1) := by decide +kernel
theorem dX6_tryOn_92 : decode cX6_tryOn 92 = .ok (.getfield 88, 3) := by decide +kernel
theorem dX6_tryOn_95 : decode cX6_tryOn 95 = .ok (.if_icmp .lt 4, 3) := by decide +kernel
theorem dX6_tryOn_98 : decode cX6_tryOn 98 = .ok (.return_, 1) := by decide +kernel
theorem dX6_tryOn_99 : decode cX6_tryOn 99 = .ok (.aload_n 0, 1) := by decide +kernel
theorem dX6_tryOn_100 : decode cX6_tryOn 100 = .ok (.getfield 15, 3) := by decide +kernel
theorem dX6_tryOn_103 : decode cX6_tryOn 103 = .ok (.iload_n 3, 1) := by decide +kernel
theorem dX6_tryOn_104 : decode cX6_tryOn 104 = .ok (.iload_n 2, 1) := by decide +kernel
theorem dX6_tryOn_105 : decode cX6_tryOn 105 = .ok (.iastore, 1) := by decide +kernel
theorem dX6_tryOn_106 : decode cX6_tryOn 106 = .ok (.iload 4, 2) := by decide +kernel
theorem dX6_tryOn_108 : decode cX6_tryOn 108 = .ok (.ifCond .ne 34, 3) := by decide +kernel
theorem dX6_tryOn_111 : decode cX6_tryOn 111 = .ok (.aload_n 0, 1) := by decide +kernel
theorem dX6_tryOn_112 : decode cX6_tryOn 112 = .ok (.iconst 1, 1) := by decide +kernel
theorem dX6_tryOn_113 : decode cX6_tryOn 113 = .ok (.putfield 46, 3) := by decide +kernel
theorem dX6_tryOn_116 : decode cX6_tryOn 116 = .ok (.aload_n 0, 1) := by decide +kernel
theorem dX6_tryOn_117 : decode cX6_tryOn 117 = .ok (.iload 9, 2) := by decide +kernel
theorem dX6_tryOn_119 : decode cX6_tryOn 119 = .ok (.putfield 88, 3) := by decide +kernel
theorem dX6_tryOn_122 : decode cX6_tryOn 122 = .ok (.aload_n 0, 1) := by decide +kernel
theorem dX6_tryOn_123 : decode cX6_tryOn 123 = .ok (.getfield 15, 3) := by decide +kernel
theorem dX6_tryOn_126 : decode cX6_tryOn 126 = .ok (.iconst 0, 1) := by decide +kernel
theorem dX6_tryOn_127 : decode cX6_tryOn 127 = .ok (.aload_n 0, 1) := by decide +kernel
theorem dX6_tryOn_128 : decode cX6_tryOn 128 = .ok (.getfield 11, 3) := by decide +kernel
theorem dX6_tryOn_131 : decode cX6_tryOn 131 = .ok (.iconst 0, 1) := by decide +kernel
theorem dX6_tryOn_132 : decode cX6_tryOn 132 = .ok (.aload_n 0, 1) := by decide +kernel
theorem dX6_tryOn_133 : decode cX6_tryOn 133 = .ok (.getfield 33, 3) := by decide +kernel
theorem dX6_tryOn_136 : decode cX6_tryOn 136 = .ok (.invokestatic 91, 3) := by decide +kernel
theorem dX6_tryOn_139 : decode cX6_tryOn 139 = .ok (.goto 17, 3) := by decide +kernel
theorem dX6_tryOn_142 : decode cX6_tryOn 142 = .ok (.aload_n 0, 1) := by decide +kernel
theorem dX6_tryOn_143 : decode cX6_tryOn 143 = .ok (.aload_n 1, 1) := by decide +kernel
theorem dX6_tryOn_144 : decode cX6_tryOn 144 = .ok (.iload_n 3, 1) := by decide +kernel
theorem dX6_tryOn_145 : decode cX6_tryOn 145 = .ok (.iconst 1, 1) := by decide +kernel
theorem dX6_tryOn_146 : decode cX6_tryOn 146 = .ok (.iadd, 1) := by decide +kernel
theorem dX6_tryOn_147 : decode cX6_tryOn 147 = .ok (.iload 4, 2) := by decide +kernel
theorem dX6_tryOn_149 : decode cX6_tryOn 149 = .ok (.iload 5, 2) := by decide +kernel
theorem dX6_tryOn_151 : decode cX6_tryOn 151 = .ok (.iload 9, 2) := by decide +kernel
theorem dX6_tryOn_153 : decode cX6_tryOn 153 = .ok (.invokevirtual 59, 3) := by decide +kernel
theorem dX6_tryOn_156 : decode cX6_tryOn 156 = .ok (.return_, 1) := by decide +kernel
theorem dX6_find_0 : decode cX6_find 0 = .ok (.aload_n 0, 1) := by decide +kernel
theorem dX6_find_1 : decode cX6_find 1 = .ok (.aload_n 3, 1) := by decide +kernel
theorem dX6_find_2 : decode cX6_find 2 = .ok (.getfield 21, 3) := by decide +kernel
theorem dX6_find_5 : decode cX6_find 5 = .ok (.bipush 7, 2) := by decide +kernel
theorem dX6_find_7 : decode cX6_find 7 = .ok (.invokestatic 27, 3) := by decide +kernel
theorem dX6_find_10 : decode cX6_find 10 = .ok (.putfield 33, 3) := by decide +kernel
theorem dX6_find_13 : decode cX6_find 13 = .ok (.aload_n 0, 1) := by decide +kernel
theorem dX6_find_14 : decode cX6_find 14 = .ok (.aload_n 1, 1) := by decide +kernel
theorem dX6_find_15 : decode cX6_find 15 = .ok (.getfield 34, 3) := by decide +kernel
theorem dX6_find_18 : decode cX6_find 18 = .ok (.iload 4, 2) := by decide +kernel
theorem dX6_find_20 : decode cX6_find 20 = .ok (.iaload, 1) := by decide +kernel
theorem dX6_find_21 : decode cX6_find 21 = .ok (.putfield 39, 3) := by decide +kernel
theorem dX6_find_24 : decode cX6_find 24 = .ok (.aload_n 0, 1) := by decide +kernel
theorem dX6_find_25 : decode cX6_find 25 = .ok (.aload_n 1, 1) := by decide +kernel
theorem dX6_find_26 : decode cX6_find 26 = .ok (.getfield 41, 3) := by decide +kernel
theorem dX6_find_29 : decode cX6_find 29 = .ok (.iload 4, 2) := by decide +kernel
theorem dX6_find_31 : decode cX6_find 31 = .ok (.iaload, 1) := by decide +kernel
theorem dX6_find_32 : decode cX6_find 32 = .ok (.putfield 44, 3) := by decide +kernel
theorem dX6_find_35 : decode cX6_find 35 = .ok (.aload_n 0, 1) := by decide +kernel
theorem dX6_find_36 : decode cX6_find 36 = .ok (.iconst 0, 1) := by decide +kernel
theorem dX6_find_37 : decode cX6_find 37 = .ok (.putfield 46, 3) := by decide +kernel
theorem dX6_find_40 : decode cX6_find 40 = .ok (.iconst 0, 1) := by decide +kernel
theorem dX6_find_41 : decode cX6_find 41 = .ok (.istore 5, 2) := by decide +kernel
theorem dX6_find_43 : decode cX6_find 43 = .ok (.iconst 0, 1) := by decide +kernel
theorem dX6_find_44 : decode cX6_find 44 = .ok (.istore 6, 2) := by decide +kernel
theorem dX6_find_46 : decode cX6_find 46 = .ok (.iload 6, 2) := by decide +kernel
theorem dX6_find_48 : decode cX6_find 48 = .ok (.aload_n 0, 1) := by decide +kernel
theorem dX6_find_49 : decode cX6_find 49 = .ok (.getfield 33, 3) := by decide +kernel
theorem dX6_find_52 : decode cX6_find 52 = .ok (.if_icmp .ge 40, 3) := by decide +kernel
theorem dX6_find_55 : decode cX6_find 55 = .ok (.aload_n 3, 1) := by decide +kernel
theorem dX6_find_56 : decode cX6_find 56 = .ok (.getfield 50, 3) := by decide +kernel
theorem dX6_find_59 : decode cX6_find 59 = .ok (.iload 6, 2) := by decide +kernel
theorem dX6_find_61 : decode cX6_find 61 = .ok (.iaload, 1) := by decide +kernel
theorem dX6_find_62 : decode cX6_find 62 = .ok (.istore 7, 2) := by decide +kernel
theorem dX6_find_64 : decode cX6_find 64 = .ok (.iload 5, 2) := by decide +kernel
theorem dX6_find_66 : decode cX6_find 66 = .ok (.iconst 1, 1) := by decide +kernel
theorem dX6_find_67 : decode cX6_find 67 = .ok (.iload 7, 2) := by decide +kernel
theorem dX6_find_69 : decode cX6_find 69 = .ok (.ishl, 1) := by decide +kernel
theorem dX6_find_70 : decode cX6_find 70 = .ok (.ior, 1) := by decide +kernel
theorem dX6_find_71 : decode cX6_find 71 = .ok (.istore 5, 2) := by decide +kernel
theorem dX6_find_73 : decode cX6_find 73 = .ok (.aload_n 0, 1) := by decide +kernel
theorem dX6_find_74 : decode cX6_find 74 = .ok (.getfield 18, 3) := by decide +kernel
theorem dX6_find_77 : decode cX6_find 77 = .ok (.iload 7, 2) := by decide +kernel
theorem dX6_find_79 : decode cX6_find 79 = .ok (.aload_n 2, 1) := by decide +kernel
theorem dX6_find_80 : decode cX6_find 80 = .ok (.iload 7, 2) := by decide +kernel
theorem dX6_find_82 : decode cX6_find 82 = .ok (.invokevirtual 53, 3) := by decide +kernel
theorem dX6_find_85 : decode cX6_find 85 = .ok (.iastore, 1) := by decide +kernel
theorem dX6_find_86 : decode cX6_find 86 = .ok (.iinc 6 1, 3) := by decide +kernel
theorem dX6_find_89 : decode cX6_find 89 = .ok (.goto (-43), 3) := by decide +kernel
theorem dX6_find_92 : decode cX6_find 92 = .ok (.aload_n 0, 1) := by decide +kernel
theorem dX6_find_93 : decode cX6_find 93 = .ok (.aload_n 1, 1) := by decide +kernel
theorem dX6_find_94 : decode cX6_find 94 = .ok (.iconst 0, 1) := by decide +kernel
theorem dX6_find_95 : decode cX6_find 95 = .ok (.iload 5, 2) := by decide +kernel
theorem dX6_find_97 : decode cX6_find 97 = .ok (.iconst 0, 1) := by decide +kernel
theorem dX6_find_98 : decode cX6_find 98 = .ok (.iconst 0, 1) := by decide +kernel
theorem dX6_find_99 : decode cX6_find 99 = .ok (.invokevirtual 59, 3) := by decide +kernel
theorem dX6_find_102 : decode cX6_find 102 = .ok (.aload_n 0, 1) := by decide +kernel
theorem dX6_find_103 : decode cX6_find 103 = .ok (.getfield 46, 3) := by decide +kernel
theorem dX6_find_106 : decode cX6_find 106 = .ok (.ireturn, 1) := by decide +kernel
theorem dJ7_fill_d0a16_0 : decode cJ7_fill_d0a16 0 = .ok (.iconst 0, 1) := by decide +kernel
theorem dJ7_fill_d0a16_1 : decode cJ7_fill_d0a16 1 = .ok (.istore_n 3, 1) := by decide +kernel
theorem dJ7_fill_d0a16_2 : decode cJ7_fill_d0a16 2 = .ok (.aload_n 0, 1) := by decide +kernel
theorem dJ7_fill_d0a16_3 : decode cJ7_fill_d0a16 3 = .ok (.arraylength, 1) := by decide +kernel
theorem dJ7_fill_d0a16_4 : decode cJ7_fill_d0a16 4 = .ok (.istore 4, 2) := by decide +kernel
theorem dJ7_fill_d0a16_6 : decode cJ7_fill_d0a16 6 = .ok (.iload_n 3, 1) := by decide +kernel
theorem dJ7_fill_d0a16_7 : decode cJ7_fill_d0a16 7 = .ok (.iload 4, 2) := by decide +kernel
theorem dJ7_fill_d0a16_9 : decode cJ7_fill_d0a16 9 = .ok (.if_icmp .ge 13, 3) := by decide +kernel
theorem dJ7_fill_d0a16_12 : decode cJ7_fill_d0a16 12 = .ok (.aload_n 0, 1) := by decide +kernel
theorem dJ7_fill_d0a16_13 : decode cJ7_fill_d0a16 13 = .ok (.iload_n 3, 1) := by decide +kernel
theorem dJ7_fill_d0a16_14 : decode cJ7_fill_d0a16 14 = .ok (.lload_n 1, 1) := by decide +kernel
theorem dJ7_fill_d0a16_15 : decode cJ7_fill_d0a16 15 = .ok (.lastore, 1) := by decide +kernel
theorem dJ7_fill_d0a16_16 : decode cJ7_fill_d0a16 16 = .ok (.iinc 3 1, 3) := by decide +kernel
theorem dJ7_fill_d0a16_19 : decode cJ7_fill_d0a16 19 = .ok (.goto (-13), 3) := by decide +kernel
theorem dJ7_fill_d0a16_22 : decode cJ7_fill_d0a16 22 = .ok (.return_, 1) := by decide +kernel
theorem dX2_power_0 : decode cX2_power 0 = .ok (.aload_n 0, 1) := by decide +kernel
theorem dX2_power_1 : decode cX2_power 1 = .ok (.getfield 9, 3) := by decide +kernel
theorem dX2_power_4 : decode cX2_power 4 = .ok (.lconst 0, 1) := by decide +kernel
theorem dX2_power_5 : decode cX2_power 5 = .ok (.invokestatic 13, 3) := by decide +kernel
theorem dX2_power_8 : decode cX2_power 8 = .ok (.aload_n 0, 1) := by decide +kernel
theorem dX2_power_9 : decode cX2_power 9 = .ok (.getfield 9, 3) := by decide +kernel
theorem dX2_power_12 : decode cX2_power 12 = .ok (.iconst 0, 1) := by decide +kernel
theorem dX2_power_13 : decode cX2_power 13 = .ok (.lconst 1, 1) := by decide +kernel
theorem dX2_power_14 : decode cX2_power 14 = .ok (.lastore, 1) := by decide +kernel
theorem dX2_power_15 : decode cX2_power 15 = .ok (.iconst 0, 1) := by decide +kernel
theorem dX2_power_16 : decode cX2_power 16 = .ok (.istore_n 3, 1) := by decide +kernel
theorem dX2_power_17 : decode cX2_power 17 = .ok (.iload_n 3, 1) := by decide +kernel
theorem dX2_power_18 : decode cX2_power 18 = .ok (.iload_n 2, 1) := by decide +kernel
theorem dX2_power_19 : decode cX2_power 19 = .ok (.if_icmp .ge 63, 3) := by decide +kernel
theorem dX2_power_22 : decode cX2_power 22 = .ok (.lconst 0, 1) := by decide +kernel
theorem dX2_power_23 : decode cX2_power 23 = .ok (.lstore 4, 2) := by decide +kernel
theorem dX2_power_25 : decode cX2_power 25 = .ok (.iconst 0, 1) := by decide +kernel
theorem dX2_power_26 : decode cX2_power 26 = .ok (.istore 6, 2) := by decide +kernel
theorem dX2_power_28 : decode cX2_power 28 = .ok (.iload 6, 2) := by decide +kernel
theorem dX2_power_30 : decode cX2_power 30 = .ok (.iconst 4, 1) := by decide +kernel
theorem dX2_power_31 : decode cX2_power 31 = .ok (.if_icmp .ge 45, 3) := by decide +kernel
theorem dX2_power_34 : decode cX2_power 34 = .ok (.aload_n 0, 1) := by decide +kernel
theorem dX2_power_35 : decode cX2_power 35 = .ok (.getfield 9, 3) := by decide +kernel
theorem dX2_power_38 : decode cX2_power 38 = .ok (.iload 6, 2) := by decide +kernel
theorem dX2_power_40 : decode cX2_power 40 = .ok (.laload, 1) := by decide +kernel
theorem dX2_power_41 : decode cX2_power 41 = .ok (.iload_n 1, 1) := by decide +kernel
theorem dX2_power_42 : decode cX2_power 42 = .ok (.i2l, 1) := by decide +kernel
theorem dX2_power_43 : decode cX2_power 43 = .ok (.lmul, 1) := by decide +kernel
theorem dX2_power_44 : decode cX2_power 44 = .ok (.lload 4, 2) := by decide +kernel
theorem dX2_power_46 : decode cX2_power 46 = .ok (.ladd, 1) := by decide +kernel
theorem dX2_power_47 : decode cX2_power 47 = .ok (.lstore 7, 2) := by decide +kernel
theorem dX2_power_49 : decode cX2_power 49 = .ok (.aload_n 0, 1) := by decide +kernel
theorem dX2_power_50 : decode cX2_power 50 = .ok (.getfield 9, 3) := by decide +kernel
theorem dX2_power_53 : decode cX2_power 53 = .ok (.iload 6, 2) := by decide +kernel
theorem dX2_power_55 : decode cX2_power 55 = .ok (.lload 7, 2) := by decide +kernel
theorem dX2_power_57 : decode cX2_power 57 = .ok (.ldc2_w 19, 3) := by decide +kernel
theorem dX2_power_60 : decode cX2_power 60 = .ok (.lrem, 1) := by decide +kernel
theorem dX2_power_61 : decode cX2_power 61 = .ok (.lastore, 1) := by decide +kernel
theorem dX2_power_62 : decode cX2_power 62 = .ok (.lload 7, 2) := by decide +kernel
theorem dX2_power_64 : decode cX2_power 64 = .ok (.ldc2_w 19, 3) := by decide +kernel
theorem dX2_power_67 : decode cX2_power 67 = .ok (.ldiv, 1) := by decide +kernel
theorem dX2_power_68 : decode cX2_power 68 = .ok (.lstore 4, 2) := by decide +kernel
theorem dX2_power_70 : decode cX2_power 70 = .ok (.iinc 6 1, 3) := by decide +kernel
theorem dX2_power_73 : decode cX2_power 73 = .ok (.goto (-45), 3) := by decide +kernel
theorem dX2_power_76 : decode cX2_power 76 = .ok (.iinc 3 1, 3) := by decide +kernel
theorem dX2_power_79 : decode cX2_power 79 = .ok (.goto (-62), 3) := by decide +kernel
theorem dX2_power_82 : decode cX2_power 82 = .ok (.return_, 1) := by decide +kernel
set_option maxHeartbeats 4000000 in
set_option maxRecDepth 100000 in
theorem c_X6_extend_z (l : Launch) (D : DG) (cyC cyI cyJ cyZ cyO : ClassId) (s0 : Nat) (s1 : Nat) (s2 : Nat) (s3 : Nat) (a0 : Nat) (a1 : Nat) (a2 : Nat) (a3 : Nat) (a4 : Nat) (a7 : Nat) (a5 : Nat) (a6 : Nat) (a8 : Nat) (a9 : Nat) (a10 : Nat) (p0 : Int32) (p2 : Int32) (p3 : Int32) (p4 : Int32) (s_cost : Int32) (s_found : Int32) (s_size : Int32) (s_height : Int32) (s_reach : Int32) (a_wares : Int32) (a_shelves : Int32) (a_nests : Int32) (a_lids : Int32) (a_tops : Int32) (s_order : Nat → Int32) (s_trial : Nat → Int32) (s_times : Nat → Int32) (a_wide : Nat → Int32) (a_deep : Nat → Int32) (a_weight : Nat → Int32) (a_bears : Nat → Int32) (a_mayOn : Nat → Int32) (h_s_found : 0 ≤ (s_found).toInt ∧ (s_found).toInt ≤ 1) (h_s_size : 0 ≤ (s_size).toInt ∧ (s_size).toInt ≤ 7) (h_a_wares : 0 ≤ (a_wares).toInt ∧ (a_wares).toInt ≤ 12) (h_a_shelves : 0 ≤ (a_shelves).toInt ∧ (a_shelves).toInt ≤ 4) (h_a_nests : 0 ≤ (a_nests).toInt ∧ (a_nests).toInt ≤ 4) (h_s_trial : Iv 7 (0) (11) s_trial) (hdp9 : (p0).toInt = 7 - ((0 : Nat) : Int)) : KK l D (TY cyC cyI cyJ cyZ cyO) yX6_extend cX6_extend 9 none ({ frames := 1, cells := 0, slots := 0, locals := 29 } : Room) 0 0 [.ref s0, .ref a0, .int p0, .int p2, .int p3, .int p4] [(s0, .inr (6, [.ref s1, .int s_cost, .int s_found, .int s_size, .int s_height, .int s_reach, .ref s2, .ref s3])), (s1, .inl (cyI, 7, .inl s_order)), (s2, .inl (cyI, 7, .inl s_trial)), (s3, .inl (cyI, 12, .inl s_times)), (a0, .inr (9, [.int a_wares, .int a_shelves, .int a_nests, .ref a1, .ref a2, .ref a3, .ref a4, .ref a5, .ref a6, .int a_lids, .int a_tops, .ref a7, .ref a8, .ref a9, .ref a10])), (a1, .inl (cyI, 12, .inl a_wide)), (a2, .inl (cyI, 12, .inl a_deep)), (a3, .inl (cyI, 12, .inl a_weight)), (a4, .inl (cyI, 12, .inl a_bears)), (a7, .inl (cyI, 12, .inl a_mayOn))] (fun u => none) (fun u => (0 ≤ (u.2.1 1).toInt ∧ (u.2.1 1).toInt ≤ 1) ∧ (Iv 7 (0) (11) (u.2.2.1 1))) (fun u => [(s0, .inr (6, [.ref s1, .int (u.2.1 0), .int (u.2.1 1), .int s_size, .int s_height, .int s_reach, .ref s2, .ref s3])), (s1, .inl (cyI, 7, .inl (u.2.2.1 0))), (s2, .inl (cyI, 7, .inl (u.2.2.1 1))), (s3, .inl (cyI, 12, .inl s_times)), (a0, .inr (9, [.int a_wares, .int a_shelves, .int a_nests, .ref a1, .ref a2, .ref a3, .ref a4, .ref a5, .ref a6, .int a_lids, .int a_tops, .ref a7, .ref a8, .ref a9, .ref a10])), (a1, .inl (cyI, 12, .inl a_wide)), (a2, .inl (cyI, 12, .inl a_deep)), (a3, .inl (cyI, 12, .inl a_weight)), (a4, .inl (cyI, 12, .inl a_bears)), (a7, .inl (cyI, 12, .inl a_mayOn))]) := by
  refine KK.of (lv0 := [(0, .ref s0), (1, .ref a0), (2, .int p0), (3, .int p2), (4, .int p3), (5, .int p4)]) (by decide) rfl (Nat.le_of_ble_eq_true rfl) ?_
  intro p e s m args below meth c A C hr hk hin
  refine j_iload_n (pc := 0) C dX6_extend_0 rfl 2 rfl ?_
  refine j_aload_n (pc := 1) C dX6_extend_1 rfl 0 rfl ?_
  refine j_get (pc := 2) (ci := 6) (v := .int s_size) C inw_6 0 rfl rfl 3 (by decide) wd_109 rfl rfl dX6_extend_2 ?_
  refine j_icmp_lt_f (pc := 5) (tgt := 9) C dX6_extend_5 (by decide) (by rw [i_lt]; omega) ?_
  exact j_vret (pc := 8) C hr hk (fun i => [].getD i 0, fun i => [s_cost, s_found].getD i 0, fun i => [s_order, s_trial].getD i (fun _ => 0), fun i => [].getD i (fun _ => 0)) rfl (show (0 ≤ (s_found).toInt ∧ (s_found).toInt ≤ 1) ∧ (Iv 7 (0) (11) s_trial) from ⟨h_s_found, h_s_trial⟩) [0, 1, 2, 3, 4, 5, 6, 7, 8, 9] (by decide) rfl (by decide) (by decide) dX6_extend_8
set_option maxHeartbeats 4000000 in
set_option maxRecDepth 100000 in
def S_c_X6_extend (n9 : Nat) : Prop := ∀ (l : Launch) (D : DG) (cyC cyI cyJ cyZ cyO : ClassId) (s0 : Nat) (s1 : Nat) (s2 : Nat) (s3 : Nat) (a0 : Nat) (a1 : Nat) (a2 : Nat) (a3 : Nat) (a4 : Nat) (a7 : Nat) (a5 : Nat) (a6 : Nat) (a8 : Nat) (a9 : Nat) (a10 : Nat) (p0 : Int32) (p2 : Int32) (p3 : Int32) (p4 : Int32) (s_cost : Int32) (s_found : Int32) (s_size : Int32) (s_height : Int32) (s_reach : Int32) (a_wares : Int32) (a_shelves : Int32) (a_nests : Int32) (a_lids : Int32) (a_tops : Int32) (s_order : Nat → Int32) (s_trial : Nat → Int32) (s_times : Nat → Int32) (a_wide : Nat → Int32) (a_deep : Nat → Int32) (a_weight : Nat → Int32) (a_bears : Nat → Int32) (a_mayOn : Nat → Int32) (h_s_found : 0 ≤ (s_found).toInt ∧ (s_found).toInt ≤ 1) (h_s_size : 0 ≤ (s_size).toInt ∧ (s_size).toInt ≤ 7) (h_a_wares : 0 ≤ (a_wares).toInt ∧ (a_wares).toInt ≤ 12) (h_a_shelves : 0 ≤ (a_shelves).toInt ∧ (a_shelves).toInt ≤ 4) (h_a_nests : 0 ≤ (a_nests).toInt ∧ (a_nests).toInt ≤ 4) (h_s_trial : Iv 7 (0) (11) s_trial) (hdp9 : (p0).toInt = 7 - ((n9 : Nat) : Int)), KK l D (TY cyC cyI cyJ cyZ cyO) yX6_extend cX6_extend 9 none ({ frames := 1 + 2 * n9, cells := 0, slots := 0, locals := 29 + 57 * n9 } : Room) 0 0 [.ref s0, .ref a0, .int p0, .int p2, .int p3, .int p4] [(s0, .inr (6, [.ref s1, .int s_cost, .int s_found, .int s_size, .int s_height, .int s_reach, .ref s2, .ref s3])), (s1, .inl (cyI, 7, .inl s_order)), (s2, .inl (cyI, 7, .inl s_trial)), (s3, .inl (cyI, 12, .inl s_times)), (a0, .inr (9, [.int a_wares, .int a_shelves, .int a_nests, .ref a1, .ref a2, .ref a3, .ref a4, .ref a5, .ref a6, .int a_lids, .int a_tops, .ref a7, .ref a8, .ref a9, .ref a10])), (a1, .inl (cyI, 12, .inl a_wide)), (a2, .inl (cyI, 12, .inl a_deep)), (a3, .inl (cyI, 12, .inl a_weight)), (a4, .inl (cyI, 12, .inl a_bears)), (a7, .inl (cyI, 12, .inl a_mayOn))] (fun u => none) (fun u => (0 ≤ (u.2.1 1).toInt ∧ (u.2.1 1).toInt ≤ 1) ∧ (Iv 7 (0) (11) (u.2.2.1 1))) (fun u => [(s0, .inr (6, [.ref s1, .int (u.2.1 0), .int (u.2.1 1), .int s_size, .int s_height, .int s_reach, .ref s2, .ref s3])), (s1, .inl (cyI, 7, .inl (u.2.2.1 0))), (s2, .inl (cyI, 7, .inl (u.2.2.1 1))), (s3, .inl (cyI, 12, .inl s_times)), (a0, .inr (9, [.int a_wares, .int a_shelves, .int a_nests, .ref a1, .ref a2, .ref a3, .ref a4, .ref a5, .ref a6, .int a_lids, .int a_tops, .ref a7, .ref a8, .ref a9, .ref a10])), (a1, .inl (cyI, 12, .inl a_wide)), (a2, .inl (cyI, 12, .inl a_deep)), (a3, .inl (cyI, 12, .inl a_weight)), (a4, .inl (cyI, 12, .inl a_bears)), (a7, .inl (cyI, 12, .inl a_mayOn))])
set_option maxHeartbeats 4000000 in
set_option maxRecDepth 100000 in
theorem c_X6_tryOn_s (l : Launch) (D : DG) (cyC cyI cyJ cyZ cyO : ClassId) (s0 : Nat) (s1 : Nat) (s2 : Nat) (s3 : Nat) (a0 : Nat) (a1 : Nat) (a2 : Nat) (a3 : Nat) (a4 : Nat) (a7 : Nat) (a5 : Nat) (a6 : Nat) (a8 : Nat) (a9 : Nat) (a10 : Nat) (p1 : Int32) (p0 : Int32) (p3 : Int32) (p4 : Int32) (p5 : Int32) (s_cost : Int32) (s_found : Int32) (s_size : Int32) (s_height : Int32) (s_reach : Int32) (a_wares : Int32) (a_shelves : Int32) (a_nests : Int32) (a_lids : Int32) (a_tops : Int32) (s_order : Nat → Int32) (s_trial : Nat → Int32) (s_times : Nat → Int32) (a_wide : Nat → Int32) (a_deep : Nat → Int32) (a_weight : Nat → Int32) (a_bears : Nat → Int32) (a_mayOn : Nat → Int32) (n9 : Nat) (h_s_found : 0 ≤ (s_found).toInt ∧ (s_found).toInt ≤ 1) (h_s_size : 0 ≤ (s_size).toInt ∧ (s_size).toInt ≤ 7) (h_a_wares : 0 ≤ (a_wares).toInt ∧ (a_wares).toInt ≤ 12) (h_a_shelves : 0 ≤ (a_shelves).toInt ∧ (a_shelves).toInt ≤ 4) (h_a_nests : 0 ≤ (a_nests).toInt ∧ (a_nests).toInt ≤ 4) (h_p1 : 0 ≤ (p1).toInt ∧ (p1).toInt ≤ 11) (h_s_trial : Iv 7 (0) (11) s_trial) (hdp9 : (p0).toInt = 7 - (((n9 + 1) : Nat) : Int)) (h9 : n9 < 7) (hA9 : S_c_X6_extend n9) : KK l D (TY cyC cyI cyJ cyZ cyO) yX6_tryOn cX6_tryOn 10 none ({ frames := 0 + 2 * (n9 + 1), cells := 0, slots := 0, locals := 0 + 57 * (n9 + 1) } : Room) 0 0 [.ref s0, .ref a0, .int p1, .int p0, .int p3, .int p4, .int p5] [(s0, .inr (6, [.ref s1, .int s_cost, .int s_found, .int s_size, .int s_height, .int s_reach, .ref s2, .ref s3])), (s1, .inl (cyI, 7, .inl s_order)), (s2, .inl (cyI, 7, .inl s_trial)), (s3, .inl (cyI, 12, .inl s_times)), (a0, .inr (9, [.int a_wares, .int a_shelves, .int a_nests, .ref a1, .ref a2, .ref a3, .ref a4, .ref a5, .ref a6, .int a_lids, .int a_tops, .ref a7, .ref a8, .ref a9, .ref a10])), (a1, .inl (cyI, 12, .inl a_wide)), (a2, .inl (cyI, 12, .inl a_deep)), (a3, .inl (cyI, 12, .inl a_weight)), (a4, .inl (cyI, 12, .inl a_bears)), (a7, .inl (cyI, 12, .inl a_mayOn))] (fun u => none) (fun u => (0 ≤ (u.2.1 1).toInt ∧ (u.2.1 1).toInt ≤ 1) ∧ (Iv 7 (0) (11) (u.2.2.1 1))) (fun u => [(s0, .inr (6, [.ref s1, .int (u.2.1 0), .int (u.2.1 1), .int s_size, .int s_height, .int s_reach, .ref s2, .ref s3])), (s1, .inl (cyI, 7, .inl (u.2.2.1 0))), (s2, .inl (cyI, 7, .inl (u.2.2.1 1))), (s3, .inl (cyI, 12, .inl s_times)), (a0, .inr (9, [.int a_wares, .int a_shelves, .int a_nests, .ref a1, .ref a2, .ref a3, .ref a4, .ref a5, .ref a6, .int a_lids, .int a_tops, .ref a7, .ref a8, .ref a9, .ref a10])), (a1, .inl (cyI, 12, .inl a_wide)), (a2, .inl (cyI, 12, .inl a_deep)), (a3, .inl (cyI, 12, .inl a_weight)), (a4, .inl (cyI, 12, .inl a_bears)), (a7, .inl (cyI, 12, .inl a_mayOn))]) := by
  refine KK.of (lv0 := [(0, .ref s0), (1, .ref a0), (2, .int p1), (3, .int p0), (4, .int p3), (5, .int p4), (6, .int p5)]) (by decide) rfl (Nat.le_of_ble_eq_true rfl) ?_
  intro p e s m args below meth c A C hr hk hin
  refine j_aload_n (pc := 0) C dX6_tryOn_0 rfl 1 rfl ?_
  refine j_iload (pc := 1) C dX6_tryOn_1 4 rfl ?_
  refine j_callV (pc := 3) (As := [.int p3]) (rest := []) (wr := [(s0, .inr (6, [.ref s1, .int s_cost, .int s_found, .int s_size, .int s_height, .int s_reach, .ref s2, .ref s3])), (s1, .inl (cyI, 7, .inl s_order)), (s2, .inl (cyI, 7, .inl s_trial)), (s3, .inl (cyI, 12, .inl s_times)), (a1, .inl (cyI, 12, .inl a_wide)), (a2, .inl (cyI, 12, .inl a_deep)), (a4, .inl (cyI, 12, .inl a_bears)), (a7, .inl (cyI, 12, .inl a_mayOn))]) C (c_X9_weightOf l D cyC cyI cyJ cyZ cyO a0 a3 a1 a2 a4 a5 a6 a7 a8 a9 a10 p3 a_wares a_shelves a_nests a_lids a_tops a_weight h_a_wares h_a_shelves h_a_nests) wd_110 wd_33 wd_111 wd_112 wd_113 ⟨by decide, by decide, rfl⟩ rfl ⟨rfl, rfl, (by show (0 : Nat) + 1 ≤ 0 + 2 * (n9 + 1); omega), (by show 8 + (4 + 11) + (0 : Nat) ≤ 0 + 57 * (n9 + 1); omega)⟩ ⟨Nat.le_of_ble_eq_true rfl, Nat.le_of_ble_eq_true rfl⟩ [4, 7] [0, 1, 2, 3, 5, 6, 8, 9] rfl rfl ⟨by decide, by decide, by decide⟩ 4 rfl rfl rfl (Nat.le_of_ble_eq_true rfl) dX6_tryOn_3 (fun u_1 hw_2 => ?_)
  refine j_eq (ws2 := [(s0, .inr (6, [.ref s1, .int s_cost, .int s_found, .int s_size, .int s_height, .int s_reach, .ref s2, .ref s3])), (s1, .inl (cyI, 7, .inl s_order)), (s2, .inl (cyI, 7, .inl s_trial)), (s3, .inl (cyI, 12, .inl s_times)), (a1, .inl (cyI, 12, .inl a_wide)), (a2, .inl (cyI, 12, .inl a_deep)), (a4, .inl (cyI, 12, .inl a_bears)), (a7, .inl (cyI, 12, .inl a_mayOn)), (a0, .inr (9, [.int a_wares, .int a_shelves, .int a_nests, .ref a1, .ref a2, .ref a3, .ref a4, .ref a5, .ref a6, .int a_lids, .int a_tops, .ref a7, .ref a8, .ref a9, .ref a10])), (a3, .inl (cyI, 12, .inl a_weight))]) (pc2 := 6) (lv2 := [(0, .ref s0), (1, .ref a0), (2, .int p1), (3, .int p0), (4, .int p3), (5, .int p4), (6, .int p5)]) (st2 := [.int (u_1.2.1 0)]) rfl rfl rfl rfl ?_
  refine j_istore (pc := 6) (lv' := [(7, .int (u_1.2.1 0)), (0, .ref s0), (1, .ref a0), (2, .int p1), (3, .int p0), (4, .int p3), (5, .int p4), (6, .int p5)]) C dX6_tryOn_6 (by decide) rfl ?_
  refine j_iload (pc := 8) C dX6_tryOn_8 0 rfl ?_
  refine j_aload_n (pc := 10) C dX6_tryOn_10 rfl 2 rfl ?_
  refine j_get (pc := 11) (ci := 9) (v := .ref a4) C inw_9 8 rfl rfl 6 (by decide) wd_114 rfl rfl dX6_tryOn_11 ?_
  refine j_iload_n (pc := 14) C dX6_tryOn_14 rfl 3 rfl ?_
  obtain ⟨v_3, ev_3⟩ : ∃ z, a_bears (p1).toInt.toNat = z := ⟨_, rfl⟩
  have env_3 : (a_bears (p1).toInt.toNat).toInt = v_3.toInt := by rw [ev_3]
  refine j_iald (pc := 15) (v := v_3) (k := (p1).toInt.toNat) C 6 1 rfl rfl (i_nn h_p1.1) rfl (i_lt_n h_p1.1 (Int.lt_of_le_of_lt h_p1.2 (by decide))) ev_3 dX6_tryOn_15 ?_
  refine j_icmp_gt (pc := 16) (tgt := 35) C dX6_tryOn_16 (by decide) (fun c_4 => ?_) (fun c_4 => ?_)
  · skip
    rw [i_lt] at c_4
    exact j_vret (pc := 35) C hr hk (fun i => [].getD i 0, fun i => [s_cost, s_found].getD i 0, fun i => [s_order, s_trial].getD i (fun _ => 0), fun i => [].getD i (fun _ => 0)) rfl (show (0 ≤ (s_found).toInt ∧ (s_found).toInt ≤ 1) ∧ (Iv 7 (0) (11) s_trial) from ⟨h_s_found, h_s_trial⟩) [0, 1, 2, 3, 8, 4, 5, 9, 6, 7] (by decide) rfl (by decide) (by decide) dX6_tryOn_35
  · skip
    rw [i_lt] at c_4
    refine j_iload (pc := 19) C dX6_tryOn_19 6 rfl ?_
    refine j_aload_n (pc := 21) C dX6_tryOn_21 rfl 2 rfl ?_
    refine j_get (pc := 22) (ci := 9) (v := .ref a2) C inw_9 8 rfl rfl 4 (by decide) wd_115 rfl rfl dX6_tryOn_22 ?_
    refine j_iload_n (pc := 25) C dX6_tryOn_25 rfl 3 rfl ?_
    obtain ⟨v_5, ev_5⟩ : ∃ z, a_deep (p1).toInt.toNat = z := ⟨_, rfl⟩
    have env_5 : (a_deep (p1).toInt.toNat).toInt = v_5.toInt := by rw [ev_5]
    refine j_iald (pc := 26) (v := v_5) (k := (p1).toInt.toNat) C 5 1 rfl rfl (i_nn h_p1.1) rfl (i_lt_n h_p1.1 (Int.lt_of_le_of_lt h_p1.2 (by decide))) ev_5 dX6_tryOn_26 ?_
    obtain ⟨v_6, ev_6⟩ : ∃ z : Int32, p4 + v_5 = z := ⟨_, rfl⟩
    refine j_iadd (pc := 27) (v := v_6) C dX6_tryOn_27 ev_6 ?_
    refine j_aload_n (pc := 28) C dX6_tryOn_28 rfl 1 rfl ?_
    refine j_get (pc := 29) (ci := 6) (v := .int s_height) C inw_6 0 rfl rfl 4 (by decide) wd_116 rfl rfl dX6_tryOn_29 ?_
    refine j_icmp_le (pc := 32) (tgt := 36) C dX6_tryOn_32 (by decide) (fun c_7 => ?_) (fun c_7 => ?_)
    · skip
      rw [i_le] at c_7
      refine j_aload_n (pc := 36) C dX6_tryOn_36 rfl 2 rfl ?_
      refine j_get (pc := 37) (ci := 9) (v := .ref a3) C inw_9 8 rfl rfl 5 (by decide) wd_117 rfl rfl dX6_tryOn_37 ?_
      refine j_iload_n (pc := 40) C dX6_tryOn_40 rfl 3 rfl ?_
      obtain ⟨v_8, ev_8⟩ : ∃ z, a_weight (p1).toInt.toNat = z := ⟨_, rfl⟩
      have env_8 : (a_weight (p1).toInt.toNat).toInt = v_8.toInt := by rw [ev_8]
      refine j_iald (pc := 41) (v := v_8) (k := (p1).toInt.toNat) C 9 1 rfl rfl (i_nn h_p1.1) rfl (i_lt_n h_p1.1 (Int.lt_of_le_of_lt h_p1.2 (by decide))) ev_8 dX6_tryOn_41 ?_
      refine j_aload_n (pc := 42) C dX6_tryOn_42 rfl 1 rfl ?_
      refine j_get (pc := 43) (ci := 6) (v := .int s_reach) C inw_6 0 rfl rfl 5 (by decide) wd_118 rfl rfl dX6_tryOn_43 ?_
      obtain ⟨v_9, ev_9⟩ : ∃ z : Int32, v_8 + s_reach = z := ⟨_, rfl⟩
      refine j_iadd (pc := 46) (v := v_9) C dX6_tryOn_46 ev_9 ?_
      refine j_iconst (pc := 47) (v := 2) C dX6_tryOn_47 (by decide) ?_
      refine j_iload (pc := 48) C dX6_tryOn_48 0 rfl ?_
      refine j_aload_n (pc := 50) C dX6_tryOn_50 rfl 1 rfl ?_
      refine j_get (pc := 51) (ci := 6) (v := .int s_reach) C inw_6 0 rfl rfl 5 (by decide) wd_118 rfl rfl dX6_tryOn_51 ?_
      refine j_aload_n (pc := 54) C dX6_tryOn_54 rfl 1 rfl ?_
      refine j_get (pc := 55) (ci := 6) (v := .int s_size) C inw_6 0 rfl rfl 3 (by decide) wd_109 rfl rfl dX6_tryOn_55 ?_
      refine j_iconst (pc := 58) (v := 1) C dX6_tryOn_58 (by decide) ?_
      obtain ⟨v_10, ev_10⟩ : ∃ z : Int32, s_size - 1 = z := ⟨_, rfl⟩
      have el_1 : (1 : Int32).toInt = 1 := rfl
      have hv_10 : v_10.toInt = s_size.toInt - (1 : Int32).toInt := by rw [← ev_10]; exact fb_subI (by omega) (by omega)
      refine j_isub (pc := 59) (v := v_10) C dX6_tryOn_59 ev_10 ?_
      refine j_iload_n (pc := 60) C dX6_tryOn_60 rfl 4 rfl ?_
      obtain ⟨v_11, ev_11⟩ : ∃ z : Int32, v_10 - p0 = z := ⟨_, rfl⟩
      have hv_11 : v_11.toInt = v_10.toInt - p0.toInt := by rw [← ev_11]; exact fb_subI (by omega) (by omega)
      refine j_isub (pc := 61) (v := v_11) C dX6_tryOn_61 ev_11 ?_
      obtain ⟨v_12, ev_12⟩ : ∃ z : Int32, s_reach * v_11 = z := ⟨_, rfl⟩
      refine j_imul (pc := 62) (v := v_12) C dX6_tryOn_62 ev_12 ?_
      obtain ⟨v_13, ev_13⟩ : ∃ z : Int32, (u_1.2.1 0) + v_12 = z := ⟨_, rfl⟩
      refine j_iadd (pc := 63) (v := v_13) C dX6_tryOn_63 ev_13 ?_
      obtain ⟨v_14, ev_14⟩ : ∃ z : Int32, 2 * v_13 = z := ⟨_, rfl⟩
      have el_2 : (2 : Int32).toInt = 2 := rfl
      refine j_imul (pc := 64) (v := v_14) C dX6_tryOn_64 ev_14 ?_
      obtain ⟨v_15, ev_15⟩ : ∃ z : Int32, v_9 + v_14 = z := ⟨_, rfl⟩
      refine j_iadd (pc := 65) (v := v_15) C dX6_tryOn_65 ev_15 ?_
      refine j_istore (pc := 66) (lv' := [(8, .int v_15), (7, .int (u_1.2.1 0)), (0, .ref s0), (1, .ref a0), (2, .int p1), (3, .int p0), (4, .int p3), (5, .int p4), (6, .int p5)]) C dX6_tryOn_66 (by decide) rfl ?_
      refine j_iload (pc := 68) C dX6_tryOn_68 8 rfl ?_
      refine j_aload_n (pc := 70) C dX6_tryOn_70 rfl 2 rfl ?_
      refine j_get (pc := 71) (ci := 6) (v := .ref s3) C inw_6 0 rfl rfl 7 (by decide) wd_119 rfl rfl dX6_tryOn_71 ?_
      refine j_iload_n (pc := 74) C dX6_tryOn_74 rfl 4 rfl ?_
      obtain ⟨v_16, ev_16⟩ : ∃ z, s_times (p1).toInt.toNat = z := ⟨_, rfl⟩
      have env_16 : (s_times (p1).toInt.toNat).toInt = v_16.toInt := by rw [ev_16]
      refine j_iald (pc := 75) (v := v_16) (k := (p1).toInt.toNat) C 3 1 rfl rfl (i_nn h_p1.1) rfl (i_lt_n h_p1.1 (Int.lt_of_le_of_lt h_p1.2 (by decide))) ev_16 dX6_tryOn_75 ?_
      refine j_iload (pc := 76) C dX6_tryOn_76 0 rfl ?_
      obtain ⟨v_17, ev_17⟩ : ∃ z : Int32, v_16 * v_15 = z := ⟨_, rfl⟩
      refine j_imul (pc := 78) (v := v_17) C dX6_tryOn_78 ev_17 ?_
      obtain ⟨v_18, ev_18⟩ : ∃ z : Int32, p5 + v_17 = z := ⟨_, rfl⟩
      refine j_iadd (pc := 79) (v := v_18) C dX6_tryOn_79 ev_18 ?_
      refine j_istore (pc := 80) (lv' := [(9, .int v_18), (8, .int v_15), (7, .int (u_1.2.1 0)), (0, .ref s0), (1, .ref a0), (2, .int p1), (3, .int p0), (4, .int p3), (5, .int p4), (6, .int p5)]) C dX6_tryOn_80 (by decide) rfl ?_
      refine j_aload_n (pc := 82) C dX6_tryOn_82 rfl 3 rfl ?_
      refine j_get (pc := 83) (ci := 6) (v := .int s_found) C inw_6 0 rfl rfl 2 (by decide) wd_120 rfl rfl dX6_tryOn_83 ?_
      refine j_if_eq (pc := 86) (tgt := 99) C dX6_tryOn_86 (by decide) (fun c_19 => ?_) (fun c_19 => ?_)
      · skip
        have el_0 : (0 : Int32).toInt = 0 := rfl
        rw [i_eq] at c_19
        refine j_aload_n (pc := 99) C dX6_tryOn_99 rfl 3 rfl ?_
        refine j_get (pc := 100) (ci := 6) (v := .ref s2) C inw_6 0 rfl rfl 6 (by decide) wd_121 rfl rfl dX6_tryOn_100 ?_
        refine j_iload_n (pc := 103) C dX6_tryOn_103 rfl 6 rfl ?_
        refine j_iload_n (pc := 104) C dX6_tryOn_104 rfl 5 rfl ?_
        obtain ⟨f_20, ef_20⟩ : ∃ z, z = upd s_trial (p0).toInt.toNat p1 := ⟨_, rfl⟩
        have hf_20 : Iv 7 (0) (11) f_20 := by rw [ef_20]; exact Iv.upd h_s_trial (by omega) (by omega)
        refine j_iast (pc := 105) (k := (p0).toInt.toNat) (ws' := [(s0, .inr (6, [.ref s1, .int s_cost, .int s_found, .int s_size, .int s_height, .int s_reach, .ref s2, .ref s3])), (s1, .inl (cyI, 7, .inl s_order)), (s2, .inl (cyI, 7, .inl f_20)), (s3, .inl (cyI, 12, .inl s_times)), (a1, .inl (cyI, 12, .inl a_wide)), (a2, .inl (cyI, 12, .inl a_deep)), (a4, .inl (cyI, 12, .inl a_bears)), (a7, .inl (cyI, 12, .inl a_mayOn)), (a0, .inr (9, [.int a_wares, .int a_shelves, .int a_nests, .ref a1, .ref a2, .ref a3, .ref a4, .ref a5, .ref a6, .int a_lids, .int a_tops, .ref a7, .ref a8, .ref a9, .ref a10])), (a3, .inl (cyI, 12, .inl a_weight))]) C 2 1 rfl rfl (i_nn (by omega)) rfl (i_lt_n (by omega) (by omega)) dX6_tryOn_105 (by rw [ef_20]; rfl) ?_
        refine j_iload (pc := 106) C dX6_tryOn_106 7 rfl ?_
        refine j_if_ne (pc := 108) (tgt := 142) C dX6_tryOn_108 (by decide) (fun c_21 => ?_) (fun c_21 => ?_)
        · skip
          have el_0 : (0 : Int32).toInt = 0 := rfl
          rw [i_eq] at c_21
          refine j_aload_n (pc := 142) C dX6_tryOn_142 rfl 3 rfl ?_
          refine j_aload_n (pc := 143) C dX6_tryOn_143 rfl 4 rfl ?_
          refine j_iload_n (pc := 144) C dX6_tryOn_144 rfl 6 rfl ?_
          refine j_iconst (pc := 145) (v := 1) C dX6_tryOn_145 (by decide) ?_
          obtain ⟨v_22, ev_22⟩ : ∃ z : Int32, p0 + 1 = z := ⟨_, rfl⟩
          have el_1 : (1 : Int32).toInt = 1 := rfl
          have hv_22 : v_22.toInt = p0.toInt + (1 : Int32).toInt := by rw [← ev_22]; exact fb_addI (by omega) (by omega)
          refine j_iadd (pc := 146) (v := v_22) C dX6_tryOn_146 ev_22 ?_
          refine j_iload (pc := 147) C dX6_tryOn_147 7 rfl ?_
          refine j_iload (pc := 149) C dX6_tryOn_149 8 rfl ?_
          refine j_iload (pc := 151) C dX6_tryOn_151 0 rfl ?_
          refine j_callV (pc := 153) (As := [.ref a0, .int v_22, .int p3, .int p4, .int v_18]) (rest := []) (wr := []) C (hA9 l D cyC cyI cyJ cyZ cyO s0 s1 s2 s3 a0 a1 a2 a3 a4 a7 a5 a6 a8 a9 a10 v_22 p3 p4 v_18 s_cost s_found s_size s_height s_reach a_wares a_shelves a_nests a_lids a_tops s_order f_20 s_times a_wide a_deep a_weight a_bears a_mayOn h_s_found h_s_size h_a_wares h_a_shelves h_a_nests hf_20 (by omega)) wd_122 wd_123 wd_124 wd_125 wd_126 ⟨by decide, by decide, rfl⟩ rfl ⟨rfl, rfl, (by show (1 + 2 * n9 : Nat) + 1 ≤ 0 + 2 * (n9 + 1); omega), (by show 8 + (9 + 11) + (29 + 57 * n9 : Nat) ≤ 0 + 57 * (n9 + 1); omega)⟩ ⟨Nat.le_of_ble_eq_true rfl, Nat.le_of_ble_eq_true rfl⟩ [0, 1, 2, 3, 8, 4, 5, 9, 6, 7] [] rfl rfl ⟨by decide, by decide, by decide⟩ 0 rfl rfl rfl (Nat.le_of_ble_eq_true rfl) dX6_tryOn_153 (fun u_23 hw_24 => ?_)
          refine j_eq (ws2 := [(s0, .inr (6, [.ref s1, .int (u_23.2.1 0), .int (u_23.2.1 1), .int s_size, .int s_height, .int s_reach, .ref s2, .ref s3])), (s1, .inl (cyI, 7, .inl (u_23.2.2.1 0))), (s2, .inl (cyI, 7, .inl (u_23.2.2.1 1))), (s3, .inl (cyI, 12, .inl s_times)), (a0, .inr (9, [.int a_wares, .int a_shelves, .int a_nests, .ref a1, .ref a2, .ref a3, .ref a4, .ref a5, .ref a6, .int a_lids, .int a_tops, .ref a7, .ref a8, .ref a9, .ref a10])), (a1, .inl (cyI, 12, .inl a_wide)), (a2, .inl (cyI, 12, .inl a_deep)), (a3, .inl (cyI, 12, .inl a_weight)), (a4, .inl (cyI, 12, .inl a_bears)), (a7, .inl (cyI, 12, .inl a_mayOn))]) (pc2 := 156) (lv2 := [(9, .int v_18), (8, .int v_15), (7, .int (u_1.2.1 0)), (0, .ref s0), (1, .ref a0), (2, .int p1), (3, .int p0), (4, .int p3), (5, .int p4), (6, .int p5)]) (st2 := []) rfl rfl rfl rfl ?_
          obtain ⟨hw_24_0, hw_24_1⟩ := hw_24
          exact j_vret (pc := 156) C hr hk (fun i => [].getD i 0, fun i => [(u_23.2.1 0), (u_23.2.1 1)].getD i 0, fun i => [(u_23.2.2.1 0), (u_23.2.2.1 1)].getD i (fun _ => 0), fun i => [].getD i (fun _ => 0)) rfl (show (0 ≤ ((u_23.2.1 1)).toInt ∧ ((u_23.2.1 1)).toInt ≤ 1) ∧ (Iv 7 (0) (11) (u_23.2.2.1 1)) from ⟨hw_24_0, hw_24_1⟩) [0, 1, 2, 3, 4, 5, 6, 7, 8, 9] (by decide) rfl (by decide) (by decide) dX6_tryOn_156
        · skip
          have el_0 : (0 : Int32).toInt = 0 := rfl
          rw [i_eq] at c_21
          refine j_aload_n (pc := 111) C dX6_tryOn_111 rfl 3 rfl ?_
          refine j_iconst (pc := 112) (v := 1) C dX6_tryOn_112 (by decide) ?_
          refine j_put (pc := 113) (ci := 6) (v := .int 1) (ws' := [(s0, .inr (6, [.ref s1, .int s_cost, .int 1, .int s_size, .int s_height, .int s_reach, .ref s2, .ref s3])), (s1, .inl (cyI, 7, .inl s_order)), (s2, .inl (cyI, 7, .inl f_20)), (s3, .inl (cyI, 12, .inl s_times)), (a1, .inl (cyI, 12, .inl a_wide)), (a2, .inl (cyI, 12, .inl a_deep)), (a4, .inl (cyI, 12, .inl a_bears)), (a7, .inl (cyI, 12, .inl a_mayOn)), (a0, .inr (9, [.int a_wares, .int a_shelves, .int a_nests, .ref a1, .ref a2, .ref a3, .ref a4, .ref a5, .ref a6, .int a_lids, .int a_tops, .ref a7, .ref a8, .ref a9, .ref a10])), (a3, .inl (cyI, 12, .inl a_weight))]) C inw_6 0 rfl rfl 2 (by decide) wd_120 rfl tyX6_ok nmX6 rfl (tyX6_ok 2 (by decide)) rfl rfl (Nat.le_of_ble_eq_true rfl) dX6_tryOn_113 rfl ?_
          refine j_aload_n (pc := 116) C dX6_tryOn_116 rfl 3 rfl ?_
          refine j_iload (pc := 117) C dX6_tryOn_117 0 rfl ?_
          refine j_put (pc := 119) (ci := 6) (v := .int v_18) (ws' := [(s0, .inr (6, [.ref s1, .int v_18, .int 1, .int s_size, .int s_height, .int s_reach, .ref s2, .ref s3])), (s1, .inl (cyI, 7, .inl s_order)), (s2, .inl (cyI, 7, .inl f_20)), (s3, .inl (cyI, 12, .inl s_times)), (a1, .inl (cyI, 12, .inl a_wide)), (a2, .inl (cyI, 12, .inl a_deep)), (a4, .inl (cyI, 12, .inl a_bears)), (a7, .inl (cyI, 12, .inl a_mayOn)), (a0, .inr (9, [.int a_wares, .int a_shelves, .int a_nests, .ref a1, .ref a2, .ref a3, .ref a4, .ref a5, .ref a6, .int a_lids, .int a_tops, .ref a7, .ref a8, .ref a9, .ref a10])), (a3, .inl (cyI, 12, .inl a_weight))]) C inw_6 0 rfl rfl 1 (by decide) wd_127 rfl tyX6_ok nmX6 rfl (tyX6_ok 1 (by decide)) rfl rfl (Nat.le_of_ble_eq_true rfl) dX6_tryOn_119 rfl ?_
          refine j_aload_n (pc := 122) C dX6_tryOn_122 rfl 3 rfl ?_
          refine j_get (pc := 123) (ci := 6) (v := .ref s2) C inw_6 0 rfl rfl 6 (by decide) wd_121 rfl rfl dX6_tryOn_123 ?_
          refine j_iconst (pc := 126) (v := 0) C dX6_tryOn_126 (by decide) ?_
          refine j_aload_n (pc := 127) C dX6_tryOn_127 rfl 3 rfl ?_
          refine j_get (pc := 128) (ci := 6) (v := .ref s1) C inw_6 0 rfl rfl 0 (by decide) wd_128 rfl rfl dX6_tryOn_128 ?_
          refine j_iconst (pc := 131) (v := 0) C dX6_tryOn_131 (by decide) ?_
          refine j_aload_n (pc := 132) C dX6_tryOn_132 rfl 3 rfl ?_
          refine j_get (pc := 133) (ci := 6) (v := .int s_size) C inw_6 0 rfl rfl 3 (by decide) wd_109 rfl rfl dX6_tryOn_133 ?_
          obtain ⟨f_25, ef_25⟩ : ∃ z, z = va_cpy f_20 s_order 0 0 (s_size).toInt.toNat := ⟨_, rfl⟩
          refine j_acpy (pc := 136) (ks := 0) (kd := 0) (kn := (s_size).toInt.toNat) (ws' := [(s0, .inr (6, [.ref s1, .int v_18, .int 1, .int s_size, .int s_height, .int s_reach, .ref s2, .ref s3])), (s1, .inl (cyI, 7, .inl f_25)), (s2, .inl (cyI, 7, .inl f_20)), (s3, .inl (cyI, 12, .inl s_times)), (a1, .inl (cyI, 12, .inl a_wide)), (a2, .inl (cyI, 12, .inl a_deep)), (a4, .inl (cyI, 12, .inl a_bears)), (a7, .inl (cyI, 12, .inl a_mayOn)), (a0, .inr (9, [.int a_wares, .int a_shelves, .int a_nests, .ref a1, .ref a2, .ref a3, .ref a4, .ref a5, .ref a6, .int a_lids, .int a_tops, .ref a7, .ref a8, .ref a9, .ref a10])), (a3, .inl (cyI, 12, .inl a_weight))]) C wd_129 wd_25 wd_26 wd_27 2 1 1 rfl rfl rfl (by decide) (by decide) (i_nn (by omega)) (by decide) (by decide) rfl (by omega) (by omega) (by show 1 ≤ (0 + 2 * (n9 + 1) : Nat); omega) (Nat.le_trans (m := 18) (Nat.le_of_ble_eq_true rfl) (by show 18 ≤ (0 + 57 * (n9 + 1) : Nat); omega)) dX6_tryOn_136 (by rw [ef_25]; rfl) ?_
          refine j_goto (pc := 139) (tgt := 156) C dX6_tryOn_139 (by decide) ?_
          have el_1 : (1 : Int32).toInt = 1 := rfl
          exact j_vret (pc := 156) C hr hk (fun i => [].getD i 0, fun i => [v_18, 1].getD i 0, fun i => [f_25, f_20].getD i (fun _ => 0), fun i => [].getD i (fun _ => 0)) rfl (show (0 ≤ ((1 : Int32)).toInt ∧ ((1 : Int32)).toInt ≤ 1) ∧ (Iv 7 (0) (11) f_20) from ⟨by omega, hf_20⟩) [0, 1, 2, 3, 8, 4, 5, 9, 6, 7] (by decide) rfl (by decide) (by decide) dX6_tryOn_156
      · skip
        have el_0 : (0 : Int32).toInt = 0 := rfl
        rw [i_eq] at c_19
        have k0c_19 : s_found.toInt = 1 := by omega
        refine j_iload (pc := 89) C dX6_tryOn_89 0 rfl ?_
        refine j_aload_n (pc := 91) C dX6_tryOn_91 rfl 3 rfl ?_
        refine j_get (pc := 92) (ci := 6) (v := .int s_cost) C inw_6 0 rfl rfl 1 (by decide) wd_127 rfl rfl dX6_tryOn_92 ?_
        refine j_icmp_lt (pc := 95) (tgt := 99) C dX6_tryOn_95 (by decide) (fun c_26 => ?_) (fun c_26 => ?_)
        · skip
          rw [i_lt] at c_26
          refine j_aload_n (pc := 99) C dX6_tryOn_99 rfl 3 rfl ?_
          refine j_get (pc := 100) (ci := 6) (v := .ref s2) C inw_6 0 rfl rfl 6 (by decide) wd_121 rfl rfl dX6_tryOn_100 ?_
          refine j_iload_n (pc := 103) C dX6_tryOn_103 rfl 6 rfl ?_
          refine j_iload_n (pc := 104) C dX6_tryOn_104 rfl 5 rfl ?_
          obtain ⟨f_27, ef_27⟩ : ∃ z, z = upd s_trial (p0).toInt.toNat p1 := ⟨_, rfl⟩
          have hf_27 : Iv 7 (0) (11) f_27 := by rw [ef_27]; exact Iv.upd h_s_trial (by omega) (by omega)
          refine j_iast (pc := 105) (k := (p0).toInt.toNat) (ws' := [(s0, .inr (6, [.ref s1, .int s_cost, .int s_found, .int s_size, .int s_height, .int s_reach, .ref s2, .ref s3])), (s1, .inl (cyI, 7, .inl s_order)), (s2, .inl (cyI, 7, .inl f_27)), (s3, .inl (cyI, 12, .inl s_times)), (a1, .inl (cyI, 12, .inl a_wide)), (a2, .inl (cyI, 12, .inl a_deep)), (a4, .inl (cyI, 12, .inl a_bears)), (a7, .inl (cyI, 12, .inl a_mayOn)), (a0, .inr (9, [.int a_wares, .int a_shelves, .int a_nests, .ref a1, .ref a2, .ref a3, .ref a4, .ref a5, .ref a6, .int a_lids, .int a_tops, .ref a7, .ref a8, .ref a9, .ref a10])), (a3, .inl (cyI, 12, .inl a_weight))]) C 2 1 rfl rfl (i_nn (by omega)) rfl (i_lt_n (by omega) (by omega)) dX6_tryOn_105 (by rw [ef_27]; rfl) ?_
          refine j_iload (pc := 106) C dX6_tryOn_106 7 rfl ?_
          refine j_if_ne (pc := 108) (tgt := 142) C dX6_tryOn_108 (by decide) (fun c_28 => ?_) (fun c_28 => ?_)
          · skip
            have el_0 : (0 : Int32).toInt = 0 := rfl
            rw [i_eq] at c_28
            refine j_aload_n (pc := 142) C dX6_tryOn_142 rfl 3 rfl ?_
            refine j_aload_n (pc := 143) C dX6_tryOn_143 rfl 4 rfl ?_
            refine j_iload_n (pc := 144) C dX6_tryOn_144 rfl 6 rfl ?_
            refine j_iconst (pc := 145) (v := 1) C dX6_tryOn_145 (by decide) ?_
            obtain ⟨v_29, ev_29⟩ : ∃ z : Int32, p0 + 1 = z := ⟨_, rfl⟩
            have el_1 : (1 : Int32).toInt = 1 := rfl
            have hv_29 : v_29.toInt = p0.toInt + (1 : Int32).toInt := by rw [← ev_29]; exact fb_addI (by omega) (by omega)
            refine j_iadd (pc := 146) (v := v_29) C dX6_tryOn_146 ev_29 ?_
            refine j_iload (pc := 147) C dX6_tryOn_147 7 rfl ?_
            refine j_iload (pc := 149) C dX6_tryOn_149 8 rfl ?_
            refine j_iload (pc := 151) C dX6_tryOn_151 0 rfl ?_
            refine j_callV (pc := 153) (As := [.ref a0, .int v_29, .int p3, .int p4, .int v_18]) (rest := []) (wr := []) C (hA9 l D cyC cyI cyJ cyZ cyO s0 s1 s2 s3 a0 a1 a2 a3 a4 a7 a5 a6 a8 a9 a10 v_29 p3 p4 v_18 s_cost s_found s_size s_height s_reach a_wares a_shelves a_nests a_lids a_tops s_order f_27 s_times a_wide a_deep a_weight a_bears a_mayOn h_s_found h_s_size h_a_wares h_a_shelves h_a_nests hf_27 (by omega)) wd_122 wd_123 wd_124 wd_125 wd_126 ⟨by decide, by decide, rfl⟩ rfl ⟨rfl, rfl, (by show (1 + 2 * n9 : Nat) + 1 ≤ 0 + 2 * (n9 + 1); omega), (by show 8 + (9 + 11) + (29 + 57 * n9 : Nat) ≤ 0 + 57 * (n9 + 1); omega)⟩ ⟨Nat.le_of_ble_eq_true rfl, Nat.le_of_ble_eq_true rfl⟩ [0, 1, 2, 3, 8, 4, 5, 9, 6, 7] [] rfl rfl ⟨by decide, by decide, by decide⟩ 0 rfl rfl rfl (Nat.le_of_ble_eq_true rfl) dX6_tryOn_153 (fun u_30 hw_31 => ?_)
            refine j_eq (ws2 := [(s0, .inr (6, [.ref s1, .int (u_30.2.1 0), .int (u_30.2.1 1), .int s_size, .int s_height, .int s_reach, .ref s2, .ref s3])), (s1, .inl (cyI, 7, .inl (u_30.2.2.1 0))), (s2, .inl (cyI, 7, .inl (u_30.2.2.1 1))), (s3, .inl (cyI, 12, .inl s_times)), (a0, .inr (9, [.int a_wares, .int a_shelves, .int a_nests, .ref a1, .ref a2, .ref a3, .ref a4, .ref a5, .ref a6, .int a_lids, .int a_tops, .ref a7, .ref a8, .ref a9, .ref a10])), (a1, .inl (cyI, 12, .inl a_wide)), (a2, .inl (cyI, 12, .inl a_deep)), (a3, .inl (cyI, 12, .inl a_weight)), (a4, .inl (cyI, 12, .inl a_bears)), (a7, .inl (cyI, 12, .inl a_mayOn))]) (pc2 := 156) (lv2 := [(9, .int v_18), (8, .int v_15), (7, .int (u_1.2.1 0)), (0, .ref s0), (1, .ref a0), (2, .int p1), (3, .int p0), (4, .int p3), (5, .int p4), (6, .int p5)]) (st2 := []) rfl rfl rfl rfl ?_
            obtain ⟨hw_31_0, hw_31_1⟩ := hw_31
            exact j_vret (pc := 156) C hr hk (fun i => [].getD i 0, fun i => [(u_30.2.1 0), (u_30.2.1 1)].getD i 0, fun i => [(u_30.2.2.1 0), (u_30.2.2.1 1)].getD i (fun _ => 0), fun i => [].getD i (fun _ => 0)) rfl (show (0 ≤ ((u_30.2.1 1)).toInt ∧ ((u_30.2.1 1)).toInt ≤ 1) ∧ (Iv 7 (0) (11) (u_30.2.2.1 1)) from ⟨hw_31_0, hw_31_1⟩) [0, 1, 2, 3, 4, 5, 6, 7, 8, 9] (by decide) rfl (by decide) (by decide) dX6_tryOn_156
          · skip
            have el_0 : (0 : Int32).toInt = 0 := rfl
            rw [i_eq] at c_28
            refine j_aload_n (pc := 111) C dX6_tryOn_111 rfl 3 rfl ?_
            refine j_iconst (pc := 112) (v := 1) C dX6_tryOn_112 (by decide) ?_
            refine j_put (pc := 113) (ci := 6) (v := .int 1) (ws' := [(s0, .inr (6, [.ref s1, .int s_cost, .int 1, .int s_size, .int s_height, .int s_reach, .ref s2, .ref s3])), (s1, .inl (cyI, 7, .inl s_order)), (s2, .inl (cyI, 7, .inl f_27)), (s3, .inl (cyI, 12, .inl s_times)), (a1, .inl (cyI, 12, .inl a_wide)), (a2, .inl (cyI, 12, .inl a_deep)), (a4, .inl (cyI, 12, .inl a_bears)), (a7, .inl (cyI, 12, .inl a_mayOn)), (a0, .inr (9, [.int a_wares, .int a_shelves, .int a_nests, .ref a1, .ref a2, .ref a3, .ref a4, .ref a5, .ref a6, .int a_lids, .int a_tops, .ref a7, .ref a8, .ref a9, .ref a10])), (a3, .inl (cyI, 12, .inl a_weight))]) C inw_6 0 rfl rfl 2 (by decide) wd_120 rfl tyX6_ok nmX6 rfl (tyX6_ok 2 (by decide)) rfl rfl (Nat.le_of_ble_eq_true rfl) dX6_tryOn_113 rfl ?_
            refine j_aload_n (pc := 116) C dX6_tryOn_116 rfl 3 rfl ?_
            refine j_iload (pc := 117) C dX6_tryOn_117 0 rfl ?_
            refine j_put (pc := 119) (ci := 6) (v := .int v_18) (ws' := [(s0, .inr (6, [.ref s1, .int v_18, .int 1, .int s_size, .int s_height, .int s_reach, .ref s2, .ref s3])), (s1, .inl (cyI, 7, .inl s_order)), (s2, .inl (cyI, 7, .inl f_27)), (s3, .inl (cyI, 12, .inl s_times)), (a1, .inl (cyI, 12, .inl a_wide)), (a2, .inl (cyI, 12, .inl a_deep)), (a4, .inl (cyI, 12, .inl a_bears)), (a7, .inl (cyI, 12, .inl a_mayOn)), (a0, .inr (9, [.int a_wares, .int a_shelves, .int a_nests, .ref a1, .ref a2, .ref a3, .ref a4, .ref a5, .ref a6, .int a_lids, .int a_tops, .ref a7, .ref a8, .ref a9, .ref a10])), (a3, .inl (cyI, 12, .inl a_weight))]) C inw_6 0 rfl rfl 1 (by decide) wd_127 rfl tyX6_ok nmX6 rfl (tyX6_ok 1 (by decide)) rfl rfl (Nat.le_of_ble_eq_true rfl) dX6_tryOn_119 rfl ?_
            refine j_aload_n (pc := 122) C dX6_tryOn_122 rfl 3 rfl ?_
            refine j_get (pc := 123) (ci := 6) (v := .ref s2) C inw_6 0 rfl rfl 6 (by decide) wd_121 rfl rfl dX6_tryOn_123 ?_
            refine j_iconst (pc := 126) (v := 0) C dX6_tryOn_126 (by decide) ?_
            refine j_aload_n (pc := 127) C dX6_tryOn_127 rfl 3 rfl ?_
            refine j_get (pc := 128) (ci := 6) (v := .ref s1) C inw_6 0 rfl rfl 0 (by decide) wd_128 rfl rfl dX6_tryOn_128 ?_
            refine j_iconst (pc := 131) (v := 0) C dX6_tryOn_131 (by decide) ?_
            refine j_aload_n (pc := 132) C dX6_tryOn_132 rfl 3 rfl ?_
            refine j_get (pc := 133) (ci := 6) (v := .int s_size) C inw_6 0 rfl rfl 3 (by decide) wd_109 rfl rfl dX6_tryOn_133 ?_
            obtain ⟨f_32, ef_32⟩ : ∃ z, z = va_cpy f_27 s_order 0 0 (s_size).toInt.toNat := ⟨_, rfl⟩
            refine j_acpy (pc := 136) (ks := 0) (kd := 0) (kn := (s_size).toInt.toNat) (ws' := [(s0, .inr (6, [.ref s1, .int v_18, .int 1, .int s_size, .int s_height, .int s_reach, .ref s2, .ref s3])), (s1, .inl (cyI, 7, .inl f_32)), (s2, .inl (cyI, 7, .inl f_27)), (s3, .inl (cyI, 12, .inl s_times)), (a1, .inl (cyI, 12, .inl a_wide)), (a2, .inl (cyI, 12, .inl a_deep)), (a4, .inl (cyI, 12, .inl a_bears)), (a7, .inl (cyI, 12, .inl a_mayOn)), (a0, .inr (9, [.int a_wares, .int a_shelves, .int a_nests, .ref a1, .ref a2, .ref a3, .ref a4, .ref a5, .ref a6, .int a_lids, .int a_tops, .ref a7, .ref a8, .ref a9, .ref a10])), (a3, .inl (cyI, 12, .inl a_weight))]) C wd_129 wd_25 wd_26 wd_27 2 1 1 rfl rfl rfl (by decide) (by decide) (i_nn (by omega)) (by decide) (by decide) rfl (by omega) (by omega) (by show 1 ≤ (0 + 2 * (n9 + 1) : Nat); omega) (Nat.le_trans (m := 18) (Nat.le_of_ble_eq_true rfl) (by show 18 ≤ (0 + 57 * (n9 + 1) : Nat); omega)) dX6_tryOn_136 (by rw [ef_32]; rfl) ?_
            refine j_goto (pc := 139) (tgt := 156) C dX6_tryOn_139 (by decide) ?_
            have el_1 : (1 : Int32).toInt = 1 := rfl
            exact j_vret (pc := 156) C hr hk (fun i => [].getD i 0, fun i => [v_18, 1].getD i 0, fun i => [f_32, f_27].getD i (fun _ => 0), fun i => [].getD i (fun _ => 0)) rfl (show (0 ≤ ((1 : Int32)).toInt ∧ ((1 : Int32)).toInt ≤ 1) ∧ (Iv 7 (0) (11) f_27) from ⟨by omega, hf_27⟩) [0, 1, 2, 3, 8, 4, 5, 9, 6, 7] (by decide) rfl (by decide) (by decide) dX6_tryOn_156
        · skip
          rw [i_lt] at c_26
          exact j_vret (pc := 98) C hr hk (fun i => [].getD i 0, fun i => [s_cost, s_found].getD i 0, fun i => [s_order, s_trial].getD i (fun _ => 0), fun i => [].getD i (fun _ => 0)) rfl (show (0 ≤ (s_found).toInt ∧ (s_found).toInt ≤ 1) ∧ (Iv 7 (0) (11) s_trial) from ⟨h_s_found, h_s_trial⟩) [0, 1, 2, 3, 8, 4, 5, 9, 6, 7] (by decide) rfl (by decide) (by decide) dX6_tryOn_98
    · skip
      rw [i_le] at c_7
      exact j_vret (pc := 35) C hr hk (fun i => [].getD i 0, fun i => [s_cost, s_found].getD i 0, fun i => [s_order, s_trial].getD i (fun _ => 0), fun i => [].getD i (fun _ => 0)) rfl (show (0 ≤ (s_found).toInt ∧ (s_found).toInt ≤ 1) ∧ (Iv 7 (0) (11) s_trial) from ⟨h_s_found, h_s_trial⟩) [0, 1, 2, 3, 8, 4, 5, 9, 6, 7] (by decide) rfl (by decide) (by decide) dX6_tryOn_35
set_option maxHeartbeats 4000000 in
set_option maxRecDepth 100000 in
theorem c_X6_extend_s (l : Launch) (D : DG) (cyC cyI cyJ cyZ cyO : ClassId) (s0 : Nat) (s1 : Nat) (s2 : Nat) (s3 : Nat) (a0 : Nat) (a1 : Nat) (a2 : Nat) (a3 : Nat) (a4 : Nat) (a7 : Nat) (a5 : Nat) (a6 : Nat) (a8 : Nat) (a9 : Nat) (a10 : Nat) (p0 : Int32) (p2 : Int32) (p3 : Int32) (p4 : Int32) (s_cost : Int32) (s_found : Int32) (s_size : Int32) (s_height : Int32) (s_reach : Int32) (a_wares : Int32) (a_shelves : Int32) (a_nests : Int32) (a_lids : Int32) (a_tops : Int32) (s_order : Nat → Int32) (s_trial : Nat → Int32) (s_times : Nat → Int32) (a_wide : Nat → Int32) (a_deep : Nat → Int32) (a_weight : Nat → Int32) (a_bears : Nat → Int32) (a_mayOn : Nat → Int32) (n9 : Nat) (h_s_found : 0 ≤ (s_found).toInt ∧ (s_found).toInt ≤ 1) (h_s_size : 0 ≤ (s_size).toInt ∧ (s_size).toInt ≤ 7) (h_a_wares : 0 ≤ (a_wares).toInt ∧ (a_wares).toInt ≤ 12) (h_a_shelves : 0 ≤ (a_shelves).toInt ∧ (a_shelves).toInt ≤ 4) (h_a_nests : 0 ≤ (a_nests).toInt ∧ (a_nests).toInt ≤ 4) (h_s_trial : Iv 7 (0) (11) s_trial) (hdp9 : (p0).toInt = 7 - (((n9 + 1) : Nat) : Int)) (h9 : n9 < 7) (hA9 : S_c_X6_extend n9) : KK l D (TY cyC cyI cyJ cyZ cyO) yX6_extend cX6_extend 9 none ({ frames := 1 + 2 * (n9 + 1), cells := 0, slots := 0, locals := 29 + 57 * (n9 + 1) } : Room) 0 0 [.ref s0, .ref a0, .int p0, .int p2, .int p3, .int p4] [(s0, .inr (6, [.ref s1, .int s_cost, .int s_found, .int s_size, .int s_height, .int s_reach, .ref s2, .ref s3])), (s1, .inl (cyI, 7, .inl s_order)), (s2, .inl (cyI, 7, .inl s_trial)), (s3, .inl (cyI, 12, .inl s_times)), (a0, .inr (9, [.int a_wares, .int a_shelves, .int a_nests, .ref a1, .ref a2, .ref a3, .ref a4, .ref a5, .ref a6, .int a_lids, .int a_tops, .ref a7, .ref a8, .ref a9, .ref a10])), (a1, .inl (cyI, 12, .inl a_wide)), (a2, .inl (cyI, 12, .inl a_deep)), (a3, .inl (cyI, 12, .inl a_weight)), (a4, .inl (cyI, 12, .inl a_bears)), (a7, .inl (cyI, 12, .inl a_mayOn))] (fun u => none) (fun u => (0 ≤ (u.2.1 1).toInt ∧ (u.2.1 1).toInt ≤ 1) ∧ (Iv 7 (0) (11) (u.2.2.1 1))) (fun u => [(s0, .inr (6, [.ref s1, .int (u.2.1 0), .int (u.2.1 1), .int s_size, .int s_height, .int s_reach, .ref s2, .ref s3])), (s1, .inl (cyI, 7, .inl (u.2.2.1 0))), (s2, .inl (cyI, 7, .inl (u.2.2.1 1))), (s3, .inl (cyI, 12, .inl s_times)), (a0, .inr (9, [.int a_wares, .int a_shelves, .int a_nests, .ref a1, .ref a2, .ref a3, .ref a4, .ref a5, .ref a6, .int a_lids, .int a_tops, .ref a7, .ref a8, .ref a9, .ref a10])), (a1, .inl (cyI, 12, .inl a_wide)), (a2, .inl (cyI, 12, .inl a_deep)), (a3, .inl (cyI, 12, .inl a_weight)), (a4, .inl (cyI, 12, .inl a_bears)), (a7, .inl (cyI, 12, .inl a_mayOn))]) := by
  refine KK.of (lv0 := [(0, .ref s0), (1, .ref a0), (2, .int p0), (3, .int p2), (4, .int p3), (5, .int p4)]) (by decide) rfl (Nat.le_of_ble_eq_true rfl) ?_
  intro p e s m args below meth c A C hr hk hin
  refine j_iload_n (pc := 0) C dX6_extend_0 rfl 2 rfl ?_
  refine j_aload_n (pc := 1) C dX6_extend_1 rfl 0 rfl ?_
  refine j_get (pc := 2) (ci := 6) (v := .int s_size) C inw_6 0 rfl rfl 3 (by decide) wd_109 rfl rfl dX6_extend_2 ?_
  refine j_icmp_lt (pc := 5) (tgt := 9) C dX6_extend_5 (by decide) (fun c_1 => ?_) (fun c_1 => ?_)
  · skip
    rw [i_lt] at c_1
    refine j_iload_n (pc := 9) C dX6_extend_9 rfl 2 rfl ?_
    refine j_if_ne (pc := 10) (tgt := 17) C dX6_extend_10 (by decide) (fun c_2 => ?_) (fun c_2 => ?_)
    · skip
      have el_0 : (0 : Int32).toInt = 0 := rfl
      rw [i_eq] at c_2
      refine j_iload_n (pc := 17) C dX6_extend_17 rfl 3 rfl ?_
      refine j_aload_n (pc := 18) C dX6_extend_18 rfl 1 rfl ?_
      refine j_get (pc := 19) (ci := 9) (v := .ref a7) C inw_9 4 rfl rfl 11 (by decide) wd_130 rfl rfl dX6_extend_19 ?_
      refine j_aload_n (pc := 22) C dX6_extend_22 rfl 0 rfl ?_
      refine j_get (pc := 23) (ci := 6) (v := .ref s2) C inw_6 0 rfl rfl 6 (by decide) wd_121 rfl rfl dX6_extend_23 ?_
      refine j_iload_n (pc := 26) C dX6_extend_26 rfl 2 rfl ?_
      refine j_iconst (pc := 27) (v := 1) C dX6_extend_27 (by decide) ?_
      obtain ⟨v_3, ev_3⟩ : ∃ z : Int32, p0 - 1 = z := ⟨_, rfl⟩
      have el_1 : (1 : Int32).toInt = 1 := rfl
      have hv_3 : v_3.toInt = p0.toInt - (1 : Int32).toInt := by rw [← ev_3]; exact fb_subI (by omega) (by omega)
      refine j_isub (pc := 28) (v := v_3) C dX6_extend_28 ev_3 ?_
      obtain ⟨v_4, ev_4⟩ : ∃ z, s_trial (v_3).toInt.toNat = z := ⟨_, rfl⟩
      have env_4 : (s_trial (v_3).toInt.toNat).toInt = v_4.toInt := by rw [ev_4]
      have hv_4 := h_s_trial (v_3).toInt.toNat (i_lt_n (by omega) (by omega)); rw [ev_4] at hv_4
      refine j_iald (pc := 29) (v := v_4) (k := (v_3).toInt.toNat) C 2 1 rfl rfl (i_nn (by omega)) rfl (i_lt_n (by omega) (by omega)) ev_4 dX6_extend_29 ?_
      obtain ⟨v_5, ev_5⟩ : ∃ z, a_mayOn (v_4).toInt.toNat = z := ⟨_, rfl⟩
      have env_5 : (a_mayOn (v_4).toInt.toNat).toInt = v_5.toInt := by rw [ev_5]
      refine j_iald (pc := 30) (v := v_5) (k := (v_4).toInt.toNat) C 9 1 rfl rfl (i_nn hv_4.1) rfl (i_lt_n hv_4.1 (Int.lt_of_le_of_lt hv_4.2 (by decide))) ev_5 dX6_extend_30 ?_
      obtain ⟨v_6, ev_6⟩ : ∃ z : Int32, p2 &&& v_5 = z := ⟨_, rfl⟩
      refine j_iand (pc := 31) (v := v_6) C dX6_extend_31 ev_6 ?_
      refine j_istore (pc := 32) (lv' := [(6, .int v_6), (0, .ref s0), (1, .ref a0), (2, .int p0), (3, .int p2), (4, .int p3), (5, .int p4)]) C dX6_extend_32 (by decide) rfl ?_
      refine j_iconst (pc := 34) (v := 0) C dX6_extend_34 (by decide) ?_
      refine j_istore (pc := 35) (lv' := [(7, .int 0), (6, .int v_6), (0, .ref s0), (1, .ref a0), (2, .int p0), (3, .int p2), (4, .int p3), (5, .int p4)]) C dX6_extend_35 (by decide) rfl ?_
      have loop_7 : ∀ (k_7 : Nat) (x7_7 : Int32) (y7_s0_1 : Int32) (y7_s0_2 : Int32) (g7_s1 : Nat → Int32) (g7_s2 : Nat → Int32), (0 ≤ (x7_7).toInt ∧ (x7_7).toInt ≤ 12) → (0 ≤ (y7_s0_2).toInt ∧ (y7_s0_2).toInt ≤ 1) → (Iv 7 (0) (11) g7_s2) → (12 - x7_7.toInt).toNat < k_7 → J p l e ({ frames := 1 + 2 * (n9 + 1), cells := 0, slots := 0, locals := 29 + 57 * (n9 + 1) } : Room) s m args below meth c D A 9 0 0 (QX below D (TY cyC cyI cyJ cyZ cyO) A (fun u => none) (fun u => (0 ≤ (u.2.1 1).toInt ∧ (u.2.1 1).toInt ≤ 1) ∧ (Iv 7 (0) (11) (u.2.2.1 1))) (fun u => [(s0, .inr (6, [.ref s1, .int (u.2.1 0), .int (u.2.1 1), .int s_size, .int s_height, .int s_reach, .ref s2, .ref s3])), (s1, .inl (cyI, 7, .inl (u.2.2.1 0))), (s2, .inl (cyI, 7, .inl (u.2.2.1 1))), (s3, .inl (cyI, 12, .inl s_times)), (a0, .inr (9, [.int a_wares, .int a_shelves, .int a_nests, .ref a1, .ref a2, .ref a3, .ref a4, .ref a5, .ref a6, .int a_lids, .int a_tops, .ref a7, .ref a8, .ref a9, .ref a10])), (a1, .inl (cyI, 12, .inl a_wide)), (a2, .inl (cyI, 12, .inl a_deep)), (a3, .inl (cyI, 12, .inl a_weight)), (a4, .inl (cyI, 12, .inl a_bears)), (a7, .inl (cyI, 12, .inl a_mayOn))]) args s 0 0) [(s0, .inr (6, [.ref s1, .int y7_s0_1, .int y7_s0_2, .int s_size, .int s_height, .int s_reach, .ref s2, .ref s3])), (s1, .inl (cyI, 7, .inl g7_s1)), (s2, .inl (cyI, 7, .inl g7_s2)), (s3, .inl (cyI, 12, .inl s_times)), (a0, .inr (9, [.int a_wares, .int a_shelves, .int a_nests, .ref a1, .ref a2, .ref a3, .ref a4, .ref a5, .ref a6, .int a_lids, .int a_tops, .ref a7, .ref a8, .ref a9, .ref a10])), (a1, .inl (cyI, 12, .inl a_wide)), (a2, .inl (cyI, 12, .inl a_deep)), (a3, .inl (cyI, 12, .inl a_weight)), (a4, .inl (cyI, 12, .inl a_bears)), (a7, .inl (cyI, 12, .inl a_mayOn))] 37 [(7, .int x7_7), (6, .int v_6), (0, .ref s0), (1, .ref a0), (2, .int p0), (3, .int p2), (4, .int p3), (5, .int p4)] [] := by
        intro k_7
        induction k_7 with
        | zero =>
          intro x7_7 y7_s0_1 y7_s0_2 g7_s1 g7_s2 hi_7_0 hi_7_2 hi_7_4 hm_7
          exact absurd hm_7 (Nat.not_lt_zero _)
        | succ k_7 ih_7 =>
          intro x7_7 y7_s0_1 y7_s0_2 g7_s1 g7_s2 hi_7_0 hi_7_2 hi_7_4 hm_7
          refine j_iload (pc := 37) C dX6_extend_37 0 rfl ?_
          refine j_aload_n (pc := 39) C dX6_extend_39 rfl 3 rfl ?_
          refine j_get (pc := 40) (ci := 9) (v := .int a_wares) C inw_9 4 rfl rfl 0 (by decide) wd_131 rfl rfl dX6_extend_40 ?_
          refine j_icmp_ge (pc := 43) (tgt := 108) C dX6_extend_43 (by decide) (fun c_8 => ?_) (fun c_8 => ?_)
          · skip
            rw [i_le] at c_8
            exact j_vret (pc := 108) C hr hk (fun i => [].getD i 0, fun i => [y7_s0_1, y7_s0_2].getD i 0, fun i => [g7_s1, g7_s2].getD i (fun _ => 0), fun i => [].getD i (fun _ => 0)) rfl (show (0 ≤ (y7_s0_2).toInt ∧ (y7_s0_2).toInt ≤ 1) ∧ (Iv 7 (0) (11) g7_s2) from ⟨hi_7_2, hi_7_4⟩) [0, 1, 2, 3, 4, 5, 6, 7, 8, 9] (by decide) rfl (by decide) (by decide) dX6_extend_108
          · skip
            rw [i_le] at c_8
            refine j_iload (pc := 46) C dX6_extend_46 1 rfl ?_
            refine j_iload (pc := 48) C dX6_extend_48 0 rfl ?_
            obtain ⟨v_9, ev_9⟩ : ∃ z : Int32, ((v_6 : Int32).toUInt32 >>> ((x7_7 : Int32).toUInt32 &&& Int32.toUInt32 31)).toInt32 = z := ⟨_, rfl⟩
            refine j_iushr (pc := 50) (v := v_9) C dX6_extend_50 ev_9 ?_
            refine j_iconst (pc := 51) (v := 1) C dX6_extend_51 (by decide) ?_
            obtain ⟨v_10, ev_10⟩ : ∃ z : Int32, v_9 &&& 1 = z := ⟨_, rfl⟩
            have el_1 : (1 : Int32).toInt = 1 := rfl
            have hv_10 : 0 ≤ v_10.toInt ∧ v_10.toInt ≤ 1 := by rw [← ev_10]; exact and1_r _
            refine j_iand (pc := 52) (v := v_10) C dX6_extend_52 ev_10 ?_
            refine j_iconst (pc := 53) (v := 1) C dX6_extend_53 (by decide) ?_
            refine j_icmp_ne (pc := 54) (tgt := 102) C dX6_extend_54 (by decide) (fun c_11 => ?_) (fun c_11 => ?_)
            · skip
              have el_1 : (1 : Int32).toInt = 1 := rfl
              rw [i_eq] at c_11
              have k0c_11 : v_10.toInt = 0 := by omega
              obtain ⟨v_12, ev_12⟩ : ∃ z : Int32, x7_7 + 1 = z := ⟨_, rfl⟩
              have el_1 : (1 : Int32).toInt = 1 := rfl
              have hv_12 : v_12.toInt = x7_7.toInt + (1 : Int32).toInt := by rw [← ev_12]; exact fb_addI (by omega) (by omega)
              refine j_iinc (pc := 102) (v := v_12) (lv' := [(7, .int v_12), (6, .int v_6), (0, .ref s0), (1, .ref a0), (2, .int p0), (3, .int p2), (4, .int p3), (5, .int p4)]) C dX6_extend_102 0 rfl ev_12 (by decide) rfl ?_
              refine j_goto (pc := 105) (tgt := 37) C dX6_extend_105 (by decide) ?_
              exact j_lv [0, 1, 2, 3, 4, 5, 6, 7] rfl (ih_7 v_12 y7_s0_1 y7_s0_2 g7_s1 g7_s2 (by omega) hi_7_2 hi_7_4 (by omega))
            · skip
              have el_1 : (1 : Int32).toInt = 1 := rfl
              rw [i_eq] at c_11
              refine j_iload_n (pc := 57) C dX6_extend_57 rfl 4 rfl ?_
              have el_0 : (0 : Int32).toInt = 0 := rfl
              refine j_if_ne_t (pc := 58) (tgt := 65) C dX6_extend_58 (by decide) (by rw [i_eq]; omega) ?_
              refine j_aload_n (pc := 65) C dX6_extend_65 rfl 3 rfl ?_
              refine j_iload (pc := 66) C dX6_extend_66 0 rfl ?_
              refine j_aload_n (pc := 68) C dX6_extend_68 rfl 2 rfl ?_
              refine j_get (pc := 69) (ci := 6) (v := .ref s2) C inw_6 0 rfl rfl 6 (by decide) wd_121 rfl rfl dX6_extend_69 ?_
              refine j_iload_n (pc := 72) C dX6_extend_72 rfl 4 rfl ?_
              refine j_iconst (pc := 73) (v := 1) C dX6_extend_73 (by decide) ?_
              obtain ⟨v_13, ev_13⟩ : ∃ z : Int32, p0 - 1 = z := ⟨_, rfl⟩
              have el_1 : (1 : Int32).toInt = 1 := rfl
              have hv_13 : v_13.toInt = p0.toInt - (1 : Int32).toInt := by rw [← ev_13]; exact fb_subI (by omega) (by omega)
              refine j_isub (pc := 74) (v := v_13) C dX6_extend_74 ev_13 ?_
              obtain ⟨v_14, ev_14⟩ : ∃ z, g7_s2 (v_13).toInt.toNat = z := ⟨_, rfl⟩
              have env_14 : (g7_s2 (v_13).toInt.toNat).toInt = v_14.toInt := by rw [ev_14]
              have hv_14 := hi_7_4 (v_13).toInt.toNat (i_lt_n (by omega) (by omega)); rw [ev_14] at hv_14
              refine j_iald (pc := 75) (v := v_14) (k := (v_13).toInt.toNat) C 2 1 rfl rfl (i_nn (by omega)) rfl (i_lt_n (by omega) (by omega)) ev_14 dX6_extend_75 ?_
              refine j_callV (pc := 76) (As := [.int x7_7, .int v_14]) (rest := []) (wr := [(s0, .inr (6, [.ref s1, .int y7_s0_1, .int y7_s0_2, .int s_size, .int s_height, .int s_reach, .ref s2, .ref s3])), (s1, .inl (cyI, 7, .inl g7_s1)), (s2, .inl (cyI, 7, .inl g7_s2)), (s3, .inl (cyI, 12, .inl s_times)), (a3, .inl (cyI, 12, .inl a_weight)), (a4, .inl (cyI, 12, .inl a_bears)), (a7, .inl (cyI, 12, .inl a_mayOn))]) C (c_X9_rise l D cyC cyI cyJ cyZ cyO a0 a1 a2 a3 a4 a5 a6 a7 a8 a9 a10 x7_7 v_14 a_wares a_shelves a_nests a_lids a_tops a_wide a_deep h_a_wares h_a_shelves h_a_nests (by omega) hv_14) wd_32 wd_33 wd_132 wd_35 wd_36 ⟨by decide, by decide, rfl⟩ rfl ⟨rfl, rfl, (by show (0 : Nat) + 1 ≤ 1 + 2 * (n9 + 1); omega), (by show 8 + (4 + 11) + (0 : Nat) ≤ 29 + 57 * (n9 + 1); omega)⟩ ⟨Nat.le_of_ble_eq_true rfl, Nat.le_of_ble_eq_true rfl⟩ [4, 5, 6] [0, 1, 2, 3, 7, 8, 9] rfl rfl ⟨by decide, by decide, by decide⟩ 4 rfl rfl rfl (Nat.le_of_ble_eq_true rfl) dX6_extend_76 (fun u_15 hw_16 => ?_)
              refine j_eq (ws2 := [(s0, .inr (6, [.ref s1, .int y7_s0_1, .int y7_s0_2, .int s_size, .int s_height, .int s_reach, .ref s2, .ref s3])), (s1, .inl (cyI, 7, .inl g7_s1)), (s2, .inl (cyI, 7, .inl g7_s2)), (s3, .inl (cyI, 12, .inl s_times)), (a3, .inl (cyI, 12, .inl a_weight)), (a4, .inl (cyI, 12, .inl a_bears)), (a7, .inl (cyI, 12, .inl a_mayOn)), (a0, .inr (9, [.int a_wares, .int a_shelves, .int a_nests, .ref a1, .ref a2, .ref a3, .ref a4, .ref a5, .ref a6, .int a_lids, .int a_tops, .ref a7, .ref a8, .ref a9, .ref a10])), (a1, .inl (cyI, 12, .inl a_wide)), (a2, .inl (cyI, 12, .inl a_deep))]) (pc2 := 79) (lv2 := [(7, .int x7_7), (6, .int v_6), (0, .ref s0), (1, .ref a0), (2, .int p0), (3, .int p2), (4, .int p3), (5, .int p4)]) (st2 := [.int (u_15.2.1 0)]) rfl rfl rfl rfl ?_
              have hw_16_0 : (u_15.2.1 0) = (rsC a_wide a_deep a_lids) (x7_7).toInt.toNat (v_14).toInt.toNat := hw_16
              refine j_istore (pc := 79) (lv' := [(8, .int (u_15.2.1 0)), (7, .int x7_7), (6, .int v_6), (0, .ref s0), (1, .ref a0), (2, .int p0), (3, .int p2), (4, .int p3), (5, .int p4)]) C dX6_extend_79 (by decide) rfl ?_
              refine j_aload_n (pc := 81) C dX6_extend_81 rfl 3 rfl ?_
              refine j_aload_n (pc := 82) C dX6_extend_82 rfl 4 rfl ?_
              refine j_iload (pc := 83) C dX6_extend_83 1 rfl ?_
              refine j_iload_n (pc := 85) C dX6_extend_85 rfl 5 rfl ?_
              refine j_iload_n (pc := 86) C dX6_extend_86 rfl 6 rfl ?_
              refine j_iconst (pc := 87) (v := 1) C dX6_extend_87 (by decide) ?_
              refine j_iload (pc := 88) C dX6_extend_88 1 rfl ?_
              obtain ⟨v_17, ev_17⟩ : ∃ z : Int32, 1 <<< (x7_7 &&& 31) = z := ⟨_, rfl⟩
              have el_1 : (1 : Int32).toInt = 1 := rfl
              have hv_17 : 1 ≤ v_17.toInt ∧ v_17.toInt ≤ 2048 := by rw [← ev_17]; exact shl1_iv 0 11 (by omega) (by omega) (by omega)
              refine j_ishl (pc := 90) (v := v_17) C dX6_extend_90 ev_17 ?_
              obtain ⟨v_18, ev_18⟩ : ∃ z : Int32, p2 ^^^ v_17 = z := ⟨_, rfl⟩
              refine j_ixor (pc := 91) (v := v_18) C dX6_extend_91 ev_18 ?_
              refine j_iload (pc := 92) C dX6_extend_92 7 rfl ?_
              refine j_iload (pc := 94) C dX6_extend_94 0 rfl ?_
              obtain ⟨v_19, ev_19⟩ : ∃ z : Int32, p3 + (u_15.2.1 0) = z := ⟨_, rfl⟩
              refine j_iadd (pc := 96) (v := v_19) C dX6_extend_96 ev_19 ?_
              refine j_iload (pc := 97) C dX6_extend_97 8 rfl ?_
              refine j_callV (pc := 99) (As := [.ref a0, .int x7_7, .int p0, .int v_18, .int v_19, .int p4]) (rest := []) (wr := []) C (c_X6_tryOn_s l D cyC cyI cyJ cyZ cyO s0 s1 s2 s3 a0 a1 a2 a3 a4 a7 a5 a6 a8 a9 a10 x7_7 p0 v_18 v_19 p4 y7_s0_1 y7_s0_2 s_size s_height s_reach a_wares a_shelves a_nests a_lids a_tops g7_s1 g7_s2 s_times a_wide a_deep a_weight a_bears a_mayOn n9 hi_7_2 h_s_size h_a_wares h_a_shelves h_a_nests (by omega) hi_7_4 hdp9 h9 hA9) wd_133 wd_123 wd_134 wd_135 wd_136 ⟨by decide, by decide, rfl⟩ rfl ⟨rfl, rfl, (by show (0 + 2 * (n9 + 1) : Nat) + 1 ≤ 1 + 2 * (n9 + 1); omega), (by show 8 + (10 + 11) + (0 + 57 * (n9 + 1) : Nat) ≤ 29 + 57 * (n9 + 1); omega)⟩ ⟨Nat.le_of_ble_eq_true rfl, Nat.le_of_ble_eq_true rfl⟩ [0, 1, 2, 3, 7, 8, 9, 4, 5, 6] [] rfl rfl ⟨by decide, by decide, by decide⟩ 0 rfl rfl rfl (Nat.le_of_ble_eq_true rfl) dX6_extend_99 (fun u_20 hw_21 => ?_)
              refine j_eq (ws2 := [(s0, .inr (6, [.ref s1, .int (u_20.2.1 0), .int (u_20.2.1 1), .int s_size, .int s_height, .int s_reach, .ref s2, .ref s3])), (s1, .inl (cyI, 7, .inl (u_20.2.2.1 0))), (s2, .inl (cyI, 7, .inl (u_20.2.2.1 1))), (s3, .inl (cyI, 12, .inl s_times)), (a0, .inr (9, [.int a_wares, .int a_shelves, .int a_nests, .ref a1, .ref a2, .ref a3, .ref a4, .ref a5, .ref a6, .int a_lids, .int a_tops, .ref a7, .ref a8, .ref a9, .ref a10])), (a1, .inl (cyI, 12, .inl a_wide)), (a2, .inl (cyI, 12, .inl a_deep)), (a3, .inl (cyI, 12, .inl a_weight)), (a4, .inl (cyI, 12, .inl a_bears)), (a7, .inl (cyI, 12, .inl a_mayOn))]) (pc2 := 102) (lv2 := [(8, .int (u_15.2.1 0)), (7, .int x7_7), (6, .int v_6), (0, .ref s0), (1, .ref a0), (2, .int p0), (3, .int p2), (4, .int p3), (5, .int p4)]) (st2 := []) rfl rfl rfl rfl ?_
              obtain ⟨hw_21_0, hw_21_1⟩ := hw_21
              obtain ⟨v_22, ev_22⟩ : ∃ z : Int32, x7_7 + 1 = z := ⟨_, rfl⟩
              have el_1 : (1 : Int32).toInt = 1 := rfl
              have hv_22 : v_22.toInt = x7_7.toInt + (1 : Int32).toInt := by rw [← ev_22]; exact fb_addI (by omega) (by omega)
              refine j_iinc (pc := 102) (v := v_22) (lv' := [(7, .int v_22), (8, .int (u_15.2.1 0)), (6, .int v_6), (0, .ref s0), (1, .ref a0), (2, .int p0), (3, .int p2), (4, .int p3), (5, .int p4)]) C dX6_extend_102 1 rfl ev_22 (by decide) rfl ?_
              refine j_goto (pc := 105) (tgt := 37) C dX6_extend_105 (by decide) ?_
              exact j_lv [0, 2, 3, 4, 5, 6, 7, 8] rfl (ih_7 v_22 (u_20.2.1 0) (u_20.2.1 1) (u_20.2.2.1 0) (u_20.2.2.1 1) (by omega) hw_21_0 hw_21_1 (by omega))
      have el_0 : (0 : Int32).toInt = 0 := rfl
      exact j_lv [0, 1, 2, 3, 4, 5, 6, 7] rfl (loop_7 4096 0 s_cost s_found s_order s_trial (by decide) h_s_found h_s_trial (by omega))
    · skip
      have el_0 : (0 : Int32).toInt = 0 := rfl
      rw [i_eq] at c_2
      refine j_iload_n (pc := 13) C dX6_extend_13 rfl 3 rfl ?_
      refine j_goto (pc := 14) (tgt := 32) C dX6_extend_14 (by decide) ?_
      refine j_istore (pc := 32) (lv' := [(6, .int p2), (0, .ref s0), (1, .ref a0), (2, .int p0), (3, .int p2), (4, .int p3), (5, .int p4)]) C dX6_extend_32 (by decide) rfl ?_
      refine j_iconst (pc := 34) (v := 0) C dX6_extend_34 (by decide) ?_
      refine j_istore (pc := 35) (lv' := [(7, .int 0), (6, .int p2), (0, .ref s0), (1, .ref a0), (2, .int p0), (3, .int p2), (4, .int p3), (5, .int p4)]) C dX6_extend_35 (by decide) rfl ?_
      have loop_23 : ∀ (k_23 : Nat) (x23_7 : Int32) (y23_s0_1 : Int32) (y23_s0_2 : Int32) (g23_s1 : Nat → Int32) (g23_s2 : Nat → Int32), (0 ≤ (x23_7).toInt ∧ (x23_7).toInt ≤ 12) → (0 ≤ (y23_s0_2).toInt ∧ (y23_s0_2).toInt ≤ 1) → (Iv 7 (0) (11) g23_s2) → (12 - x23_7.toInt).toNat < k_23 → J p l e ({ frames := 1 + 2 * (n9 + 1), cells := 0, slots := 0, locals := 29 + 57 * (n9 + 1) } : Room) s m args below meth c D A 9 0 0 (QX below D (TY cyC cyI cyJ cyZ cyO) A (fun u => none) (fun u => (0 ≤ (u.2.1 1).toInt ∧ (u.2.1 1).toInt ≤ 1) ∧ (Iv 7 (0) (11) (u.2.2.1 1))) (fun u => [(s0, .inr (6, [.ref s1, .int (u.2.1 0), .int (u.2.1 1), .int s_size, .int s_height, .int s_reach, .ref s2, .ref s3])), (s1, .inl (cyI, 7, .inl (u.2.2.1 0))), (s2, .inl (cyI, 7, .inl (u.2.2.1 1))), (s3, .inl (cyI, 12, .inl s_times)), (a0, .inr (9, [.int a_wares, .int a_shelves, .int a_nests, .ref a1, .ref a2, .ref a3, .ref a4, .ref a5, .ref a6, .int a_lids, .int a_tops, .ref a7, .ref a8, .ref a9, .ref a10])), (a1, .inl (cyI, 12, .inl a_wide)), (a2, .inl (cyI, 12, .inl a_deep)), (a3, .inl (cyI, 12, .inl a_weight)), (a4, .inl (cyI, 12, .inl a_bears)), (a7, .inl (cyI, 12, .inl a_mayOn))]) args s 0 0) [(s0, .inr (6, [.ref s1, .int y23_s0_1, .int y23_s0_2, .int s_size, .int s_height, .int s_reach, .ref s2, .ref s3])), (s1, .inl (cyI, 7, .inl g23_s1)), (s2, .inl (cyI, 7, .inl g23_s2)), (s3, .inl (cyI, 12, .inl s_times)), (a0, .inr (9, [.int a_wares, .int a_shelves, .int a_nests, .ref a1, .ref a2, .ref a3, .ref a4, .ref a5, .ref a6, .int a_lids, .int a_tops, .ref a7, .ref a8, .ref a9, .ref a10])), (a1, .inl (cyI, 12, .inl a_wide)), (a2, .inl (cyI, 12, .inl a_deep)), (a3, .inl (cyI, 12, .inl a_weight)), (a4, .inl (cyI, 12, .inl a_bears)), (a7, .inl (cyI, 12, .inl a_mayOn))] 37 [(7, .int x23_7), (6, .int p2), (0, .ref s0), (1, .ref a0), (2, .int p0), (3, .int p2), (4, .int p3), (5, .int p4)] [] := by
        intro k_23
        induction k_23 with
        | zero =>
          intro x23_7 y23_s0_1 y23_s0_2 g23_s1 g23_s2 hi_23_0 hi_23_2 hi_23_4 hm_23
          exact absurd hm_23 (Nat.not_lt_zero _)
        | succ k_23 ih_23 =>
          intro x23_7 y23_s0_1 y23_s0_2 g23_s1 g23_s2 hi_23_0 hi_23_2 hi_23_4 hm_23
          refine j_iload (pc := 37) C dX6_extend_37 0 rfl ?_
          refine j_aload_n (pc := 39) C dX6_extend_39 rfl 3 rfl ?_
          refine j_get (pc := 40) (ci := 9) (v := .int a_wares) C inw_9 4 rfl rfl 0 (by decide) wd_131 rfl rfl dX6_extend_40 ?_
          refine j_icmp_ge (pc := 43) (tgt := 108) C dX6_extend_43 (by decide) (fun c_24 => ?_) (fun c_24 => ?_)
          · skip
            rw [i_le] at c_24
            exact j_vret (pc := 108) C hr hk (fun i => [].getD i 0, fun i => [y23_s0_1, y23_s0_2].getD i 0, fun i => [g23_s1, g23_s2].getD i (fun _ => 0), fun i => [].getD i (fun _ => 0)) rfl (show (0 ≤ (y23_s0_2).toInt ∧ (y23_s0_2).toInt ≤ 1) ∧ (Iv 7 (0) (11) g23_s2) from ⟨hi_23_2, hi_23_4⟩) [0, 1, 2, 3, 4, 5, 6, 7, 8, 9] (by decide) rfl (by decide) (by decide) dX6_extend_108
          · skip
            rw [i_le] at c_24
            refine j_iload (pc := 46) C dX6_extend_46 1 rfl ?_
            refine j_iload (pc := 48) C dX6_extend_48 0 rfl ?_
            obtain ⟨v_25, ev_25⟩ : ∃ z : Int32, ((p2 : Int32).toUInt32 >>> ((x23_7 : Int32).toUInt32 &&& Int32.toUInt32 31)).toInt32 = z := ⟨_, rfl⟩
            refine j_iushr (pc := 50) (v := v_25) C dX6_extend_50 ev_25 ?_
            refine j_iconst (pc := 51) (v := 1) C dX6_extend_51 (by decide) ?_
            obtain ⟨v_26, ev_26⟩ : ∃ z : Int32, v_25 &&& 1 = z := ⟨_, rfl⟩
            have el_1 : (1 : Int32).toInt = 1 := rfl
            have hv_26 : 0 ≤ v_26.toInt ∧ v_26.toInt ≤ 1 := by rw [← ev_26]; exact and1_r _
            refine j_iand (pc := 52) (v := v_26) C dX6_extend_52 ev_26 ?_
            refine j_iconst (pc := 53) (v := 1) C dX6_extend_53 (by decide) ?_
            refine j_icmp_ne (pc := 54) (tgt := 102) C dX6_extend_54 (by decide) (fun c_27 => ?_) (fun c_27 => ?_)
            · skip
              have el_1 : (1 : Int32).toInt = 1 := rfl
              rw [i_eq] at c_27
              have k0c_27 : v_26.toInt = 0 := by omega
              obtain ⟨v_28, ev_28⟩ : ∃ z : Int32, x23_7 + 1 = z := ⟨_, rfl⟩
              have el_1 : (1 : Int32).toInt = 1 := rfl
              have hv_28 : v_28.toInt = x23_7.toInt + (1 : Int32).toInt := by rw [← ev_28]; exact fb_addI (by omega) (by omega)
              refine j_iinc (pc := 102) (v := v_28) (lv' := [(7, .int v_28), (6, .int p2), (0, .ref s0), (1, .ref a0), (2, .int p0), (3, .int p2), (4, .int p3), (5, .int p4)]) C dX6_extend_102 0 rfl ev_28 (by decide) rfl ?_
              refine j_goto (pc := 105) (tgt := 37) C dX6_extend_105 (by decide) ?_
              exact j_lv [0, 1, 2, 3, 4, 5, 6, 7] rfl (ih_23 v_28 y23_s0_1 y23_s0_2 g23_s1 g23_s2 (by omega) hi_23_2 hi_23_4 (by omega))
            · skip
              have el_1 : (1 : Int32).toInt = 1 := rfl
              rw [i_eq] at c_27
              refine j_iload_n (pc := 57) C dX6_extend_57 rfl 4 rfl ?_
              refine j_if_ne (pc := 58) (tgt := 65) C dX6_extend_58 (by decide) (fun c_29 => ?_) (fun c_29 => ?_)
              · skip
                have el_0 : (0 : Int32).toInt = 0 := rfl
                rw [i_eq] at c_29
                refine j_aload_n (pc := 65) C dX6_extend_65 rfl 3 rfl ?_
                refine j_iload (pc := 66) C dX6_extend_66 0 rfl ?_
                refine j_aload_n (pc := 68) C dX6_extend_68 rfl 2 rfl ?_
                refine j_get (pc := 69) (ci := 6) (v := .ref s2) C inw_6 0 rfl rfl 6 (by decide) wd_121 rfl rfl dX6_extend_69 ?_
                refine j_iload_n (pc := 72) C dX6_extend_72 rfl 4 rfl ?_
                refine j_iconst (pc := 73) (v := 1) C dX6_extend_73 (by decide) ?_
                obtain ⟨v_30, ev_30⟩ : ∃ z : Int32, p0 - 1 = z := ⟨_, rfl⟩
                have el_1 : (1 : Int32).toInt = 1 := rfl
                have hv_30 : v_30.toInt = p0.toInt - (1 : Int32).toInt := by rw [← ev_30]; exact fb_subI (by omega) (by omega)
                refine j_isub (pc := 74) (v := v_30) C dX6_extend_74 ev_30 ?_
                obtain ⟨v_31, ev_31⟩ : ∃ z, g23_s2 (v_30).toInt.toNat = z := ⟨_, rfl⟩
                have env_31 : (g23_s2 (v_30).toInt.toNat).toInt = v_31.toInt := by rw [ev_31]
                have hv_31 := hi_23_4 (v_30).toInt.toNat (i_lt_n (by omega) (by omega)); rw [ev_31] at hv_31
                refine j_iald (pc := 75) (v := v_31) (k := (v_30).toInt.toNat) C 2 1 rfl rfl (i_nn (by omega)) rfl (i_lt_n (by omega) (by omega)) ev_31 dX6_extend_75 ?_
                refine j_callV (pc := 76) (As := [.int x23_7, .int v_31]) (rest := []) (wr := [(s0, .inr (6, [.ref s1, .int y23_s0_1, .int y23_s0_2, .int s_size, .int s_height, .int s_reach, .ref s2, .ref s3])), (s1, .inl (cyI, 7, .inl g23_s1)), (s2, .inl (cyI, 7, .inl g23_s2)), (s3, .inl (cyI, 12, .inl s_times)), (a3, .inl (cyI, 12, .inl a_weight)), (a4, .inl (cyI, 12, .inl a_bears)), (a7, .inl (cyI, 12, .inl a_mayOn))]) C (c_X9_rise l D cyC cyI cyJ cyZ cyO a0 a1 a2 a3 a4 a5 a6 a7 a8 a9 a10 x23_7 v_31 a_wares a_shelves a_nests a_lids a_tops a_wide a_deep h_a_wares h_a_shelves h_a_nests (by omega) hv_31) wd_32 wd_33 wd_132 wd_35 wd_36 ⟨by decide, by decide, rfl⟩ rfl ⟨rfl, rfl, (by show (0 : Nat) + 1 ≤ 1 + 2 * (n9 + 1); omega), (by show 8 + (4 + 11) + (0 : Nat) ≤ 29 + 57 * (n9 + 1); omega)⟩ ⟨Nat.le_of_ble_eq_true rfl, Nat.le_of_ble_eq_true rfl⟩ [4, 5, 6] [0, 1, 2, 3, 7, 8, 9] rfl rfl ⟨by decide, by decide, by decide⟩ 4 rfl rfl rfl (Nat.le_of_ble_eq_true rfl) dX6_extend_76 (fun u_32 hw_33 => ?_)
                refine j_eq (ws2 := [(s0, .inr (6, [.ref s1, .int y23_s0_1, .int y23_s0_2, .int s_size, .int s_height, .int s_reach, .ref s2, .ref s3])), (s1, .inl (cyI, 7, .inl g23_s1)), (s2, .inl (cyI, 7, .inl g23_s2)), (s3, .inl (cyI, 12, .inl s_times)), (a3, .inl (cyI, 12, .inl a_weight)), (a4, .inl (cyI, 12, .inl a_bears)), (a7, .inl (cyI, 12, .inl a_mayOn)), (a0, .inr (9, [.int a_wares, .int a_shelves, .int a_nests, .ref a1, .ref a2, .ref a3, .ref a4, .ref a5, .ref a6, .int a_lids, .int a_tops, .ref a7, .ref a8, .ref a9, .ref a10])), (a1, .inl (cyI, 12, .inl a_wide)), (a2, .inl (cyI, 12, .inl a_deep))]) (pc2 := 79) (lv2 := [(7, .int x23_7), (6, .int p2), (0, .ref s0), (1, .ref a0), (2, .int p0), (3, .int p2), (4, .int p3), (5, .int p4)]) (st2 := [.int (u_32.2.1 0)]) rfl rfl rfl rfl ?_
                have hw_33_0 : (u_32.2.1 0) = (rsC a_wide a_deep a_lids) (x23_7).toInt.toNat (v_31).toInt.toNat := hw_33
                refine j_istore (pc := 79) (lv' := [(8, .int (u_32.2.1 0)), (7, .int x23_7), (6, .int p2), (0, .ref s0), (1, .ref a0), (2, .int p0), (3, .int p2), (4, .int p3), (5, .int p4)]) C dX6_extend_79 (by decide) rfl ?_
                refine j_aload_n (pc := 81) C dX6_extend_81 rfl 3 rfl ?_
                refine j_aload_n (pc := 82) C dX6_extend_82 rfl 4 rfl ?_
                refine j_iload (pc := 83) C dX6_extend_83 1 rfl ?_
                refine j_iload_n (pc := 85) C dX6_extend_85 rfl 5 rfl ?_
                refine j_iload_n (pc := 86) C dX6_extend_86 rfl 6 rfl ?_
                refine j_iconst (pc := 87) (v := 1) C dX6_extend_87 (by decide) ?_
                refine j_iload (pc := 88) C dX6_extend_88 1 rfl ?_
                obtain ⟨v_34, ev_34⟩ : ∃ z : Int32, 1 <<< (x23_7 &&& 31) = z := ⟨_, rfl⟩
                have el_1 : (1 : Int32).toInt = 1 := rfl
                have hv_34 : 1 ≤ v_34.toInt ∧ v_34.toInt ≤ 2048 := by rw [← ev_34]; exact shl1_iv 0 11 (by omega) (by omega) (by omega)
                refine j_ishl (pc := 90) (v := v_34) C dX6_extend_90 ev_34 ?_
                obtain ⟨v_35, ev_35⟩ : ∃ z : Int32, p2 ^^^ v_34 = z := ⟨_, rfl⟩
                refine j_ixor (pc := 91) (v := v_35) C dX6_extend_91 ev_35 ?_
                refine j_iload (pc := 92) C dX6_extend_92 7 rfl ?_
                refine j_iload (pc := 94) C dX6_extend_94 0 rfl ?_
                obtain ⟨v_36, ev_36⟩ : ∃ z : Int32, p3 + (u_32.2.1 0) = z := ⟨_, rfl⟩
                refine j_iadd (pc := 96) (v := v_36) C dX6_extend_96 ev_36 ?_
                refine j_iload (pc := 97) C dX6_extend_97 8 rfl ?_
                refine j_callV (pc := 99) (As := [.ref a0, .int x23_7, .int p0, .int v_35, .int v_36, .int p4]) (rest := []) (wr := []) C (c_X6_tryOn_s l D cyC cyI cyJ cyZ cyO s0 s1 s2 s3 a0 a1 a2 a3 a4 a7 a5 a6 a8 a9 a10 x23_7 p0 v_35 v_36 p4 y23_s0_1 y23_s0_2 s_size s_height s_reach a_wares a_shelves a_nests a_lids a_tops g23_s1 g23_s2 s_times a_wide a_deep a_weight a_bears a_mayOn n9 hi_23_2 h_s_size h_a_wares h_a_shelves h_a_nests (by omega) hi_23_4 hdp9 h9 hA9) wd_133 wd_123 wd_134 wd_135 wd_136 ⟨by decide, by decide, rfl⟩ rfl ⟨rfl, rfl, (by show (0 + 2 * (n9 + 1) : Nat) + 1 ≤ 1 + 2 * (n9 + 1); omega), (by show 8 + (10 + 11) + (0 + 57 * (n9 + 1) : Nat) ≤ 29 + 57 * (n9 + 1); omega)⟩ ⟨Nat.le_of_ble_eq_true rfl, Nat.le_of_ble_eq_true rfl⟩ [0, 1, 2, 3, 7, 8, 9, 4, 5, 6] [] rfl rfl ⟨by decide, by decide, by decide⟩ 0 rfl rfl rfl (Nat.le_of_ble_eq_true rfl) dX6_extend_99 (fun u_37 hw_38 => ?_)
                refine j_eq (ws2 := [(s0, .inr (6, [.ref s1, .int (u_37.2.1 0), .int (u_37.2.1 1), .int s_size, .int s_height, .int s_reach, .ref s2, .ref s3])), (s1, .inl (cyI, 7, .inl (u_37.2.2.1 0))), (s2, .inl (cyI, 7, .inl (u_37.2.2.1 1))), (s3, .inl (cyI, 12, .inl s_times)), (a0, .inr (9, [.int a_wares, .int a_shelves, .int a_nests, .ref a1, .ref a2, .ref a3, .ref a4, .ref a5, .ref a6, .int a_lids, .int a_tops, .ref a7, .ref a8, .ref a9, .ref a10])), (a1, .inl (cyI, 12, .inl a_wide)), (a2, .inl (cyI, 12, .inl a_deep)), (a3, .inl (cyI, 12, .inl a_weight)), (a4, .inl (cyI, 12, .inl a_bears)), (a7, .inl (cyI, 12, .inl a_mayOn))]) (pc2 := 102) (lv2 := [(8, .int (u_32.2.1 0)), (7, .int x23_7), (6, .int p2), (0, .ref s0), (1, .ref a0), (2, .int p0), (3, .int p2), (4, .int p3), (5, .int p4)]) (st2 := []) rfl rfl rfl rfl ?_
                obtain ⟨hw_38_0, hw_38_1⟩ := hw_38
                obtain ⟨v_39, ev_39⟩ : ∃ z : Int32, x23_7 + 1 = z := ⟨_, rfl⟩
                have el_1 : (1 : Int32).toInt = 1 := rfl
                have hv_39 : v_39.toInt = x23_7.toInt + (1 : Int32).toInt := by rw [← ev_39]; exact fb_addI (by omega) (by omega)
                refine j_iinc (pc := 102) (v := v_39) (lv' := [(7, .int v_39), (8, .int (u_32.2.1 0)), (6, .int p2), (0, .ref s0), (1, .ref a0), (2, .int p0), (3, .int p2), (4, .int p3), (5, .int p4)]) C dX6_extend_102 1 rfl ev_39 (by decide) rfl ?_
                refine j_goto (pc := 105) (tgt := 37) C dX6_extend_105 (by decide) ?_
                exact j_lv [0, 2, 3, 4, 5, 6, 7, 8] rfl (ih_23 v_39 (u_37.2.1 0) (u_37.2.1 1) (u_37.2.2.1 0) (u_37.2.2.1 1) (by omega) hw_38_0 hw_38_1 (by omega))
              · skip
                have el_0 : (0 : Int32).toInt = 0 := rfl
                rw [i_eq] at c_29
                refine j_iconst (pc := 61) (v := 0) C dX6_extend_61 (by decide) ?_
                refine j_goto (pc := 62) (tgt := 79) C dX6_extend_62 (by decide) ?_
                refine j_istore (pc := 79) (lv' := [(8, .int 0), (7, .int x23_7), (6, .int p2), (0, .ref s0), (1, .ref a0), (2, .int p0), (3, .int p2), (4, .int p3), (5, .int p4)]) C dX6_extend_79 (by decide) rfl ?_
                refine j_aload_n (pc := 81) C dX6_extend_81 rfl 3 rfl ?_
                refine j_aload_n (pc := 82) C dX6_extend_82 rfl 4 rfl ?_
                refine j_iload (pc := 83) C dX6_extend_83 1 rfl ?_
                refine j_iload_n (pc := 85) C dX6_extend_85 rfl 5 rfl ?_
                refine j_iload_n (pc := 86) C dX6_extend_86 rfl 6 rfl ?_
                refine j_iconst (pc := 87) (v := 1) C dX6_extend_87 (by decide) ?_
                refine j_iload (pc := 88) C dX6_extend_88 1 rfl ?_
                obtain ⟨v_40, ev_40⟩ : ∃ z : Int32, 1 <<< (x23_7 &&& 31) = z := ⟨_, rfl⟩
                have el_1 : (1 : Int32).toInt = 1 := rfl
                have hv_40 : 1 ≤ v_40.toInt ∧ v_40.toInt ≤ 2048 := by rw [← ev_40]; exact shl1_iv 0 11 (by omega) (by omega) (by omega)
                refine j_ishl (pc := 90) (v := v_40) C dX6_extend_90 ev_40 ?_
                obtain ⟨v_41, ev_41⟩ : ∃ z : Int32, p2 ^^^ v_40 = z := ⟨_, rfl⟩
                refine j_ixor (pc := 91) (v := v_41) C dX6_extend_91 ev_41 ?_
                refine j_iload (pc := 92) C dX6_extend_92 7 rfl ?_
                refine j_iload (pc := 94) C dX6_extend_94 0 rfl ?_
                obtain ⟨v_42, ev_42⟩ : ∃ z : Int32, p3 + 0 = z := ⟨_, rfl⟩
                have el_0 : (0 : Int32).toInt = 0 := rfl
                refine j_iadd (pc := 96) (v := v_42) C dX6_extend_96 ev_42 ?_
                refine j_iload (pc := 97) C dX6_extend_97 8 rfl ?_
                refine j_callV (pc := 99) (As := [.ref a0, .int x23_7, .int p0, .int v_41, .int v_42, .int p4]) (rest := []) (wr := []) C (c_X6_tryOn_s l D cyC cyI cyJ cyZ cyO s0 s1 s2 s3 a0 a1 a2 a3 a4 a7 a5 a6 a8 a9 a10 x23_7 p0 v_41 v_42 p4 y23_s0_1 y23_s0_2 s_size s_height s_reach a_wares a_shelves a_nests a_lids a_tops g23_s1 g23_s2 s_times a_wide a_deep a_weight a_bears a_mayOn n9 hi_23_2 h_s_size h_a_wares h_a_shelves h_a_nests (by omega) hi_23_4 hdp9 h9 hA9) wd_133 wd_123 wd_134 wd_135 wd_136 ⟨by decide, by decide, rfl⟩ rfl ⟨rfl, rfl, (by show (0 + 2 * (n9 + 1) : Nat) + 1 ≤ 1 + 2 * (n9 + 1); omega), (by show 8 + (10 + 11) + (0 + 57 * (n9 + 1) : Nat) ≤ 29 + 57 * (n9 + 1); omega)⟩ ⟨Nat.le_of_ble_eq_true rfl, Nat.le_of_ble_eq_true rfl⟩ [0, 1, 2, 3, 4, 5, 6, 7, 8, 9] [] rfl rfl ⟨by decide, by decide, by decide⟩ 0 rfl rfl rfl (Nat.le_of_ble_eq_true rfl) dX6_extend_99 (fun u_43 hw_44 => ?_)
                refine j_eq (ws2 := [(s0, .inr (6, [.ref s1, .int (u_43.2.1 0), .int (u_43.2.1 1), .int s_size, .int s_height, .int s_reach, .ref s2, .ref s3])), (s1, .inl (cyI, 7, .inl (u_43.2.2.1 0))), (s2, .inl (cyI, 7, .inl (u_43.2.2.1 1))), (s3, .inl (cyI, 12, .inl s_times)), (a0, .inr (9, [.int a_wares, .int a_shelves, .int a_nests, .ref a1, .ref a2, .ref a3, .ref a4, .ref a5, .ref a6, .int a_lids, .int a_tops, .ref a7, .ref a8, .ref a9, .ref a10])), (a1, .inl (cyI, 12, .inl a_wide)), (a2, .inl (cyI, 12, .inl a_deep)), (a3, .inl (cyI, 12, .inl a_weight)), (a4, .inl (cyI, 12, .inl a_bears)), (a7, .inl (cyI, 12, .inl a_mayOn))]) (pc2 := 102) (lv2 := [(8, .int 0), (7, .int x23_7), (6, .int p2), (0, .ref s0), (1, .ref a0), (2, .int p0), (3, .int p2), (4, .int p3), (5, .int p4)]) (st2 := []) rfl rfl rfl rfl ?_
                obtain ⟨hw_44_0, hw_44_1⟩ := hw_44
                obtain ⟨v_45, ev_45⟩ : ∃ z : Int32, x23_7 + 1 = z := ⟨_, rfl⟩
                have el_1 : (1 : Int32).toInt = 1 := rfl
                have hv_45 : v_45.toInt = x23_7.toInt + (1 : Int32).toInt := by rw [← ev_45]; exact fb_addI (by omega) (by omega)
                refine j_iinc (pc := 102) (v := v_45) (lv' := [(7, .int v_45), (8, .int 0), (6, .int p2), (0, .ref s0), (1, .ref a0), (2, .int p0), (3, .int p2), (4, .int p3), (5, .int p4)]) C dX6_extend_102 1 rfl ev_45 (by decide) rfl ?_
                refine j_goto (pc := 105) (tgt := 37) C dX6_extend_105 (by decide) ?_
                exact j_lv [0, 2, 3, 4, 5, 6, 7, 8] rfl (ih_23 v_45 (u_43.2.1 0) (u_43.2.1 1) (u_43.2.2.1 0) (u_43.2.2.1 1) (by omega) hw_44_0 hw_44_1 (by omega))
      have el_0 : (0 : Int32).toInt = 0 := rfl
      exact j_lv [0, 1, 2, 3, 4, 5, 6, 7] rfl (loop_23 4096 0 s_cost s_found s_order s_trial (by decide) h_s_found h_s_trial (by omega))
  · skip
    rw [i_lt] at c_1
    exact j_vret (pc := 8) C hr hk (fun i => [].getD i 0, fun i => [s_cost, s_found].getD i 0, fun i => [s_order, s_trial].getD i (fun _ => 0), fun i => [].getD i (fun _ => 0)) rfl (show (0 ≤ (s_found).toInt ∧ (s_found).toInt ≤ 1) ∧ (Iv 7 (0) (11) s_trial) from ⟨h_s_found, h_s_trial⟩) [0, 1, 2, 3, 4, 5, 6, 7, 8, 9] (by decide) rfl (by decide) (by decide) dX6_extend_8
set_option maxHeartbeats 4000000 in
set_option maxRecDepth 100000 in
theorem S_fam_c_X6_extend : ∀ n9 : Nat, n9 ≤ 7 → S_c_X6_extend n9 := by
  intro n9
  induction n9 with
  | zero => exact fun _ => c_X6_extend_z
  | succ n9 ih =>
    intro h
    have i := ih (by omega)
    exact (fun l D cyC cyI cyJ cyZ cyO s0 s1 s2 s3 a0 a1 a2 a3 a4 a7 a5 a6 a8 a9 a10 p0 p2 p3 p4 s_cost s_found s_size s_height s_reach a_wares a_shelves a_nests a_lids a_tops s_order s_trial s_times a_wide a_deep a_weight a_bears a_mayOn h_s_found h_s_size h_a_wares h_a_shelves h_a_nests h_s_trial hdp9 => c_X6_extend_s l D cyC cyI cyJ cyZ cyO s0 s1 s2 s3 a0 a1 a2 a3 a4 a7 a5 a6 a8 a9 a10 p0 p2 p3 p4 s_cost s_found s_size s_height s_reach a_wares a_shelves a_nests a_lids a_tops s_order s_trial s_times a_wide a_deep a_weight a_bears a_mayOn n9 h_s_found h_s_size h_a_wares h_a_shelves h_a_nests h_s_trial hdp9 (by omega) i)
set_option maxHeartbeats 4000000 in
set_option maxRecDepth 100000 in
theorem c_X6_extend_0 (l : Launch) (D : DG) (cyC cyI cyJ cyZ cyO : ClassId) (s0 : Nat) (s1 : Nat) (s2 : Nat) (s3 : Nat) (a0 : Nat) (a1 : Nat) (a2 : Nat) (a3 : Nat) (a4 : Nat) (a7 : Nat) (a5 : Nat) (a6 : Nat) (a8 : Nat) (a9 : Nat) (a10 : Nat) (p0 : Int32) (p2 : Int32) (p3 : Int32) (p4 : Int32) (s_cost : Int32) (s_found : Int32) (s_size : Int32) (s_height : Int32) (s_reach : Int32) (a_wares : Int32) (a_shelves : Int32) (a_nests : Int32) (a_lids : Int32) (a_tops : Int32) (s_order : Nat → Int32) (s_trial : Nat → Int32) (s_times : Nat → Int32) (a_wide : Nat → Int32) (a_deep : Nat → Int32) (a_weight : Nat → Int32) (a_bears : Nat → Int32) (a_mayOn : Nat → Int32) (h_s_found : 0 ≤ (s_found).toInt ∧ (s_found).toInt ≤ 1) (h_s_size : 0 ≤ (s_size).toInt ∧ (s_size).toInt ≤ 7) (h_a_wares : 0 ≤ (a_wares).toInt ∧ (a_wares).toInt ≤ 12) (h_a_shelves : 0 ≤ (a_shelves).toInt ∧ (a_shelves).toInt ≤ 4) (h_a_nests : 0 ≤ (a_nests).toInt ∧ (a_nests).toInt ≤ 4) (h_s_trial : Iv 7 (0) (11) s_trial) (hdp9 : (p0).toInt = 7 - ((7 : Nat) : Int)) : KK l D (TY cyC cyI cyJ cyZ cyO) yX6_extend cX6_extend 9 none ({ frames := 15, cells := 0, slots := 0, locals := 428 } : Room) 0 0 [.ref s0, .ref a0, .int p0, .int p2, .int p3, .int p4] [(s0, .inr (6, [.ref s1, .int s_cost, .int s_found, .int s_size, .int s_height, .int s_reach, .ref s2, .ref s3])), (s1, .inl (cyI, 7, .inl s_order)), (s2, .inl (cyI, 7, .inl s_trial)), (s3, .inl (cyI, 12, .inl s_times)), (a0, .inr (9, [.int a_wares, .int a_shelves, .int a_nests, .ref a1, .ref a2, .ref a3, .ref a4, .ref a5, .ref a6, .int a_lids, .int a_tops, .ref a7, .ref a8, .ref a9, .ref a10])), (a1, .inl (cyI, 12, .inl a_wide)), (a2, .inl (cyI, 12, .inl a_deep)), (a3, .inl (cyI, 12, .inl a_weight)), (a4, .inl (cyI, 12, .inl a_bears)), (a7, .inl (cyI, 12, .inl a_mayOn))] (fun u => none) (fun u => (0 ≤ (u.2.1 1).toInt ∧ (u.2.1 1).toInt ≤ 1) ∧ (Iv 7 (0) (11) (u.2.2.1 1))) (fun u => [(s0, .inr (6, [.ref s1, .int (u.2.1 0), .int (u.2.1 1), .int s_size, .int s_height, .int s_reach, .ref s2, .ref s3])), (s1, .inl (cyI, 7, .inl (u.2.2.1 0))), (s2, .inl (cyI, 7, .inl (u.2.2.1 1))), (s3, .inl (cyI, 12, .inl s_times)), (a0, .inr (9, [.int a_wares, .int a_shelves, .int a_nests, .ref a1, .ref a2, .ref a3, .ref a4, .ref a5, .ref a6, .int a_lids, .int a_tops, .ref a7, .ref a8, .ref a9, .ref a10])), (a1, .inl (cyI, 12, .inl a_wide)), (a2, .inl (cyI, 12, .inl a_deep)), (a3, .inl (cyI, 12, .inl a_weight)), (a4, .inl (cyI, 12, .inl a_bears)), (a7, .inl (cyI, 12, .inl a_mayOn))]) := (S_fam_c_X6_extend 7 (Nat.le_refl _)) l D cyC cyI cyJ cyZ cyO s0 s1 s2 s3 a0 a1 a2 a3 a4 a7 a5 a6 a8 a9 a10 p0 p2 p3 p4 s_cost s_found s_size s_height s_reach a_wares a_shelves a_nests a_lids a_tops s_order s_trial s_times a_wide a_deep a_weight a_bears a_mayOn h_s_found h_s_size h_a_wares h_a_shelves h_a_nests h_s_trial hdp9
set_option maxHeartbeats 4000000 in
set_option maxRecDepth 100000 in
theorem c_X6_find (l : Launch) (D : DG) (cyC cyI cyJ cyZ cyO : ClassId) (s0 : Nat) (s1 : Nat) (s2 : Nat) (s3 : Nat) (a0 : Nat) (a1 : Nat) (a2 : Nat) (a3 : Nat) (a4 : Nat) (a7 : Nat) (a8 : Nat) (a9 : Nat) (n0 : Nat) (n4 : Nat) (q0 : Nat) (q1 : Nat) (a5 : Nat) (a6 : Nat) (a10 : Nat) (n1 : Nat) (n2 : Nat) (n3 : Nat) (p0 : Int32) (s_cost : Int32) (s_found : Int32) (s_size : Int32) (s_height : Int32) (s_reach : Int32) (a_wares : Int32) (a_shelves : Int32) (a_nests : Int32) (a_lids : Int32) (a_tops : Int32) (n_askings : Int32) (n_cost : Int32) (n_laid : Int32) (q_size : Int32) (s_order : Nat → Int32) (s_trial : Nat → Int32) (s_times : Nat → Int32) (a_wide : Nat → Int32) (a_deep : Nat → Int32) (a_weight : Nat → Int32) (a_bears : Nat → Int32) (a_mayOn : Nat → Int32) (a_height : Nat → Int32) (a_reach : Nat → Int32) (n_asking : Nat → Int32) (q_ware : Nat → Int32) (h_s_found : 0 ≤ (s_found).toInt ∧ (s_found).toInt ≤ 1) (h_s_size : 0 ≤ (s_size).toInt ∧ (s_size).toInt ≤ 7) (h_a_wares : 0 ≤ (a_wares).toInt ∧ (a_wares).toInt ≤ 12) (h_a_shelves : 0 ≤ (a_shelves).toInt ∧ (a_shelves).toInt ≤ 4) (h_a_nests : 0 ≤ (a_nests).toInt ∧ (a_nests).toInt ≤ 4) (h_n_askings : 0 ≤ (n_askings).toInt ∧ (n_askings).toInt ≤ 30) (h_n_laid : 0 ≤ (n_laid).toInt ∧ (n_laid).toInt ≤ 1) (h_q_size : 0 ≤ (q_size).toInt ∧ (q_size).toInt ≤ 12) (h_p0 : 0 ≤ (p0).toInt ∧ (p0).toInt ≤ 3) (h_s_trial : Iv 7 (0) (11) s_trial) (h_n_asking : Iv 30 (0) (11) n_asking) (h_q_ware : Iv 12 (0) (11) q_ware) : KK l D (TY cyC cyI cyJ cyZ cyO) yX6_find cX6_find 8 (some .boolean) ({ frames := 16, cells := 0, slots := 0, locals := 456 } : Room) 0 0 [.ref s0, .ref a0, .ref n0, .ref q0, .int p0] [(s0, .inr (6, [.ref s1, .int s_cost, .int s_found, .int s_size, .int s_height, .int s_reach, .ref s2, .ref s3])), (s1, .inl (cyI, 7, .inl s_order)), (s2, .inl (cyI, 7, .inl s_trial)), (s3, .inl (cyI, 12, .inl s_times)), (a0, .inr (9, [.int a_wares, .int a_shelves, .int a_nests, .ref a1, .ref a2, .ref a3, .ref a4, .ref a5, .ref a6, .int a_lids, .int a_tops, .ref a7, .ref a8, .ref a9, .ref a10])), (a1, .inl (cyI, 12, .inl a_wide)), (a2, .inl (cyI, 12, .inl a_deep)), (a3, .inl (cyI, 12, .inl a_weight)), (a4, .inl (cyI, 12, .inl a_bears)), (a7, .inl (cyI, 12, .inl a_mayOn)), (a8, .inl (cyI, 4, .inl a_height)), (a9, .inl (cyI, 4, .inl a_reach)), (n0, .inr (7, [.ref n1, .ref n2, .ref n3, .ref n4, .int n_askings, .int n_cost, .int n_laid])), (n4, .inl (cyI, 30, .inl n_asking)), (q0, .inr (4, [.ref q1, .int q_size])), (q1, .inl (cyI, 12, .inl q_ware))] (fun u => some (.int (u.2.1 0))) (fun u => (0 ≤ (u.2.1 0).toInt ∧ (u.2.1 0).toInt ≤ 1) ∧ (0 ≤ (u.2.1 2).toInt ∧ (u.2.1 2).toInt ≤ 1) ∧ (0 ≤ (u.2.1 3).toInt ∧ (u.2.1 3).toInt ≤ 7) ∧ (Iv 7 (0) (11) (u.2.2.1 1))) (fun u => [(s0, .inr (6, [.ref s1, .int (u.2.1 1), .int (u.2.1 2), .int (u.2.1 3), .int (u.2.1 4), .int (u.2.1 5), .ref s2, .ref s3])), (s1, .inl (cyI, 7, .inl (u.2.2.1 0))), (s2, .inl (cyI, 7, .inl (u.2.2.1 1))), (s3, .inl (cyI, 12, .inl (u.2.2.1 2))), (a0, .inr (9, [.int a_wares, .int a_shelves, .int a_nests, .ref a1, .ref a2, .ref a3, .ref a4, .ref a5, .ref a6, .int a_lids, .int a_tops, .ref a7, .ref a8, .ref a9, .ref a10])), (a1, .inl (cyI, 12, .inl a_wide)), (a2, .inl (cyI, 12, .inl a_deep)), (a3, .inl (cyI, 12, .inl a_weight)), (a4, .inl (cyI, 12, .inl a_bears)), (a7, .inl (cyI, 12, .inl a_mayOn)), (a8, .inl (cyI, 4, .inl a_height)), (a9, .inl (cyI, 4, .inl a_reach)), (n0, .inr (7, [.ref n1, .ref n2, .ref n3, .ref n4, .int n_askings, .int n_cost, .int n_laid])), (n4, .inl (cyI, 30, .inl n_asking)), (q0, .inr (4, [.ref q1, .int q_size])), (q1, .inl (cyI, 12, .inl q_ware))]) := by
  refine KK.of (lv0 := [(0, .ref s0), (1, .ref a0), (2, .ref n0), (3, .ref q0), (4, .int p0)]) (by decide) rfl (Nat.le_of_ble_eq_true rfl) ?_
  intro p e s m args below meth c A C hr hk hin
  refine j_aload_n (pc := 0) C dX6_find_0 rfl 0 rfl ?_
  refine j_aload_n (pc := 1) C dX6_find_1 rfl 3 rfl ?_
  refine j_get (pc := 2) (ci := 4) (v := .int q_size) C inw_4 14 rfl rfl 1 (by decide) wd_137 rfl rfl dX6_find_2 ?_
  refine j_bipush (pc := 5) (v := 7) C dX6_find_5 (by decide) ?_
  have el_7 : (7 : Int32).toInt = 7 := rfl
  obtain ⟨v_1, ev_1⟩ : ∃ z : Int32, (if (7 : Int32) < q_size then 7 else q_size) = z := ⟨_, rfl⟩
  have hv_1 : v_1.toInt = min q_size.toInt (7 : Int32).toInt := by rw [← ev_1]; exact mmin_I _ _
  refine j_mmin (pc := 7) (v := v_1) C wd_138 wd_139 wd_6 wd_140 (by decide) (Nat.le_of_ble_eq_true rfl) (by decide) (by decide) ev_1 dX6_find_7 ?_
  refine j_put (pc := 10) (ci := 6) (v := .int v_1) (ws' := [(s0, .inr (6, [.ref s1, .int s_cost, .int s_found, .int v_1, .int s_height, .int s_reach, .ref s2, .ref s3])), (s1, .inl (cyI, 7, .inl s_order)), (s2, .inl (cyI, 7, .inl s_trial)), (s3, .inl (cyI, 12, .inl s_times)), (a0, .inr (9, [.int a_wares, .int a_shelves, .int a_nests, .ref a1, .ref a2, .ref a3, .ref a4, .ref a5, .ref a6, .int a_lids, .int a_tops, .ref a7, .ref a8, .ref a9, .ref a10])), (a1, .inl (cyI, 12, .inl a_wide)), (a2, .inl (cyI, 12, .inl a_deep)), (a3, .inl (cyI, 12, .inl a_weight)), (a4, .inl (cyI, 12, .inl a_bears)), (a7, .inl (cyI, 12, .inl a_mayOn)), (a8, .inl (cyI, 4, .inl a_height)), (a9, .inl (cyI, 4, .inl a_reach)), (n0, .inr (7, [.ref n1, .ref n2, .ref n3, .ref n4, .int n_askings, .int n_cost, .int n_laid])), (n4, .inl (cyI, 30, .inl n_asking)), (q0, .inr (4, [.ref q1, .int q_size])), (q1, .inl (cyI, 12, .inl q_ware))]) C inw_6 0 rfl rfl 3 (by decide) wd_109 rfl tyX6_ok nmX6 rfl (tyX6_ok 3 (by decide)) rfl rfl (Nat.le_of_ble_eq_true rfl) dX6_find_10 rfl ?_
  refine j_aload_n (pc := 13) C dX6_find_13 rfl 0 rfl ?_
  refine j_aload_n (pc := 14) C dX6_find_14 rfl 1 rfl ?_
  refine j_get (pc := 15) (ci := 9) (v := .ref a8) C inw_9 4 rfl rfl 12 (by decide) wd_141 rfl rfl dX6_find_15 ?_
  refine j_iload (pc := 18) C dX6_find_18 4 rfl ?_
  obtain ⟨v_2, ev_2⟩ : ∃ z, a_height (p0).toInt.toNat = z := ⟨_, rfl⟩
  have env_2 : (a_height (p0).toInt.toNat).toInt = v_2.toInt := by rw [ev_2]
  refine j_iald (pc := 20) (v := v_2) (k := (p0).toInt.toNat) C 10 1 rfl rfl (i_nn h_p0.1) rfl (i_lt_n h_p0.1 (Int.lt_of_le_of_lt h_p0.2 (by decide))) ev_2 dX6_find_20 ?_
  refine j_put (pc := 21) (ci := 6) (v := .int v_2) (ws' := [(s0, .inr (6, [.ref s1, .int s_cost, .int s_found, .int v_1, .int v_2, .int s_reach, .ref s2, .ref s3])), (s1, .inl (cyI, 7, .inl s_order)), (s2, .inl (cyI, 7, .inl s_trial)), (s3, .inl (cyI, 12, .inl s_times)), (a0, .inr (9, [.int a_wares, .int a_shelves, .int a_nests, .ref a1, .ref a2, .ref a3, .ref a4, .ref a5, .ref a6, .int a_lids, .int a_tops, .ref a7, .ref a8, .ref a9, .ref a10])), (a1, .inl (cyI, 12, .inl a_wide)), (a2, .inl (cyI, 12, .inl a_deep)), (a3, .inl (cyI, 12, .inl a_weight)), (a4, .inl (cyI, 12, .inl a_bears)), (a7, .inl (cyI, 12, .inl a_mayOn)), (a8, .inl (cyI, 4, .inl a_height)), (a9, .inl (cyI, 4, .inl a_reach)), (n0, .inr (7, [.ref n1, .ref n2, .ref n3, .ref n4, .int n_askings, .int n_cost, .int n_laid])), (n4, .inl (cyI, 30, .inl n_asking)), (q0, .inr (4, [.ref q1, .int q_size])), (q1, .inl (cyI, 12, .inl q_ware))]) C inw_6 0 rfl rfl 4 (by decide) wd_116 rfl tyX6_ok nmX6 rfl (tyX6_ok 4 (by decide)) rfl rfl (Nat.le_of_ble_eq_true rfl) dX6_find_21 rfl ?_
  refine j_aload_n (pc := 24) C dX6_find_24 rfl 0 rfl ?_
  refine j_aload_n (pc := 25) C dX6_find_25 rfl 1 rfl ?_
  refine j_get (pc := 26) (ci := 9) (v := .ref a9) C inw_9 4 rfl rfl 13 (by decide) wd_142 rfl rfl dX6_find_26 ?_
  refine j_iload (pc := 29) C dX6_find_29 4 rfl ?_
  obtain ⟨v_3, ev_3⟩ : ∃ z, a_reach (p0).toInt.toNat = z := ⟨_, rfl⟩
  have env_3 : (a_reach (p0).toInt.toNat).toInt = v_3.toInt := by rw [ev_3]
  refine j_iald (pc := 31) (v := v_3) (k := (p0).toInt.toNat) C 11 1 rfl rfl (i_nn h_p0.1) rfl (i_lt_n h_p0.1 (Int.lt_of_le_of_lt h_p0.2 (by decide))) ev_3 dX6_find_31 ?_
  refine j_put (pc := 32) (ci := 6) (v := .int v_3) (ws' := [(s0, .inr (6, [.ref s1, .int s_cost, .int s_found, .int v_1, .int v_2, .int v_3, .ref s2, .ref s3])), (s1, .inl (cyI, 7, .inl s_order)), (s2, .inl (cyI, 7, .inl s_trial)), (s3, .inl (cyI, 12, .inl s_times)), (a0, .inr (9, [.int a_wares, .int a_shelves, .int a_nests, .ref a1, .ref a2, .ref a3, .ref a4, .ref a5, .ref a6, .int a_lids, .int a_tops, .ref a7, .ref a8, .ref a9, .ref a10])), (a1, .inl (cyI, 12, .inl a_wide)), (a2, .inl (cyI, 12, .inl a_deep)), (a3, .inl (cyI, 12, .inl a_weight)), (a4, .inl (cyI, 12, .inl a_bears)), (a7, .inl (cyI, 12, .inl a_mayOn)), (a8, .inl (cyI, 4, .inl a_height)), (a9, .inl (cyI, 4, .inl a_reach)), (n0, .inr (7, [.ref n1, .ref n2, .ref n3, .ref n4, .int n_askings, .int n_cost, .int n_laid])), (n4, .inl (cyI, 30, .inl n_asking)), (q0, .inr (4, [.ref q1, .int q_size])), (q1, .inl (cyI, 12, .inl q_ware))]) C inw_6 0 rfl rfl 5 (by decide) wd_118 rfl tyX6_ok nmX6 rfl (tyX6_ok 5 (by decide)) rfl rfl (Nat.le_of_ble_eq_true rfl) dX6_find_32 rfl ?_
  refine j_aload_n (pc := 35) C dX6_find_35 rfl 0 rfl ?_
  refine j_iconst (pc := 36) (v := 0) C dX6_find_36 (by decide) ?_
  refine j_put (pc := 37) (ci := 6) (v := .int 0) (ws' := [(s0, .inr (6, [.ref s1, .int s_cost, .int 0, .int v_1, .int v_2, .int v_3, .ref s2, .ref s3])), (s1, .inl (cyI, 7, .inl s_order)), (s2, .inl (cyI, 7, .inl s_trial)), (s3, .inl (cyI, 12, .inl s_times)), (a0, .inr (9, [.int a_wares, .int a_shelves, .int a_nests, .ref a1, .ref a2, .ref a3, .ref a4, .ref a5, .ref a6, .int a_lids, .int a_tops, .ref a7, .ref a8, .ref a9, .ref a10])), (a1, .inl (cyI, 12, .inl a_wide)), (a2, .inl (cyI, 12, .inl a_deep)), (a3, .inl (cyI, 12, .inl a_weight)), (a4, .inl (cyI, 12, .inl a_bears)), (a7, .inl (cyI, 12, .inl a_mayOn)), (a8, .inl (cyI, 4, .inl a_height)), (a9, .inl (cyI, 4, .inl a_reach)), (n0, .inr (7, [.ref n1, .ref n2, .ref n3, .ref n4, .int n_askings, .int n_cost, .int n_laid])), (n4, .inl (cyI, 30, .inl n_asking)), (q0, .inr (4, [.ref q1, .int q_size])), (q1, .inl (cyI, 12, .inl q_ware))]) C inw_6 0 rfl rfl 2 (by decide) wd_120 rfl tyX6_ok nmX6 rfl (tyX6_ok 2 (by decide)) rfl rfl (Nat.le_of_ble_eq_true rfl) dX6_find_37 rfl ?_
  refine j_iconst (pc := 40) (v := 0) C dX6_find_40 (by decide) ?_
  refine j_istore (pc := 41) (lv' := [(5, .int 0), (0, .ref s0), (1, .ref a0), (2, .ref n0), (3, .ref q0), (4, .int p0)]) C dX6_find_41 (by decide) rfl ?_
  refine j_iconst (pc := 43) (v := 0) C dX6_find_43 (by decide) ?_
  refine j_istore (pc := 44) (lv' := [(6, .int 0), (5, .int 0), (0, .ref s0), (1, .ref a0), (2, .ref n0), (3, .ref q0), (4, .int p0)]) C dX6_find_44 (by decide) rfl ?_
  have loop_4 : ∀ (k_4 : Nat) (x4_6 : Int32) (x4_5 : Int32) (g4_s3 : Nat → Int32), (0 ≤ (x4_6).toInt ∧ (x4_6).toInt ≤ 7) → (7 - x4_6.toInt).toNat < k_4 → J p l e ({ frames := 16, cells := 0, slots := 0, locals := 456 } : Room) s m args below meth c D A 8 0 0 (QX below D (TY cyC cyI cyJ cyZ cyO) A (fun u => some (.int (u.2.1 0))) (fun u => (0 ≤ (u.2.1 0).toInt ∧ (u.2.1 0).toInt ≤ 1) ∧ (0 ≤ (u.2.1 2).toInt ∧ (u.2.1 2).toInt ≤ 1) ∧ (0 ≤ (u.2.1 3).toInt ∧ (u.2.1 3).toInt ≤ 7) ∧ (Iv 7 (0) (11) (u.2.2.1 1))) (fun u => [(s0, .inr (6, [.ref s1, .int (u.2.1 1), .int (u.2.1 2), .int (u.2.1 3), .int (u.2.1 4), .int (u.2.1 5), .ref s2, .ref s3])), (s1, .inl (cyI, 7, .inl (u.2.2.1 0))), (s2, .inl (cyI, 7, .inl (u.2.2.1 1))), (s3, .inl (cyI, 12, .inl (u.2.2.1 2))), (a0, .inr (9, [.int a_wares, .int a_shelves, .int a_nests, .ref a1, .ref a2, .ref a3, .ref a4, .ref a5, .ref a6, .int a_lids, .int a_tops, .ref a7, .ref a8, .ref a9, .ref a10])), (a1, .inl (cyI, 12, .inl a_wide)), (a2, .inl (cyI, 12, .inl a_deep)), (a3, .inl (cyI, 12, .inl a_weight)), (a4, .inl (cyI, 12, .inl a_bears)), (a7, .inl (cyI, 12, .inl a_mayOn)), (a8, .inl (cyI, 4, .inl a_height)), (a9, .inl (cyI, 4, .inl a_reach)), (n0, .inr (7, [.ref n1, .ref n2, .ref n3, .ref n4, .int n_askings, .int n_cost, .int n_laid])), (n4, .inl (cyI, 30, .inl n_asking)), (q0, .inr (4, [.ref q1, .int q_size])), (q1, .inl (cyI, 12, .inl q_ware))]) args s 0 0) [(s0, .inr (6, [.ref s1, .int s_cost, .int 0, .int v_1, .int v_2, .int v_3, .ref s2, .ref s3])), (s1, .inl (cyI, 7, .inl s_order)), (s2, .inl (cyI, 7, .inl s_trial)), (s3, .inl (cyI, 12, .inl g4_s3)), (a0, .inr (9, [.int a_wares, .int a_shelves, .int a_nests, .ref a1, .ref a2, .ref a3, .ref a4, .ref a5, .ref a6, .int a_lids, .int a_tops, .ref a7, .ref a8, .ref a9, .ref a10])), (a1, .inl (cyI, 12, .inl a_wide)), (a2, .inl (cyI, 12, .inl a_deep)), (a3, .inl (cyI, 12, .inl a_weight)), (a4, .inl (cyI, 12, .inl a_bears)), (a7, .inl (cyI, 12, .inl a_mayOn)), (a8, .inl (cyI, 4, .inl a_height)), (a9, .inl (cyI, 4, .inl a_reach)), (n0, .inr (7, [.ref n1, .ref n2, .ref n3, .ref n4, .int n_askings, .int n_cost, .int n_laid])), (n4, .inl (cyI, 30, .inl n_asking)), (q0, .inr (4, [.ref q1, .int q_size])), (q1, .inl (cyI, 12, .inl q_ware))] 46 [(6, .int x4_6), (5, .int x4_5), (0, .ref s0), (1, .ref a0), (2, .ref n0), (3, .ref q0), (4, .int p0)] [] := by
    intro k_4
    induction k_4 with
    | zero =>
      intro x4_6 x4_5 g4_s3 hi_4_0 hm_4
      exact absurd hm_4 (Nat.not_lt_zero _)
    | succ k_4 ih_4 =>
      intro x4_6 x4_5 g4_s3 hi_4_0 hm_4
      refine j_iload (pc := 46) C dX6_find_46 0 rfl ?_
      refine j_aload_n (pc := 48) C dX6_find_48 rfl 2 rfl ?_
      refine j_get (pc := 49) (ci := 6) (v := .int v_1) C inw_6 0 rfl rfl 3 (by decide) wd_109 rfl rfl dX6_find_49 ?_
      refine j_icmp_ge (pc := 52) (tgt := 92) C dX6_find_52 (by decide) (fun c_5 => ?_) (fun c_5 => ?_)
      · skip
        rw [i_le] at c_5
        refine j_aload_n (pc := 92) C dX6_find_92 rfl 2 rfl ?_
        refine j_aload_n (pc := 93) C dX6_find_93 rfl 3 rfl ?_
        refine j_iconst (pc := 94) (v := 0) C dX6_find_94 (by decide) ?_
        refine j_iload (pc := 95) C dX6_find_95 1 rfl ?_
        refine j_iconst (pc := 97) (v := 0) C dX6_find_97 (by decide) ?_
        refine j_iconst (pc := 98) (v := 0) C dX6_find_98 (by decide) ?_
        refine j_callV (pc := 99) (As := [.ref a0, .int 0, .int x4_5, .int 0, .int 0]) (rest := []) (wr := [(a8, .inl (cyI, 4, .inl a_height)), (a9, .inl (cyI, 4, .inl a_reach)), (n0, .inr (7, [.ref n1, .ref n2, .ref n3, .ref n4, .int n_askings, .int n_cost, .int n_laid])), (n4, .inl (cyI, 30, .inl n_asking)), (q0, .inr (4, [.ref q1, .int q_size])), (q1, .inl (cyI, 12, .inl q_ware))]) C (c_X6_extend_0 l D cyC cyI cyJ cyZ cyO s0 s1 s2 s3 a0 a1 a2 a3 a4 a7 a5 a6 a8 a9 a10 0 x4_5 0 0 s_cost 0 v_1 v_2 v_3 a_wares a_shelves a_nests a_lids a_tops s_order s_trial g4_s3 a_wide a_deep a_weight a_bears a_mayOn (by decide) (by omega) h_a_wares h_a_shelves h_a_nests h_s_trial (by decide)) wd_122 wd_123 wd_124 wd_125 wd_126 ⟨by decide, by decide, rfl⟩ rfl ⟨rfl, rfl, by decide, by decide⟩ ⟨by decide, by decide⟩ [0, 1, 2, 3, 4, 5, 6, 7, 8, 9] [10, 11, 12, 13, 14, 15] rfl rfl ⟨by decide, by decide, by decide⟩ 0 rfl rfl rfl (Nat.le_of_ble_eq_true rfl) dX6_find_99 (fun u_6 hw_7 => ?_)
        refine j_eq (ws2 := [(a8, .inl (cyI, 4, .inl a_height)), (a9, .inl (cyI, 4, .inl a_reach)), (n0, .inr (7, [.ref n1, .ref n2, .ref n3, .ref n4, .int n_askings, .int n_cost, .int n_laid])), (n4, .inl (cyI, 30, .inl n_asking)), (q0, .inr (4, [.ref q1, .int q_size])), (q1, .inl (cyI, 12, .inl q_ware)), (s0, .inr (6, [.ref s1, .int (u_6.2.1 0), .int (u_6.2.1 1), .int v_1, .int v_2, .int v_3, .ref s2, .ref s3])), (s1, .inl (cyI, 7, .inl (u_6.2.2.1 0))), (s2, .inl (cyI, 7, .inl (u_6.2.2.1 1))), (s3, .inl (cyI, 12, .inl g4_s3)), (a0, .inr (9, [.int a_wares, .int a_shelves, .int a_nests, .ref a1, .ref a2, .ref a3, .ref a4, .ref a5, .ref a6, .int a_lids, .int a_tops, .ref a7, .ref a8, .ref a9, .ref a10])), (a1, .inl (cyI, 12, .inl a_wide)), (a2, .inl (cyI, 12, .inl a_deep)), (a3, .inl (cyI, 12, .inl a_weight)), (a4, .inl (cyI, 12, .inl a_bears)), (a7, .inl (cyI, 12, .inl a_mayOn))]) (pc2 := 102) (lv2 := [(6, .int x4_6), (5, .int x4_5), (0, .ref s0), (1, .ref a0), (2, .ref n0), (3, .ref q0), (4, .int p0)]) (st2 := []) rfl rfl rfl rfl ?_
        obtain ⟨hw_7_0, hw_7_1⟩ := hw_7
        refine j_aload_n (pc := 102) C dX6_find_102 rfl 2 rfl ?_
        refine j_get (pc := 103) (ci := 6) (v := .int (u_6.2.1 1)) C inw_6 6 rfl rfl 2 (by decide) wd_120 rfl rfl dX6_find_103 ?_
        exact j_zret (pc := 106) C hr (nb_01 ⟨by omega, by omega⟩).1 hk (fun i => [].getD i 0, fun i => [(u_6.2.1 1), (u_6.2.1 0), (u_6.2.1 1), v_1, v_2, v_3].getD i 0, fun i => [(u_6.2.2.1 0), (u_6.2.2.1 1), g4_s3].getD i (fun _ => 0), fun i => [].getD i (fun _ => 0)) rfl (show (0 ≤ ((u_6.2.1 1)).toInt ∧ ((u_6.2.1 1)).toInt ≤ 1) ∧ (0 ≤ ((u_6.2.1 1)).toInt ∧ ((u_6.2.1 1)).toInt ≤ 1) ∧ (0 ≤ (v_1).toInt ∧ (v_1).toInt ≤ 7) ∧ (Iv 7 (0) (11) (u_6.2.2.1 1)) from ⟨hw_7_0, hw_7_0, by omega, hw_7_1⟩) [6, 7, 8, 9, 10, 11, 12, 13, 14, 15, 0, 1, 2, 3, 4, 5] (by decide) rfl (by decide) (by decide) dX6_find_106
      · skip
        rw [i_le] at c_5
        refine j_aload_n (pc := 55) C dX6_find_55 rfl 5 rfl ?_
        refine j_get (pc := 56) (ci := 4) (v := .ref q1) C inw_4 14 rfl rfl 0 (by decide) wd_143 rfl rfl dX6_find_56 ?_
        refine j_iload (pc := 59) C dX6_find_59 0 rfl ?_
        obtain ⟨v_8, ev_8⟩ : ∃ z, q_ware (x4_6).toInt.toNat = z := ⟨_, rfl⟩
        have env_8 : (q_ware (x4_6).toInt.toNat).toInt = v_8.toInt := by rw [ev_8]
        have hv_8 := h_q_ware (x4_6).toInt.toNat (i_lt_n hi_4_0.1 (Int.lt_of_le_of_lt hi_4_0.2 (by decide))); rw [ev_8] at hv_8
        refine j_iald (pc := 61) (v := v_8) (k := (x4_6).toInt.toNat) C 15 1 rfl rfl (i_nn hi_4_0.1) rfl (i_lt_n hi_4_0.1 (Int.lt_of_le_of_lt hi_4_0.2 (by decide))) ev_8 dX6_find_61 ?_
        refine j_istore (pc := 62) (lv' := [(7, .int v_8), (6, .int x4_6), (5, .int x4_5), (0, .ref s0), (1, .ref a0), (2, .ref n0), (3, .ref q0), (4, .int p0)]) C dX6_find_62 (by decide) rfl ?_
        refine j_iload (pc := 64) C dX6_find_64 2 rfl ?_
        refine j_iconst (pc := 66) (v := 1) C dX6_find_66 (by decide) ?_
        refine j_iload (pc := 67) C dX6_find_67 0 rfl ?_
        obtain ⟨v_9, ev_9⟩ : ∃ z : Int32, 1 <<< (v_8 &&& 31) = z := ⟨_, rfl⟩
        have el_1 : (1 : Int32).toInt = 1 := rfl
        have hv_9 : 1 ≤ v_9.toInt ∧ v_9.toInt ≤ 2048 := by rw [← ev_9]; exact shl1_iv 0 11 (by omega) (by omega) (by omega)
        refine j_ishl (pc := 69) (v := v_9) C dX6_find_69 ev_9 ?_
        obtain ⟨v_10, ev_10⟩ : ∃ z : Int32, x4_5 ||| v_9 = z := ⟨_, rfl⟩
        refine j_ior (pc := 70) (v := v_10) C dX6_find_70 ev_10 ?_
        refine j_istore (pc := 71) (lv' := [(5, .int v_10), (7, .int v_8), (6, .int x4_6), (0, .ref s0), (1, .ref a0), (2, .ref n0), (3, .ref q0), (4, .int p0)]) C dX6_find_71 (by decide) rfl ?_
        refine j_aload_n (pc := 73) C dX6_find_73 rfl 3 rfl ?_
        refine j_get (pc := 74) (ci := 6) (v := .ref s3) C inw_6 0 rfl rfl 7 (by decide) wd_119 rfl rfl dX6_find_74 ?_
        refine j_iload (pc := 77) C dX6_find_77 1 rfl ?_
        refine j_aload_n (pc := 79) C dX6_find_79 rfl 5 rfl ?_
        refine j_iload (pc := 80) C dX6_find_80 1 rfl ?_
        refine j_callV (pc := 82) (As := [.int v_8]) (rest := [.int v_8, .ref s3]) (wr := [(s0, .inr (6, [.ref s1, .int s_cost, .int 0, .int v_1, .int v_2, .int v_3, .ref s2, .ref s3])), (s1, .inl (cyI, 7, .inl s_order)), (s2, .inl (cyI, 7, .inl s_trial)), (s3, .inl (cyI, 12, .inl g4_s3)), (a0, .inr (9, [.int a_wares, .int a_shelves, .int a_nests, .ref a1, .ref a2, .ref a3, .ref a4, .ref a5, .ref a6, .int a_lids, .int a_tops, .ref a7, .ref a8, .ref a9, .ref a10])), (a1, .inl (cyI, 12, .inl a_wide)), (a2, .inl (cyI, 12, .inl a_deep)), (a3, .inl (cyI, 12, .inl a_weight)), (a4, .inl (cyI, 12, .inl a_bears)), (a7, .inl (cyI, 12, .inl a_mayOn)), (a8, .inl (cyI, 4, .inl a_height)), (a9, .inl (cyI, 4, .inl a_reach)), (q0, .inr (4, [.ref q1, .int q_size])), (q1, .inl (cyI, 12, .inl q_ware))]) C (c_X7_timesAsked l D cyC cyI cyJ cyZ cyO n0 n4 n1 n2 n3 v_8 n_askings n_cost n_laid n_asking h_n_askings h_n_laid h_n_asking) wd_144 wd_9 wd_145 wd_146 wd_147 ⟨by decide, by decide, rfl⟩ rfl ⟨rfl, rfl, by decide, by decide⟩ ⟨by decide, by decide⟩ [12, 13] [0, 1, 2, 3, 4, 5, 6, 7, 8, 9, 10, 11, 14, 15] rfl rfl ⟨by decide, by decide, by decide⟩ 12 rfl rfl rfl (Nat.le_of_ble_eq_true rfl) dX6_find_82 (fun u_11 hw_12 => ?_)
        refine j_eq (ws2 := [(s0, .inr (6, [.ref s1, .int s_cost, .int 0, .int v_1, .int v_2, .int v_3, .ref s2, .ref s3])), (s1, .inl (cyI, 7, .inl s_order)), (s2, .inl (cyI, 7, .inl s_trial)), (s3, .inl (cyI, 12, .inl g4_s3)), (a0, .inr (9, [.int a_wares, .int a_shelves, .int a_nests, .ref a1, .ref a2, .ref a3, .ref a4, .ref a5, .ref a6, .int a_lids, .int a_tops, .ref a7, .ref a8, .ref a9, .ref a10])), (a1, .inl (cyI, 12, .inl a_wide)), (a2, .inl (cyI, 12, .inl a_deep)), (a3, .inl (cyI, 12, .inl a_weight)), (a4, .inl (cyI, 12, .inl a_bears)), (a7, .inl (cyI, 12, .inl a_mayOn)), (a8, .inl (cyI, 4, .inl a_height)), (a9, .inl (cyI, 4, .inl a_reach)), (q0, .inr (4, [.ref q1, .int q_size])), (q1, .inl (cyI, 12, .inl q_ware)), (n0, .inr (7, [.ref n1, .ref n2, .ref n3, .ref n4, .int n_askings, .int n_cost, .int n_laid])), (n4, .inl (cyI, 30, .inl n_asking))]) (pc2 := 85) (lv2 := [(5, .int v_10), (7, .int v_8), (6, .int x4_6), (0, .ref s0), (1, .ref a0), (2, .ref n0), (3, .ref q0), (4, .int p0)]) (st2 := [.int (u_11.2.1 0), .int v_8, .ref s3]) rfl rfl rfl rfl ?_
        obtain ⟨f_13, ef_13⟩ : ∃ z, z = upd g4_s3 (v_8).toInt.toNat (u_11.2.1 0) := ⟨_, rfl⟩
        refine j_iast (pc := 85) (k := (v_8).toInt.toNat) (ws' := [(s0, .inr (6, [.ref s1, .int s_cost, .int 0, .int v_1, .int v_2, .int v_3, .ref s2, .ref s3])), (s1, .inl (cyI, 7, .inl s_order)), (s2, .inl (cyI, 7, .inl s_trial)), (s3, .inl (cyI, 12, .inl f_13)), (a0, .inr (9, [.int a_wares, .int a_shelves, .int a_nests, .ref a1, .ref a2, .ref a3, .ref a4, .ref a5, .ref a6, .int a_lids, .int a_tops, .ref a7, .ref a8, .ref a9, .ref a10])), (a1, .inl (cyI, 12, .inl a_wide)), (a2, .inl (cyI, 12, .inl a_deep)), (a3, .inl (cyI, 12, .inl a_weight)), (a4, .inl (cyI, 12, .inl a_bears)), (a7, .inl (cyI, 12, .inl a_mayOn)), (a8, .inl (cyI, 4, .inl a_height)), (a9, .inl (cyI, 4, .inl a_reach)), (q0, .inr (4, [.ref q1, .int q_size])), (q1, .inl (cyI, 12, .inl q_ware)), (n0, .inr (7, [.ref n1, .ref n2, .ref n3, .ref n4, .int n_askings, .int n_cost, .int n_laid])), (n4, .inl (cyI, 30, .inl n_asking))]) C 3 1 rfl rfl (i_nn hv_8.1) rfl (i_lt_n hv_8.1 (Int.lt_of_le_of_lt hv_8.2 (by decide))) dX6_find_85 (by rw [ef_13]; rfl) ?_
        obtain ⟨v_14, ev_14⟩ : ∃ z : Int32, x4_6 + 1 = z := ⟨_, rfl⟩
        have el_1 : (1 : Int32).toInt = 1 := rfl
        have hv_14 : v_14.toInt = x4_6.toInt + (1 : Int32).toInt := by rw [← ev_14]; exact fb_addI (by omega) (by omega)
        refine j_iinc (pc := 86) (v := v_14) (lv' := [(6, .int v_14), (5, .int v_10), (7, .int v_8), (0, .ref s0), (1, .ref a0), (2, .ref n0), (3, .ref q0), (4, .int p0)]) C dX6_find_86 2 rfl ev_14 (by decide) rfl ?_
        refine j_goto (pc := 89) (tgt := 46) C dX6_find_89 (by decide) ?_
        refine j_subG (ws' := [(s0, .inr (6, [.ref s1, .int s_cost, .int 0, .int v_1, .int v_2, .int v_3, .ref s2, .ref s3])), (s1, .inl (cyI, 7, .inl s_order)), (s2, .inl (cyI, 7, .inl s_trial)), (s3, .inl (cyI, 12, .inl f_13)), (a0, .inr (9, [.int a_wares, .int a_shelves, .int a_nests, .ref a1, .ref a2, .ref a3, .ref a4, .ref a5, .ref a6, .int a_lids, .int a_tops, .ref a7, .ref a8, .ref a9, .ref a10])), (a1, .inl (cyI, 12, .inl a_wide)), (a2, .inl (cyI, 12, .inl a_deep)), (a3, .inl (cyI, 12, .inl a_weight)), (a4, .inl (cyI, 12, .inl a_bears)), (a7, .inl (cyI, 12, .inl a_mayOn)), (a8, .inl (cyI, 4, .inl a_height)), (a9, .inl (cyI, 4, .inl a_reach)), (n0, .inr (7, [.ref n1, .ref n2, .ref n3, .ref n4, .int n_askings, .int n_cost, .int n_laid])), (n4, .inl (cyI, 30, .inl n_asking)), (q0, .inr (4, [.ref q1, .int q_size])), (q1, .inl (cyI, 12, .inl q_ware))]) [0, 1, 2, 3, 4, 5, 6, 7, 8, 9, 10, 11, 14, 15, 12, 13] (by decide) rfl ?_
        exact j_lv [0, 1, 3, 4, 5, 6, 7] rfl (ih_4 v_14 v_10 f_13 (by omega) (by omega))
  have el_0 : (0 : Int32).toInt = 0 := rfl
  have el_0 : (0 : Int32).toInt = 0 := rfl
  exact j_lv [0, 1, 2, 3, 4, 5, 6] rfl (loop_4 4096 0 0 s_times (by decide) (by omega))
set_option maxHeartbeats 4000000 in
set_option maxRecDepth 100000 in
theorem c_J7_fill_d0a16 (l : Launch) (D : DG) (cyC cyI cyJ cyZ cyO : ClassId) (d1 : Nat) (p0 : Int64) (d_digits : Nat → Int64) : KK l D (TY cyC cyI cyJ cyZ cyO) yJ7_fill_d0a16 cJ7_fill_d0a16 5 none ({ frames := 0, cells := 0, slots := 0, locals := 0 } : Room) 0 0 [.ref d1, .long p0] [(d1, .inl (cyJ, 4, .inr (.inl d_digits)))] (fun u => none) (fun u => True) (fun u => [(d1, .inl (cyJ, 4, .inr (.inl (u.2.2.2 0))))]) := by
  refine KK.of (lv0 := [(0, .ref d1), (1, .long p0)]) (by decide) rfl (Nat.le_of_ble_eq_true rfl) ?_
  intro p e s m args below meth c A C hr hk hin
  refine j_iconst (pc := 0) (v := 0) C dJ7_fill_d0a16_0 (by decide) ?_
  refine j_istore_n (pc := 1) (lv' := [(3, .int 0), (0, .ref d1), (1, .long p0)]) C dJ7_fill_d0a16_1 rfl (by decide) rfl ?_
  refine j_aload_n (pc := 2) C dJ7_fill_d0a16_2 rfl 1 rfl ?_
  refine j_alen (pc := 3) (v := 4) C 0 2 rfl rfl rfl dJ7_fill_d0a16_3 ?_
  refine j_istore (pc := 4) (lv' := [(4, .int 4), (3, .int 0), (0, .ref d1), (1, .long p0)]) C dJ7_fill_d0a16_4 (by decide) rfl ?_
  have loop_1 : ∀ (k_1 : Nat) (x1_3 : Int32) (g1_d1 : Nat → Int64), (0 ≤ (x1_3).toInt ∧ (x1_3).toInt ≤ 4) → (4 - x1_3.toInt).toNat < k_1 → J p l e ({ frames := 0, cells := 0, slots := 0, locals := 0 } : Room) s m args below meth c D A 5 0 0 (QX below D (TY cyC cyI cyJ cyZ cyO) A (fun u => none) (fun u => True) (fun u => [(d1, .inl (cyJ, 4, .inr (.inl (u.2.2.2 0))))]) args s 0 0) [(d1, .inl (cyJ, 4, .inr (.inl g1_d1)))] 6 [(4, .int 4), (3, .int x1_3), (0, .ref d1), (1, .long p0)] [] := by
    intro k_1
    induction k_1 with
    | zero =>
      intro x1_3 g1_d1 hi_1_0 hm_1
      exact absurd hm_1 (Nat.not_lt_zero _)
    | succ k_1 ih_1 =>
      intro x1_3 g1_d1 hi_1_0 hm_1
      refine j_iload_n (pc := 6) C dJ7_fill_d0a16_6 rfl 1 rfl ?_
      refine j_iload (pc := 7) C dJ7_fill_d0a16_7 0 rfl ?_
      refine j_icmp_ge (pc := 9) (tgt := 22) C dJ7_fill_d0a16_9 (by decide) (fun c_2 => ?_) (fun c_2 => ?_)
      · skip
        have el_4 : (4 : Int32).toInt = 4 := rfl
        rw [i_le] at c_2
        have k0c_2 : x1_3.toInt = 4 := by omega
        exact j_vret (pc := 22) C hr hk (fun i => [].getD i 0, fun i => [].getD i 0, fun i => [].getD i (fun _ => 0), fun i => [g1_d1].getD i (fun _ => 0)) rfl trivial [0] (by decide) rfl (by decide) (by decide) dJ7_fill_d0a16_22
      · skip
        have el_4 : (4 : Int32).toInt = 4 := rfl
        rw [i_le] at c_2
        refine j_aload_n (pc := 12) C dJ7_fill_d0a16_12 rfl 2 rfl ?_
        refine j_iload_n (pc := 13) C dJ7_fill_d0a16_13 rfl 1 rfl ?_
        refine j_lload_n (pc := 14) C dJ7_fill_d0a16_14 rfl 3 rfl ?_
        obtain ⟨f_3, ef_3⟩ : ∃ z, z = vp_updL g1_d1 (x1_3).toInt.toNat p0 := ⟨_, rfl⟩
        refine j_last (pc := 15) (k := (x1_3).toInt.toNat) (ws' := [(d1, .inl (cyJ, 4, .inr (.inl f_3)))]) C 0 2 rfl rfl (i_nn hi_1_0.1) rfl (i_lt_n hi_1_0.1 (by omega)) dJ7_fill_d0a16_15 (by rw [ef_3]; rfl) ?_
        obtain ⟨v_4, ev_4⟩ : ∃ z : Int32, x1_3 + 1 = z := ⟨_, rfl⟩
        have el_1 : (1 : Int32).toInt = 1 := rfl
        have hv_4 : v_4.toInt = x1_3.toInt + (1 : Int32).toInt := by rw [← ev_4]; exact fb_addI (by omega) (by omega)
        refine j_iinc (pc := 16) (v := v_4) (lv' := [(3, .int v_4), (4, .int 4), (0, .ref d1), (1, .long p0)]) C dJ7_fill_d0a16_16 1 rfl ev_4 (by decide) rfl ?_
        refine j_goto (pc := 19) (tgt := 6) C dJ7_fill_d0a16_19 (by decide) ?_
        exact j_lv [1, 0, 2, 3] rfl (ih_1 v_4 f_3 (by omega) (by omega))
  have el_0 : (0 : Int32).toInt = 0 := rfl
  exact j_lv [0, 1, 2, 3] rfl (loop_1 4096 0 d_digits (by decide) (by omega))
set_option maxHeartbeats 4000000 in
set_option maxRecDepth 100000 in
theorem c_X2_power (l : Launch) (D : DG) (cyC cyI cyJ cyZ cyO : ClassId) (d0 : Nat) (d1 : Nat) (p0 : Int32) (p1 : Int32) (d_digits : Nat → Int64) (h_p1 : 0 ≤ (p1).toInt ∧ (p1).toInt ≤ 17) : KK l D (TY cyC cyI cyJ cyZ cyO) yX2_power cX2_power 9 none ({ frames := 1, cells := 0, slots := 0, locals := 24 } : Room) 0 0 [.ref d0, .int p0, .int p1] [(d0, .inr (2, [.ref d1])), (d1, .inl (cyJ, 4, .inr (.inl d_digits)))] (fun u => none) (fun u => True) (fun u => [(d0, .inr (2, [.ref d1])), (d1, .inl (cyJ, 4, .inr (.inl (u.2.2.2 0))))]) := by
  refine KK.of (lv0 := [(0, .ref d0), (1, .int p0), (2, .int p1)]) (by decide) rfl (Nat.le_of_ble_eq_true rfl) ?_
  intro p e s m args below meth c A C hr hk hin
  refine j_aload_n (pc := 0) C dX2_power_0 rfl 0 rfl ?_
  refine j_get (pc := 1) (ci := 2) (v := .ref d1) C inw_2 0 rfl rfl 0 (by decide) wd_148 rfl rfl dX2_power_1 ?_
  refine j_lconst (pc := 4) (v := 0) C dX2_power_4 rfl ?_
  refine j_callS (pc := 5) (As := [.ref d1, .long 0]) (rest := []) (wr := [(d0, .inr (2, [.ref d1]))]) C (c_J7_fill_d0a16 l D cyC cyI cyJ cyZ cyO d1 0 d_digits) wd_149 wd_51 wd_150 wd_151 ⟨by decide, by decide, rfl⟩ rfl ⟨rfl, rfl, by decide, by decide⟩ ⟨by decide, by decide⟩ [1] [0] rfl rfl ⟨by decide, by decide, by decide⟩ rfl (Nat.le_of_ble_eq_true rfl) dX2_power_5 (fun u_1 hw_2 => ?_)
  refine j_eq (ws2 := [(d0, .inr (2, [.ref d1])), (d1, .inl (cyJ, 4, .inr (.inl (u_1.2.2.2 0))))]) (pc2 := 8) (lv2 := [(0, .ref d0), (1, .int p0), (2, .int p1)]) (st2 := []) rfl rfl rfl rfl ?_
  refine j_aload_n (pc := 8) C dX2_power_8 rfl 0 rfl ?_
  refine j_get (pc := 9) (ci := 2) (v := .ref d1) C inw_2 0 rfl rfl 0 (by decide) wd_148 rfl rfl dX2_power_9 ?_
  refine j_iconst (pc := 12) (v := 0) C dX2_power_12 (by decide) ?_
  refine j_lconst (pc := 13) (v := 1) C dX2_power_13 rfl ?_
  obtain ⟨f_3, ef_3⟩ : ∃ z, z = vp_updL (u_1.2.2.2 0) 0 1 := ⟨_, rfl⟩
  refine j_last (pc := 14) (k := 0) (ws' := [(d0, .inr (2, [.ref d1])), (d1, .inl (cyJ, 4, .inr (.inl f_3)))]) C 1 2 rfl rfl (by decide) (by decide) (by decide) dX2_power_14 (by rw [ef_3]; rfl) ?_
  refine j_iconst (pc := 15) (v := 0) C dX2_power_15 (by decide) ?_
  refine j_istore_n (pc := 16) (lv' := [(3, .int 0), (0, .ref d0), (1, .int p0), (2, .int p1)]) C dX2_power_16 rfl (by decide) rfl ?_
  have loop_4 : ∀ (k_4 : Nat) (x4_3 : Int32) (g4_d1 : Nat → Int64), (0 ≤ (x4_3).toInt ∧ (x4_3).toInt ≤ 17) → (17 - x4_3.toInt).toNat < k_4 → J p l e ({ frames := 1, cells := 0, slots := 0, locals := 24 } : Room) s m args below meth c D A 9 0 0 (QX below D (TY cyC cyI cyJ cyZ cyO) A (fun u => none) (fun u => True) (fun u => [(d0, .inr (2, [.ref d1])), (d1, .inl (cyJ, 4, .inr (.inl (u.2.2.2 0))))]) args s 0 0) [(d0, .inr (2, [.ref d1])), (d1, .inl (cyJ, 4, .inr (.inl g4_d1)))] 17 [(3, .int x4_3), (0, .ref d0), (1, .int p0), (2, .int p1)] [] := by
    intro k_4
    induction k_4 with
    | zero =>
      intro x4_3 g4_d1 hi_4_0 hm_4
      exact absurd hm_4 (Nat.not_lt_zero _)
    | succ k_4 ih_4 =>
      intro x4_3 g4_d1 hi_4_0 hm_4
      refine j_iload_n (pc := 17) C dX2_power_17 rfl 0 rfl ?_
      refine j_iload_n (pc := 18) C dX2_power_18 rfl 3 rfl ?_
      refine j_icmp_ge (pc := 19) (tgt := 82) C dX2_power_19 (by decide) (fun c_5 => ?_) (fun c_5 => ?_)
      · skip
        rw [i_le] at c_5
        exact j_vret (pc := 82) C hr hk (fun i => [].getD i 0, fun i => [].getD i 0, fun i => [].getD i (fun _ => 0), fun i => [g4_d1].getD i (fun _ => 0)) rfl trivial [0, 1] (by decide) rfl (by decide) (by decide) dX2_power_82
      · skip
        rw [i_le] at c_5
        refine j_lconst (pc := 22) (v := 0) C dX2_power_22 rfl ?_
        refine j_lstore (pc := 23) (lv' := [(4, .long 0), (3, .int x4_3), (0, .ref d0), (1, .int p0), (2, .int p1)]) C dX2_power_23 (by decide) rfl ?_
        refine j_iconst (pc := 25) (v := 0) C dX2_power_25 (by decide) ?_
        refine j_istore (pc := 26) (lv' := [(6, .int 0), (4, .long 0), (3, .int x4_3), (0, .ref d0), (1, .int p0), (2, .int p1)]) C dX2_power_26 (by decide) rfl ?_
        have loop_6 : ∀ (k_6 : Nat) (x6_6 : Int32) (x6_4 : Int64) (g6_d1 : Nat → Int64), (0 ≤ (x6_6).toInt ∧ (x6_6).toInt ≤ 4) → (4 - x6_6.toInt).toNat < k_6 → J p l e ({ frames := 1, cells := 0, slots := 0, locals := 24 } : Room) s m args below meth c D A 9 0 0 (QX below D (TY cyC cyI cyJ cyZ cyO) A (fun u => none) (fun u => True) (fun u => [(d0, .inr (2, [.ref d1])), (d1, .inl (cyJ, 4, .inr (.inl (u.2.2.2 0))))]) args s 0 0) [(d0, .inr (2, [.ref d1])), (d1, .inl (cyJ, 4, .inr (.inl g6_d1)))] 28 [(6, .int x6_6), (4, .long x6_4), (3, .int x4_3), (0, .ref d0), (1, .int p0), (2, .int p1)] [] := by
          intro k_6
          induction k_6 with
          | zero =>
            intro x6_6 x6_4 g6_d1 hi_6_0 hm_6
            exact absurd hm_6 (Nat.not_lt_zero _)
          | succ k_6 ih_6 =>
            intro x6_6 x6_4 g6_d1 hi_6_0 hm_6
            refine j_iload (pc := 28) C dX2_power_28 0 rfl ?_
            refine j_iconst (pc := 30) (v := 4) C dX2_power_30 (by decide) ?_
            refine j_icmp_ge (pc := 31) (tgt := 76) C dX2_power_31 (by decide) (fun c_7 => ?_) (fun c_7 => ?_)
            · skip
              have el_4 : (4 : Int32).toInt = 4 := rfl
              rw [i_le] at c_7
              have k0c_7 : x6_6.toInt = 4 := by omega
              obtain ⟨v_8, ev_8⟩ : ∃ z : Int32, x4_3 + 1 = z := ⟨_, rfl⟩
              have el_1 : (1 : Int32).toInt = 1 := rfl
              have hv_8 : v_8.toInt = x4_3.toInt + (1 : Int32).toInt := by rw [← ev_8]; exact fb_addI (by omega) (by omega)
              refine j_iinc (pc := 76) (v := v_8) (lv' := [(3, .int v_8), (6, .int x6_6), (4, .long x6_4), (0, .ref d0), (1, .int p0), (2, .int p1)]) C dX2_power_76 2 rfl ev_8 (by decide) rfl ?_
              refine j_goto (pc := 79) (tgt := 17) C dX2_power_79 (by decide) ?_
              exact j_lv [0, 3, 4, 5] rfl (ih_4 v_8 g6_d1 (by omega) (by omega))
            · skip
              have el_4 : (4 : Int32).toInt = 4 := rfl
              rw [i_le] at c_7
              refine j_aload_n (pc := 34) C dX2_power_34 rfl 3 rfl ?_
              refine j_get (pc := 35) (ci := 2) (v := .ref d1) C inw_2 0 rfl rfl 0 (by decide) wd_148 rfl rfl dX2_power_35 ?_
              refine j_iload (pc := 38) C dX2_power_38 0 rfl ?_
              obtain ⟨v_9, ev_9⟩ : ∃ z, g6_d1 (x6_6).toInt.toNat = z := ⟨_, rfl⟩
              refine j_lald (pc := 40) (v := v_9) (k := (x6_6).toInt.toNat) C 1 2 rfl rfl (i_nn hi_6_0.1) rfl (i_lt_n hi_6_0.1 (by omega)) ev_9 dX2_power_40 ?_
              refine j_iload_n (pc := 41) C dX2_power_41 rfl 4 rfl ?_
              refine j_i2l (pc := 42) C dX2_power_42 rfl ?_
              refine j_lmul (pc := 43) C dX2_power_43 rfl ?_
              refine j_lload (pc := 44) C dX2_power_44 1 rfl ?_
              refine j_ladd (pc := 46) C dX2_power_46 rfl ?_
              refine j_lstore (pc := 47) (lv' := [(7, .long ((v_9 * (p0).toInt64) + x6_4)), (6, .int x6_6), (4, .long x6_4), (3, .int x4_3), (0, .ref d0), (1, .int p0), (2, .int p1)]) C dX2_power_47 (by decide) rfl ?_
              refine j_aload_n (pc := 49) C dX2_power_49 rfl 4 rfl ?_
              refine j_get (pc := 50) (ci := 2) (v := .ref d1) C inw_2 0 rfl rfl 0 (by decide) wd_148 rfl rfl dX2_power_50 ?_
              refine j_iload (pc := 53) C dX2_power_53 1 rfl ?_
              refine j_lload (pc := 55) C dX2_power_55 0 rfl ?_
              refine j_ldc2 (pc := 57) C wd_152 dX2_power_57 ?_
              obtain ⟨v_10, ev_10⟩ : ∃ z : Int64, ((v_9 * (p0).toInt64) + x6_4) - ((v_9 * (p0).toInt64) + x6_4) / 1000000000 * 1000000000 = z := ⟨_, rfl⟩
              refine j_lrem (pc := 60) (v := v_10) C dX2_power_60 (by decide) ev_10 ?_
              obtain ⟨f_11, ef_11⟩ : ∃ z, z = vp_updL g6_d1 (x6_6).toInt.toNat v_10 := ⟨_, rfl⟩
              refine j_last (pc := 61) (k := (x6_6).toInt.toNat) (ws' := [(d0, .inr (2, [.ref d1])), (d1, .inl (cyJ, 4, .inr (.inl f_11)))]) C 1 2 rfl rfl (i_nn hi_6_0.1) rfl (i_lt_n hi_6_0.1 (by omega)) dX2_power_61 (by rw [ef_11]; rfl) ?_
              refine j_lload (pc := 62) C dX2_power_62 0 rfl ?_
              refine j_ldc2 (pc := 64) C wd_152 dX2_power_64 ?_
              obtain ⟨v_12, ev_12⟩ : ∃ z : Int64, ((v_9 * (p0).toInt64) + x6_4) / 1000000000 = z := ⟨_, rfl⟩
              refine j_ldiv (pc := 67) (v := v_12) C dX2_power_67 (by decide) ev_12 ?_
              refine j_lstore (pc := 68) (lv' := [(4, .long v_12), (7, .long ((v_9 * (p0).toInt64) + x6_4)), (6, .int x6_6), (3, .int x4_3), (0, .ref d0), (1, .int p0), (2, .int p1)]) C dX2_power_68 (by decide) rfl ?_
              obtain ⟨v_13, ev_13⟩ : ∃ z : Int32, x6_6 + 1 = z := ⟨_, rfl⟩
              have el_1 : (1 : Int32).toInt = 1 := rfl
              have hv_13 : v_13.toInt = x6_6.toInt + (1 : Int32).toInt := by rw [← ev_13]; exact fb_addI (by omega) (by omega)
              refine j_iinc (pc := 70) (v := v_13) (lv' := [(6, .int v_13), (4, .long v_12), (7, .long ((v_9 * (p0).toInt64) + x6_4)), (3, .int x4_3), (0, .ref d0), (1, .int p0), (2, .int p1)]) C dX2_power_70 2 rfl ev_13 (by decide) rfl ?_
              refine j_goto (pc := 73) (tgt := 28) C dX2_power_73 (by decide) ?_
              exact j_lv [0, 1, 3, 4, 5, 6] rfl (ih_6 v_13 v_12 f_11 (by omega) (by omega))
        have el_0 : (0 : Int32).toInt = 0 := rfl
        have el_0 : (0 : Int32).toInt = 0 := rfl
        exact j_lv [0, 1, 2, 3, 4, 5] rfl (loop_6 4096 0 0 g4_d1 (by decide) (by omega))
  have el_0 : (0 : Int32).toInt = 0 := rfl
  exact j_lv [0, 1, 2, 3] rfl (loop_4 4096 0 f_3 (by decide) (by omega))
