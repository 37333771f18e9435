theorem wd_877 : Cond.fieldLink RX11 428 "BowlShelfModel" "bestCost" "I" ∈ WALL := wl_in (by decide +kernel) (by decide +kernel)
theorem wd_878 : Cond.fieldLink RX11 413 "BowlShelfModel" "bestMany" "I" ∈ WALL := wl_in (by decide +kernel) (by decide +kernel)
theorem wd_879 : Cond.fieldLink RX11 139 "BowlShelfModel" "bestRow" "[I" ∈ WALL := wl_in (by decide +kernel) (by decide +kernel)
theorem wd_880 : Cond.fieldLink RX11 136 "BowlShelfModel" "tried" "[I" ∈ WALL := wl_in (by decide +kernel) (by decide +kernel)
theorem wd_881 : Cond.fieldLink RX11 416 "BowlShelfModel" "bestShelf" "I" ∈ WALL := wl_in (by decide +kernel) (by decide +kernel)
theorem wd_882 : Cond.code yX11_takesOrder cX11_takesOrder 5 none ∈ WALL := wl_in (by decide +kernel) (by decide +kernel)
theorem wd_883 : Cond.methodLink RX11 419 yX11_takesOrder ∈ WALL := wl_in (by decide +kernel) (by decide +kernel)
theorem wd_884 : Cond.instanceMethod yX11_takesOrder ∈ WALL := wl_in (by decide +kernel) (by decide +kernel)
theorem wd_885 : Cond.selects RX11 yX11_takesOrder yX11_takesOrder ∈ WALL := wl_in (by decide +kernel) (by decide +kernel)
theorem wd_886 : Cond.fieldLink RX11 422 "BowlShelfModel" "bestSet" "I" ∈ WALL := wl_in (by decide +kernel) (by decide +kernel)
theorem wd_887 : Cond.code yX11_triesOrders cX11_triesOrders 4 none ∈ WALL := wl_in (by decide +kernel) (by decide +kernel)
theorem wd_888 : Cond.methodLink RX11 425 yX11_triesOrders ∈ WALL := wl_in (by decide +kernel) (by decide +kernel)
theorem wd_889 : Cond.instanceMethod yX11_triesOrders ∈ WALL := wl_in (by decide +kernel) (by decide +kernel)
theorem wd_890 : Cond.selects RX11 yX11_triesOrders yX11_triesOrders ∈ WALL := wl_in (by decide +kernel) (by decide +kernel)
theorem dX11_takesOrder_0 : decode cX11_takesOrder 0 = .ok (.iconst 0, 1) := by decide +kernel
theorem dX11_takesOrder_1 : decode cX11_takesOrder 1 = .ok (.istore_n 1, 1) := by decide +kernel
theorem dX11_takesOrder_2 : decode cX11_takesOrder 2 = .ok (.iconst 0, 1) := by decide +kernel
theorem dX11_takesOrder_3 : decode cX11_takesOrder 3 = .ok (.istore_n 2, 1) := by decide +kernel
theorem dX11_takesOrder_4 : decode cX11_takesOrder 4 = .ok (.iload_n 2, 1) := by decide +kernel
theorem dX11_takesOrder_5 : decode cX11_takesOrder 5 = .ok (.aload_n 0, 1) := by decide +kernel
theorem dX11_takesOrder_6 : decode cX11_takesOrder 6 = .ok (.invokevirtual 410, 3) := by decide +kernel
theorem dX11_takesOrder_9 : decode cX11_takesOrder 9 = .ok (.if_icmp .ge 97, 3) := by decide +kernel
theorem dX11_takesOrder_12 : decode cX11_takesOrder 12 = .ok (.iconst 0, 1) := by decide +kernel
theorem dX11_takesOrder_13 : decode cX11_takesOrder 13 = .ok (.istore_n 3, 1) := by decide +kernel
theorem dX11_takesOrder_14 : decode cX11_takesOrder 14 = .ok (.iconst 0, 1) := by decide +kernel
theorem dX11_takesOrder_15 : decode cX11_takesOrder 15 = .ok (.istore 4, 2) := by decide +kernel
theorem dX11_takesOrder_17 : decode cX11_takesOrder 17 = .ok (.iload 4, 2) := by decide +kernel
theorem dX11_takesOrder_19 : decode cX11_takesOrder 19 = .ok (.aload_n 0, 1) := by decide +kernel
theorem dX11_takesOrder_20 : decode cX11_takesOrder 20 = .ok (.getfield 413, 3) := by decide +kernel
theorem dX11_takesOrder_23 : decode cX11_takesOrder 23 = .ok (.if_icmp .ge 77, 3) := by decide +kernel
theorem dX11_takesOrder_26 : decode cX11_takesOrder 26 = .ok (.iload_n 1, 1) := by decide +kernel
theorem dX11_takesOrder_27 : decode cX11_takesOrder 27 = .ok (.iload_n 3, 1) := by decide +kernel
theorem dX11_takesOrder_28 : decode cX11_takesOrder 28 = .ok (.ifCond .eq 23, 3) := by decide +kernel
theorem dX11_takesOrder_31 : decode cX11_takesOrder 31 = .ok (.iconst 2, 1) := by decide +kernel
theorem dX11_takesOrder_32 : decode cX11_takesOrder 32 = .ok (.aload_n 0, 1) := by decide +kernel
theorem dX11_takesOrder_33 : decode cX11_takesOrder 33 = .ok (.aload_n 0, 1) := by decide +kernel
theorem dX11_takesOrder_34 : decode cX11_takesOrder 34 = .ok (.getfield 136, 3) := by decide +kernel
theorem dX11_takesOrder_37 : decode cX11_takesOrder 37 = .ok (.iload 4, 2) := by decide +kernel
theorem dX11_takesOrder_39 : decode cX11_takesOrder 39 = .ok (.iaload, 1) := by decide +kernel
theorem dX11_takesOrder_40 : decode cX11_takesOrder 40 = .ok (.aload_n 0, 1) := by decide +kernel
theorem dX11_takesOrder_41 : decode cX11_takesOrder 41 = .ok (.getfield 416, 3) := by decide +kernel
theorem dX11_takesOrder_44 : decode cX11_takesOrder 44 = .ok (.invokevirtual 341, 3) := by decide +kernel
theorem dX11_takesOrder_47 : decode cX11_takesOrder 47 = .ok (.imul, 1) := by decide +kernel
theorem dX11_takesOrder_48 : decode cX11_takesOrder 48 = .ok (.goto 4, 3) := by decide +kernel
theorem dX11_takesOrder_51 : decode cX11_takesOrder 51 = .ok (.iconst 0, 1) := by decide +kernel
theorem dX11_takesOrder_52 : decode cX11_takesOrder 52 = .ok (.iadd, 1) := by decide +kernel
theorem dX11_takesOrder_53 : decode cX11_takesOrder 53 = .ok (.istore_n 1, 1) := by decide +kernel
theorem dX11_takesOrder_54 : decode cX11_takesOrder 54 = .ok (.aload_n 0, 1) := by decide +kernel
theorem dX11_takesOrder_55 : decode cX11_takesOrder 55 = .ok (.getfield 136, 3) := by decide +kernel
theorem dX11_takesOrder_58 : decode cX11_takesOrder 58 = .ok (.iload 4, 2) := by decide +kernel
theorem dX11_takesOrder_60 : decode cX11_takesOrder 60 = .ok (.iaload, 1) := by decide +kernel
theorem dX11_takesOrder_61 : decode cX11_takesOrder 61 = .ok (.aload_n 0, 1) := by decide +kernel
theorem dX11_takesOrder_62 : decode cX11_takesOrder 62 = .ok (.getfield 108, 3) := by decide +kernel
theorem dX11_takesOrder_65 : decode cX11_takesOrder 65 = .ok (.sipush 422, 3) := by decide +kernel
theorem dX11_takesOrder_68 : decode cX11_takesOrder 68 = .ok (.iload_n 2, 1) := by decide +kernel
theorem dX11_takesOrder_69 : decode cX11_takesOrder 69 = .ok (.iadd, 1) := by decide +kernel
theorem dX11_takesOrder_70 : decode cX11_takesOrder 70 = .ok (.iaload, 1) := by decide +kernel
theorem dX11_takesOrder_71 : decode cX11_takesOrder 71 = .ok (.if_icmp .ne 23, 3) := by decide +kernel
theorem dX11_takesOrder_74 : decode cX11_takesOrder 74 = .ok (.iconst 1, 1) := by decide +kernel
theorem dX11_takesOrder_75 : decode cX11_takesOrder 75 = .ok (.istore_n 3, 1) := by decide +kernel
theorem dX11_takesOrder_76 : decode cX11_takesOrder 76 = .ok (.iload_n 1, 1) := by decide +kernel
theorem dX11_takesOrder_77 : decode cX11_takesOrder 77 = .ok (.aload_n 0, 1) := by decide +kernel
theorem dX11_takesOrder_78 : decode cX11_takesOrder 78 = .ok (.aload_n 0, 1) := by decide +kernel
theorem dX11_takesOrder_79 : decode cX11_takesOrder 79 = .ok (.getfield 136, 3) := by decide +kernel
theorem dX11_takesOrder_82 : decode cX11_takesOrder 82 = .ok (.iload 4, 2) := by decide +kernel
theorem dX11_takesOrder_84 : decode cX11_takesOrder 84 = .ok (.iaload, 1) := by decide +kernel
theorem dX11_takesOrder_85 : decode cX11_takesOrder 85 = .ok (.aload_n 0, 1) := by decide +kernel
theorem dX11_takesOrder_86 : decode cX11_takesOrder 86 = .ok (.getfield 416, 3) := by decide +kernel
theorem dX11_takesOrder_89 : decode cX11_takesOrder 89 = .ok (.invokevirtual 341, 3) := by decide +kernel
theorem dX11_takesOrder_92 : decode cX11_takesOrder 92 = .ok (.iadd, 1) := by decide +kernel
theorem dX11_takesOrder_93 : decode cX11_takesOrder 93 = .ok (.istore_n 1, 1) := by decide +kernel
theorem dX11_takesOrder_94 : decode cX11_takesOrder 94 = .ok (.iinc 4 1, 3) := by decide +kernel
theorem dX11_takesOrder_97 : decode cX11_takesOrder 97 = .ok (.goto (-80), 3) := by decide +kernel
theorem dX11_takesOrder_100 : decode cX11_takesOrder 100 = .ok (.iinc 2 1, 3) := by decide +kernel
theorem dX11_takesOrder_103 : decode cX11_takesOrder 103 = .ok (.goto (-99), 3) := by decide +kernel
theorem dX11_takesOrder_106 : decode cX11_takesOrder 106 = .ok (.aload_n 0, 1) := by decide +kernel
theorem dX11_takesOrder_107 : decode cX11_takesOrder 107 = .ok (.getfield 428, 3) := by decide +kernel
theorem dX11_takesOrder_110 : decode cX11_takesOrder 110 = .ok (.ifCond .lt 11, 3) := by decide +kernel
theorem dX11_takesOrder_113 : decode cX11_takesOrder 113 = .ok (.iload_n 1, 1) := by decide +kernel
theorem dX11_takesOrder_114 : decode cX11_takesOrder 114 = .ok (.aload_n 0, 1) := by decide +kernel
theorem dX11_takesOrder_115 : decode cX11_takesOrder 115 = .ok (.getfield 428, 3) := by decide +kernel
theorem dX11_takesOrder_118 : decode cX11_takesOrder 118 = .ok (.if_icmp .ge 36, 3) := by decide +kernel
theorem dX11_takesOrder_121 : decode cX11_takesOrder 121 = .ok (.aload_n 0, 1) := by decide +kernel
theorem dX11_takesOrder_122 : decode cX11_takesOrder 122 = .ok (.iload_n 1, 1) := by decide +kernel
theorem dX11_takesOrder_123 : decode cX11_takesOrder 123 = .ok (.putfield 428, 3) := by decide +kernel
theorem dX11_takesOrder_126 : decode cX11_takesOrder 126 = .ok (.iconst 0, 1) := by decide +kernel
theorem dX11_takesOrder_127 : decode cX11_takesOrder 127 = .ok (.istore_n 2, 1) := by decide +kernel
theorem dX11_takesOrder_128 : decode cX11_takesOrder 128 = .ok (.iload_n 2, 1) := by decide +kernel
theorem dX11_takesOrder_129 : decode cX11_takesOrder 129 = .ok (.aload_n 0, 1) := by decide +kernel
theorem dX11_takesOrder_130 : decode cX11_takesOrder 130 = .ok (.getfield 413, 3) := by decide +kernel
theorem dX11_takesOrder_133 : decode cX11_takesOrder 133 = .ok (.if_icmp .ge 21, 3) := by decide +kernel
theorem dX11_takesOrder_136 : decode cX11_takesOrder 136 = .ok (.aload_n 0, 1) := by decide +kernel
theorem dX11_takesOrder_137 : decode cX11_takesOrder 137 = .ok (.getfield 139, 3) := by decide +kernel
theorem dX11_takesOrder_140 : decode cX11_takesOrder 140 = .ok (.iload_n 2, 1) := by decide +kernel
theorem dX11_takesOrder_141 : decode cX11_takesOrder 141 = .ok (.aload_n 0, 1) := by decide +kernel
theorem dX11_takesOrder_142 : decode cX11_takesOrder 142 = .ok (.getfield 136, 3) := by decide +kernel
theorem dX11_takesOrder_145 : decode cX11_takesOrder 145 = .ok (.iload_n 2, 1) := by decide +kernel
theorem dX11_takesOrder_146 : decode cX11_takesOrder 146 = .ok (.iaload, 1) := by decide +kernel
theorem dX11_takesOrder_147 : decode cX11_takesOrder 147 = .ok (.iastore, 1) := by decide +kernel
theorem dX11_takesOrder_148 : decode cX11_takesOrder 148 = .ok (.iinc 2 1, 3) := by decide +kernel
theorem dX11_takesOrder_151 : decode cX11_takesOrder 151 = .ok (.goto (-23), 3) := by decide +kernel
theorem dX11_takesOrder_154 : decode cX11_takesOrder 154 = .ok (.return_, 1) := by decide +kernel
theorem dX11_triesOrders_0 : decode cX11_triesOrders 0 = .ok (.iload_n 1, 1) := by decide +kernel
theorem dX11_triesOrders_1 : decode cX11_triesOrders 1 = .ok (.aload_n 0, 1) := by decide +kernel
theorem dX11_triesOrders_2 : decode cX11_triesOrders 2 = .ok (.getfield 413, 3) := by decide +kernel
theorem dX11_triesOrders_5 : decode cX11_triesOrders 5 = .ok (.if_icmp .ne 60, 3) := by decide +kernel
theorem dX11_triesOrders_8 : decode cX11_triesOrders 8 = .ok (.aload_n 0, 1) := by decide +kernel
theorem dX11_triesOrders_9 : decode cX11_triesOrders 9 = .ok (.aload_n 0, 1) := by decide +kernel
theorem dX11_triesOrders_10 : decode cX11_triesOrders 10 = .ok (.getfield 413, 3) := by decide +kernel
theorem dX11_triesOrders_13 : decode cX11_triesOrders 13 = .ok (.putfield 306, 3) := by decide +kernel
theorem dX11_triesOrders_16 : decode cX11_triesOrders 16 = .ok (.iconst 0, 1) := by decide +kernel
theorem dX11_triesOrders_17 : decode cX11_triesOrders 17 = .ok (.istore_n 3, 1) := by decide +kernel
theorem dX11_triesOrders_18 : decode cX11_triesOrders 18 = .ok (.iload_n 3, 1) := by decide +kernel
theorem dX11_triesOrders_19 : decode cX11_triesOrders 19 = .ok (.aload_n 0, 1) := by decide +kernel
theorem dX11_triesOrders_20 : decode cX11_triesOrders 20 = .ok (.getfield 413, 3) := by decide +kernel
theorem dX11_triesOrders_23 : decode cX11_triesOrders 23 = .ok (.if_icmp .ge 21, 3) := by decide +kernel
theorem dX11_triesOrders_26 : decode cX11_triesOrders 26 = .ok (.aload_n 0, 1) := by decide +kernel
theorem dX11_triesOrders_27 : decode cX11_triesOrders 27 = .ok (.getfield 114, 3) := by decide +kernel
theorem dX11_triesOrders_30 : decode cX11_triesOrders 30 = .ok (.iload_n 3, 1) := by decide +kernel
theorem dX11_triesOrders_31 : decode cX11_triesOrders 31 = .ok (.aload_n 0, 1) := by decide +kernel
theorem dX11_triesOrders_32 : decode cX11_triesOrders 32 = .ok (.getfield 136, 3) := by decide +kernel
theorem dX11_triesOrders_35 : decode cX11_triesOrders 35 = .ok (.iload_n 3, 1) := by decide +kernel
theorem dX11_triesOrders_36 : decode cX11_triesOrders 36 = .ok (.iaload, 1) := by decide +kernel
theorem dX11_triesOrders_37 : decode cX11_triesOrders 37 = .ok (.iastore, 1) := by decide +kernel
theorem dX11_triesOrders_38 : decode cX11_triesOrders 38 = .ok (.iinc 3 1, 3) := by decide +kernel
theorem dX11_triesOrders_41 : decode cX11_triesOrders 41 = .ok (.goto (-23), 3) := by decide +kernel
theorem dX11_triesOrders_44 : decode cX11_triesOrders 44 = .ok (.aload_n 0, 1) := by decide +kernel
theorem dX11_triesOrders_45 : decode cX11_triesOrders 45 = .ok (.aload_n 0, 1) := by decide +kernel
theorem dX11_triesOrders_46 : decode cX11_triesOrders 46 = .ok (.aload_n 0, 1) := by decide +kernel
theorem dX11_triesOrders_47 : decode cX11_triesOrders 47 = .ok (.getfield 416, 3) := by decide +kernel
theorem dX11_triesOrders_50 : decode cX11_triesOrders 50 = .ok (.iconst 0, 1) := by decide +kernel
theorem dX11_triesOrders_51 : decode cX11_triesOrders 51 = .ok (.invokevirtual 324, 3) := by decide +kernel
theorem dX11_triesOrders_54 : decode cX11_triesOrders 54 = .ok (.invokevirtual 330, 3) := by decide +kernel
theorem dX11_triesOrders_57 : decode cX11_triesOrders 57 = .ok (.ifCond .ne 7, 3) := by decide +kernel
theorem dX11_triesOrders_60 : decode cX11_triesOrders 60 = .ok (.aload_n 0, 1) := by decide +kernel
theorem dX11_triesOrders_61 : decode cX11_triesOrders 61 = .ok (.invokevirtual 419, 3) := by decide +kernel
theorem dX11_triesOrders_64 : decode cX11_triesOrders 64 = .ok (.return_, 1) := by decide +kernel
theorem dX11_triesOrders_65 : decode cX11_triesOrders 65 = .ok (.iconst 0, 1) := by decide +kernel
theorem dX11_triesOrders_66 : decode cX11_triesOrders 66 = .ok (.istore_n 3, 1) := by decide +kernel
theorem dX11_triesOrders_67 : decode cX11_triesOrders 67 = .ok (.iload_n 3, 1) := by decide +kernel
theorem dX11_triesOrders_68 : decode cX11_triesOrders 68 = .ok (.aload_n 0, 1) := by decide +kernel
theorem dX11_triesOrders_69 : decode cX11_triesOrders 69 = .ok (.invokevirtual 264, 3) := by decide +kernel
theorem dX11_triesOrders_72 : decode cX11_triesOrders 72 = .ok (.if_icmp .ge 48, 3) := by decide +kernel
theorem dX11_triesOrders_75 : decode cX11_triesOrders 75 = .ok (.aload_n 0, 1) := by decide +kernel
theorem dX11_triesOrders_76 : decode cX11_triesOrders 76 = .ok (.getfield 422, 3) := by decide +kernel
theorem dX11_triesOrders_79 : decode cX11_triesOrders 79 = .ok (.iload_n 3, 1) := by decide +kernel
theorem dX11_triesOrders_80 : decode cX11_triesOrders 80 = .ok (.ishr, 1) := by decide +kernel
theorem dX11_triesOrders_81 : decode cX11_triesOrders 81 = .ok (.iconst 1, 1) := by decide +kernel
theorem dX11_triesOrders_82 : decode cX11_triesOrders 82 = .ok (.iand, 1) := by decide +kernel
theorem dX11_triesOrders_83 : decode cX11_triesOrders 83 = .ok (.iconst 1, 1) := by decide +kernel
theorem dX11_triesOrders_84 : decode cX11_triesOrders 84 = .ok (.if_icmp .ne 30, 3) := by decide +kernel
theorem dX11_triesOrders_87 : decode cX11_triesOrders 87 = .ok (.iload_n 2, 1) := by decide +kernel
theorem dX11_triesOrders_88 : decode cX11_triesOrders 88 = .ok (.iload_n 3, 1) := by decide +kernel
theorem dX11_triesOrders_89 : decode cX11_triesOrders 89 = .ok (.ishr, 1) := by decide +kernel
theorem dX11_triesOrders_90 : decode cX11_triesOrders 90 = .ok (.iconst 1, 1) := by decide +kernel
theorem dX11_triesOrders_91 : decode cX11_triesOrders 91 = .ok (.iand, 1) := by decide +kernel
theorem dX11_triesOrders_92 : decode cX11_triesOrders 92 = .ok (.ifCond .ne 22, 3) := by decide +kernel
theorem dX11_triesOrders_95 : decode cX11_triesOrders 95 = .ok (.aload_n 0, 1) := by decide +kernel
theorem dX11_triesOrders_96 : decode cX11_triesOrders 96 = .ok (.getfield 136, 3) := by decide +kernel
theorem dX11_triesOrders_99 : decode cX11_triesOrders 99 = .ok (.iload_n 1, 1) := by decide +kernel
theorem dX11_triesOrders_100 : decode cX11_triesOrders 100 = .ok (.iload_n 3, 1) := by decide +kernel
theorem dX11_triesOrders_101 : decode cX11_triesOrders 101 = .ok (.iastore, 1) := by decide +kernel
theorem dX11_triesOrders_102 : decode cX11_triesOrders 102 = .ok (.aload_n 0, 1) := by decide +kernel
theorem dX11_triesOrders_103 : decode cX11_triesOrders 103 = .ok (.iload_n 1, 1) := by decide +kernel
theorem dX11_triesOrders_104 : decode cX11_triesOrders 104 = .ok (.iconst 1, 1) := by decide +kernel
theorem dX11_triesOrders_105 : decode cX11_triesOrders 105 = .ok (.iadd, 1) := by decide +kernel
theorem dX11_triesOrders_106 : decode cX11_triesOrders 106 = .ok (.iload_n 2, 1) := by decide +kernel
theorem dX11_triesOrders_107 : decode cX11_triesOrders 107 = .ok (.iconst 1, 1) := by decide +kernel
theorem dX11_triesOrders_108 : decode cX11_triesOrders 108 = .ok (.iload_n 3, 1) := by decide +kernel
theorem dX11_triesOrders_109 : decode cX11_triesOrders 109 = .ok (.ishl, 1) := by decide +kernel
theorem dX11_triesOrders_110 : decode cX11_triesOrders 110 = .ok (.ior, 1) := by decide +kernel
theorem dX11_triesOrders_111 : decode cX11_triesOrders 111 = .ok (.invokevirtual 425, 3) := by decide +kernel
theorem dX11_triesOrders_114 : decode cX11_triesOrders 114 = .ok (.iinc 3 1, 3) := by decide +kernel
theorem dX11_triesOrders_117 : decode cX11_triesOrders 117 = .ok (.goto (-50), 3) := by decide +kernel
theorem dX11_triesOrders_120 : decode cX11_triesOrders 120 = .ok (.return_, 1) := by decide +kernel
theorem dX11_best_0 : decode cX11_best 0 = .ok (.aload_n 0, 1) := by decide +kernel
theorem dX11_best_1 : decode cX11_best 1 = .ok (.iconst 0, 1) := by decide +kernel
theorem dX11_best_2 : decode cX11_best 2 = .ok (.putfield 1, 3) := by decide +kernel
theorem dX11_best_5 : decode cX11_best 5 = .ok (.aload_n 0, 1) := by decide +kernel
theorem dX11_best_6 : decode cX11_best 6 = .ok (.iconst 0, 1) := by decide +kernel
theorem dX11_best_7 : decode cX11_best 7 = .ok (.iload_n 1, 1) := by decide +kernel
theorem dX11_best_8 : decode cX11_best 8 = .ok (.iload_n 2, 1) := by decide +kernel
theorem dX11_best_9 : decode cX11_best 9 = .ok (.invokevirtual 318, 3) := by decide +kernel
theorem dX11_best_12 : decode cX11_best 12 = .ok (.ifCond .eq 38, 3) := by decide +kernel
theorem dX11_best_15 : decode cX11_best 15 = .ok (.aload_n 0, 1) := by decide +kernel
theorem dX11_best_16 : decode cX11_best 16 = .ok (.getfield 108, 3) := by decide +kernel
theorem dX11_best_19 : decode cX11_best 19 = .ok (.iconst 0, 1) := by decide +kernel
theorem dX11_best_20 : decode cX11_best 20 = .ok (.iload_n 1, 1) := by decide +kernel
theorem dX11_best_21 : decode cX11_best 21 = .ok (.iload_n 2, 1) := by decide +kernel
theorem dX11_best_22 : decode cX11_best 22 = .ok (.invokestatic 294, 3) := by decide +kernel
theorem dX11_best_25 : decode cX11_best 25 = .ok (.iaload, 1) := by decide +kernel
theorem dX11_best_26 : decode cX11_best 26 = .ok (.bipush 7, 2) := by decide +kernel
theorem dX11_best_28 : decode cX11_best 28 = .ok (.if_icmp .gt 22, 3) := by decide +kernel
theorem dX11_best_31 : decode cX11_best 31 = .ok (.iload_n 3, 1) := by decide +kernel
theorem dX11_best_32 : decode cX11_best 32 = .ok (.iconst 0, 1) := by decide +kernel
theorem dX11_best_33 : decode cX11_best 33 = .ok (.aload_n 0, 1) := by decide +kernel
theorem dX11_best_34 : decode cX11_best 34 = .ok (.getfield 108, 3) := by decide +kernel
theorem dX11_best_37 : decode cX11_best 37 = .ok (.iconst 0, 1) := by decide +kernel
theorem dX11_best_38 : decode cX11_best 38 = .ok (.iload_n 1, 1) := by decide +kernel
theorem dX11_best_39 : decode cX11_best 39 = .ok (.iload_n 2, 1) := by decide +kernel
theorem dX11_best_40 : decode cX11_best 40 = .ok (.invokestatic 294, 3) := by decide +kernel
theorem dX11_best_43 : decode cX11_best 43 = .ok (.iaload, 1) := by decide +kernel
theorem dX11_best_44 : decode cX11_best 44 = .ok (.invokestatic 280, 3) := by decide +kernel
theorem dX11_best_47 : decode cX11_best 47 = .ok (.ifCond .ne 5, 3) := by decide +kernel
theorem dX11_best_50 : decode cX11_best 50 = .ok (.iconst (-1), 1) := by decide +kernel
theorem dX11_best_51 : decode cX11_best 51 = .ok (.ireturn, 1) := by decide +kernel
theorem dX11_best_52 : decode cX11_best 52 = .ok (.aload_n 0, 1) := by decide +kernel
theorem dX11_best_53 : decode cX11_best 53 = .ok (.iconst 0, 1) := by decide +kernel
theorem dX11_best_54 : decode cX11_best 54 = .ok (.iload_n 1, 1) := by decide +kernel
theorem dX11_best_55 : decode cX11_best 55 = .ok (.iload_n 2, 1) := by decide +kernel
theorem dX11_best_56 : decode cX11_best 56 = .ok (.invokestatic 294, 3) := by decide +kernel
theorem dX11_best_59 : decode cX11_best 59 = .ok (.invokevirtual 327, 3) := by decide +kernel
theorem dX11_best_62 : decode cX11_best 62 = .ok (.aload_n 0, 1) := by decide +kernel
theorem dX11_best_63 : decode cX11_best 63 = .ok (.aload_n 0, 1) := by decide +kernel
theorem dX11_best_64 : decode cX11_best 64 = .ok (.getfield 306, 3) := by decide +kernel
theorem dX11_best_67 : decode cX11_best 67 = .ok (.putfield 413, 3) := by decide +kernel
theorem dX11_best_70 : decode cX11_best 70 = .ok (.aload_n 0, 1) := by decide +kernel
theorem dX11_best_71 : decode cX11_best 71 = .ok (.iload_n 1, 1) := by decide +kernel
theorem dX11_best_72 : decode cX11_best 72 = .ok (.putfield 416, 3) := by decide +kernel
theorem dX11_best_75 : decode cX11_best 75 = .ok (.aload_n 0, 1) := by decide +kernel
theorem dX11_best_76 : decode cX11_best 76 = .ok (.iconst 0, 1) := by decide +kernel
theorem dX11_best_77 : decode cX11_best 77 = .ok (.putfield 422, 3) := by decide +kernel
theorem dX11_best_80 : decode cX11_best 80 = .ok (.iconst 0, 1) := by decide +kernel
theorem dX11_best_81 : decode cX11_best 81 = .ok (.istore 4, 2) := by decide +kernel
theorem dX11_best_83 : decode cX11_best 83 = .ok (.iload 4, 2) := by decide +kernel
theorem dX11_best_85 : decode cX11_best 85 = .ok (.aload_n 0, 1) := by decide +kernel
theorem dX11_best_86 : decode cX11_best 86 = .ok (.getfield 306, 3) := by decide +kernel
theorem dX11_best_89 : decode cX11_best 89 = .ok (.if_icmp .ge 27, 3) := by decide +kernel
theorem dX11_best_92 : decode cX11_best 92 = .ok (.aload_n 0, 1) := by decide +kernel
theorem dX11_best_93 : decode cX11_best 93 = .ok (.dup, 1) := by decide +kernel
theorem dX11_best_94 : decode cX11_best 94 = .ok (.getfield 422, 3) := by decide +kernel
theorem dX11_best_97 : decode cX11_best 97 = .ok (.iconst 1, 1) := by decide +kernel
theorem dX11_best_98 : decode cX11_best 98 = .ok (.aload_n 0, 1) := by decide +kernel
theorem dX11_best_99 : decode cX11_best 99 = .ok (.getfield 114, 3) := by decide +kernel
theorem dX11_best_102 : decode cX11_best 102 = .ok (.iload 4, 2) := by decide +kernel
theorem dX11_best_104 : decode cX11_best 104 = .ok (.iaload, 1) := by decide +kernel
theorem dX11_best_105 : decode cX11_best 105 = .ok (.ishl, 1) := by decide +kernel
theorem dX11_best_106 : decode cX11_best 106 = .ok (.ior, 1) := by decide +kernel
theorem dX11_best_107 : decode cX11_best 107 = .ok (.putfield 422, 3) := by decide +kernel
theorem dX11_best_110 : decode cX11_best 110 = .ok (.iinc 4 1, 3) := by decide +kernel
theorem dX11_best_113 : decode cX11_best 113 = .ok (.goto (-30), 3) := by decide +kernel
theorem dX11_best_116 : decode cX11_best 116 = .ok (.aload_n 0, 1) := by decide +kernel
theorem dX11_best_117 : decode cX11_best 117 = .ok (.iconst (-1), 1) := by decide +kernel
theorem dX11_best_118 : decode cX11_best 118 = .ok (.putfield 428, 3) := by decide +kernel
theorem dX11_best_121 : decode cX11_best 121 = .ok (.aload_n 0, 1) := by decide +kernel
theorem dX11_best_122 : decode cX11_best 122 = .ok (.iconst 0, 1) := by decide +kernel
theorem dX11_best_123 : decode cX11_best 123 = .ok (.iconst 0, 1) := by decide +kernel
theorem dX11_best_124 : decode cX11_best 124 = .ok (.invokevirtual 425, 3) := by decide +kernel
theorem dX11_best_127 : decode cX11_best 127 = .ok (.aload_n 0, 1) := by decide +kernel
theorem dX11_best_128 : decode cX11_best 128 = .ok (.getfield 428, 3) := by decide +kernel
theorem dX11_best_131 : decode cX11_best 131 = .ok (.ifCond .ge 7, 3) := by decide +kernel
theorem dX11_best_134 : decode cX11_best 134 = .ok (.iconst (-1), 1) := by decide +kernel
theorem dX11_best_135 : decode cX11_best 135 = .ok (.goto 22, 3) := by decide +kernel
theorem dX11_best_138 : decode cX11_best 138 = .ok (.iload_n 3, 1) := by decide +kernel
theorem dX11_best_139 : decode cX11_best 139 = .ok (.ifCond .ne 10, 3) := by decide +kernel
theorem dX11_best_142 : decode cX11_best 142 = .ok (.aload_n 0, 1) := by decide +kernel
theorem dX11_best_143 : decode cX11_best 143 = .ok (.getfield 428, 3) := by decide +kernel
theorem dX11_best_146 : decode cX11_best 146 = .ok (.goto 11, 3) := by decide +kernel
theorem dX11_best_149 : decode cX11_best 149 = .ok (.aload_n 0, 1) := by decide +kernel
theorem dX11_best_150 : decode cX11_best 150 = .ok (.getfield 139, 3) := by decide +kernel
theorem dX11_best_153 : decode cX11_best 153 = .ok (.iload_n 3, 1) := by decide +kernel
theorem dX11_best_154 : decode cX11_best 154 = .ok (.iconst 1, 1) := by decide +kernel
theorem dX11_best_155 : decode cX11_best 155 = .ok (.isub, 1) := by decide +kernel
theorem dX11_best_156 : decode cX11_best 156 = .ok (.iaload, 1) := by decide +kernel
theorem dX11_best_157 : decode cX11_best 157 = .ok (.ireturn, 1) := by decide +kernel
set_option maxHeartbeats 4000000 in
set_option maxRecDepth 100000 in
theorem c_X11_takesOrder (l : Launch) (D : DG) (cyC cyI cyJ cyZ cyO : ClassId) (m0 : Nat) (mtold : Nat) (mstates : Nat) (mtried : Nat) (mbestRow : Nat) (mtape : Nat) (msort : Nat) (mplace : Nat) (mvalue : Nat) (mwords : Nat) (mop : Nat) (marg : Nat) (mnames : Nat) (mhasHabit : Nat) (mfactWords : Nat) (mfacts : Nat) (mpile : Nat) (misMarked : Nat) (mrow : Nat) (mthr : Nat) (mmays : Nat) (mtall : Nat) (mweights : Nat) (mrowOfWare : Nat) (mneededOf : Nat) (mdigits : Nat) (m_thrown : Int32) (m_taped : Int32) (m_size : Int32) (m_at : Int32) (m_fault : Int32) (m_codes : Int32) (m_isNew : Int32) (m_inShelf : Int32) (m_inStack : Int32) (m_inPlace : Int32) (m_rowMany : Int32) (m_goShelf : Int32) (m_goStack : Int32) (m_goLeft : Int32) (m_bestCost : Int32) (m_bestMany : Int32) (m_bestShelf : Int32) (m_bestSet : Int32) (m_told : Nat → Int32) (m_states : Nat → Int32) (m_tried : Nat → Int32) (m_bestRow : Nat → Int32) (h_m_taped : 0 ≤ (m_taped).toInt ∧ (m_taped).toInt ≤ 1000) (h_m_size : 0 ≤ (m_size).toInt ∧ (m_size).toInt ≤ 1000) (h_m_at : 0 ≤ (m_at).toInt ∧ (m_at).toInt ≤ 1000) (h_m_fault : 0 ≤ (m_fault).toInt ∧ (m_fault).toInt ≤ 16005) (h_m_codes : 0 ≤ (m_codes).toInt ∧ (m_codes).toInt ≤ 1000) (h_m_isNew : 0 ≤ (m_isNew).toInt ∧ (m_isNew).toInt ≤ 1) (h_m_inShelf : 0 ≤ (m_inShelf).toInt ∧ (m_inShelf).toInt ≤ 3) (h_m_inStack : 0 ≤ (m_inStack).toInt ∧ (m_inStack).toInt ≤ 7) (h_m_inPlace : 0 ≤ (m_inPlace).toInt ∧ (m_inPlace).toInt ≤ 11) (h_m_rowMany : 0 ≤ (m_rowMany).toInt ∧ (m_rowMany).toInt ≤ 12) (h_m_goShelf : -1 ≤ (m_goShelf).toInt ∧ (m_goShelf).toInt ≤ 3) (h_m_bestMany : 0 ≤ (m_bestMany).toInt ∧ (m_bestMany).toInt ≤ 7) (h_m_bestShelf : 0 ≤ (m_bestShelf).toInt ∧ (m_bestShelf).toInt ≤ 3) (h_m_told : TV m_told) (h_m_tried : Iv 7 (0) (11) m_tried) (h_m_states : SV m_states) : KK l D (TY cyC cyI cyJ cyZ cyO) yX11_takesOrder cX11_takesOrder 5 none ({ frames := 2, cells := 0, slots := 0, locals := 44 } : Room) 0 0 [.ref m0] [(m0, .inr (11, [.int m_thrown, .ref mtape, .int m_taped, .int m_size, .ref msort, .ref mplace, .ref mvalue, .int m_at, .int m_fault, .ref mwords, .ref mtold, .ref mop, .ref marg, .int m_codes, .ref mnames, .ref mhasHabit, .int m_isNew, .ref mfactWords, .ref mfacts, .ref mpile, .ref mstates, .ref misMarked, .int m_inShelf, .int m_inStack, .int m_inPlace, .ref mrow, .int m_rowMany, .ref mthr, .ref mmays, .ref mtall, .ref mweights, .ref mrowOfWare, .ref mneededOf, .int m_goShelf, .int m_goStack, .int m_goLeft, .ref mtried, .ref mbestRow, .int m_bestCost, .int m_bestMany, .int m_bestShelf, .int m_bestSet, .ref mdigits])), (mtold, .inl (cyI, 240, .inl m_told)), (mstates, .inl (cyI, 2760, .inl m_states)), (mtried, .inl (cyI, 7, .inl m_tried)), (mbestRow, .inl (cyI, 7, .inl m_bestRow))] (fun u => none) (fun u => True) (fun u => [(m0, .inr (11, [.int m_thrown, .ref mtape, .int m_taped, .int m_size, .ref msort, .ref mplace, .ref mvalue, .int m_at, .int m_fault, .ref mwords, .ref mtold, .ref mop, .ref marg, .int m_codes, .ref mnames, .ref mhasHabit, .int m_isNew, .ref mfactWords, .ref mfacts, .ref mpile, .ref mstates, .ref misMarked, .int m_inShelf, .int m_inStack, .int m_inPlace, .ref mrow, .int m_rowMany, .ref mthr, .ref mmays, .ref mtall, .ref mweights, .ref mrowOfWare, .ref mneededOf, .int m_goShelf, .int m_goStack, .int m_goLeft, .ref mtried, .ref mbestRow, .int (u.2.1 0), .int m_bestMany, .int m_bestShelf, .int m_bestSet, .ref mdigits])), (mtold, .inl (cyI, 240, .inl m_told)), (mstates, .inl (cyI, 2760, .inl m_states)), (mtried, .inl (cyI, 7, .inl m_tried)), (mbestRow, .inl (cyI, 7, .inl (u.2.2.1 0)))]) := by
  refine KK.of (lv0 := [(0, .ref m0)]) (by decide) rfl (Nat.le_of_ble_eq_true rfl) ?_
  intro p e s m args below meth c A C hr hk hin
  refine j_iconst (pc := 0) (v := 0) C dX11_takesOrder_0 (by decide) ?_
  refine j_istore_n (pc := 1) (lv' := [(1, .int 0), (0, .ref m0)]) C dX11_takesOrder_1 rfl (by decide) rfl ?_
  refine j_iconst (pc := 2) (v := 0) C dX11_takesOrder_2 (by decide) ?_
  refine j_istore_n (pc := 3) (lv' := [(2, .int 0), (1, .int 0), (0, .ref m0)]) C dX11_takesOrder_3 rfl (by decide) rfl ?_
  have loop_1 : ∀ (k_1 : Nat) (x1_2 : Int32) (x1_1 : Int32), (0 ≤ (x1_2).toInt ∧ (x1_2).toInt ≤ 30) → (30 - x1_2.toInt).toNat < k_1 → J p l e ({ frames := 2, cells := 0, slots := 0, locals := 44 } : Room) s m args below meth c D A 5 0 0 (QX below D (TY cyC cyI cyJ cyZ cyO) A (fun u => none) (fun u => True) (fun u => [(m0, .inr (11, [.int m_thrown, .ref mtape, .int m_taped, .int m_size, .ref msort, .ref mplace, .ref mvalue, .int m_at, .int m_fault, .ref mwords, .ref mtold, .ref mop, .ref marg, .int m_codes, .ref mnames, .ref mhasHabit, .int m_isNew, .ref mfactWords, .ref mfacts, .ref mpile, .ref mstates, .ref misMarked, .int m_inShelf, .int m_inStack, .int m_inPlace, .ref mrow, .int m_rowMany, .ref mthr, .ref mmays, .ref mtall, .ref mweights, .ref mrowOfWare, .ref mneededOf, .int m_goShelf, .int m_goStack, .int m_goLeft, .ref mtried, .ref mbestRow, .int (u.2.1 0), .int m_bestMany, .int m_bestShelf, .int m_bestSet, .ref mdigits])), (mtold, .inl (cyI, 240, .inl m_told)), (mstates, .inl (cyI, 2760, .inl m_states)), (mtried, .inl (cyI, 7, .inl m_tried)), (mbestRow, .inl (cyI, 7, .inl (u.2.2.1 0)))]) args s 0 0) [(m0, .inr (11, [.int m_thrown, .ref mtape, .int m_taped, .int m_size, .ref msort, .ref mplace, .ref mvalue, .int m_at, .int m_fault, .ref mwords, .ref mtold, .ref mop, .ref marg, .int m_codes, .ref mnames, .ref mhasHabit, .int m_isNew, .ref mfactWords, .ref mfacts, .ref mpile, .ref mstates, .ref misMarked, .int m_inShelf, .int m_inStack, .int m_inPlace, .ref mrow, .int m_rowMany, .ref mthr, .ref mmays, .ref mtall, .ref mweights, .ref mrowOfWare, .ref mneededOf, .int m_goShelf, .int m_goStack, .int m_goLeft, .ref mtried, .ref mbestRow, .int m_bestCost, .int m_bestMany, .int m_bestShelf, .int m_bestSet, .ref mdigits])), (mtold, .inl (cyI, 240, .inl m_told)), (mstates, .inl (cyI, 2760, .inl m_states)), (mtried, .inl (cyI, 7, .inl m_tried)), (mbestRow, .inl (cyI, 7, .inl m_bestRow))] 4 [(2, .int x1_2), (1, .int x1_1), (0, .ref m0)] [] := by
    intro k_1
    induction k_1 with
    | zero =>
      intro x1_2 x1_1 hi_1_0 hm_1
      exact absurd hm_1 (Nat.not_lt_zero _)
    | succ k_1 ih_1 =>
      intro x1_2 x1_1 hi_1_0 hm_1
      refine j_iload_n (pc := 4) C dX11_takesOrder_4 rfl 0 rfl ?_
      refine j_aload_n (pc := 5) C dX11_takesOrder_5 rfl 2 rfl ?_
      refine j_callV (pc := 6) (As := []) (rest := [.int x1_2]) (wr := [(mtold, .inl (cyI, 240, .inl m_told)), (mtried, .inl (cyI, 7, .inl m_tried)), (mbestRow, .inl (cyI, 7, .inl m_bestRow))]) C (c_X11_asks l D cyC cyI cyJ cyZ cyO m0 mstates mtape msort mplace mvalue mwords mtold mop marg mnames mhasHabit mfactWords mfacts mpile misMarked mrow mthr mmays mtall mweights mrowOfWare mneededOf mtried mbestRow mdigits m_thrown m_taped m_size m_at m_fault m_codes m_isNew m_inShelf m_inStack m_inPlace m_rowMany m_goShelf m_goStack m_goLeft m_bestCost m_bestMany m_bestShelf m_bestSet m_states h_m_taped h_m_size h_m_at h_m_fault h_m_codes h_m_isNew h_m_inShelf h_m_inStack h_m_inPlace h_m_rowMany h_m_goShelf h_m_bestMany h_m_bestShelf h_m_states) wd_833 wd_624 wd_834 wd_835 wd_836 ⟨by decide, by decide, rfl⟩ rfl ⟨rfl, rfl, by decide, by decide⟩ ⟨by decide, by decide⟩ [0, 2] [1, 3, 4] rfl rfl ⟨by decide, by decide, by decide⟩ 0 rfl rfl rfl (Nat.le_of_ble_eq_true rfl) dX11_takesOrder_6 (fun u_2 hw_3 => ?_)
      refine j_eq (ws2 := [(mtold, .inl (cyI, 240, .inl m_told)), (mtried, .inl (cyI, 7, .inl m_tried)), (mbestRow, .inl (cyI, 7, .inl m_bestRow)), (m0, .inr (11, [.int m_thrown, .ref mtape, .int m_taped, .int m_size, .ref msort, .ref mplace, .ref mvalue, .int m_at, .int m_fault, .ref mwords, .ref mtold, .ref mop, .ref marg, .int m_codes, .ref mnames, .ref mhasHabit, .int m_isNew, .ref mfactWords, .ref mfacts, .ref mpile, .ref mstates, .ref misMarked, .int m_inShelf, .int m_inStack, .int m_inPlace, .ref mrow, .int m_rowMany, .ref mthr, .ref mmays, .ref mtall, .ref mweights, .ref mrowOfWare, .ref mneededOf, .int m_goShelf, .int m_goStack, .int m_goLeft, .ref mtried, .ref mbestRow, .int m_bestCost, .int m_bestMany, .int m_bestShelf, .int m_bestSet, .ref mdigits])), (mstates, .inl (cyI, 2760, .inl m_states))]) (pc2 := 9) (lv2 := [(2, .int x1_2), (1, .int x1_1), (0, .ref m0)]) (st2 := [.int (u_2.2.1 0), .int x1_2]) rfl rfl rfl rfl ?_
      obtain ⟨hw_3_0, hw_3_1, hw_3_2⟩ := hw_3
      refine j_icmp_ge (pc := 9) (tgt := 106) C dX11_takesOrder_9 (by decide) (fun c_4 => ?_) (fun c_4 => ?_)
      · skip
        rw [i_le] at c_4
        refine j_aload_n (pc := 106) C dX11_takesOrder_106 rfl 2 rfl ?_
        refine j_get (pc := 107) (ci := 11) (v := .int m_bestCost) C inw_11 3 rfl rfl 38 (by decide) wd_877 rfl rfl dX11_takesOrder_107 ?_
        refine j_if_lt (pc := 110) (tgt := 121) C dX11_takesOrder_110 (by decide) (fun c_5 => ?_) (fun c_5 => ?_)
        · skip
          have el_0 : (0 : Int32).toInt = 0 := rfl
          rw [i_lt] at c_5
          refine j_aload_n (pc := 121) C dX11_takesOrder_121 rfl 2 rfl ?_
          refine j_iload_n (pc := 122) C dX11_takesOrder_122 rfl 1 rfl ?_
          refine j_put (pc := 123) (ci := 11) (v := .int x1_1) (ws' := [(mtold, .inl (cyI, 240, .inl m_told)), (mtried, .inl (cyI, 7, .inl m_tried)), (mbestRow, .inl (cyI, 7, .inl m_bestRow)), (m0, .inr (11, [.int m_thrown, .ref mtape, .int m_taped, .int m_size, .ref msort, .ref mplace, .ref mvalue, .int m_at, .int m_fault, .ref mwords, .ref mtold, .ref mop, .ref marg, .int m_codes, .ref mnames, .ref mhasHabit, .int m_isNew, .ref mfactWords, .ref mfacts, .ref mpile, .ref mstates, .ref misMarked, .int m_inShelf, .int m_inStack, .int m_inPlace, .ref mrow, .int m_rowMany, .ref mthr, .ref mmays, .ref mtall, .ref mweights, .ref mrowOfWare, .ref mneededOf, .int m_goShelf, .int m_goStack, .int m_goLeft, .ref mtried, .ref mbestRow, .int x1_1, .int m_bestMany, .int m_bestShelf, .int m_bestSet, .ref mdigits])), (mstates, .inl (cyI, 2760, .inl m_states))]) C inw_11 3 rfl rfl 38 (by decide) wd_877 rfl tyX11_ok nmX11 rfl (tyX11_ok 38 (by decide)) rfl rfl (Nat.le_of_ble_eq_true rfl) dX11_takesOrder_123 rfl ?_
          refine j_iconst (pc := 126) (v := 0) C dX11_takesOrder_126 (by decide) ?_
          refine j_istore_n (pc := 127) (lv' := [(2, .int 0), (1, .int x1_1), (0, .ref m0)]) C dX11_takesOrder_127 rfl (by decide) rfl ?_
          have loop_6 : ∀ (k_6 : Nat) (x6_2 : Int32) (g6_mbestRow : Nat → Int32), (0 ≤ (x6_2).toInt ∧ (x6_2).toInt ≤ 7) → (7 - x6_2.toInt).toNat < k_6 → J p l e ({ frames := 2, cells := 0, slots := 0, locals := 44 } : Room) s m args below meth c D A 5 0 0 (QX below D (TY cyC cyI cyJ cyZ cyO) A (fun u => none) (fun u => True) (fun u => [(m0, .inr (11, [.int m_thrown, .ref mtape, .int m_taped, .int m_size, .ref msort, .ref mplace, .ref mvalue, .int m_at, .int m_fault, .ref mwords, .ref mtold, .ref mop, .ref marg, .int m_codes, .ref mnames, .ref mhasHabit, .int m_isNew, .ref mfactWords, .ref mfacts, .ref mpile, .ref mstates, .ref misMarked, .int m_inShelf, .int m_inStack, .int m_inPlace, .ref mrow, .int m_rowMany, .ref mthr, .ref mmays, .ref mtall, .ref mweights, .ref mrowOfWare, .ref mneededOf, .int m_goShelf, .int m_goStack, .int m_goLeft, .ref mtried, .ref mbestRow, .int (u.2.1 0), .int m_bestMany, .int m_bestShelf, .int m_bestSet, .ref mdigits])), (mtold, .inl (cyI, 240, .inl m_told)), (mstates, .inl (cyI, 2760, .inl m_states)), (mtried, .inl (cyI, 7, .inl m_tried)), (mbestRow, .inl (cyI, 7, .inl (u.2.2.1 0)))]) args s 0 0) [(mtold, .inl (cyI, 240, .inl m_told)), (mtried, .inl (cyI, 7, .inl m_tried)), (mbestRow, .inl (cyI, 7, .inl g6_mbestRow)), (m0, .inr (11, [.int m_thrown, .ref mtape, .int m_taped, .int m_size, .ref msort, .ref mplace, .ref mvalue, .int m_at, .int m_fault, .ref mwords, .ref mtold, .ref mop, .ref marg, .int m_codes, .ref mnames, .ref mhasHabit, .int m_isNew, .ref mfactWords, .ref mfacts, .ref mpile, .ref mstates, .ref misMarked, .int m_inShelf, .int m_inStack, .int m_inPlace, .ref mrow, .int m_rowMany, .ref mthr, .ref mmays, .ref mtall, .ref mweights, .ref mrowOfWare, .ref mneededOf, .int m_goShelf, .int m_goStack, .int m_goLeft, .ref mtried, .ref mbestRow, .int x1_1, .int m_bestMany, .int m_bestShelf, .int m_bestSet, .ref mdigits])), (mstates, .inl (cyI, 2760, .inl m_states))] 128 [(2, .int x6_2), (1, .int x1_1), (0, .ref m0)] [] := by
            intro k_6
            induction k_6 with
            | zero =>
              intro x6_2 g6_mbestRow hi_6_0 hm_6
              exact absurd hm_6 (Nat.not_lt_zero _)
            | succ k_6 ih_6 =>
              intro x6_2 g6_mbestRow hi_6_0 hm_6
              refine j_iload_n (pc := 128) C dX11_takesOrder_128 rfl 0 rfl ?_
              refine j_aload_n (pc := 129) C dX11_takesOrder_129 rfl 2 rfl ?_
              refine j_get (pc := 130) (ci := 11) (v := .int m_bestMany) C inw_11 3 rfl rfl 39 (by decide) wd_878 rfl rfl dX11_takesOrder_130 ?_
              refine j_icmp_ge (pc := 133) (tgt := 154) C dX11_takesOrder_133 (by decide) (fun c_7 => ?_) (fun c_7 => ?_)
              · skip
                rw [i_le] at c_7
                exact j_vret (pc := 154) C hr hk (fun i => [].getD i 0, fun i => [x1_1].getD i 0, fun i => [g6_mbestRow].getD i (fun _ => 0), fun i => [].getD i (fun _ => 0)) rfl trivial [3, 0, 4, 1, 2] (by decide) rfl (by decide) (by decide) dX11_takesOrder_154
              · skip
                rw [i_le] at c_7
                refine j_aload_n (pc := 136) C dX11_takesOrder_136 rfl 2 rfl ?_
                refine j_get (pc := 137) (ci := 11) (v := .ref mbestRow) C inw_11 3 rfl rfl 37 (by decide) wd_879 rfl rfl dX11_takesOrder_137 ?_
                refine j_iload_n (pc := 140) C dX11_takesOrder_140 rfl 0 rfl ?_
                refine j_aload_n (pc := 141) C dX11_takesOrder_141 rfl 2 rfl ?_
                refine j_get (pc := 142) (ci := 11) (v := .ref mtried) C inw_11 3 rfl rfl 36 (by decide) wd_880 rfl rfl dX11_takesOrder_142 ?_
                refine j_iload_n (pc := 145) C dX11_takesOrder_145 rfl 0 rfl ?_
                obtain ⟨v_8, ev_8⟩ : ∃ z, m_tried (x6_2).toInt.toNat = z := ⟨_, rfl⟩
                have env_8 : (m_tried (x6_2).toInt.toNat).toInt = v_8.toInt := by rw [ev_8]
                have hv_8 := h_m_tried (x6_2).toInt.toNat (i_lt_n hi_6_0.1 (by omega)); rw [ev_8] at hv_8
                refine j_iald (pc := 146) (v := v_8) (k := (x6_2).toInt.toNat) C 1 1 rfl rfl (i_nn hi_6_0.1) rfl (i_lt_n hi_6_0.1 (by omega)) ev_8 dX11_takesOrder_146 ?_
                obtain ⟨f_9, ef_9⟩ : ∃ z, z = upd g6_mbestRow (x6_2).toInt.toNat v_8 := ⟨_, rfl⟩
                refine j_iast (pc := 147) (k := (x6_2).toInt.toNat) (ws' := [(mtold, .inl (cyI, 240, .inl m_told)), (mtried, .inl (cyI, 7, .inl m_tried)), (mbestRow, .inl (cyI, 7, .inl f_9)), (m0, .inr (11, [.int m_thrown, .ref mtape, .int m_taped, .int m_size, .ref msort, .ref mplace, .ref mvalue, .int m_at, .int m_fault, .ref mwords, .ref mtold, .ref mop, .ref marg, .int m_codes, .ref mnames, .ref mhasHabit, .int m_isNew, .ref mfactWords, .ref mfacts, .ref mpile, .ref mstates, .ref misMarked, .int m_inShelf, .int m_inStack, .int m_inPlace, .ref mrow, .int m_rowMany, .ref mthr, .ref mmays, .ref mtall, .ref mweights, .ref mrowOfWare, .ref mneededOf, .int m_goShelf, .int m_goStack, .int m_goLeft, .ref mtried, .ref mbestRow, .int x1_1, .int m_bestMany, .int m_bestShelf, .int m_bestSet, .ref mdigits])), (mstates, .inl (cyI, 2760, .inl m_states))]) C 2 1 rfl rfl (i_nn hi_6_0.1) rfl (i_lt_n hi_6_0.1 (by omega)) dX11_takesOrder_147 (by rw [ef_9]; rfl) ?_
                obtain ⟨v_10, ev_10⟩ : ∃ z : Int32, x6_2 + 1 = z := ⟨_, rfl⟩
                have el_1 : (1 : Int32).toInt = 1 := rfl
                have hv_10 : v_10.toInt = x6_2.toInt + (1 : Int32).toInt := by rw [← ev_10]; exact fb_addI (by omega) (by omega)
                refine j_iinc (pc := 148) (v := v_10) (lv' := [(2, .int v_10), (1, .int x1_1), (0, .ref m0)]) C dX11_takesOrder_148 0 rfl ev_10 (by decide) rfl ?_
                refine j_goto (pc := 151) (tgt := 128) C dX11_takesOrder_151 (by decide) ?_
                exact j_lv [0, 1, 2] rfl (ih_6 v_10 f_9 (by omega) (by omega))
          have el_0 : (0 : Int32).toInt = 0 := rfl
          exact j_lv [0, 1, 2] rfl (loop_6 4096 0 m_bestRow (by decide) (by omega))
        · skip
          have el_0 : (0 : Int32).toInt = 0 := rfl
          rw [i_lt] at c_5
          refine j_iload_n (pc := 113) C dX11_takesOrder_113 rfl 1 rfl ?_
          refine j_aload_n (pc := 114) C dX11_takesOrder_114 rfl 2 rfl ?_
          refine j_get (pc := 115) (ci := 11) (v := .int m_bestCost) C inw_11 3 rfl rfl 38 (by decide) wd_877 rfl rfl dX11_takesOrder_115 ?_
          refine j_icmp_ge (pc := 118) (tgt := 154) C dX11_takesOrder_118 (by decide) (fun c_11 => ?_) (fun c_11 => ?_)
          · skip
            rw [i_le] at c_11
            exact j_vret (pc := 154) C hr hk (fun i => [].getD i 0, fun i => [m_bestCost].getD i 0, fun i => [m_bestRow].getD i (fun _ => 0), fun i => [].getD i (fun _ => 0)) rfl trivial [3, 0, 4, 1, 2] (by decide) rfl (by decide) (by decide) dX11_takesOrder_154
          · skip
            rw [i_le] at c_11
            refine j_aload_n (pc := 121) C dX11_takesOrder_121 rfl 2 rfl ?_
            refine j_iload_n (pc := 122) C dX11_takesOrder_122 rfl 1 rfl ?_
            refine j_put (pc := 123) (ci := 11) (v := .int x1_1) (ws' := [(mtold, .inl (cyI, 240, .inl m_told)), (mtried, .inl (cyI, 7, .inl m_tried)), (mbestRow, .inl (cyI, 7, .inl m_bestRow)), (m0, .inr (11, [.int m_thrown, .ref mtape, .int m_taped, .int m_size, .ref msort, .ref mplace, .ref mvalue, .int m_at, .int m_fault, .ref mwords, .ref mtold, .ref mop, .ref marg, .int m_codes, .ref mnames, .ref mhasHabit, .int m_isNew, .ref mfactWords, .ref mfacts, .ref mpile, .ref mstates, .ref misMarked, .int m_inShelf, .int m_inStack, .int m_inPlace, .ref mrow, .int m_rowMany, .ref mthr, .ref mmays, .ref mtall, .ref mweights, .ref mrowOfWare, .ref mneededOf, .int m_goShelf, .int m_goStack, .int m_goLeft, .ref mtried, .ref mbestRow, .int x1_1, .int m_bestMany, .int m_bestShelf, .int m_bestSet, .ref mdigits])), (mstates, .inl (cyI, 2760, .inl m_states))]) C inw_11 3 rfl rfl 38 (by decide) wd_877 rfl tyX11_ok nmX11 rfl (tyX11_ok 38 (by decide)) rfl rfl (Nat.le_of_ble_eq_true rfl) dX11_takesOrder_123 rfl ?_
            refine j_iconst (pc := 126) (v := 0) C dX11_takesOrder_126 (by decide) ?_
            refine j_istore_n (pc := 127) (lv' := [(2, .int 0), (1, .int x1_1), (0, .ref m0)]) C dX11_takesOrder_127 rfl (by decide) rfl ?_
            have loop_12 : ∀ (k_12 : Nat) (x12_2 : Int32) (g12_mbestRow : Nat → Int32), (0 ≤ (x12_2).toInt ∧ (x12_2).toInt ≤ 7) → (7 - x12_2.toInt).toNat < k_12 → J p l e ({ frames := 2, cells := 0, slots := 0, locals := 44 } : Room) s m args below meth c D A 5 0 0 (QX below D (TY cyC cyI cyJ cyZ cyO) A (fun u => none) (fun u => True) (fun u => [(m0, .inr (11, [.int m_thrown, .ref mtape, .int m_taped, .int m_size, .ref msort, .ref mplace, .ref mvalue, .int m_at, .int m_fault, .ref mwords, .ref mtold, .ref mop, .ref marg, .int m_codes, .ref mnames, .ref mhasHabit, .int m_isNew, .ref mfactWords, .ref mfacts, .ref mpile, .ref mstates, .ref misMarked, .int m_inShelf, .int m_inStack, .int m_inPlace, .ref mrow, .int m_rowMany, .ref mthr, .ref mmays, .ref mtall, .ref mweights, .ref mrowOfWare, .ref mneededOf, .int m_goShelf, .int m_goStack, .int m_goLeft, .ref mtried, .ref mbestRow, .int (u.2.1 0), .int m_bestMany, .int m_bestShelf, .int m_bestSet, .ref mdigits])), (mtold, .inl (cyI, 240, .inl m_told)), (mstates, .inl (cyI, 2760, .inl m_states)), (mtried, .inl (cyI, 7, .inl m_tried)), (mbestRow, .inl (cyI, 7, .inl (u.2.2.1 0)))]) args s 0 0) [(mtold, .inl (cyI, 240, .inl m_told)), (mtried, .inl (cyI, 7, .inl m_tried)), (mbestRow, .inl (cyI, 7, .inl g12_mbestRow)), (m0, .inr (11, [.int m_thrown, .ref mtape, .int m_taped, .int m_size, .ref msort, .ref mplace, .ref mvalue, .int m_at, .int m_fault, .ref mwords, .ref mtold, .ref mop, .ref marg, .int m_codes, .ref mnames, .ref mhasHabit, .int m_isNew, .ref mfactWords, .ref mfacts, .ref mpile, .ref mstates, .ref misMarked, .int m_inShelf, .int m_inStack, .int m_inPlace, .ref mrow, .int m_rowMany, .ref mthr, .ref mmays, .ref mtall, .ref mweights, .ref mrowOfWare, .ref mneededOf, .int m_goShelf, .int m_goStack, .int m_goLeft, .ref mtried, .ref mbestRow, .int x1_1, .int m_bestMany, .int m_bestShelf, .int m_bestSet, .ref mdigits])), (mstates, .inl (cyI, 2760, .inl m_states))] 128 [(2, .int x12_2), (1, .int x1_1), (0, .ref m0)] [] := by
              intro k_12
              induction k_12 with
              | zero =>
                intro x12_2 g12_mbestRow hi_12_0 hm_12
                exact absurd hm_12 (Nat.not_lt_zero _)
              | succ k_12 ih_12 =>
                intro x12_2 g12_mbestRow hi_12_0 hm_12
                refine j_iload_n (pc := 128) C dX11_takesOrder_128 rfl 0 rfl ?_
                refine j_aload_n (pc := 129) C dX11_takesOrder_129 rfl 2 rfl ?_
                refine j_get (pc := 130) (ci := 11) (v := .int m_bestMany) C inw_11 3 rfl rfl 39 (by decide) wd_878 rfl rfl dX11_takesOrder_130 ?_
                refine j_icmp_ge (pc := 133) (tgt := 154) C dX11_takesOrder_133 (by decide) (fun c_13 => ?_) (fun c_13 => ?_)
                · skip
                  rw [i_le] at c_13
                  exact j_vret (pc := 154) C hr hk (fun i => [].getD i 0, fun i => [x1_1].getD i 0, fun i => [g12_mbestRow].getD i (fun _ => 0), fun i => [].getD i (fun _ => 0)) rfl trivial [3, 0, 4, 1, 2] (by decide) rfl (by decide) (by decide) dX11_takesOrder_154
                · skip
                  rw [i_le] at c_13
                  refine j_aload_n (pc := 136) C dX11_takesOrder_136 rfl 2 rfl ?_
                  refine j_get (pc := 137) (ci := 11) (v := .ref mbestRow) C inw_11 3 rfl rfl 37 (by decide) wd_879 rfl rfl dX11_takesOrder_137 ?_
                  refine j_iload_n (pc := 140) C dX11_takesOrder_140 rfl 0 rfl ?_
                  refine j_aload_n (pc := 141) C dX11_takesOrder_141 rfl 2 rfl ?_
                  refine j_get (pc := 142) (ci := 11) (v := .ref mtried) C inw_11 3 rfl rfl 36 (by decide) wd_880 rfl rfl dX11_takesOrder_142 ?_
                  refine j_iload_n (pc := 145) C dX11_takesOrder_145 rfl 0 rfl ?_
                  obtain ⟨v_14, ev_14⟩ : ∃ z, m_tried (x12_2).toInt.toNat = z := ⟨_, rfl⟩
                  have env_14 : (m_tried (x12_2).toInt.toNat).toInt = v_14.toInt := by rw [ev_14]
                  have hv_14 := h_m_tried (x12_2).toInt.toNat (i_lt_n hi_12_0.1 (by omega)); rw [ev_14] at hv_14
                  refine j_iald (pc := 146) (v := v_14) (k := (x12_2).toInt.toNat) C 1 1 rfl rfl (i_nn hi_12_0.1) rfl (i_lt_n hi_12_0.1 (by omega)) ev_14 dX11_takesOrder_146 ?_
                  obtain ⟨f_15, ef_15⟩ : ∃ z, z = upd g12_mbestRow (x12_2).toInt.toNat v_14 := ⟨_, rfl⟩
                  refine j_iast (pc := 147) (k := (x12_2).toInt.toNat) (ws' := [(mtold, .inl (cyI, 240, .inl m_told)), (mtried, .inl (cyI, 7, .inl m_tried)), (mbestRow, .inl (cyI, 7, .inl f_15)), (m0, .inr (11, [.int m_thrown, .ref mtape, .int m_taped, .int m_size, .ref msort, .ref mplace, .ref mvalue, .int m_at, .int m_fault, .ref mwords, .ref mtold, .ref mop, .ref marg, .int m_codes, .ref mnames, .ref mhasHabit, .int m_isNew, .ref mfactWords, .ref mfacts, .ref mpile, .ref mstates, .ref misMarked, .int m_inShelf, .int m_inStack, .int m_inPlace, .ref mrow, .int m_rowMany, .ref mthr, .ref mmays, .ref mtall, .ref mweights, .ref mrowOfWare, .ref mneededOf, .int m_goShelf, .int m_goStack, .int m_goLeft, .ref mtried, .ref mbestRow, .int x1_1, .int m_bestMany, .int m_bestShelf, .int m_bestSet, .ref mdigits])), (mstates, .inl (cyI, 2760, .inl m_states))]) C 2 1 rfl rfl (i_nn hi_12_0.1) rfl (i_lt_n hi_12_0.1 (by omega)) dX11_takesOrder_147 (by rw [ef_15]; rfl) ?_
                  obtain ⟨v_16, ev_16⟩ : ∃ z : Int32, x12_2 + 1 = z := ⟨_, rfl⟩
                  have el_1 : (1 : Int32).toInt = 1 := rfl
                  have hv_16 : v_16.toInt = x12_2.toInt + (1 : Int32).toInt := by rw [← ev_16]; exact fb_addI (by omega) (by omega)
                  refine j_iinc (pc := 148) (v := v_16) (lv' := [(2, .int v_16), (1, .int x1_1), (0, .ref m0)]) C dX11_takesOrder_148 0 rfl ev_16 (by decide) rfl ?_
                  refine j_goto (pc := 151) (tgt := 128) C dX11_takesOrder_151 (by decide) ?_
                  exact j_lv [0, 1, 2] rfl (ih_12 v_16 f_15 (by omega) (by omega))
            have el_0 : (0 : Int32).toInt = 0 := rfl
            exact j_lv [0, 1, 2] rfl (loop_12 4096 0 m_bestRow (by decide) (by omega))
      · skip
        rw [i_le] at c_4
        refine j_iconst (pc := 12) (v := 0) C dX11_takesOrder_12 (by decide) ?_
        refine j_istore_n (pc := 13) (lv' := [(3, .int 0), (2, .int x1_2), (1, .int x1_1), (0, .ref m0)]) C dX11_takesOrder_13 rfl (by decide) rfl ?_
        refine j_iconst (pc := 14) (v := 0) C dX11_takesOrder_14 (by decide) ?_
        refine j_istore (pc := 15) (lv' := [(4, .int 0), (3, .int 0), (2, .int x1_2), (1, .int x1_1), (0, .ref m0)]) C dX11_takesOrder_15 (by decide) rfl ?_
        have loop_17 : ∀ (k_17 : Nat) (x17_4 : Int32) (x17_3 : Int32) (x17_1 : Int32), (0 ≤ (x17_4).toInt ∧ (x17_4).toInt ≤ 7) → (0 ≤ (x17_3).toInt ∧ (x17_3).toInt ≤ 1) → (7 - x17_4.toInt).toNat < k_17 → J p l e ({ frames := 2, cells := 0, slots := 0, locals := 44 } : Room) s m args below meth c D A 5 0 0 (QX below D (TY cyC cyI cyJ cyZ cyO) A (fun u => none) (fun u => True) (fun u => [(m0, .inr (11, [.int m_thrown, .ref mtape, .int m_taped, .int m_size, .ref msort, .ref mplace, .ref mvalue, .int m_at, .int m_fault, .ref mwords, .ref mtold, .ref mop, .ref marg, .int m_codes, .ref mnames, .ref mhasHabit, .int m_isNew, .ref mfactWords, .ref mfacts, .ref mpile, .ref mstates, .ref misMarked, .int m_inShelf, .int m_inStack, .int m_inPlace, .ref mrow, .int m_rowMany, .ref mthr, .ref mmays, .ref mtall, .ref mweights, .ref mrowOfWare, .ref mneededOf, .int m_goShelf, .int m_goStack, .int m_goLeft, .ref mtried, .ref mbestRow, .int (u.2.1 0), .int m_bestMany, .int m_bestShelf, .int m_bestSet, .ref mdigits])), (mtold, .inl (cyI, 240, .inl m_told)), (mstates, .inl (cyI, 2760, .inl m_states)), (mtried, .inl (cyI, 7, .inl m_tried)), (mbestRow, .inl (cyI, 7, .inl (u.2.2.1 0)))]) args s 0 0) [(mtold, .inl (cyI, 240, .inl m_told)), (mtried, .inl (cyI, 7, .inl m_tried)), (mbestRow, .inl (cyI, 7, .inl m_bestRow)), (m0, .inr (11, [.int m_thrown, .ref mtape, .int m_taped, .int m_size, .ref msort, .ref mplace, .ref mvalue, .int m_at, .int m_fault, .ref mwords, .ref mtold, .ref mop, .ref marg, .int m_codes, .ref mnames, .ref mhasHabit, .int m_isNew, .ref mfactWords, .ref mfacts, .ref mpile, .ref mstates, .ref misMarked, .int m_inShelf, .int m_inStack, .int m_inPlace, .ref mrow, .int m_rowMany, .ref mthr, .ref mmays, .ref mtall, .ref mweights, .ref mrowOfWare, .ref mneededOf, .int m_goShelf, .int m_goStack, .int m_goLeft, .ref mtried, .ref mbestRow, .int m_bestCost, .int m_bestMany, .int m_bestShelf, .int m_bestSet, .ref mdigits])), (mstates, .inl (cyI, 2760, .inl m_states))] 17 [(4, .int x17_4), (3, .int x17_3), (2, .int x1_2), (1, .int x17_1), (0, .ref m0)] [] := by
          intro k_17
          induction k_17 with
          | zero =>
            intro x17_4 x17_3 x17_1 hi_17_0 hi_17_1 hm_17
            exact absurd hm_17 (Nat.not_lt_zero _)
          | succ k_17 ih_17 =>
            intro x17_4 x17_3 x17_1 hi_17_0 hi_17_1 hm_17
            refine j_iload (pc := 17) C dX11_takesOrder_17 0 rfl ?_
            refine j_aload_n (pc := 19) C dX11_takesOrder_19 rfl 4 rfl ?_
            refine j_get (pc := 20) (ci := 11) (v := .int m_bestMany) C inw_11 3 rfl rfl 39 (by decide) wd_878 rfl rfl dX11_takesOrder_20 ?_
            refine j_icmp_ge (pc := 23) (tgt := 100) C dX11_takesOrder_23 (by decide) (fun c_18 => ?_) (fun c_18 => ?_)
            · skip
              rw [i_le] at c_18
              obtain ⟨v_19, ev_19⟩ : ∃ z : Int32, x1_2 + 1 = z := ⟨_, rfl⟩
              have el_1 : (1 : Int32).toInt = 1 := rfl
              have hv_19 : v_19.toInt = x1_2.toInt + (1 : Int32).toInt := by rw [← ev_19]; exact fb_addI (by omega) (by omega)
              refine j_iinc (pc := 100) (v := v_19) (lv' := [(2, .int v_19), (4, .int x17_4), (3, .int x17_3), (1, .int x17_1), (0, .ref m0)]) C dX11_takesOrder_100 2 rfl ev_19 (by decide) rfl ?_
              refine j_goto (pc := 103) (tgt := 4) C dX11_takesOrder_103 (by decide) ?_
              refine j_subG (ws' := [(m0, .inr (11, [.int m_thrown, .ref mtape, .int m_taped, .int m_size, .ref msort, .ref mplace, .ref mvalue, .int m_at, .int m_fault, .ref mwords, .ref mtold, .ref mop, .ref marg, .int m_codes, .ref mnames, .ref mhasHabit, .int m_isNew, .ref mfactWords, .ref mfacts, .ref mpile, .ref mstates, .ref misMarked, .int m_inShelf, .int m_inStack, .int m_inPlace, .ref mrow, .int m_rowMany, .ref mthr, .ref mmays, .ref mtall, .ref mweights, .ref mrowOfWare, .ref mneededOf, .int m_goShelf, .int m_goStack, .int m_goLeft, .ref mtried, .ref mbestRow, .int m_bestCost, .int m_bestMany, .int m_bestShelf, .int m_bestSet, .ref mdigits])), (mtold, .inl (cyI, 240, .inl m_told)), (mstates, .inl (cyI, 2760, .inl m_states)), (mtried, .inl (cyI, 7, .inl m_tried)), (mbestRow, .inl (cyI, 7, .inl m_bestRow))]) [3, 0, 4, 1, 2] (by decide) rfl ?_
              exact j_lv [0, 3, 4] rfl (ih_1 v_19 x17_1 (by omega) (by omega))
            · skip
              rw [i_le] at c_18
              refine j_iload_n (pc := 26) C dX11_takesOrder_26 rfl 3 rfl ?_
              refine j_iload_n (pc := 27) C dX11_takesOrder_27 rfl 1 rfl ?_
              refine j_if_eq (pc := 28) (tgt := 51) C dX11_takesOrder_28 (by decide) (fun c_20 => ?_) (fun c_20 => ?_)
              · skip
                have el_0 : (0 : Int32).toInt = 0 := rfl
                rw [i_eq] at c_20
                refine j_iconst (pc := 51) (v := 0) C dX11_takesOrder_51 (by decide) ?_
                obtain ⟨v_21, ev_21⟩ : ∃ z : Int32, x17_1 + 0 = z := ⟨_, rfl⟩
                have el_0 : (0 : Int32).toInt = 0 := rfl
                refine j_iadd (pc := 52) (v := v_21) C dX11_takesOrder_52 ev_21 ?_
                refine j_istore_n (pc := 53) (lv' := [(1, .int v_21), (4, .int x17_4), (3, .int x17_3), (2, .int x1_2), (0, .ref m0)]) C dX11_takesOrder_53 rfl (by decide) rfl ?_
                refine j_aload_n (pc := 54) C dX11_takesOrder_54 rfl 4 rfl ?_
                refine j_get (pc := 55) (ci := 11) (v := .ref mtried) C inw_11 3 rfl rfl 36 (by decide) wd_880 rfl rfl dX11_takesOrder_55 ?_
                refine j_iload (pc := 58) C dX11_takesOrder_58 1 rfl ?_
                obtain ⟨v_22, ev_22⟩ : ∃ z, m_tried (x17_4).toInt.toNat = z := ⟨_, rfl⟩
                have env_22 : (m_tried (x17_4).toInt.toNat).toInt = v_22.toInt := by rw [ev_22]
                have hv_22 := h_m_tried (x17_4).toInt.toNat (i_lt_n hi_17_0.1 (by omega)); rw [ev_22] at hv_22
                refine j_iald (pc := 60) (v := v_22) (k := (x17_4).toInt.toNat) C 1 1 rfl rfl (i_nn hi_17_0.1) rfl (i_lt_n hi_17_0.1 (by omega)) ev_22 dX11_takesOrder_60 ?_
                refine j_aload_n (pc := 61) C dX11_takesOrder_61 rfl 4 rfl ?_
                refine j_get (pc := 62) (ci := 11) (v := .ref mstates) C inw_11 3 rfl rfl 20 (by decide) wd_764 rfl rfl dX11_takesOrder_62 ?_
                refine j_sipush (pc := 65) (v := 422) C dX11_takesOrder_65 (by decide) ?_
                refine j_iload_n (pc := 68) C dX11_takesOrder_68 rfl 3 rfl ?_
                obtain ⟨v_23, ev_23⟩ : ∃ z : Int32, 422 + x1_2 = z := ⟨_, rfl⟩
                have el_422 : (422 : Int32).toInt = 422 := rfl
                have hv_23 : v_23.toInt = (422 : Int32).toInt + x1_2.toInt := by rw [← ev_23]; exact fb_addI (by omega) (by omega)
                refine j_iadd (pc := 69) (v := v_23) C dX11_takesOrder_69 ev_23 ?_
                obtain ⟨v_24, ev_24⟩ : ∃ z, m_states (v_23).toInt.toNat = z := ⟨_, rfl⟩
                have env_24 : (m_states (v_23).toInt.toNat).toInt = v_24.toInt := by rw [ev_24]
                have hv_24 : 0 ≤ v_24.toInt ∧ v_24.toInt ≤ 11 := by rw [← ev_24]; exact SV.ask (b := 0) h_m_states (by decide) (by omega) (by omega)
                refine j_iald (pc := 70) (v := v_24) (k := (v_23).toInt.toNat) C 4 1 rfl rfl (i_nn (by omega)) rfl (i_lt_n (by omega) (by omega)) ev_24 dX11_takesOrder_70 ?_
                refine j_icmp_ne (pc := 71) (tgt := 94) C dX11_takesOrder_71 (by decide) (fun c_25 => ?_) (fun c_25 => ?_)
                · skip
                  rw [i_eq] at c_25
                  obtain ⟨v_26, ev_26⟩ : ∃ z : Int32, x17_4 + 1 = z := ⟨_, rfl⟩
                  have el_1 : (1 : Int32).toInt = 1 := rfl
                  have hv_26 : v_26.toInt = x17_4.toInt + (1 : Int32).toInt := by rw [← ev_26]; exact fb_addI (by omega) (by omega)
                  refine j_iinc (pc := 94) (v := v_26) (lv' := [(4, .int v_26), (1, .int v_21), (3, .int x17_3), (2, .int x1_2), (0, .ref m0)]) C dX11_takesOrder_94 1 rfl ev_26 (by decide) rfl ?_
                  refine j_goto (pc := 97) (tgt := 17) C dX11_takesOrder_97 (by decide) ?_
                  exact j_lv [0, 2, 3, 1, 4] rfl (ih_17 v_26 x17_3 v_21 (by omega) hi_17_1 (by omega))
                · skip
                  rw [i_eq] at c_25
                  refine j_iconst (pc := 74) (v := 1) C dX11_takesOrder_74 (by decide) ?_
                  refine j_istore_n (pc := 75) (lv' := [(3, .int 1), (1, .int v_21), (4, .int x17_4), (2, .int x1_2), (0, .ref m0)]) C dX11_takesOrder_75 rfl (by decide) rfl ?_
                  refine j_iload_n (pc := 76) C dX11_takesOrder_76 rfl 1 rfl ?_
                  refine j_aload_n (pc := 77) C dX11_takesOrder_77 rfl 4 rfl ?_
                  refine j_aload_n (pc := 78) C dX11_takesOrder_78 rfl 4 rfl ?_
                  refine j_get (pc := 79) (ci := 11) (v := .ref mtried) C inw_11 3 rfl rfl 36 (by decide) wd_880 rfl rfl dX11_takesOrder_79 ?_
                  refine j_iload (pc := 82) C dX11_takesOrder_82 2 rfl ?_
                  refine j_iald (pc := 84) (v := v_22) (k := (x17_4).toInt.toNat) C 1 1 rfl rfl (i_nn hi_17_0.1) rfl (i_lt_n hi_17_0.1 (by omega)) ev_22 dX11_takesOrder_84 ?_
                  refine j_aload_n (pc := 85) C dX11_takesOrder_85 rfl 4 rfl ?_
                  refine j_get (pc := 86) (ci := 11) (v := .int m_bestShelf) C inw_11 3 rfl rfl 40 (by decide) wd_881 rfl rfl dX11_takesOrder_86 ?_
                  refine j_callV (pc := 89) (As := [.int v_22, .int m_bestShelf]) (rest := [.int v_21]) (wr := [(mtried, .inl (cyI, 7, .inl m_tried)), (mbestRow, .inl (cyI, 7, .inl m_bestRow)), (mstates, .inl (cyI, 2760, .inl m_states))]) C (c_X11_costOf l D cyC cyI cyJ cyZ cyO m0 mtold mtape msort mplace mvalue mwords mop marg mnames mhasHabit mfactWords mfacts mpile mstates misMarked mrow mthr mmays mtall mweights mrowOfWare mneededOf mtried mbestRow mdigits v_22 m_bestShelf m_thrown m_taped m_size m_at m_fault m_codes m_isNew m_inShelf m_inStack m_inPlace m_rowMany m_goShelf m_goStack m_goLeft m_bestCost m_bestMany m_bestShelf m_bestSet m_told h_m_taped h_m_size h_m_at h_m_fault h_m_codes h_m_isNew h_m_inShelf h_m_inStack h_m_inPlace h_m_rowMany h_m_goShelf h_m_bestMany h_m_bestShelf hv_22 h_m_bestShelf h_m_told) wd_785 wd_624 wd_786 wd_787 wd_788 ⟨by decide, by decide, rfl⟩ rfl ⟨rfl, rfl, by decide, by decide⟩ ⟨by decide, by decide⟩ [3, 0] [1, 2, 4] rfl rfl ⟨by decide, by decide, by decide⟩ 3 rfl rfl rfl (Nat.le_of_ble_eq_true rfl) dX11_takesOrder_89 (fun u_27 hw_28 => ?_)
                  refine j_eq (ws2 := [(mtried, .inl (cyI, 7, .inl m_tried)), (mbestRow, .inl (cyI, 7, .inl m_bestRow)), (mstates, .inl (cyI, 2760, .inl m_states)), (m0, .inr (11, [.int m_thrown, .ref mtape, .int m_taped, .int m_size, .ref msort, .ref mplace, .ref mvalue, .int m_at, .int m_fault, .ref mwords, .ref mtold, .ref mop, .ref marg, .int m_codes, .ref mnames, .ref mhasHabit, .int m_isNew, .ref mfactWords, .ref mfacts, .ref mpile, .ref mstates, .ref misMarked, .int m_inShelf, .int m_inStack, .int m_inPlace, .ref mrow, .int m_rowMany, .ref mthr, .ref mmays, .ref mtall, .ref mweights, .ref mrowOfWare, .ref mneededOf, .int m_goShelf, .int m_goStack, .int m_goLeft, .ref mtried, .ref mbestRow, .int m_bestCost, .int m_bestMany, .int m_bestShelf, .int m_bestSet, .ref mdigits])), (mtold, .inl (cyI, 240, .inl m_told))]) (pc2 := 92) (lv2 := [(3, .int 1), (1, .int v_21), (4, .int x17_4), (2, .int x1_2), (0, .ref m0)]) (st2 := [.int (u_27.2.1 0), .int v_21]) rfl rfl rfl rfl ?_
                  obtain ⟨hw_28_0, hw_28_1⟩ := hw_28
                  obtain ⟨v_29, ev_29⟩ : ∃ z : Int32, v_21 + (u_27.2.1 0) = z := ⟨_, rfl⟩
                  refine j_iadd (pc := 92) (v := v_29) C dX11_takesOrder_92 ev_29 ?_
                  refine j_istore_n (pc := 93) (lv' := [(1, .int v_29), (3, .int 1), (4, .int x17_4), (2, .int x1_2), (0, .ref m0)]) C dX11_takesOrder_93 rfl (by decide) rfl ?_
                  obtain ⟨v_30, ev_30⟩ : ∃ z : Int32, x17_4 + 1 = z := ⟨_, rfl⟩
                  have el_1 : (1 : Int32).toInt = 1 := rfl
                  have hv_30 : v_30.toInt = x17_4.toInt + (1 : Int32).toInt := by rw [← ev_30]; exact fb_addI (by omega) (by omega)
                  refine j_iinc (pc := 94) (v := v_30) (lv' := [(4, .int v_30), (1, .int v_29), (3, .int 1), (2, .int x1_2), (0, .ref m0)]) C dX11_takesOrder_94 2 rfl ev_30 (by decide) rfl ?_
                  refine j_goto (pc := 97) (tgt := 17) C dX11_takesOrder_97 (by decide) ?_
                  have el_1 : (1 : Int32).toInt = 1 := rfl
                  refine j_subG (ws' := [(mtold, .inl (cyI, 240, .inl m_told)), (mtried, .inl (cyI, 7, .inl m_tried)), (mbestRow, .inl (cyI, 7, .inl m_bestRow)), (m0, .inr (11, [.int m_thrown, .ref mtape, .int m_taped, .int m_size, .ref msort, .ref mplace, .ref mvalue, .int m_at, .int m_fault, .ref mwords, .ref mtold, .ref mop, .ref marg, .int m_codes, .ref mnames, .ref mhasHabit, .int m_isNew, .ref mfactWords, .ref mfacts, .ref mpile, .ref mstates, .ref misMarked, .int m_inShelf, .int m_inStack, .int m_inPlace, .ref mrow, .int m_rowMany, .ref mthr, .ref mmays, .ref mtall, .ref mweights, .ref mrowOfWare, .ref mneededOf, .int m_goShelf, .int m_goStack, .int m_goLeft, .ref mtried, .ref mbestRow, .int m_bestCost, .int m_bestMany, .int m_bestShelf, .int m_bestSet, .ref mdigits])), (mstates, .inl (cyI, 2760, .inl m_states))]) [4, 0, 1, 3, 2] (by decide) rfl ?_
                  exact j_lv [0, 2, 3, 1, 4] rfl (ih_17 v_30 1 v_29 (by omega) (by decide) (by omega))
              · skip
                have el_0 : (0 : Int32).toInt = 0 := rfl
                rw [i_eq] at c_20
                have k0c_20 : x17_3.toInt = 1 := by omega
                refine j_iconst (pc := 31) (v := 2) C dX11_takesOrder_31 (by decide) ?_
                refine j_aload_n (pc := 32) C dX11_takesOrder_32 rfl 4 rfl ?_
                refine j_aload_n (pc := 33) C dX11_takesOrder_33 rfl 4 rfl ?_
                refine j_get (pc := 34) (ci := 11) (v := .ref mtried) C inw_11 3 rfl rfl 36 (by decide) wd_880 rfl rfl dX11_takesOrder_34 ?_
                refine j_iload (pc := 37) C dX11_takesOrder_37 0 rfl ?_
                obtain ⟨v_31, ev_31⟩ : ∃ z, m_tried (x17_4).toInt.toNat = z := ⟨_, rfl⟩
                have env_31 : (m_tried (x17_4).toInt.toNat).toInt = v_31.toInt := by rw [ev_31]
                have hv_31 := h_m_tried (x17_4).toInt.toNat (i_lt_n hi_17_0.1 (by omega)); rw [ev_31] at hv_31
                refine j_iald (pc := 39) (v := v_31) (k := (x17_4).toInt.toNat) C 1 1 rfl rfl (i_nn hi_17_0.1) rfl (i_lt_n hi_17_0.1 (by omega)) ev_31 dX11_takesOrder_39 ?_
                refine j_aload_n (pc := 40) C dX11_takesOrder_40 rfl 4 rfl ?_
                refine j_get (pc := 41) (ci := 11) (v := .int m_bestShelf) C inw_11 3 rfl rfl 40 (by decide) wd_881 rfl rfl dX11_takesOrder_41 ?_
                refine j_callV (pc := 44) (As := [.int v_31, .int m_bestShelf]) (rest := [.int 2, .int x17_1]) (wr := [(mtried, .inl (cyI, 7, .inl m_tried)), (mbestRow, .inl (cyI, 7, .inl m_bestRow)), (mstates, .inl (cyI, 2760, .inl m_states))]) C (c_X11_costOf l D cyC cyI cyJ cyZ cyO m0 mtold mtape msort mplace mvalue mwords mop marg mnames mhasHabit mfactWords mfacts mpile mstates misMarked mrow mthr mmays mtall mweights mrowOfWare mneededOf mtried mbestRow mdigits v_31 m_bestShelf m_thrown m_taped m_size m_at m_fault m_codes m_isNew m_inShelf m_inStack m_inPlace m_rowMany m_goShelf m_goStack m_goLeft m_bestCost m_bestMany m_bestShelf m_bestSet m_told h_m_taped h_m_size h_m_at h_m_fault h_m_codes h_m_isNew h_m_inShelf h_m_inStack h_m_inPlace h_m_rowMany h_m_goShelf h_m_bestMany h_m_bestShelf hv_31 h_m_bestShelf h_m_told) wd_785 wd_624 wd_786 wd_787 wd_788 ⟨by decide, by decide, rfl⟩ rfl ⟨rfl, rfl, by decide, by decide⟩ ⟨by decide, by decide⟩ [3, 0] [1, 2, 4] rfl rfl ⟨by decide, by decide, by decide⟩ 3 rfl rfl rfl (Nat.le_of_ble_eq_true rfl) dX11_takesOrder_44 (fun u_32 hw_33 => ?_)
                refine j_eq (ws2 := [(mtried, .inl (cyI, 7, .inl m_tried)), (mbestRow, .inl (cyI, 7, .inl m_bestRow)), (mstates, .inl (cyI, 2760, .inl m_states)), (m0, .inr (11, [.int m_thrown, .ref mtape, .int m_taped, .int m_size, .ref msort, .ref mplace, .ref mvalue, .int m_at, .int m_fault, .ref mwords, .ref mtold, .ref mop, .ref marg, .int m_codes, .ref mnames, .ref mhasHabit, .int m_isNew, .ref mfactWords, .ref mfacts, .ref mpile, .ref mstates, .ref misMarked, .int m_inShelf, .int m_inStack, .int m_inPlace, .ref mrow, .int m_rowMany, .ref mthr, .ref mmays, .ref mtall, .ref mweights, .ref mrowOfWare, .ref mneededOf, .int m_goShelf, .int m_goStack, .int m_goLeft, .ref mtried, .ref mbestRow, .int m_bestCost, .int m_bestMany, .int m_bestShelf, .int m_bestSet, .ref mdigits])), (mtold, .inl (cyI, 240, .inl m_told))]) (pc2 := 47) (lv2 := [(4, .int x17_4), (3, .int x17_3), (2, .int x1_2), (1, .int x17_1), (0, .ref m0)]) (st2 := [.int (u_32.2.1 0), .int 2, .int x17_1]) rfl rfl rfl rfl ?_
                obtain ⟨hw_33_0, hw_33_1⟩ := hw_33
                obtain ⟨v_34, ev_34⟩ : ∃ z : Int32, 2 * (u_32.2.1 0) = z := ⟨_, rfl⟩
                have el_2 : (2 : Int32).toInt = 2 := rfl
                have hv_34 : v_34.toInt = 2 * ((u_32.2.1 0)).toInt := by rw [← ev_34]; exact mulL (c := 2) rfl (by omega) (by omega)
                refine j_imul (pc := 47) (v := v_34) C dX11_takesOrder_47 ev_34 ?_
                refine j_goto (pc := 48) (tgt := 52) C dX11_takesOrder_48 (by decide) ?_
                obtain ⟨v_35, ev_35⟩ : ∃ z : Int32, x17_1 + v_34 = z := ⟨_, rfl⟩
                refine j_iadd (pc := 52) (v := v_35) C dX11_takesOrder_52 ev_35 ?_
                refine j_istore_n (pc := 53) (lv' := [(1, .int v_35), (4, .int x17_4), (3, .int x17_3), (2, .int x1_2), (0, .ref m0)]) C dX11_takesOrder_53 rfl (by decide) rfl ?_
                refine j_aload_n (pc := 54) C dX11_takesOrder_54 rfl 4 rfl ?_
                refine j_get (pc := 55) (ci := 11) (v := .ref mtried) C inw_11 3 rfl rfl 36 (by decide) wd_880 rfl rfl dX11_takesOrder_55 ?_
                refine j_iload (pc := 58) C dX11_takesOrder_58 1 rfl ?_
                refine j_iald (pc := 60) (v := v_31) (k := (x17_4).toInt.toNat) C 0 1 rfl rfl (i_nn hi_17_0.1) rfl (i_lt_n hi_17_0.1 (by omega)) ev_31 dX11_takesOrder_60 ?_
                refine j_aload_n (pc := 61) C dX11_takesOrder_61 rfl 4 rfl ?_
                refine j_get (pc := 62) (ci := 11) (v := .ref mstates) C inw_11 3 rfl rfl 20 (by decide) wd_764 rfl rfl dX11_takesOrder_62 ?_
                refine j_sipush (pc := 65) (v := 422) C dX11_takesOrder_65 (by decide) ?_
                refine j_iload_n (pc := 68) C dX11_takesOrder_68 rfl 3 rfl ?_
                obtain ⟨v_36, ev_36⟩ : ∃ z : Int32, 422 + x1_2 = z := ⟨_, rfl⟩
                have el_422 : (422 : Int32).toInt = 422 := rfl
                have hv_36 : v_36.toInt = (422 : Int32).toInt + x1_2.toInt := by rw [← ev_36]; exact fb_addI (by omega) (by omega)
                refine j_iadd (pc := 69) (v := v_36) C dX11_takesOrder_69 ev_36 ?_
                obtain ⟨v_37, ev_37⟩ : ∃ z, m_states (v_36).toInt.toNat = z := ⟨_, rfl⟩
                have env_37 : (m_states (v_36).toInt.toNat).toInt = v_37.toInt := by rw [ev_37]
                have hv_37 : 0 ≤ v_37.toInt ∧ v_37.toInt ≤ 11 := by rw [← ev_37]; exact SV.ask (b := 0) h_m_states (by decide) (by omega) (by omega)
                refine j_iald (pc := 70) (v := v_37) (k := (v_36).toInt.toNat) C 2 1 rfl rfl (i_nn (by omega)) rfl (i_lt_n (by omega) (by omega)) ev_37 dX11_takesOrder_70 ?_
                refine j_icmp_ne (pc := 71) (tgt := 94) C dX11_takesOrder_71 (by decide) (fun c_38 => ?_) (fun c_38 => ?_)
                · skip
                  rw [i_eq] at c_38
                  obtain ⟨v_39, ev_39⟩ : ∃ z : Int32, x17_4 + 1 = z := ⟨_, rfl⟩
                  have el_1 : (1 : Int32).toInt = 1 := rfl
                  have hv_39 : v_39.toInt = x17_4.toInt + (1 : Int32).toInt := by rw [← ev_39]; exact fb_addI (by omega) (by omega)
                  refine j_iinc (pc := 94) (v := v_39) (lv' := [(4, .int v_39), (1, .int v_35), (3, .int x17_3), (2, .int x1_2), (0, .ref m0)]) C dX11_takesOrder_94 1 rfl ev_39 (by decide) rfl ?_
                  refine j_goto (pc := 97) (tgt := 17) C dX11_takesOrder_97 (by decide) ?_
                  refine j_subG (ws' := [(mtold, .inl (cyI, 240, .inl m_told)), (mtried, .inl (cyI, 7, .inl m_tried)), (mbestRow, .inl (cyI, 7, .inl m_bestRow)), (m0, .inr (11, [.int m_thrown, .ref mtape, .int m_taped, .int m_size, .ref msort, .ref mplace, .ref mvalue, .int m_at, .int m_fault, .ref mwords, .ref mtold, .ref mop, .ref marg, .int m_codes, .ref mnames, .ref mhasHabit, .int m_isNew, .ref mfactWords, .ref mfacts, .ref mpile, .ref mstates, .ref misMarked, .int m_inShelf, .int m_inStack, .int m_inPlace, .ref mrow, .int m_rowMany, .ref mthr, .ref mmays, .ref mtall, .ref mweights, .ref mrowOfWare, .ref mneededOf, .int m_goShelf, .int m_goStack, .int m_goLeft, .ref mtried, .ref mbestRow, .int m_bestCost, .int m_bestMany, .int m_bestShelf, .int m_bestSet, .ref mdigits])), (mstates, .inl (cyI, 2760, .inl m_states))]) [4, 0, 1, 3, 2] (by decide) rfl ?_
                  exact j_lv [0, 2, 3, 1, 4] rfl (ih_17 v_39 x17_3 v_35 (by omega) hi_17_1 (by omega))
                · skip
                  rw [i_eq] at c_38
                  refine j_iconst (pc := 74) (v := 1) C dX11_takesOrder_74 (by decide) ?_
                  refine j_istore_n (pc := 75) (lv' := [(3, .int 1), (1, .int v_35), (4, .int x17_4), (2, .int x1_2), (0, .ref m0)]) C dX11_takesOrder_75 rfl (by decide) rfl ?_
                  refine j_iload_n (pc := 76) C dX11_takesOrder_76 rfl 1 rfl ?_
                  refine j_aload_n (pc := 77) C dX11_takesOrder_77 rfl 4 rfl ?_
                  refine j_aload_n (pc := 78) C dX11_takesOrder_78 rfl 4 rfl ?_
                  refine j_get (pc := 79) (ci := 11) (v := .ref mtried) C inw_11 3 rfl rfl 36 (by decide) wd_880 rfl rfl dX11_takesOrder_79 ?_
                  refine j_iload (pc := 82) C dX11_takesOrder_82 2 rfl ?_
                  refine j_iald (pc := 84) (v := v_31) (k := (x17_4).toInt.toNat) C 0 1 rfl rfl (i_nn hi_17_0.1) rfl (i_lt_n hi_17_0.1 (by omega)) ev_31 dX11_takesOrder_84 ?_
                  refine j_aload_n (pc := 85) C dX11_takesOrder_85 rfl 4 rfl ?_
                  refine j_get (pc := 86) (ci := 11) (v := .int m_bestShelf) C inw_11 3 rfl rfl 40 (by decide) wd_881 rfl rfl dX11_takesOrder_86 ?_
                  refine j_callV (pc := 89) (As := [.int v_31, .int m_bestShelf]) (rest := [.int v_35]) (wr := [(mtried, .inl (cyI, 7, .inl m_tried)), (mbestRow, .inl (cyI, 7, .inl m_bestRow)), (mstates, .inl (cyI, 2760, .inl m_states))]) C (c_X11_costOf l D cyC cyI cyJ cyZ cyO m0 mtold mtape msort mplace mvalue mwords mop marg mnames mhasHabit mfactWords mfacts mpile mstates misMarked mrow mthr mmays mtall mweights mrowOfWare mneededOf mtried mbestRow mdigits v_31 m_bestShelf m_thrown m_taped m_size m_at m_fault m_codes m_isNew m_inShelf m_inStack m_inPlace m_rowMany m_goShelf m_goStack m_goLeft m_bestCost m_bestMany m_bestShelf m_bestSet m_told h_m_taped h_m_size h_m_at h_m_fault h_m_codes h_m_isNew h_m_inShelf h_m_inStack h_m_inPlace h_m_rowMany h_m_goShelf h_m_bestMany h_m_bestShelf hv_31 h_m_bestShelf h_m_told) wd_785 wd_624 wd_786 wd_787 wd_788 ⟨by decide, by decide, rfl⟩ rfl ⟨rfl, rfl, by decide, by decide⟩ ⟨by decide, by decide⟩ [3, 4] [0, 1, 2] rfl rfl ⟨by decide, by decide, by decide⟩ 3 rfl rfl rfl (Nat.le_of_ble_eq_true rfl) dX11_takesOrder_89 (fun u_40 hw_41 => ?_)
                  refine j_eq (ws2 := [(mtried, .inl (cyI, 7, .inl m_tried)), (mbestRow, .inl (cyI, 7, .inl m_bestRow)), (mstates, .inl (cyI, 2760, .inl m_states)), (m0, .inr (11, [.int m_thrown, .ref mtape, .int m_taped, .int m_size, .ref msort, .ref mplace, .ref mvalue, .int m_at, .int m_fault, .ref mwords, .ref mtold, .ref mop, .ref marg, .int m_codes, .ref mnames, .ref mhasHabit, .int m_isNew, .ref mfactWords, .ref mfacts, .ref mpile, .ref mstates, .ref misMarked, .int m_inShelf, .int m_inStack, .int m_inPlace, .ref mrow, .int m_rowMany, .ref mthr, .ref mmays, .ref mtall, .ref mweights, .ref mrowOfWare, .ref mneededOf, .int m_goShelf, .int m_goStack, .int m_goLeft, .ref mtried, .ref mbestRow, .int m_bestCost, .int m_bestMany, .int m_bestShelf, .int m_bestSet, .ref mdigits])), (mtold, .inl (cyI, 240, .inl m_told))]) (pc2 := 92) (lv2 := [(3, .int 1), (1, .int v_35), (4, .int x17_4), (2, .int x1_2), (0, .ref m0)]) (st2 := [.int (u_40.2.1 0), .int v_35]) rfl rfl rfl rfl ?_
                  obtain ⟨hw_41_0, hw_41_1⟩ := hw_41
                  obtain ⟨v_42, ev_42⟩ : ∃ z : Int32, v_35 + (u_40.2.1 0) = z := ⟨_, rfl⟩
                  refine j_iadd (pc := 92) (v := v_42) C dX11_takesOrder_92 ev_42 ?_
                  refine j_istore_n (pc := 93) (lv' := [(1, .int v_42), (3, .int 1), (4, .int x17_4), (2, .int x1_2), (0, .ref m0)]) C dX11_takesOrder_93 rfl (by decide) rfl ?_
                  obtain ⟨v_43, ev_43⟩ : ∃ z : Int32, x17_4 + 1 = z := ⟨_, rfl⟩
                  have el_1 : (1 : Int32).toInt = 1 := rfl
                  have hv_43 : v_43.toInt = x17_4.toInt + (1 : Int32).toInt := by rw [← ev_43]; exact fb_addI (by omega) (by omega)
                  refine j_iinc (pc := 94) (v := v_43) (lv' := [(4, .int v_43), (1, .int v_42), (3, .int 1), (2, .int x1_2), (0, .ref m0)]) C dX11_takesOrder_94 2 rfl ev_43 (by decide) rfl ?_
                  refine j_goto (pc := 97) (tgt := 17) C dX11_takesOrder_97 (by decide) ?_
                  have el_1 : (1 : Int32).toInt = 1 := rfl
                  refine j_subG (ws' := [(mtold, .inl (cyI, 240, .inl m_told)), (mtried, .inl (cyI, 7, .inl m_tried)), (mbestRow, .inl (cyI, 7, .inl m_bestRow)), (m0, .inr (11, [.int m_thrown, .ref mtape, .int m_taped, .int m_size, .ref msort, .ref mplace, .ref mvalue, .int m_at, .int m_fault, .ref mwords, .ref mtold, .ref mop, .ref marg, .int m_codes, .ref mnames, .ref mhasHabit, .int m_isNew, .ref mfactWords, .ref mfacts, .ref mpile, .ref mstates, .ref misMarked, .int m_inShelf, .int m_inStack, .int m_inPlace, .ref mrow, .int m_rowMany, .ref mthr, .ref mmays, .ref mtall, .ref mweights, .ref mrowOfWare, .ref mneededOf, .int m_goShelf, .int m_goStack, .int m_goLeft, .ref mtried, .ref mbestRow, .int m_bestCost, .int m_bestMany, .int m_bestShelf, .int m_bestSet, .ref mdigits])), (mstates, .inl (cyI, 2760, .inl m_states))]) [4, 0, 1, 3, 2] (by decide) rfl ?_
                  exact j_lv [0, 2, 3, 1, 4] rfl (ih_17 v_43 1 v_42 (by omega) (by decide) (by omega))
        have el_0 : (0 : Int32).toInt = 0 := rfl
        have el_0 : (0 : Int32).toInt = 0 := rfl
        exact j_lv [0, 1, 2, 3, 4] rfl (loop_17 4096 0 0 x1_1 (by decide) (by decide) (by omega))
  have el_0 : (0 : Int32).toInt = 0 := rfl
  have el_0 : (0 : Int32).toInt = 0 := rfl
  exact j_lv [0, 1, 2] rfl (loop_1 4096 0 0 (by decide) (by omega))
set_option maxHeartbeats 4000000 in
set_option maxRecDepth 100000 in
theorem c_X11_triesOrders_z (l : Launch) (D : DG) (cyC cyI cyJ cyZ cyO : ClassId) (m0 : Nat) (mtold : Nat) (mop : Nat) (marg : Nat) (mfacts : Nat) (mpile : Nat) (mstates : Nat) (mrow : Nat) (mtried : Nat) (mbestRow : Nat) (mtape : Nat) (msort : Nat) (mplace : Nat) (mvalue : Nat) (mwords : Nat) (mnames : Nat) (mhasHabit : Nat) (mfactWords : Nat) (misMarked : Nat) (mthr : Nat) (mmays : Nat) (mtall : Nat) (mweights : Nat) (mrowOfWare : Nat) (mneededOf : Nat) (mdigits : Nat) (p0 : Int32) (p1 : Int32) (m_thrown : Int32) (m_taped : Int32) (m_size : Int32) (m_at : Int32) (m_fault : Int32) (m_codes : Int32) (m_isNew : Int32) (m_inShelf : Int32) (m_inStack : Int32) (m_inPlace : Int32) (m_rowMany : Int32) (m_goShelf : Int32) (m_goStack : Int32) (m_goLeft : Int32) (m_bestCost : Int32) (m_bestMany : Int32) (m_bestShelf : Int32) (m_bestSet : Int32) (m_told : Nat → Int32) (m_op : Nat → Int32) (m_arg : Nat → Int32) (m_facts : Nat → Int32) (m_pile : Nat → Int32) (m_states : Nat → Int32) (m_row : Nat → Int32) (m_tried : Nat → Int32) (m_bestRow : Nat → Int32) (h_m_taped : 0 ≤ (m_taped).toInt ∧ (m_taped).toInt ≤ 1000) (h_m_size : 0 ≤ (m_size).toInt ∧ (m_size).toInt ≤ 1000) (h_m_at : 0 ≤ (m_at).toInt ∧ (m_at).toInt ≤ 1000) (h_m_fault : 0 ≤ (m_fault).toInt ∧ (m_fault).toInt ≤ 16005) (h_m_codes : 0 ≤ (m_codes).toInt ∧ (m_codes).toInt ≤ 1000) (h_m_isNew : 0 ≤ (m_isNew).toInt ∧ (m_isNew).toInt ≤ 1) (h_m_inShelf : 0 ≤ (m_inShelf).toInt ∧ (m_inShelf).toInt ≤ 3) (h_m_inStack : 0 ≤ (m_inStack).toInt ∧ (m_inStack).toInt ≤ 7) (h_m_inPlace : 0 ≤ (m_inPlace).toInt ∧ (m_inPlace).toInt ≤ 11) (h_m_rowMany : 0 ≤ (m_rowMany).toInt ∧ (m_rowMany).toInt ≤ 12) (h_m_goShelf : -1 ≤ (m_goShelf).toInt ∧ (m_goShelf).toInt ≤ 3) (h_m_bestMany : 0 ≤ (m_bestMany).toInt ∧ (m_bestMany).toInt ≤ 7) (h_m_bestShelf : 0 ≤ (m_bestShelf).toInt ∧ (m_bestShelf).toInt ≤ 3) (h_m_row : Iv 12 (0) (11) m_row) (h_m_told : TV m_told) (h_m_tried : Iv 7 (0) (11) m_tried) (h_m_states : SV m_states) (hwf : WFm m_told m_op m_arg) (hbm9 : (p0).toInt ≤ (m_bestMany).toInt) (hdp9 : (p0).toInt = 7 - ((0 : Nat) : Int)) : KK l D (TY cyC cyI cyJ cyZ cyO) yX11_triesOrders cX11_triesOrders 4 none ({ frames := 5, cells := 0, slots := 0, locals := 113 } : Room) 0 0 [.ref m0, .int p0, .int p1] [(m0, .inr (11, [.int m_thrown, .ref mtape, .int m_taped, .int m_size, .ref msort, .ref mplace, .ref mvalue, .int m_at, .int m_fault, .ref mwords, .ref mtold, .ref mop, .ref marg, .int m_codes, .ref mnames, .ref mhasHabit, .int m_isNew, .ref mfactWords, .ref mfacts, .ref mpile, .ref mstates, .ref misMarked, .int m_inShelf, .int m_inStack, .int m_inPlace, .ref mrow, .int m_rowMany, .ref mthr, .ref mmays, .ref mtall, .ref mweights, .ref mrowOfWare, .ref mneededOf, .int m_goShelf, .int m_goStack, .int m_goLeft, .ref mtried, .ref mbestRow, .int m_bestCost, .int m_bestMany, .int m_bestShelf, .int m_bestSet, .ref mdigits])), (mtold, .inl (cyI, 240, .inl m_told)), (mop, .inl (cyI, 2200, .inl m_op)), (marg, .inl (cyI, 2200, .inl m_arg)), (mfacts, .inl (cyI, 8, .inl m_facts)), (mpile, .inl (cyI, 1100, .inl m_pile)), (mstates, .inl (cyI, 2760, .inl m_states)), (mrow, .inl (cyI, 12, .inl m_row)), (mtried, .inl (cyI, 7, .inl m_tried)), (mbestRow, .inl (cyI, 7, .inl m_bestRow))] (fun u => none) (fun u => (0 ≤ (u.2.1 0).toInt ∧ (u.2.1 0).toInt ≤ 12) ∧ (Iv 12 (0) (11) (u.2.2.1 2)) ∧ (Iv 7 (0) (11) (u.2.2.1 3))) (fun u => [(m0, .inr (11, [.int m_thrown, .ref mtape, .int m_taped, .int m_size, .ref msort, .ref mplace, .ref mvalue, .int m_at, .int m_fault, .ref mwords, .ref mtold, .ref mop, .ref marg, .int m_codes, .ref mnames, .ref mhasHabit, .int m_isNew, .ref mfactWords, .ref mfacts, .ref mpile, .ref mstates, .ref misMarked, .int m_inShelf, .int m_inStack, .int m_inPlace, .ref mrow, .int (u.2.1 0), .ref mthr, .ref mmays, .ref mtall, .ref mweights, .ref mrowOfWare, .ref mneededOf, .int m_goShelf, .int m_goStack, .int m_goLeft, .ref mtried, .ref mbestRow, .int (u.2.1 1), .int m_bestMany, .int m_bestShelf, .int m_bestSet, .ref mdigits])), (mtold, .inl (cyI, 240, .inl m_told)), (mop, .inl (cyI, 2200, .inl m_op)), (marg, .inl (cyI, 2200, .inl m_arg)), (mfacts, .inl (cyI, 8, .inl (u.2.2.1 0))), (mpile, .inl (cyI, 1100, .inl (u.2.2.1 1))), (mstates, .inl (cyI, 2760, .inl m_states)), (mrow, .inl (cyI, 12, .inl (u.2.2.1 2))), (mtried, .inl (cyI, 7, .inl (u.2.2.1 3))), (mbestRow, .inl (cyI, 7, .inl (u.2.2.1 4)))]) := by
  refine KK.of (lv0 := [(0, .ref m0), (1, .int p0), (2, .int p1)]) (by decide) rfl (Nat.le_of_ble_eq_true rfl) ?_
  intro p e s m args below meth c A C hr hk hin
  refine j_iload_n (pc := 0) C dX11_triesOrders_0 rfl 1 rfl ?_
  refine j_aload_n (pc := 1) C dX11_triesOrders_1 rfl 0 rfl ?_
  refine j_get (pc := 2) (ci := 11) (v := .int m_bestMany) C inw_11 0 rfl rfl 39 (by decide) wd_878 rfl rfl dX11_triesOrders_2 ?_
  refine j_icmp_ne_f (pc := 5) (tgt := 65) C dX11_triesOrders_5 (by decide) (by rw [i_eq]; omega) ?_
  refine j_aload_n (pc := 8) C dX11_triesOrders_8 rfl 0 rfl ?_
  refine j_aload_n (pc := 9) C dX11_triesOrders_9 rfl 0 rfl ?_
  refine j_get (pc := 10) (ci := 11) (v := .int m_bestMany) C inw_11 0 rfl rfl 39 (by decide) wd_878 rfl rfl dX11_triesOrders_10 ?_
  refine j_put (pc := 13) (ci := 11) (v := .int m_bestMany) (ws' := [(m0, .inr (11, [.int m_thrown, .ref mtape, .int m_taped, .int m_size, .ref msort, .ref mplace, .ref mvalue, .int m_at, .int m_fault, .ref mwords, .ref mtold, .ref mop, .ref marg, .int m_codes, .ref mnames, .ref mhasHabit, .int m_isNew, .ref mfactWords, .ref mfacts, .ref mpile, .ref mstates, .ref misMarked, .int m_inShelf, .int m_inStack, .int m_inPlace, .ref mrow, .int m_bestMany, .ref mthr, .ref mmays, .ref mtall, .ref mweights, .ref mrowOfWare, .ref mneededOf, .int m_goShelf, .int m_goStack, .int m_goLeft, .ref mtried, .ref mbestRow, .int m_bestCost, .int m_bestMany, .int m_bestShelf, .int m_bestSet, .ref mdigits])), (mtold, .inl (cyI, 240, .inl m_told)), (mop, .inl (cyI, 2200, .inl m_op)), (marg, .inl (cyI, 2200, .inl m_arg)), (mfacts, .inl (cyI, 8, .inl m_facts)), (mpile, .inl (cyI, 1100, .inl m_pile)), (mstates, .inl (cyI, 2760, .inl m_states)), (mrow, .inl (cyI, 12, .inl m_row)), (mtried, .inl (cyI, 7, .inl m_tried)), (mbestRow, .inl (cyI, 7, .inl m_bestRow))]) C inw_11 0 rfl rfl 26 (by decide) wd_779 rfl tyX11_ok nmX11 rfl (tyX11_ok 26 (by decide)) rfl rfl (Nat.le_of_ble_eq_true rfl) dX11_triesOrders_13 rfl ?_
  refine j_iconst (pc := 16) (v := 0) C dX11_triesOrders_16 (by decide) ?_
  refine j_istore_n (pc := 17) (lv' := [(3, .int 0), (0, .ref m0), (1, .int p0), (2, .int p1)]) C dX11_triesOrders_17 rfl (by decide) rfl ?_
  have loop_1 : ∀ (k_1 : Nat) (x1_3 : Int32) (g1_mrow : Nat → Int32), (0 ≤ (x1_3).toInt ∧ (x1_3).toInt ≤ 7) → (Iv 12 (0) (11) g1_mrow) → (7 - x1_3.toInt).toNat < k_1 → J p l e ({ frames := 5, cells := 0, slots := 0, locals := 113 } : Room) s m args below meth c D A 4 0 0 (QX below D (TY cyC cyI cyJ cyZ cyO) A (fun u => none) (fun u => (0 ≤ (u.2.1 0).toInt ∧ (u.2.1 0).toInt ≤ 12) ∧ (Iv 12 (0) (11) (u.2.2.1 2)) ∧ (Iv 7 (0) (11) (u.2.2.1 3))) (fun u => [(m0, .inr (11, [.int m_thrown, .ref mtape, .int m_taped, .int m_size, .ref msort, .ref mplace, .ref mvalue, .int m_at, .int m_fault, .ref mwords, .ref mtold, .ref mop, .ref marg, .int m_codes, .ref mnames, .ref mhasHabit, .int m_isNew, .ref mfactWords, .ref mfacts, .ref mpile, .ref mstates, .ref misMarked, .int m_inShelf, .int m_inStack, .int m_inPlace, .ref mrow, .int (u.2.1 0), .ref mthr, .ref mmays, .ref mtall, .ref mweights, .ref mrowOfWare, .ref mneededOf, .int m_goShelf, .int m_goStack, .int m_goLeft, .ref mtried, .ref mbestRow, .int (u.2.1 1), .int m_bestMany, .int m_bestShelf, .int m_bestSet, .ref mdigits])), (mtold, .inl (cyI, 240, .inl m_told)), (mop, .inl (cyI, 2200, .inl m_op)), (marg, .inl (cyI, 2200, .inl m_arg)), (mfacts, .inl (cyI, 8, .inl (u.2.2.1 0))), (mpile, .inl (cyI, 1100, .inl (u.2.2.1 1))), (mstates, .inl (cyI, 2760, .inl m_states)), (mrow, .inl (cyI, 12, .inl (u.2.2.1 2))), (mtried, .inl (cyI, 7, .inl (u.2.2.1 3))), (mbestRow, .inl (cyI, 7, .inl (u.2.2.1 4)))]) args s 0 0) [(m0, .inr (11, [.int m_thrown, .ref mtape, .int m_taped, .int m_size, .ref msort, .ref mplace, .ref mvalue, .int m_at, .int m_fault, .ref mwords, .ref mtold, .ref mop, .ref marg, .int m_codes, .ref mnames, .ref mhasHabit, .int m_isNew, .ref mfactWords, .ref mfacts, .ref mpile, .ref mstates, .ref misMarked, .int m_inShelf, .int m_inStack, .int m_inPlace, .ref mrow, .int m_bestMany, .ref mthr, .ref mmays, .ref mtall, .ref mweights, .ref mrowOfWare, .ref mneededOf, .int m_goShelf, .int m_goStack, .int m_goLeft, .ref mtried, .ref mbestRow, .int m_bestCost, .int m_bestMany, .int m_bestShelf, .int m_bestSet, .ref mdigits])), (mtold, .inl (cyI, 240, .inl m_told)), (mop, .inl (cyI, 2200, .inl m_op)), (marg, .inl (cyI, 2200, .inl m_arg)), (mfacts, .inl (cyI, 8, .inl m_facts)), (mpile, .inl (cyI, 1100, .inl m_pile)), (mstates, .inl (cyI, 2760, .inl m_states)), (mrow, .inl (cyI, 12, .inl g1_mrow)), (mtried, .inl (cyI, 7, .inl m_tried)), (mbestRow, .inl (cyI, 7, .inl m_bestRow))] 18 [(3, .int x1_3), (0, .ref m0), (1, .int p0), (2, .int p1)] [] := by
    intro k_1
    induction k_1 with
    | zero =>
      intro x1_3 g1_mrow hi_1_0 hi_1_1 hm_1
      exact absurd hm_1 (Nat.not_lt_zero _)
    | succ k_1 ih_1 =>
      intro x1_3 g1_mrow hi_1_0 hi_1_1 hm_1
      refine j_iload_n (pc := 18) C dX11_triesOrders_18 rfl 0 rfl ?_
      refine j_aload_n (pc := 19) C dX11_triesOrders_19 rfl 1 rfl ?_
      refine j_get (pc := 20) (ci := 11) (v := .int m_bestMany) C inw_11 0 rfl rfl 39 (by decide) wd_878 rfl rfl dX11_triesOrders_20 ?_
      refine j_icmp_ge (pc := 23) (tgt := 44) C dX11_triesOrders_23 (by decide) (fun c_2 => ?_) (fun c_2 => ?_)
      · skip
        rw [i_le] at c_2
        have k0c_2 : x1_3.toInt = 7 := by omega
        refine j_aload_n (pc := 44) C dX11_triesOrders_44 rfl 1 rfl ?_
        refine j_aload_n (pc := 45) C dX11_triesOrders_45 rfl 1 rfl ?_
        refine j_aload_n (pc := 46) C dX11_triesOrders_46 rfl 1 rfl ?_
        refine j_get (pc := 47) (ci := 11) (v := .int m_bestShelf) C inw_11 0 rfl rfl 40 (by decide) wd_881 rfl rfl dX11_triesOrders_47 ?_
        refine j_iconst (pc := 50) (v := 0) C dX11_triesOrders_50 (by decide) ?_
        refine j_callV (pc := 51) (As := [.int m_bestShelf, .int 0]) (rest := [.ref m0]) (wr := [(mop, .inl (cyI, 2200, .inl m_op)), (marg, .inl (cyI, 2200, .inl m_arg)), (mfacts, .inl (cyI, 8, .inl m_facts)), (mpile, .inl (cyI, 1100, .inl m_pile)), (mstates, .inl (cyI, 2760, .inl m_states)), (mrow, .inl (cyI, 12, .inl g1_mrow)), (mtried, .inl (cyI, 7, .inl m_tried)), (mbestRow, .inl (cyI, 7, .inl m_bestRow))]) C (c_X11_shelfOf l D cyC cyI cyJ cyZ cyO m0 mtold mtape msort mplace mvalue mwords mop marg mnames mhasHabit mfactWords mfacts mpile mstates misMarked mrow mthr mmays mtall mweights mrowOfWare mneededOf mtried mbestRow mdigits m_bestShelf 0 m_thrown m_taped m_size m_at m_fault m_codes m_isNew m_inShelf m_inStack m_inPlace m_bestMany m_goShelf m_goStack m_goLeft m_bestCost m_bestMany m_bestShelf m_bestSet m_told h_m_taped h_m_size h_m_at h_m_fault h_m_codes h_m_isNew h_m_inShelf h_m_inStack h_m_inPlace (by omega) h_m_goShelf h_m_bestMany h_m_bestShelf h_m_bestShelf (by decide) h_m_told) wd_760 wd_624 wd_761 wd_762 wd_763 ⟨by decide, by decide, rfl⟩ rfl ⟨rfl, rfl, by decide, by decide⟩ ⟨by decide, by decide⟩ [0, 1] [2, 3, 4, 5, 6, 7, 8, 9] rfl rfl ⟨by decide, by decide, by decide⟩ 0 rfl rfl rfl (Nat.le_of_ble_eq_true rfl) dX11_triesOrders_51 (fun u_3 hw_4 => ?_)
        refine j_eq (ws2 := [(mop, .inl (cyI, 2200, .inl m_op)), (marg, .inl (cyI, 2200, .inl m_arg)), (mfacts, .inl (cyI, 8, .inl m_facts)), (mpile, .inl (cyI, 1100, .inl m_pile)), (mstates, .inl (cyI, 2760, .inl m_states)), (mrow, .inl (cyI, 12, .inl g1_mrow)), (mtried, .inl (cyI, 7, .inl m_tried)), (mbestRow, .inl (cyI, 7, .inl m_bestRow)), (m0, .inr (11, [.int m_thrown, .ref mtape, .int m_taped, .int m_size, .ref msort, .ref mplace, .ref mvalue, .int m_at, .int m_fault, .ref mwords, .ref mtold, .ref mop, .ref marg, .int m_codes, .ref mnames, .ref mhasHabit, .int m_isNew, .ref mfactWords, .ref mfacts, .ref mpile, .ref mstates, .ref misMarked, .int m_inShelf, .int m_inStack, .int m_inPlace, .ref mrow, .int m_bestMany, .ref mthr, .ref mmays, .ref mtall, .ref mweights, .ref mrowOfWare, .ref mneededOf, .int m_goShelf, .int m_goStack, .int m_goLeft, .ref mtried, .ref mbestRow, .int m_bestCost, .int m_bestMany, .int m_bestShelf, .int m_bestSet, .ref mdigits])), (mtold, .inl (cyI, 240, .inl m_told))]) (pc2 := 54) (lv2 := [(3, .int x1_3), (0, .ref m0), (1, .int p0), (2, .int p1)]) (st2 := [.int (u_3.2.1 0), .ref m0]) rfl rfl rfl rfl ?_
        obtain ⟨hw_4_0, hw_4_1⟩ := hw_4
        refine j_callV (pc := 54) (As := [.int (u_3.2.1 0)]) (rest := []) (wr := [(mstates, .inl (cyI, 2760, .inl m_states)), (mtried, .inl (cyI, 7, .inl m_tried)), (mbestRow, .inl (cyI, 7, .inl m_bestRow))]) C (c_X11_whyNot l D cyC cyI cyJ cyZ cyO m0 mtold mop marg mfacts mpile mrow mtape msort mplace mvalue mwords mnames mhasHabit mfactWords mstates misMarked mthr mmays mtall mweights mrowOfWare mneededOf mtried mbestRow mdigits (u_3.2.1 0) m_thrown m_taped m_size m_at m_fault m_codes m_isNew m_inShelf m_inStack m_inPlace m_bestMany m_goShelf m_goStack m_goLeft m_bestCost m_bestMany m_bestShelf m_bestSet m_told m_op m_arg m_facts m_pile g1_mrow h_m_taped h_m_size h_m_at h_m_fault h_m_codes h_m_isNew h_m_inShelf h_m_inStack h_m_inPlace (by omega) h_m_goShelf h_m_bestMany h_m_bestShelf hi_1_1 h_m_told hwf) wd_837 wd_624 wd_838 wd_839 wd_840 ⟨by decide, by decide, rfl⟩ rfl ⟨rfl, rfl, by decide, by decide⟩ ⟨by decide, by decide⟩ [8, 9, 0, 1, 2, 3, 5] [4, 6, 7] rfl rfl ⟨by decide, by decide, by decide⟩ 8 rfl rfl rfl (Nat.le_of_ble_eq_true rfl) dX11_triesOrders_54 (fun u_5 hw_6 => ?_)
        refine j_eq (ws2 := [(mstates, .inl (cyI, 2760, .inl m_states)), (mtried, .inl (cyI, 7, .inl m_tried)), (mbestRow, .inl (cyI, 7, .inl m_bestRow)), (m0, .inr (11, [.int m_thrown, .ref mtape, .int m_taped, .int m_size, .ref msort, .ref mplace, .ref mvalue, .int m_at, .int m_fault, .ref mwords, .ref mtold, .ref mop, .ref marg, .int m_codes, .ref mnames, .ref mhasHabit, .int m_isNew, .ref mfactWords, .ref mfacts, .ref mpile, .ref mstates, .ref misMarked, .int m_inShelf, .int m_inStack, .int m_inPlace, .ref mrow, .int m_bestMany, .ref mthr, .ref mmays, .ref mtall, .ref mweights, .ref mrowOfWare, .ref mneededOf, .int m_goShelf, .int m_goStack, .int m_goLeft, .ref mtried, .ref mbestRow, .int m_bestCost, .int m_bestMany, .int m_bestShelf, .int m_bestSet, .ref mdigits])), (mtold, .inl (cyI, 240, .inl m_told)), (mop, .inl (cyI, 2200, .inl m_op)), (marg, .inl (cyI, 2200, .inl m_arg)), (mfacts, .inl (cyI, 8, .inl (u_5.2.2.1 0))), (mpile, .inl (cyI, 1100, .inl (u_5.2.2.1 1))), (mrow, .inl (cyI, 12, .inl g1_mrow))]) (pc2 := 57) (lv2 := [(3, .int x1_3), (0, .ref m0), (1, .int p0), (2, .int p1)]) (st2 := [.int (u_5.2.1 0)]) rfl rfl rfl rfl ?_
        obtain ⟨hw_6_0, hw_6_1⟩ := hw_6
        refine j_if_ne (pc := 57) (tgt := 64) C dX11_triesOrders_57 (by decide) (fun c_7 => ?_) (fun c_7 => ?_)
        · skip
          have el_0 : (0 : Int32).toInt = 0 := rfl
          rw [i_eq] at c_7
          exact j_vret (pc := 64) C hr hk (fun i => [].getD i 0, fun i => [m_bestMany, m_bestCost].getD i 0, fun i => [(u_5.2.2.1 0), (u_5.2.2.1 1), g1_mrow, m_tried, m_bestRow].getD i (fun _ => 0), fun i => [].getD i (fun _ => 0)) rfl (show (0 ≤ (m_bestMany).toInt ∧ (m_bestMany).toInt ≤ 12) ∧ (Iv 12 (0) (11) g1_mrow) ∧ (Iv 7 (0) (11) m_tried) from ⟨by omega, hi_1_1, h_m_tried⟩) [3, 4, 5, 6, 7, 8, 0, 9, 1, 2] (by decide) rfl (by decide) (by decide) dX11_triesOrders_64
        · skip
          have el_0 : (0 : Int32).toInt = 0 := rfl
          rw [i_eq] at c_7
          refine j_aload_n (pc := 60) C dX11_triesOrders_60 rfl 1 rfl ?_
          refine j_callV (pc := 61) (As := []) (rest := []) (wr := [(mop, .inl (cyI, 2200, .inl m_op)), (marg, .inl (cyI, 2200, .inl m_arg)), (mfacts, .inl (cyI, 8, .inl (u_5.2.2.1 0))), (mpile, .inl (cyI, 1100, .inl (u_5.2.2.1 1))), (mrow, .inl (cyI, 12, .inl g1_mrow))]) C (c_X11_takesOrder l D cyC cyI cyJ cyZ cyO m0 mtold mstates mtried mbestRow mtape msort mplace mvalue mwords mop marg mnames mhasHabit mfactWords mfacts mpile misMarked mrow mthr mmays mtall mweights mrowOfWare mneededOf mdigits m_thrown m_taped m_size m_at m_fault m_codes m_isNew m_inShelf m_inStack m_inPlace m_bestMany m_goShelf m_goStack m_goLeft m_bestCost m_bestMany m_bestShelf m_bestSet m_told m_states m_tried m_bestRow h_m_taped h_m_size h_m_at h_m_fault h_m_codes h_m_isNew h_m_inShelf h_m_inStack h_m_inPlace (by omega) h_m_goShelf h_m_bestMany h_m_bestShelf h_m_told h_m_tried h_m_states) wd_882 wd_624 wd_883 wd_884 wd_885 ⟨by decide, by decide, rfl⟩ rfl ⟨rfl, rfl, by decide, by decide⟩ ⟨by decide, by decide⟩ [3, 4, 0, 1, 2] [5, 6, 7, 8, 9] rfl rfl ⟨by decide, by decide, by decide⟩ 3 rfl rfl rfl (Nat.le_of_ble_eq_true rfl) dX11_triesOrders_61 (fun u_8 hw_9 => ?_)
          refine j_eq (ws2 := [(mop, .inl (cyI, 2200, .inl m_op)), (marg, .inl (cyI, 2200, .inl m_arg)), (mfacts, .inl (cyI, 8, .inl (u_5.2.2.1 0))), (mpile, .inl (cyI, 1100, .inl (u_5.2.2.1 1))), (mrow, .inl (cyI, 12, .inl g1_mrow)), (m0, .inr (11, [.int m_thrown, .ref mtape, .int m_taped, .int m_size, .ref msort, .ref mplace, .ref mvalue, .int m_at, .int m_fault, .ref mwords, .ref mtold, .ref mop, .ref marg, .int m_codes, .ref mnames, .ref mhasHabit, .int m_isNew, .ref mfactWords, .ref mfacts, .ref mpile, .ref mstates, .ref misMarked, .int m_inShelf, .int m_inStack, .int m_inPlace, .ref mrow, .int m_bestMany, .ref mthr, .ref mmays, .ref mtall, .ref mweights, .ref mrowOfWare, .ref mneededOf, .int m_goShelf, .int m_goStack, .int m_goLeft, .ref mtried, .ref mbestRow, .int (u_8.2.1 0), .int m_bestMany, .int m_bestShelf, .int m_bestSet, .ref mdigits])), (mtold, .inl (cyI, 240, .inl m_told)), (mstates, .inl (cyI, 2760, .inl m_states)), (mtried, .inl (cyI, 7, .inl m_tried)), (mbestRow, .inl (cyI, 7, .inl (u_8.2.2.1 0)))]) (pc2 := 64) (lv2 := [(3, .int x1_3), (0, .ref m0), (1, .int p0), (2, .int p1)]) (st2 := []) rfl rfl rfl rfl ?_
          exact j_vret (pc := 64) C hr hk (fun i => [].getD i 0, fun i => [m_bestMany, (u_8.2.1 0)].getD i 0, fun i => [(u_5.2.2.1 0), (u_5.2.2.1 1), g1_mrow, m_tried, (u_8.2.2.1 0)].getD i (fun _ => 0), fun i => [].getD i (fun _ => 0)) rfl (show (0 ≤ (m_bestMany).toInt ∧ (m_bestMany).toInt ≤ 12) ∧ (Iv 12 (0) (11) g1_mrow) ∧ (Iv 7 (0) (11) m_tried) from ⟨by omega, hi_1_1, h_m_tried⟩) [5, 6, 0, 1, 2, 3, 7, 4, 8, 9] (by decide) rfl (by decide) (by decide) dX11_triesOrders_64
      · skip
        rw [i_le] at c_2
        refine j_aload_n (pc := 26) C dX11_triesOrders_26 rfl 1 rfl ?_
        refine j_get (pc := 27) (ci := 11) (v := .ref mrow) C inw_11 0 rfl rfl 25 (by decide) wd_780 rfl rfl dX11_triesOrders_27 ?_
        refine j_iload_n (pc := 30) C dX11_triesOrders_30 rfl 0 rfl ?_
        refine j_aload_n (pc := 31) C dX11_triesOrders_31 rfl 1 rfl ?_
        refine j_get (pc := 32) (ci := 11) (v := .ref mtried) C inw_11 0 rfl rfl 36 (by decide) wd_880 rfl rfl dX11_triesOrders_32 ?_
        refine j_iload_n (pc := 35) C dX11_triesOrders_35 rfl 0 rfl ?_
        obtain ⟨v_10, ev_10⟩ : ∃ z, m_tried (x1_3).toInt.toNat = z := ⟨_, rfl⟩
        have env_10 : (m_tried (x1_3).toInt.toNat).toInt = v_10.toInt := by rw [ev_10]
        have hv_10 := h_m_tried (x1_3).toInt.toNat (i_lt_n hi_1_0.1 (by omega)); rw [ev_10] at hv_10
        refine j_iald (pc := 36) (v := v_10) (k := (x1_3).toInt.toNat) C 8 1 rfl rfl (i_nn hi_1_0.1) rfl (i_lt_n hi_1_0.1 (by omega)) ev_10 dX11_triesOrders_36 ?_
        obtain ⟨f_11, ef_11⟩ : ∃ z, z = upd g1_mrow (x1_3).toInt.toNat v_10 := ⟨_, rfl⟩
        have hf_11 : Iv 12 (0) (11) f_11 := by rw [ef_11]; exact Iv.upd hi_1_1 (by omega) (by omega)
        refine j_iast (pc := 37) (k := (x1_3).toInt.toNat) (ws' := [(m0, .inr (11, [.int m_thrown, .ref mtape, .int m_taped, .int m_size, .ref msort, .ref mplace, .ref mvalue, .int m_at, .int m_fault, .ref mwords, .ref mtold, .ref mop, .ref marg, .int m_codes, .ref mnames, .ref mhasHabit, .int m_isNew, .ref mfactWords, .ref mfacts, .ref mpile, .ref mstates, .ref misMarked, .int m_inShelf, .int m_inStack, .int m_inPlace, .ref mrow, .int m_bestMany, .ref mthr, .ref mmays, .ref mtall, .ref mweights, .ref mrowOfWare, .ref mneededOf, .int m_goShelf, .int m_goStack, .int m_goLeft, .ref mtried, .ref mbestRow, .int m_bestCost, .int m_bestMany, .int m_bestShelf, .int m_bestSet, .ref mdigits])), (mtold, .inl (cyI, 240, .inl m_told)), (mop, .inl (cyI, 2200, .inl m_op)), (marg, .inl (cyI, 2200, .inl m_arg)), (mfacts, .inl (cyI, 8, .inl m_facts)), (mpile, .inl (cyI, 1100, .inl m_pile)), (mstates, .inl (cyI, 2760, .inl m_states)), (mrow, .inl (cyI, 12, .inl f_11)), (mtried, .inl (cyI, 7, .inl m_tried)), (mbestRow, .inl (cyI, 7, .inl m_bestRow))]) C 7 1 rfl rfl (i_nn hi_1_0.1) rfl (i_lt_n hi_1_0.1 (Int.lt_of_le_of_lt hi_1_0.2 (by decide))) dX11_triesOrders_37 (by rw [ef_11]; rfl) ?_
        obtain ⟨v_12, ev_12⟩ : ∃ z : Int32, x1_3 + 1 = z := ⟨_, rfl⟩
        have el_1 : (1 : Int32).toInt = 1 := rfl
        have hv_12 : v_12.toInt = x1_3.toInt + (1 : Int32).toInt := by rw [← ev_12]; exact fb_addI (by omega) (by omega)
        refine j_iinc (pc := 38) (v := v_12) (lv' := [(3, .int v_12), (0, .ref m0), (1, .int p0), (2, .int p1)]) C dX11_triesOrders_38 0 rfl ev_12 (by decide) rfl ?_
        refine j_goto (pc := 41) (tgt := 18) C dX11_triesOrders_41 (by decide) ?_
        exact j_lv [0, 1, 2, 3] rfl (ih_1 v_12 f_11 (by omega) hf_11 (by omega))
  have el_0 : (0 : Int32).toInt = 0 := rfl
  exact j_lv [0, 1, 2, 3] rfl (loop_1 4096 0 m_row (by decide) h_m_row (by omega))
set_option maxHeartbeats 4000000 in
set_option maxRecDepth 100000 in
def S_c_X11_triesOrders (n9 : Nat) : Prop := ∀ (l : Launch) (D : DG) (cyC cyI cyJ cyZ cyO : ClassId) (m0 : Nat) (mtold : Nat) (mop : Nat) (marg : Nat) (mfacts : Nat) (mpile : Nat) (mstates : Nat) (mrow : Nat) (mtried : Nat) (mbestRow : Nat) (mtape : Nat) (msort : Nat) (mplace : Nat) (mvalue : Nat) (mwords : Nat) (mnames : Nat) (mhasHabit : Nat) (mfactWords : Nat) (misMarked : Nat) (mthr : Nat) (mmays : Nat) (mtall : Nat) (mweights : Nat) (mrowOfWare : Nat) (mneededOf : Nat) (mdigits : Nat) (p0 : Int32) (p1 : Int32) (m_thrown : Int32) (m_taped : Int32) (m_size : Int32) (m_at : Int32) (m_fault : Int32) (m_codes : Int32) (m_isNew : Int32) (m_inShelf : Int32) (m_inStack : Int32) (m_inPlace : Int32) (m_rowMany : Int32) (m_goShelf : Int32) (m_goStack : Int32) (m_goLeft : Int32) (m_bestCost : Int32) (m_bestMany : Int32) (m_bestShelf : Int32) (m_bestSet : Int32) (m_told : Nat → Int32) (m_op : Nat → Int32) (m_arg : Nat → Int32) (m_facts : Nat → Int32) (m_pile : Nat → Int32) (m_states : Nat → Int32) (m_row : Nat → Int32) (m_tried : Nat → Int32) (m_bestRow : Nat → Int32) (h_m_taped : 0 ≤ (m_taped).toInt ∧ (m_taped).toInt ≤ 1000) (h_m_size : 0 ≤ (m_size).toInt ∧ (m_size).toInt ≤ 1000) (h_m_at : 0 ≤ (m_at).toInt ∧ (m_at).toInt ≤ 1000) (h_m_fault : 0 ≤ (m_fault).toInt ∧ (m_fault).toInt ≤ 16005) (h_m_codes : 0 ≤ (m_codes).toInt ∧ (m_codes).toInt ≤ 1000) (h_m_isNew : 0 ≤ (m_isNew).toInt ∧ (m_isNew).toInt ≤ 1) (h_m_inShelf : 0 ≤ (m_inShelf).toInt ∧ (m_inShelf).toInt ≤ 3) (h_m_inStack : 0 ≤ (m_inStack).toInt ∧ (m_inStack).toInt ≤ 7) (h_m_inPlace : 0 ≤ (m_inPlace).toInt ∧ (m_inPlace).toInt ≤ 11) (h_m_rowMany : 0 ≤ (m_rowMany).toInt ∧ (m_rowMany).toInt ≤ 12) (h_m_goShelf : -1 ≤ (m_goShelf).toInt ∧ (m_goShelf).toInt ≤ 3) (h_m_bestMany : 0 ≤ (m_bestMany).toInt ∧ (m_bestMany).toInt ≤ 7) (h_m_bestShelf : 0 ≤ (m_bestShelf).toInt ∧ (m_bestShelf).toInt ≤ 3) (h_m_row : Iv 12 (0) (11) m_row) (h_m_told : TV m_told) (h_m_tried : Iv 7 (0) (11) m_tried) (h_m_states : SV m_states) (hwf : WFm m_told m_op m_arg) (hbm9 : (p0).toInt ≤ (m_bestMany).toInt) (hdp9 : (p0).toInt = 7 - ((n9 : Nat) : Int)), KK l D (TY cyC cyI cyJ cyZ cyO) yX11_triesOrders cX11_triesOrders 4 none ({ frames := 5 + 1 * n9, cells := 0, slots := 0, locals := 113 + 23 * n9 } : Room) 0 0 [.ref m0, .int p0, .int p1] [(m0, .inr (11, [.int m_thrown, .ref mtape, .int m_taped, .int m_size, .ref msort, .ref mplace, .ref mvalue, .int m_at, .int m_fault, .ref mwords, .ref mtold, .ref mop, .ref marg, .int m_codes, .ref mnames, .ref mhasHabit, .int m_isNew, .ref mfactWords, .ref mfacts, .ref mpile, .ref mstates, .ref misMarked, .int m_inShelf, .int m_inStack, .int m_inPlace, .ref mrow, .int m_rowMany, .ref mthr, .ref mmays, .ref mtall, .ref mweights, .ref mrowOfWare, .ref mneededOf, .int m_goShelf, .int m_goStack, .int m_goLeft, .ref mtried, .ref mbestRow, .int m_bestCost, .int m_bestMany, .int m_bestShelf, .int m_bestSet, .ref mdigits])), (mtold, .inl (cyI, 240, .inl m_told)), (mop, .inl (cyI, 2200, .inl m_op)), (marg, .inl (cyI, 2200, .inl m_arg)), (mfacts, .inl (cyI, 8, .inl m_facts)), (mpile, .inl (cyI, 1100, .inl m_pile)), (mstates, .inl (cyI, 2760, .inl m_states)), (mrow, .inl (cyI, 12, .inl m_row)), (mtried, .inl (cyI, 7, .inl m_tried)), (mbestRow, .inl (cyI, 7, .inl m_bestRow))] (fun u => none) (fun u => (0 ≤ (u.2.1 0).toInt ∧ (u.2.1 0).toInt ≤ 12) ∧ (Iv 12 (0) (11) (u.2.2.1 2)) ∧ (Iv 7 (0) (11) (u.2.2.1 3))) (fun u => [(m0, .inr (11, [.int m_thrown, .ref mtape, .int m_taped, .int m_size, .ref msort, .ref mplace, .ref mvalue, .int m_at, .int m_fault, .ref mwords, .ref mtold, .ref mop, .ref marg, .int m_codes, .ref mnames, .ref mhasHabit, .int m_isNew, .ref mfactWords, .ref mfacts, .ref mpile, .ref mstates, .ref misMarked, .int m_inShelf, .int m_inStack, .int m_inPlace, .ref mrow, .int (u.2.1 0), .ref mthr, .ref mmays, .ref mtall, .ref mweights, .ref mrowOfWare, .ref mneededOf, .int m_goShelf, .int m_goStack, .int m_goLeft, .ref mtried, .ref mbestRow, .int (u.2.1 1), .int m_bestMany, .int m_bestShelf, .int m_bestSet, .ref mdigits])), (mtold, .inl (cyI, 240, .inl m_told)), (mop, .inl (cyI, 2200, .inl m_op)), (marg, .inl (cyI, 2200, .inl m_arg)), (mfacts, .inl (cyI, 8, .inl (u.2.2.1 0))), (mpile, .inl (cyI, 1100, .inl (u.2.2.1 1))), (mstates, .inl (cyI, 2760, .inl m_states)), (mrow, .inl (cyI, 12, .inl (u.2.2.1 2))), (mtried, .inl (cyI, 7, .inl (u.2.2.1 3))), (mbestRow, .inl (cyI, 7, .inl (u.2.2.1 4)))])
set_option maxHeartbeats 4000000 in
set_option maxRecDepth 100000 in
theorem c_X11_triesOrders_s (l : Launch) (D : DG) (cyC cyI cyJ cyZ cyO : ClassId) (m0 : Nat) (mtold : Nat) (mop : Nat) (marg : Nat) (mfacts : Nat) (mpile : Nat) (mstates : Nat) (mrow : Nat) (mtried : Nat) (mbestRow : Nat) (mtape : Nat) (msort : Nat) (mplace : Nat) (mvalue : Nat) (mwords : Nat) (mnames : Nat) (mhasHabit : Nat) (mfactWords : Nat) (misMarked : Nat) (mthr : Nat) (mmays : Nat) (mtall : Nat) (mweights : Nat) (mrowOfWare : Nat) (mneededOf : Nat) (mdigits : Nat) (p0 : Int32) (p1 : Int32) (m_thrown : Int32) (m_taped : Int32) (m_size : Int32) (m_at : Int32) (m_fault : Int32) (m_codes : Int32) (m_isNew : Int32) (m_inShelf : Int32) (m_inStack : Int32) (m_inPlace : Int32) (m_rowMany : Int32) (m_goShelf : Int32) (m_goStack : Int32) (m_goLeft : Int32) (m_bestCost : Int32) (m_bestMany : Int32) (m_bestShelf : Int32) (m_bestSet : Int32) (m_told : Nat → Int32) (m_op : Nat → Int32) (m_arg : Nat → Int32) (m_facts : Nat → Int32) (m_pile : Nat → Int32) (m_states : Nat → Int32) (m_row : Nat → Int32) (m_tried : Nat → Int32) (m_bestRow : Nat → Int32) (n9 : Nat) (h_m_taped : 0 ≤ (m_taped).toInt ∧ (m_taped).toInt ≤ 1000) (h_m_size : 0 ≤ (m_size).toInt ∧ (m_size).toInt ≤ 1000) (h_m_at : 0 ≤ (m_at).toInt ∧ (m_at).toInt ≤ 1000) (h_m_fault : 0 ≤ (m_fault).toInt ∧ (m_fault).toInt ≤ 16005) (h_m_codes : 0 ≤ (m_codes).toInt ∧ (m_codes).toInt ≤ 1000) (h_m_isNew : 0 ≤ (m_isNew).toInt ∧ (m_isNew).toInt ≤ 1) (h_m_inShelf : 0 ≤ (m_inShelf).toInt ∧ (m_inShelf).toInt ≤ 3) (h_m_inStack : 0 ≤ (m_inStack).toInt ∧ (m_inStack).toInt ≤ 7) (h_m_inPlace : 0 ≤ (m_inPlace).toInt ∧ (m_inPlace).toInt ≤ 11) (h_m_rowMany : 0 ≤ (m_rowMany).toInt ∧ (m_rowMany).toInt ≤ 12) (h_m_goShelf : -1 ≤ (m_goShelf).toInt ∧ (m_goShelf).toInt ≤ 3) (h_m_bestMany : 0 ≤ (m_bestMany).toInt ∧ (m_bestMany).toInt ≤ 7) (h_m_bestShelf : 0 ≤ (m_bestShelf).toInt ∧ (m_bestShelf).toInt ≤ 3) (h_m_row : Iv 12 (0) (11) m_row) (h_m_told : TV m_told) (h_m_tried : Iv 7 (0) (11) m_tried) (h_m_states : SV m_states) (hwf : WFm m_told m_op m_arg) (hbm9 : (p0).toInt ≤ (m_bestMany).toInt) (hdp9 : (p0).toInt = 7 - (((n9 + 1) : Nat) : Int)) (h9 : n9 < 7) (hA9 : S_c_X11_triesOrders n9) : KK l D (TY cyC cyI cyJ cyZ cyO) yX11_triesOrders cX11_triesOrders 4 none ({ frames := 5 + 1 * (n9 + 1), cells := 0, slots := 0, locals := 113 + 23 * (n9 + 1) } : Room) 0 0 [.ref m0, .int p0, .int p1] [(m0, .inr (11, [.int m_thrown, .ref mtape, .int m_taped, .int m_size, .ref msort, .ref mplace, .ref mvalue, .int m_at, .int m_fault, .ref mwords, .ref mtold, .ref mop, .ref marg, .int m_codes, .ref mnames, .ref mhasHabit, .int m_isNew, .ref mfactWords, .ref mfacts, .ref mpile, .ref mstates, .ref misMarked, .int m_inShelf, .int m_inStack, .int m_inPlace, .ref mrow, .int m_rowMany, .ref mthr, .ref mmays, .ref mtall, .ref mweights, .ref mrowOfWare, .ref mneededOf, .int m_goShelf, .int m_goStack, .int m_goLeft, .ref mtried, .ref mbestRow, .int m_bestCost, .int m_bestMany, .int m_bestShelf, .int m_bestSet, .ref mdigits])), (mtold, .inl (cyI, 240, .inl m_told)), (mop, .inl (cyI, 2200, .inl m_op)), (marg, .inl (cyI, 2200, .inl m_arg)), (mfacts, .inl (cyI, 8, .inl m_facts)), (mpile, .inl (cyI, 1100, .inl m_pile)), (mstates, .inl (cyI, 2760, .inl m_states)), (mrow, .inl (cyI, 12, .inl m_row)), (mtried, .inl (cyI, 7, .inl m_tried)), (mbestRow, .inl (cyI, 7, .inl m_bestRow))] (fun u => none) (fun u => (0 ≤ (u.2.1 0).toInt ∧ (u.2.1 0).toInt ≤ 12) ∧ (Iv 12 (0) (11) (u.2.2.1 2)) ∧ (Iv 7 (0) (11) (u.2.2.1 3))) (fun u => [(m0, .inr (11, [.int m_thrown, .ref mtape, .int m_taped, .int m_size, .ref msort, .ref mplace, .ref mvalue, .int m_at, .int m_fault, .ref mwords, .ref mtold, .ref mop, .ref marg, .int m_codes, .ref mnames, .ref mhasHabit, .int m_isNew, .ref mfactWords, .ref mfacts, .ref mpile, .ref mstates, .ref misMarked, .int m_inShelf, .int m_inStack, .int m_inPlace, .ref mrow, .int (u.2.1 0), .ref mthr, .ref mmays, .ref mtall, .ref mweights, .ref mrowOfWare, .ref mneededOf, .int m_goShelf, .int m_goStack, .int m_goLeft, .ref mtried, .ref mbestRow, .int (u.2.1 1), .int m_bestMany, .int m_bestShelf, .int m_bestSet, .ref mdigits])), (mtold, .inl (cyI, 240, .inl m_told)), (mop, .inl (cyI, 2200, .inl m_op)), (marg, .inl (cyI, 2200, .inl m_arg)), (mfacts, .inl (cyI, 8, .inl (u.2.2.1 0))), (mpile, .inl (cyI, 1100, .inl (u.2.2.1 1))), (mstates, .inl (cyI, 2760, .inl m_states)), (mrow, .inl (cyI, 12, .inl (u.2.2.1 2))), (mtried, .inl (cyI, 7, .inl (u.2.2.1 3))), (mbestRow, .inl (cyI, 7, .inl (u.2.2.1 4)))]) := by
  refine KK.of (lv0 := [(0, .ref m0), (1, .int p0), (2, .int p1)]) (by decide) rfl (Nat.le_of_ble_eq_true rfl) ?_
  intro p e s m args below meth c A C hr hk hin
  refine j_iload_n (pc := 0) C dX11_triesOrders_0 rfl 1 rfl ?_
  refine j_aload_n (pc := 1) C dX11_triesOrders_1 rfl 0 rfl ?_
  refine j_get (pc := 2) (ci := 11) (v := .int m_bestMany) C inw_11 0 rfl rfl 39 (by decide) wd_878 rfl rfl dX11_triesOrders_2 ?_
  refine j_icmp_ne (pc := 5) (tgt := 65) C dX11_triesOrders_5 (by decide) (fun c_1 => ?_) (fun c_1 => ?_)
  · skip
    rw [i_eq] at c_1
    refine j_iconst (pc := 65) (v := 0) C dX11_triesOrders_65 (by decide) ?_
    refine j_istore_n (pc := 66) (lv' := [(3, .int 0), (0, .ref m0), (1, .int p0), (2, .int p1)]) C dX11_triesOrders_66 rfl (by decide) rfl ?_
    have loop_2 : ∀ (k_2 : Nat) (x2_3 : Int32) (y2_m0_26 : Int32) (y2_m0_38 : Int32) (g2_mfacts : Nat → Int32) (g2_mpile : Nat → Int32) (g2_mrow : Nat → Int32) (g2_mtried : Nat → Int32) (g2_mbestRow : Nat → Int32), (0 ≤ (x2_3).toInt ∧ (x2_3).toInt ≤ 12) → (0 ≤ (y2_m0_26).toInt ∧ (y2_m0_26).toInt ≤ 12) → (Iv 12 (0) (11) g2_mrow) → (Iv 7 (0) (11) g2_mtried) → (12 - x2_3.toInt).toNat < k_2 → J p l e ({ frames := 5 + 1 * (n9 + 1), cells := 0, slots := 0, locals := 113 + 23 * (n9 + 1) } : Room) s m args below meth c D A 4 0 0 (QX below D (TY cyC cyI cyJ cyZ cyO) A (fun u => none) (fun u => (0 ≤ (u.2.1 0).toInt ∧ (u.2.1 0).toInt ≤ 12) ∧ (Iv 12 (0) (11) (u.2.2.1 2)) ∧ (Iv 7 (0) (11) (u.2.2.1 3))) (fun u => [(m0, .inr (11, [.int m_thrown, .ref mtape, .int m_taped, .int m_size, .ref msort, .ref mplace, .ref mvalue, .int m_at, .int m_fault, .ref mwords, .ref mtold, .ref mop, .ref marg, .int m_codes, .ref mnames, .ref mhasHabit, .int m_isNew, .ref mfactWords, .ref mfacts, .ref mpile, .ref mstates, .ref misMarked, .int m_inShelf, .int m_inStack, .int m_inPlace, .ref mrow, .int (u.2.1 0), .ref mthr, .ref mmays, .ref mtall, .ref mweights, .ref mrowOfWare, .ref mneededOf, .int m_goShelf, .int m_goStack, .int m_goLeft, .ref mtried, .ref mbestRow, .int (u.2.1 1), .int m_bestMany, .int m_bestShelf, .int m_bestSet, .ref mdigits])), (mtold, .inl (cyI, 240, .inl m_told)), (mop, .inl (cyI, 2200, .inl m_op)), (marg, .inl (cyI, 2200, .inl m_arg)), (mfacts, .inl (cyI, 8, .inl (u.2.2.1 0))), (mpile, .inl (cyI, 1100, .inl (u.2.2.1 1))), (mstates, .inl (cyI, 2760, .inl m_states)), (mrow, .inl (cyI, 12, .inl (u.2.2.1 2))), (mtried, .inl (cyI, 7, .inl (u.2.2.1 3))), (mbestRow, .inl (cyI, 7, .inl (u.2.2.1 4)))]) args s 0 0) [(m0, .inr (11, [.int m_thrown, .ref mtape, .int m_taped, .int m_size, .ref msort, .ref mplace, .ref mvalue, .int m_at, .int m_fault, .ref mwords, .ref mtold, .ref mop, .ref marg, .int m_codes, .ref mnames, .ref mhasHabit, .int m_isNew, .ref mfactWords, .ref mfacts, .ref mpile, .ref mstates, .ref misMarked, .int m_inShelf, .int m_inStack, .int m_inPlace, .ref mrow, .int y2_m0_26, .ref mthr, .ref mmays, .ref mtall, .ref mweights, .ref mrowOfWare, .ref mneededOf, .int m_goShelf, .int m_goStack, .int m_goLeft, .ref mtried, .ref mbestRow, .int y2_m0_38, .int m_bestMany, .int m_bestShelf, .int m_bestSet, .ref mdigits])), (mtold, .inl (cyI, 240, .inl m_told)), (mop, .inl (cyI, 2200, .inl m_op)), (marg, .inl (cyI, 2200, .inl m_arg)), (mfacts, .inl (cyI, 8, .inl g2_mfacts)), (mpile, .inl (cyI, 1100, .inl g2_mpile)), (mstates, .inl (cyI, 2760, .inl m_states)), (mrow, .inl (cyI, 12, .inl g2_mrow)), (mtried, .inl (cyI, 7, .inl g2_mtried)), (mbestRow, .inl (cyI, 7, .inl g2_mbestRow))] 67 [(3, .int x2_3), (0, .ref m0), (1, .int p0), (2, .int p1)] [] := by
      intro k_2
      induction k_2 with
      | zero =>
        intro x2_3 y2_m0_26 y2_m0_38 g2_mfacts g2_mpile g2_mrow g2_mtried g2_mbestRow hi_2_0 hi_2_1 hi_2_5 hi_2_6 hm_2
        exact absurd hm_2 (Nat.not_lt_zero _)
      | succ k_2 ih_2 =>
        intro x2_3 y2_m0_26 y2_m0_38 g2_mfacts g2_mpile g2_mrow g2_mtried g2_mbestRow hi_2_0 hi_2_1 hi_2_5 hi_2_6 hm_2
        refine j_iload_n (pc := 67) C dX11_triesOrders_67 rfl 0 rfl ?_
        refine j_aload_n (pc := 68) C dX11_triesOrders_68 rfl 1 rfl ?_
        refine j_callV (pc := 69) (As := []) (rest := [.int x2_3]) (wr := [(mop, .inl (cyI, 2200, .inl m_op)), (marg, .inl (cyI, 2200, .inl m_arg)), (mfacts, .inl (cyI, 8, .inl g2_mfacts)), (mpile, .inl (cyI, 1100, .inl g2_mpile)), (mstates, .inl (cyI, 2760, .inl m_states)), (mrow, .inl (cyI, 12, .inl g2_mrow)), (mtried, .inl (cyI, 7, .inl g2_mtried)), (mbestRow, .inl (cyI, 7, .inl g2_mbestRow))]) C (c_X11_wares l D cyC cyI cyJ cyZ cyO m0 mtold mtape msort mplace mvalue mwords mop marg mnames mhasHabit mfactWords mfacts mpile mstates misMarked mrow mthr mmays mtall mweights mrowOfWare mneededOf mtried mbestRow mdigits m_thrown m_taped m_size m_at m_fault m_codes m_isNew m_inShelf m_inStack m_inPlace y2_m0_26 m_goShelf m_goStack m_goLeft y2_m0_38 m_bestMany m_bestShelf m_bestSet m_told h_m_taped h_m_size h_m_at h_m_fault h_m_codes h_m_isNew h_m_inShelf h_m_inStack h_m_inPlace hi_2_1 h_m_goShelf h_m_bestMany h_m_bestShelf h_m_told) wd_748 wd_624 wd_749 wd_750 wd_751 ⟨by decide, by decide, rfl⟩ rfl ⟨rfl, rfl, (by show (0 : Nat) + 1 ≤ 5 + 1 * (n9 + 1); omega), (by show 8 + (1 + 11) + (0 : Nat) ≤ 113 + 23 * (n9 + 1); omega)⟩ ⟨Nat.le_of_ble_eq_true rfl, Nat.le_of_ble_eq_true rfl⟩ [0, 1] [2, 3, 4, 5, 6, 7, 8, 9] rfl rfl ⟨by decide, by decide, by decide⟩ 0 rfl rfl rfl (Nat.le_of_ble_eq_true rfl) dX11_triesOrders_69 (fun u_3 hw_4 => ?_)
        refine j_eq (ws2 := [(mop, .inl (cyI, 2200, .inl m_op)), (marg, .inl (cyI, 2200, .inl m_arg)), (mfacts, .inl (cyI, 8, .inl g2_mfacts)), (mpile, .inl (cyI, 1100, .inl g2_mpile)), (mstates, .inl (cyI, 2760, .inl m_states)), (mrow, .inl (cyI, 12, .inl g2_mrow)), (mtried, .inl (cyI, 7, .inl g2_mtried)), (mbestRow, .inl (cyI, 7, .inl g2_mbestRow)), (m0, .inr (11, [.int m_thrown, .ref mtape, .int m_taped, .int m_size, .ref msort, .ref mplace, .ref mvalue, .int m_at, .int m_fault, .ref mwords, .ref mtold, .ref mop, .ref marg, .int m_codes, .ref mnames, .ref mhasHabit, .int m_isNew, .ref mfactWords, .ref mfacts, .ref mpile, .ref mstates, .ref misMarked, .int m_inShelf, .int m_inStack, .int m_inPlace, .ref mrow, .int y2_m0_26, .ref mthr, .ref mmays, .ref mtall, .ref mweights, .ref mrowOfWare, .ref mneededOf, .int m_goShelf, .int m_goStack, .int m_goLeft, .ref mtried, .ref mbestRow, .int y2_m0_38, .int m_bestMany, .int m_bestShelf, .int m_bestSet, .ref mdigits])), (mtold, .inl (cyI, 240, .inl m_told))]) (pc2 := 72) (lv2 := [(3, .int x2_3), (0, .ref m0), (1, .int p0), (2, .int p1)]) (st2 := [.int (u_3.2.1 0), .int x2_3]) rfl rfl rfl rfl ?_
        obtain ⟨hw_4_0, hw_4_1⟩ := hw_4
        refine j_icmp_ge (pc := 72) (tgt := 120) C dX11_triesOrders_72 (by decide) (fun c_5 => ?_) (fun c_5 => ?_)
        · skip
          rw [i_le] at c_5
          exact j_vret (pc := 120) C hr hk (fun i => [].getD i 0, fun i => [y2_m0_26, y2_m0_38].getD i 0, fun i => [g2_mfacts, g2_mpile, g2_mrow, g2_mtried, g2_mbestRow].getD i (fun _ => 0), fun i => [].getD i (fun _ => 0)) rfl (show (0 ≤ (y2_m0_26).toInt ∧ (y2_m0_26).toInt ≤ 12) ∧ (Iv 12 (0) (11) g2_mrow) ∧ (Iv 7 (0) (11) g2_mtried) from ⟨hi_2_1, hi_2_5, hi_2_6⟩) [8, 9, 0, 1, 2, 3, 4, 5, 6, 7] (by decide) rfl (by decide) (by decide) dX11_triesOrders_120
        · skip
          rw [i_le] at c_5
          refine j_aload_n (pc := 75) C dX11_triesOrders_75 rfl 1 rfl ?_
          refine j_get (pc := 76) (ci := 11) (v := .int m_bestSet) C inw_11 8 rfl rfl 41 (by decide) wd_886 rfl rfl dX11_triesOrders_76 ?_
          refine j_iload_n (pc := 79) C dX11_triesOrders_79 rfl 0 rfl ?_
          obtain ⟨v_6, ev_6⟩ : ∃ z : Int32, m_bestSet >>> (x2_3 &&& 31) = z := ⟨_, rfl⟩
          refine j_ishr (pc := 80) (v := v_6) C dX11_triesOrders_80 ev_6 ?_
          refine j_iconst (pc := 81) (v := 1) C dX11_triesOrders_81 (by decide) ?_
          obtain ⟨v_7, ev_7⟩ : ∃ z : Int32, v_6 &&& 1 = z := ⟨_, rfl⟩
          have el_1 : (1 : Int32).toInt = 1 := rfl
          have hv_7 : 0 ≤ v_7.toInt ∧ v_7.toInt ≤ 1 := by rw [← ev_7]; exact and1_r _
          refine j_iand (pc := 82) (v := v_7) C dX11_triesOrders_82 ev_7 ?_
          refine j_iconst (pc := 83) (v := 1) C dX11_triesOrders_83 (by decide) ?_
          refine j_icmp_ne (pc := 84) (tgt := 114) C dX11_triesOrders_84 (by decide) (fun c_8 => ?_) (fun c_8 => ?_)
          · skip
            have el_1 : (1 : Int32).toInt = 1 := rfl
            rw [i_eq] at c_8
            have k0c_8 : v_7.toInt = 0 := by omega
            obtain ⟨v_9, ev_9⟩ : ∃ z : Int32, x2_3 + 1 = z := ⟨_, rfl⟩
            have el_1 : (1 : Int32).toInt = 1 := rfl
            have hv_9 : v_9.toInt = x2_3.toInt + (1 : Int32).toInt := by rw [← ev_9]; exact fb_addI (by omega) (by omega)
            refine j_iinc (pc := 114) (v := v_9) (lv' := [(3, .int v_9), (0, .ref m0), (1, .int p0), (2, .int p1)]) C dX11_triesOrders_114 0 rfl ev_9 (by decide) rfl ?_
            refine j_goto (pc := 117) (tgt := 67) C dX11_triesOrders_117 (by decide) ?_
            refine j_subG (ws' := [(m0, .inr (11, [.int m_thrown, .ref mtape, .int m_taped, .int m_size, .ref msort, .ref mplace, .ref mvalue, .int m_at, .int m_fault, .ref mwords, .ref mtold, .ref mop, .ref marg, .int m_codes, .ref mnames, .ref mhasHabit, .int m_isNew, .ref mfactWords, .ref mfacts, .ref mpile, .ref mstates, .ref misMarked, .int m_inShelf, .int m_inStack, .int m_inPlace, .ref mrow, .int y2_m0_26, .ref mthr, .ref mmays, .ref mtall, .ref mweights, .ref mrowOfWare, .ref mneededOf, .int m_goShelf, .int m_goStack, .int m_goLeft, .ref mtried, .ref mbestRow, .int y2_m0_38, .int m_bestMany, .int m_bestShelf, .int m_bestSet, .ref mdigits])), (mtold, .inl (cyI, 240, .inl m_told)), (mop, .inl (cyI, 2200, .inl m_op)), (marg, .inl (cyI, 2200, .inl m_arg)), (mfacts, .inl (cyI, 8, .inl g2_mfacts)), (mpile, .inl (cyI, 1100, .inl g2_mpile)), (mstates, .inl (cyI, 2760, .inl m_states)), (mrow, .inl (cyI, 12, .inl g2_mrow)), (mtried, .inl (cyI, 7, .inl g2_mtried)), (mbestRow, .inl (cyI, 7, .inl g2_mbestRow))]) [8, 9, 0, 1, 2, 3, 4, 5, 6, 7] (by decide) rfl ?_
            exact j_lv [0, 1, 2, 3] rfl (ih_2 v_9 y2_m0_26 y2_m0_38 g2_mfacts g2_mpile g2_mrow g2_mtried g2_mbestRow (by omega) hi_2_1 hi_2_5 hi_2_6 (by omega))
          · skip
            have el_1 : (1 : Int32).toInt = 1 := rfl
            rw [i_eq] at c_8
            refine j_iload_n (pc := 87) C dX11_triesOrders_87 rfl 3 rfl ?_
            refine j_iload_n (pc := 88) C dX11_triesOrders_88 rfl 0 rfl ?_
            obtain ⟨v_10, ev_10⟩ : ∃ z : Int32, p1 >>> (x2_3 &&& 31) = z := ⟨_, rfl⟩
            refine j_ishr (pc := 89) (v := v_10) C dX11_triesOrders_89 ev_10 ?_
            refine j_iconst (pc := 90) (v := 1) C dX11_triesOrders_90 (by decide) ?_
            obtain ⟨v_11, ev_11⟩ : ∃ z : Int32, v_10 &&& 1 = z := ⟨_, rfl⟩
            have el_1 : (1 : Int32).toInt = 1 := rfl
            have hv_11 : 0 ≤ v_11.toInt ∧ v_11.toInt ≤ 1 := by rw [← ev_11]; exact and1_r _
            refine j_iand (pc := 91) (v := v_11) C dX11_triesOrders_91 ev_11 ?_
            refine j_if_ne (pc := 92) (tgt := 114) C dX11_triesOrders_92 (by decide) (fun c_12 => ?_) (fun c_12 => ?_)
            · skip
              have el_0 : (0 : Int32).toInt = 0 := rfl
              rw [i_eq] at c_12
              have k0c_12 : v_11.toInt = 1 := by omega
              obtain ⟨v_13, ev_13⟩ : ∃ z : Int32, x2_3 + 1 = z := ⟨_, rfl⟩
              have el_1 : (1 : Int32).toInt = 1 := rfl
              have hv_13 : v_13.toInt = x2_3.toInt + (1 : Int32).toInt := by rw [← ev_13]; exact fb_addI (by omega) (by omega)
              refine j_iinc (pc := 114) (v := v_13) (lv' := [(3, .int v_13), (0, .ref m0), (1, .int p0), (2, .int p1)]) C dX11_triesOrders_114 0 rfl ev_13 (by decide) rfl ?_
              refine j_goto (pc := 117) (tgt := 67) C dX11_triesOrders_117 (by decide) ?_
              refine j_subG (ws' := [(m0, .inr (11, [.int m_thrown, .ref mtape, .int m_taped, .int m_size, .ref msort, .ref mplace, .ref mvalue, .int m_at, .int m_fault, .ref mwords, .ref mtold, .ref mop, .ref marg, .int m_codes, .ref mnames, .ref mhasHabit, .int m_isNew, .ref mfactWords, .ref mfacts, .ref mpile, .ref mstates, .ref misMarked, .int m_inShelf, .int m_inStack, .int m_inPlace, .ref mrow, .int y2_m0_26, .ref mthr, .ref mmays, .ref mtall, .ref mweights, .ref mrowOfWare, .ref mneededOf, .int m_goShelf, .int m_goStack, .int m_goLeft, .ref mtried, .ref mbestRow, .int y2_m0_38, .int m_bestMany, .int m_bestShelf, .int m_bestSet, .ref mdigits])), (mtold, .inl (cyI, 240, .inl m_told)), (mop, .inl (cyI, 2200, .inl m_op)), (marg, .inl (cyI, 2200, .inl m_arg)), (mfacts, .inl (cyI, 8, .inl g2_mfacts)), (mpile, .inl (cyI, 1100, .inl g2_mpile)), (mstates, .inl (cyI, 2760, .inl m_states)), (mrow, .inl (cyI, 12, .inl g2_mrow)), (mtried, .inl (cyI, 7, .inl g2_mtried)), (mbestRow, .inl (cyI, 7, .inl g2_mbestRow))]) [8, 9, 0, 1, 2, 3, 4, 5, 6, 7] (by decide) rfl ?_
              exact j_lv [0, 1, 2, 3] rfl (ih_2 v_13 y2_m0_26 y2_m0_38 g2_mfacts g2_mpile g2_mrow g2_mtried g2_mbestRow (by omega) hi_2_1 hi_2_5 hi_2_6 (by omega))
            · skip
              have el_0 : (0 : Int32).toInt = 0 := rfl
              rw [i_eq] at c_12
              refine j_aload_n (pc := 95) C dX11_triesOrders_95 rfl 1 rfl ?_
              refine j_get (pc := 96) (ci := 11) (v := .ref mtried) C inw_11 8 rfl rfl 36 (by decide) wd_880 rfl rfl dX11_triesOrders_96 ?_
              refine j_iload_n (pc := 99) C dX11_triesOrders_99 rfl 2 rfl ?_
              refine j_iload_n (pc := 100) C dX11_triesOrders_100 rfl 0 rfl ?_
              obtain ⟨f_14, ef_14⟩ : ∃ z, z = upd g2_mtried (p0).toInt.toNat x2_3 := ⟨_, rfl⟩
              have hf_14 : Iv 7 (0) (11) f_14 := by rw [ef_14]; exact Iv.upd hi_2_6 (by omega) (by omega)
              refine j_iast (pc := 101) (k := (p0).toInt.toNat) (ws' := [(mop, .inl (cyI, 2200, .inl m_op)), (marg, .inl (cyI, 2200, .inl m_arg)), (mfacts, .inl (cyI, 8, .inl g2_mfacts)), (mpile, .inl (cyI, 1100, .inl g2_mpile)), (mstates, .inl (cyI, 2760, .inl m_states)), (mrow, .inl (cyI, 12, .inl g2_mrow)), (mtried, .inl (cyI, 7, .inl f_14)), (mbestRow, .inl (cyI, 7, .inl g2_mbestRow)), (m0, .inr (11, [.int m_thrown, .ref mtape, .int m_taped, .int m_size, .ref msort, .ref mplace, .ref mvalue, .int m_at, .int m_fault, .ref mwords, .ref mtold, .ref mop, .ref marg, .int m_codes, .ref mnames, .ref mhasHabit, .int m_isNew, .ref mfactWords, .ref mfacts, .ref mpile, .ref mstates, .ref misMarked, .int m_inShelf, .int m_inStack, .int m_inPlace, .ref mrow, .int y2_m0_26, .ref mthr, .ref mmays, .ref mtall, .ref mweights, .ref mrowOfWare, .ref mneededOf, .int m_goShelf, .int m_goStack, .int m_goLeft, .ref mtried, .ref mbestRow, .int y2_m0_38, .int m_bestMany, .int m_bestShelf, .int m_bestSet, .ref mdigits])), (mtold, .inl (cyI, 240, .inl m_told))]) C 6 1 rfl rfl (i_nn (by omega)) rfl (i_lt_n (by omega) (by omega)) dX11_triesOrders_101 (by rw [ef_14]; rfl) ?_
              refine j_aload_n (pc := 102) C dX11_triesOrders_102 rfl 1 rfl ?_
              refine j_iload_n (pc := 103) C dX11_triesOrders_103 rfl 2 rfl ?_
              refine j_iconst (pc := 104) (v := 1) C dX11_triesOrders_104 (by decide) ?_
              obtain ⟨v_15, ev_15⟩ : ∃ z : Int32, p0 + 1 = z := ⟨_, rfl⟩
              have el_1 : (1 : Int32).toInt = 1 := rfl
              have hv_15 : v_15.toInt = p0.toInt + (1 : Int32).toInt := by rw [← ev_15]; exact fb_addI (by omega) (by omega)
              refine j_iadd (pc := 105) (v := v_15) C dX11_triesOrders_105 ev_15 ?_
              refine j_iload_n (pc := 106) C dX11_triesOrders_106 rfl 3 rfl ?_
              refine j_iconst (pc := 107) (v := 1) C dX11_triesOrders_107 (by decide) ?_
              refine j_iload_n (pc := 108) C dX11_triesOrders_108 rfl 0 rfl ?_
              obtain ⟨v_16, ev_16⟩ : ∃ z : Int32, 1 <<< (x2_3 &&& 31) = z := ⟨_, rfl⟩
              have el_1 : (1 : Int32).toInt = 1 := rfl
              have hv_16 : 1 ≤ v_16.toInt ∧ v_16.toInt ≤ 2048 := by rw [← ev_16]; exact shl1_iv 0 11 (by omega) (by omega) (by omega)
              refine j_ishl (pc := 109) (v := v_16) C dX11_triesOrders_109 ev_16 ?_
              obtain ⟨v_17, ev_17⟩ : ∃ z : Int32, p1 ||| v_16 = z := ⟨_, rfl⟩
              refine j_ior (pc := 110) (v := v_17) C dX11_triesOrders_110 ev_17 ?_
              refine j_callV (pc := 111) (As := [.int v_15, .int v_17]) (rest := []) (wr := []) C (hA9 l D cyC cyI cyJ cyZ cyO m0 mtold mop marg mfacts mpile mstates mrow mtried mbestRow mtape msort mplace mvalue mwords mnames mhasHabit mfactWords misMarked mthr mmays mtall mweights mrowOfWare mneededOf mdigits v_15 v_17 m_thrown m_taped m_size m_at m_fault m_codes m_isNew m_inShelf m_inStack m_inPlace y2_m0_26 m_goShelf m_goStack m_goLeft y2_m0_38 m_bestMany m_bestShelf m_bestSet m_told m_op m_arg g2_mfacts g2_mpile m_states g2_mrow f_14 g2_mbestRow h_m_taped h_m_size h_m_at h_m_fault h_m_codes h_m_isNew h_m_inShelf h_m_inStack h_m_inPlace hi_2_1 h_m_goShelf h_m_bestMany h_m_bestShelf hi_2_5 h_m_told hf_14 h_m_states hwf (by omega) (by omega)) wd_887 wd_624 wd_888 wd_889 wd_890 ⟨by decide, by decide, rfl⟩ rfl ⟨rfl, rfl, (by show (5 + 1 * n9 : Nat) + 1 ≤ 5 + 1 * (n9 + 1); omega), (by show 8 + (4 + 11) + (113 + 23 * n9 : Nat) ≤ 113 + 23 * (n9 + 1); omega)⟩ ⟨Nat.le_of_ble_eq_true rfl, Nat.le_of_ble_eq_true rfl⟩ [8, 9, 0, 1, 2, 3, 4, 5, 6, 7] [] rfl rfl ⟨by decide, by decide, by decide⟩ 8 rfl rfl rfl (Nat.le_of_ble_eq_true rfl) dX11_triesOrders_111 (fun u_18 hw_19 => ?_)
              refine j_eq (ws2 := [(m0, .inr (11, [.int m_thrown, .ref mtape, .int m_taped, .int m_size, .ref msort, .ref mplace, .ref mvalue, .int m_at, .int m_fault, .ref mwords, .ref mtold, .ref mop, .ref marg, .int m_codes, .ref mnames, .ref mhasHabit, .int m_isNew, .ref mfactWords, .ref mfacts, .ref mpile, .ref mstates, .ref misMarked, .int m_inShelf, .int m_inStack, .int m_inPlace, .ref mrow, .int (u_18.2.1 0), .ref mthr, .ref mmays, .ref mtall, .ref mweights, .ref mrowOfWare, .ref mneededOf, .int m_goShelf, .int m_goStack, .int m_goLeft, .ref mtried, .ref mbestRow, .int (u_18.2.1 1), .int m_bestMany, .int m_bestShelf, .int m_bestSet, .ref mdigits])), (mtold, .inl (cyI, 240, .inl m_told)), (mop, .inl (cyI, 2200, .inl m_op)), (marg, .inl (cyI, 2200, .inl m_arg)), (mfacts, .inl (cyI, 8, .inl (u_18.2.2.1 0))), (mpile, .inl (cyI, 1100, .inl (u_18.2.2.1 1))), (mstates, .inl (cyI, 2760, .inl m_states)), (mrow, .inl (cyI, 12, .inl (u_18.2.2.1 2))), (mtried, .inl (cyI, 7, .inl (u_18.2.2.1 3))), (mbestRow, .inl (cyI, 7, .inl (u_18.2.2.1 4)))]) (pc2 := 114) (lv2 := [(3, .int x2_3), (0, .ref m0), (1, .int p0), (2, .int p1)]) (st2 := []) rfl rfl rfl rfl ?_
              obtain ⟨hw_19_0, hw_19_1, hw_19_2⟩ := hw_19
              obtain ⟨v_20, ev_20⟩ : ∃ z : Int32, x2_3 + 1 = z := ⟨_, rfl⟩
              have el_1 : (1 : Int32).toInt = 1 := rfl
              have hv_20 : v_20.toInt = x2_3.toInt + (1 : Int32).toInt := by rw [← ev_20]; exact fb_addI (by omega) (by omega)
              refine j_iinc (pc := 114) (v := v_20) (lv' := [(3, .int v_20), (0, .ref m0), (1, .int p0), (2, .int p1)]) C dX11_triesOrders_114 0 rfl ev_20 (by decide) rfl ?_
              refine j_goto (pc := 117) (tgt := 67) C dX11_triesOrders_117 (by decide) ?_
              exact j_lv [0, 1, 2, 3] rfl (ih_2 v_20 (u_18.2.1 0) (u_18.2.1 1) (u_18.2.2.1 0) (u_18.2.2.1 1) (u_18.2.2.1 2) (u_18.2.2.1 3) (u_18.2.2.1 4) (by omega) hw_19_0 hw_19_1 hw_19_2 (by omega))
    have el_0 : (0 : Int32).toInt = 0 := rfl
    exact j_lv [0, 1, 2, 3] rfl (loop_2 4096 0 m_rowMany m_bestCost m_facts m_pile m_row m_tried m_bestRow (by decide) h_m_rowMany h_m_row h_m_tried (by omega))
  · skip
    rw [i_eq] at c_1
    refine j_aload_n (pc := 8) C dX11_triesOrders_8 rfl 0 rfl ?_
    refine j_aload_n (pc := 9) C dX11_triesOrders_9 rfl 0 rfl ?_
    refine j_get (pc := 10) (ci := 11) (v := .int m_bestMany) C inw_11 0 rfl rfl 39 (by decide) wd_878 rfl rfl dX11_triesOrders_10 ?_
    refine j_put (pc := 13) (ci := 11) (v := .int m_bestMany) (ws' := [(m0, .inr (11, [.int m_thrown, .ref mtape, .int m_taped, .int m_size, .ref msort, .ref mplace, .ref mvalue, .int m_at, .int m_fault, .ref mwords, .ref mtold, .ref mop, .ref marg, .int m_codes, .ref mnames, .ref mhasHabit, .int m_isNew, .ref mfactWords, .ref mfacts, .ref mpile, .ref mstates, .ref misMarked, .int m_inShelf, .int m_inStack, .int m_inPlace, .ref mrow, .int m_bestMany, .ref mthr, .ref mmays, .ref mtall, .ref mweights, .ref mrowOfWare, .ref mneededOf, .int m_goShelf, .int m_goStack, .int m_goLeft, .ref mtried, .ref mbestRow, .int m_bestCost, .int m_bestMany, .int m_bestShelf, .int m_bestSet, .ref mdigits])), (mtold, .inl (cyI, 240, .inl m_told)), (mop, .inl (cyI, 2200, .inl m_op)), (marg, .inl (cyI, 2200, .inl m_arg)), (mfacts, .inl (cyI, 8, .inl m_facts)), (mpile, .inl (cyI, 1100, .inl m_pile)), (mstates, .inl (cyI, 2760, .inl m_states)), (mrow, .inl (cyI, 12, .inl m_row)), (mtried, .inl (cyI, 7, .inl m_tried)), (mbestRow, .inl (cyI, 7, .inl m_bestRow))]) C inw_11 0 rfl rfl 26 (by decide) wd_779 rfl tyX11_ok nmX11 rfl (tyX11_ok 26 (by decide)) rfl rfl (Nat.le_of_ble_eq_true rfl) dX11_triesOrders_13 rfl ?_
    refine j_iconst (pc := 16) (v := 0) C dX11_triesOrders_16 (by decide) ?_
    refine j_istore_n (pc := 17) (lv' := [(3, .int 0), (0, .ref m0), (1, .int p0), (2, .int p1)]) C dX11_triesOrders_17 rfl (by decide) rfl ?_
    have loop_21 : ∀ (k_21 : Nat) (x21_3 : Int32) (g21_mrow : Nat → Int32), (0 ≤ (x21_3).toInt ∧ (x21_3).toInt ≤ 7) → (Iv 12 (0) (11) g21_mrow) → (7 - x21_3.toInt).toNat < k_21 → J p l e ({ frames := 5 + 1 * (n9 + 1), cells := 0, slots := 0, locals := 113 + 23 * (n9 + 1) } : Room) s m args below meth c D A 4 0 0 (QX below D (TY cyC cyI cyJ cyZ cyO) A (fun u => none) (fun u => (0 ≤ (u.2.1 0).toInt ∧ (u.2.1 0).toInt ≤ 12) ∧ (Iv 12 (0) (11) (u.2.2.1 2)) ∧ (Iv 7 (0) (11) (u.2.2.1 3))) (fun u => [(m0, .inr (11, [.int m_thrown, .ref mtape, .int m_taped, .int m_size, .ref msort, .ref mplace, .ref mvalue, .int m_at, .int m_fault, .ref mwords, .ref mtold, .ref mop, .ref marg, .int m_codes, .ref mnames, .ref mhasHabit, .int m_isNew, .ref mfactWords, .ref mfacts, .ref mpile, .ref mstates, .ref misMarked, .int m_inShelf, .int m_inStack, .int m_inPlace, .ref mrow, .int (u.2.1 0), .ref mthr, .ref mmays, .ref mtall, .ref mweights, .ref mrowOfWare, .ref mneededOf, .int m_goShelf, .int m_goStack, .int m_goLeft, .ref mtried, .ref mbestRow, .int (u.2.1 1), .int m_bestMany, .int m_bestShelf, .int m_bestSet, .ref mdigits])), (mtold, .inl (cyI, 240, .inl m_told)), (mop, .inl (cyI, 2200, .inl m_op)), (marg, .inl (cyI, 2200, .inl m_arg)), (mfacts, .inl (cyI, 8, .inl (u.2.2.1 0))), (mpile, .inl (cyI, 1100, .inl (u.2.2.1 1))), (mstates, .inl (cyI, 2760, .inl m_states)), (mrow, .inl (cyI, 12, .inl (u.2.2.1 2))), (mtried, .inl (cyI, 7, .inl (u.2.2.1 3))), (mbestRow, .inl (cyI, 7, .inl (u.2.2.1 4)))]) args s 0 0) [(m0, .inr (11, [.int m_thrown, .ref mtape, .int m_taped, .int m_size, .ref msort, .ref mplace, .ref mvalue, .int m_at, .int m_fault, .ref mwords, .ref mtold, .ref mop, .ref marg, .int m_codes, .ref mnames, .ref mhasHabit, .int m_isNew, .ref mfactWords, .ref mfacts, .ref mpile, .ref mstates, .ref misMarked, .int m_inShelf, .int m_inStack, .int m_inPlace, .ref mrow, .int m_bestMany, .ref mthr, .ref mmays, .ref mtall, .ref mweights, .ref mrowOfWare, .ref mneededOf, .int m_goShelf, .int m_goStack, .int m_goLeft, .ref mtried, .ref mbestRow, .int m_bestCost, .int m_bestMany, .int m_bestShelf, .int m_bestSet, .ref mdigits])), (mtold, .inl (cyI, 240, .inl m_told)), (mop, .inl (cyI, 2200, .inl m_op)), (marg, .inl (cyI, 2200, .inl m_arg)), (mfacts, .inl (cyI, 8, .inl m_facts)), (mpile, .inl (cyI, 1100, .inl m_pile)), (mstates, .inl (cyI, 2760, .inl m_states)), (mrow, .inl (cyI, 12, .inl g21_mrow)), (mtried, .inl (cyI, 7, .inl m_tried)), (mbestRow, .inl (cyI, 7, .inl m_bestRow))] 18 [(3, .int x21_3), (0, .ref m0), (1, .int p0), (2, .int p1)] [] := by
      intro k_21
      induction k_21 with
      | zero =>
        intro x21_3 g21_mrow hi_21_0 hi_21_1 hm_21
        exact absurd hm_21 (Nat.not_lt_zero _)
      | succ k_21 ih_21 =>
        intro x21_3 g21_mrow hi_21_0 hi_21_1 hm_21
        refine j_iload_n (pc := 18) C dX11_triesOrders_18 rfl 0 rfl ?_
        refine j_aload_n (pc := 19) C dX11_triesOrders_19 rfl 1 rfl ?_
        refine j_get (pc := 20) (ci := 11) (v := .int m_bestMany) C inw_11 0 rfl rfl 39 (by decide) wd_878 rfl rfl dX11_triesOrders_20 ?_
        refine j_icmp_ge (pc := 23) (tgt := 44) C dX11_triesOrders_23 (by decide) (fun c_22 => ?_) (fun c_22 => ?_)
        · skip
          rw [i_le] at c_22
          refine j_aload_n (pc := 44) C dX11_triesOrders_44 rfl 1 rfl ?_
          refine j_aload_n (pc := 45) C dX11_triesOrders_45 rfl 1 rfl ?_
          refine j_aload_n (pc := 46) C dX11_triesOrders_46 rfl 1 rfl ?_
          refine j_get (pc := 47) (ci := 11) (v := .int m_bestShelf) C inw_11 0 rfl rfl 40 (by decide) wd_881 rfl rfl dX11_triesOrders_47 ?_
          refine j_iconst (pc := 50) (v := 0) C dX11_triesOrders_50 (by decide) ?_
          refine j_callV (pc := 51) (As := [.int m_bestShelf, .int 0]) (rest := [.ref m0]) (wr := [(mop, .inl (cyI, 2200, .inl m_op)), (marg, .inl (cyI, 2200, .inl m_arg)), (mfacts, .inl (cyI, 8, .inl m_facts)), (mpile, .inl (cyI, 1100, .inl m_pile)), (mstates, .inl (cyI, 2760, .inl m_states)), (mrow, .inl (cyI, 12, .inl g21_mrow)), (mtried, .inl (cyI, 7, .inl m_tried)), (mbestRow, .inl (cyI, 7, .inl m_bestRow))]) C (c_X11_shelfOf l D cyC cyI cyJ cyZ cyO m0 mtold mtape msort mplace mvalue mwords mop marg mnames mhasHabit mfactWords mfacts mpile mstates misMarked mrow mthr mmays mtall mweights mrowOfWare mneededOf mtried mbestRow mdigits m_bestShelf 0 m_thrown m_taped m_size m_at m_fault m_codes m_isNew m_inShelf m_inStack m_inPlace m_bestMany m_goShelf m_goStack m_goLeft m_bestCost m_bestMany m_bestShelf m_bestSet m_told h_m_taped h_m_size h_m_at h_m_fault h_m_codes h_m_isNew h_m_inShelf h_m_inStack h_m_inPlace (by omega) h_m_goShelf h_m_bestMany h_m_bestShelf h_m_bestShelf (by decide) h_m_told) wd_760 wd_624 wd_761 wd_762 wd_763 ⟨by decide, by decide, rfl⟩ rfl ⟨rfl, rfl, (by show (0 : Nat) + 1 ≤ 5 + 1 * (n9 + 1); omega), (by show 8 + (3 + 11) + (0 : Nat) ≤ 113 + 23 * (n9 + 1); omega)⟩ ⟨Nat.le_of_ble_eq_true rfl, Nat.le_of_ble_eq_true rfl⟩ [0, 1] [2, 3, 4, 5, 6, 7, 8, 9] rfl rfl ⟨by decide, by decide, by decide⟩ 0 rfl rfl rfl (Nat.le_of_ble_eq_true rfl) dX11_triesOrders_51 (fun u_23 hw_24 => ?_)
          refine j_eq (ws2 := [(mop, .inl (cyI, 2200, .inl m_op)), (marg, .inl (cyI, 2200, .inl m_arg)), (mfacts, .inl (cyI, 8, .inl m_facts)), (mpile, .inl (cyI, 1100, .inl m_pile)), (mstates, .inl (cyI, 2760, .inl m_states)), (mrow, .inl (cyI, 12, .inl g21_mrow)), (mtried, .inl (cyI, 7, .inl m_tried)), (mbestRow, .inl (cyI, 7, .inl m_bestRow)), (m0, .inr (11, [.int m_thrown, .ref mtape, .int m_taped, .int m_size, .ref msort, .ref mplace, .ref mvalue, .int m_at, .int m_fault, .ref mwords, .ref mtold, .ref mop, .ref marg, .int m_codes, .ref mnames, .ref mhasHabit, .int m_isNew, .ref mfactWords, .ref mfacts, .ref mpile, .ref mstates, .ref misMarked, .int m_inShelf, .int m_inStack, .int m_inPlace, .ref mrow, .int m_bestMany, .ref mthr, .ref mmays, .ref mtall, .ref mweights, .ref mrowOfWare, .ref mneededOf, .int m_goShelf, .int m_goStack, .int m_goLeft, .ref mtried, .ref mbestRow, .int m_bestCost, .int m_bestMany, .int m_bestShelf, .int m_bestSet, .ref mdigits])), (mtold, .inl (cyI, 240, .inl m_told))]) (pc2 := 54) (lv2 := [(3, .int x21_3), (0, .ref m0), (1, .int p0), (2, .int p1)]) (st2 := [.int (u_23.2.1 0), .ref m0]) rfl rfl rfl rfl ?_
          obtain ⟨hw_24_0, hw_24_1⟩ := hw_24
          refine j_callV (pc := 54) (As := [.int (u_23.2.1 0)]) (rest := []) (wr := [(mstates, .inl (cyI, 2760, .inl m_states)), (mtried, .inl (cyI, 7, .inl m_tried)), (mbestRow, .inl (cyI, 7, .inl m_bestRow))]) C (c_X11_whyNot l D cyC cyI cyJ cyZ cyO m0 mtold mop marg mfacts mpile mrow mtape msort mplace mvalue mwords mnames mhasHabit mfactWords mstates misMarked mthr mmays mtall mweights mrowOfWare mneededOf mtried mbestRow mdigits (u_23.2.1 0) m_thrown m_taped m_size m_at m_fault m_codes m_isNew m_inShelf m_inStack m_inPlace m_bestMany m_goShelf m_goStack m_goLeft m_bestCost m_bestMany m_bestShelf m_bestSet m_told m_op m_arg m_facts m_pile g21_mrow h_m_taped h_m_size h_m_at h_m_fault h_m_codes h_m_isNew h_m_inShelf h_m_inStack h_m_inPlace (by omega) h_m_goShelf h_m_bestMany h_m_bestShelf hi_21_1 h_m_told hwf) wd_837 wd_624 wd_838 wd_839 wd_840 ⟨by decide, by decide, rfl⟩ rfl ⟨rfl, rfl, (by show (4 : Nat) + 1 ≤ 5 + 1 * (n9 + 1); omega), (by show 8 + (4 + 11) + (90 : Nat) ≤ 113 + 23 * (n9 + 1); omega)⟩ ⟨Nat.le_of_ble_eq_true rfl, Nat.le_of_ble_eq_true rfl⟩ [8, 9, 0, 1, 2, 3, 5] [4, 6, 7] rfl rfl ⟨by decide, by decide, by decide⟩ 8 rfl rfl rfl (Nat.le_of_ble_eq_true rfl) dX11_triesOrders_54 (fun u_25 hw_26 => ?_)
          refine j_eq (ws2 := [(mstates, .inl (cyI, 2760, .inl m_states)), (mtried, .inl (cyI, 7, .inl m_tried)), (mbestRow, .inl (cyI, 7, .inl m_bestRow)), (m0, .inr (11, [.int m_thrown, .ref mtape, .int m_taped, .int m_size, .ref msort, .ref mplace, .ref mvalue, .int m_at, .int m_fault, .ref mwords, .ref mtold, .ref mop, .ref marg, .int m_codes, .ref mnames, .ref mhasHabit, .int m_isNew, .ref mfactWords, .ref mfacts, .ref mpile, .ref mstates, .ref misMarked, .int m_inShelf, .int m_inStack, .int m_inPlace, .ref mrow, .int m_bestMany, .ref mthr, .ref mmays, .ref mtall, .ref mweights, .ref mrowOfWare, .ref mneededOf, .int m_goShelf, .int m_goStack, .int m_goLeft, .ref mtried, .ref mbestRow, .int m_bestCost, .int m_bestMany, .int m_bestShelf, .int m_bestSet, .ref mdigits])), (mtold, .inl (cyI, 240, .inl m_told)), (mop, .inl (cyI, 2200, .inl m_op)), (marg, .inl (cyI, 2200, .inl m_arg)), (mfacts, .inl (cyI, 8, .inl (u_25.2.2.1 0))), (mpile, .inl (cyI, 1100, .inl (u_25.2.2.1 1))), (mrow, .inl (cyI, 12, .inl g21_mrow))]) (pc2 := 57) (lv2 := [(3, .int x21_3), (0, .ref m0), (1, .int p0), (2, .int p1)]) (st2 := [.int (u_25.2.1 0)]) rfl rfl rfl rfl ?_
          obtain ⟨hw_26_0, hw_26_1⟩ := hw_26
          refine j_if_ne (pc := 57) (tgt := 64) C dX11_triesOrders_57 (by decide) (fun c_27 => ?_) (fun c_27 => ?_)
          · skip
            have el_0 : (0 : Int32).toInt = 0 := rfl
            rw [i_eq] at c_27
            exact j_vret (pc := 64) C hr hk (fun i => [].getD i 0, fun i => [m_bestMany, m_bestCost].getD i 0, fun i => [(u_25.2.2.1 0), (u_25.2.2.1 1), g21_mrow, m_tried, m_bestRow].getD i (fun _ => 0), fun i => [].getD i (fun _ => 0)) rfl (show (0 ≤ (m_bestMany).toInt ∧ (m_bestMany).toInt ≤ 12) ∧ (Iv 12 (0) (11) g21_mrow) ∧ (Iv 7 (0) (11) m_tried) from ⟨by omega, hi_21_1, h_m_tried⟩) [3, 4, 5, 6, 7, 8, 0, 9, 1, 2] (by decide) rfl (by decide) (by decide) dX11_triesOrders_64
          · skip
            have el_0 : (0 : Int32).toInt = 0 := rfl
            rw [i_eq] at c_27
            refine j_aload_n (pc := 60) C dX11_triesOrders_60 rfl 1 rfl ?_
            refine j_callV (pc := 61) (As := []) (rest := []) (wr := [(mop, .inl (cyI, 2200, .inl m_op)), (marg, .inl (cyI, 2200, .inl m_arg)), (mfacts, .inl (cyI, 8, .inl (u_25.2.2.1 0))), (mpile, .inl (cyI, 1100, .inl (u_25.2.2.1 1))), (mrow, .inl (cyI, 12, .inl g21_mrow))]) C (c_X11_takesOrder l D cyC cyI cyJ cyZ cyO m0 mtold mstates mtried mbestRow mtape msort mplace mvalue mwords mop marg mnames mhasHabit mfactWords mfacts mpile misMarked mrow mthr mmays mtall mweights mrowOfWare mneededOf mdigits m_thrown m_taped m_size m_at m_fault m_codes m_isNew m_inShelf m_inStack m_inPlace m_bestMany m_goShelf m_goStack m_goLeft m_bestCost m_bestMany m_bestShelf m_bestSet m_told m_states m_tried m_bestRow h_m_taped h_m_size h_m_at h_m_fault h_m_codes h_m_isNew h_m_inShelf h_m_inStack h_m_inPlace (by omega) h_m_goShelf h_m_bestMany h_m_bestShelf h_m_told h_m_tried h_m_states) wd_882 wd_624 wd_883 wd_884 wd_885 ⟨by decide, by decide, rfl⟩ rfl ⟨rfl, rfl, (by show (2 : Nat) + 1 ≤ 5 + 1 * (n9 + 1); omega), (by show 8 + (5 + 11) + (44 : Nat) ≤ 113 + 23 * (n9 + 1); omega)⟩ ⟨Nat.le_of_ble_eq_true rfl, Nat.le_of_ble_eq_true rfl⟩ [3, 4, 0, 1, 2] [5, 6, 7, 8, 9] rfl rfl ⟨by decide, by decide, by decide⟩ 3 rfl rfl rfl (Nat.le_of_ble_eq_true rfl) dX11_triesOrders_61 (fun u_28 hw_29 => ?_)
            refine j_eq (ws2 := [(mop, .inl (cyI, 2200, .inl m_op)), (marg, .inl (cyI, 2200, .inl m_arg)), (mfacts, .inl (cyI, 8, .inl (u_25.2.2.1 0))), (mpile, .inl (cyI, 1100, .inl (u_25.2.2.1 1))), (mrow, .inl (cyI, 12, .inl g21_mrow)), (m0, .inr (11, [.int m_thrown, .ref mtape, .int m_taped, .int m_size, .ref msort, .ref mplace, .ref mvalue, .int m_at, .int m_fault, .ref mwords, .ref mtold, .ref mop, .ref marg, .int m_codes, .ref mnames, .ref mhasHabit, .int m_isNew, .ref mfactWords, .ref mfacts, .ref mpile, .ref mstates, .ref misMarked, .int m_inShelf, .int m_inStack, .int m_inPlace, .ref mrow, .int m_bestMany, .ref mthr, .ref mmays, .ref mtall, .ref mweights, .ref mrowOfWare, .ref mneededOf, .int m_goShelf, .int m_goStack, .int m_goLeft, .ref mtried, .ref mbestRow, .int (u_28.2.1 0), .int m_bestMany, .int m_bestShelf, .int m_bestSet, .ref mdigits])), (mtold, .inl (cyI, 240, .inl m_told)), (mstates, .inl (cyI, 2760, .inl m_states)), (mtried, .inl (cyI, 7, .inl m_tried)), (mbestRow, .inl (cyI, 7, .inl (u_28.2.2.1 0)))]) (pc2 := 64) (lv2 := [(3, .int x21_3), (0, .ref m0), (1, .int p0), (2, .int p1)]) (st2 := []) rfl rfl rfl rfl ?_
            exact j_vret (pc := 64) C hr hk (fun i => [].getD i 0, fun i => [m_bestMany, (u_28.2.1 0)].getD i 0, fun i => [(u_25.2.2.1 0), (u_25.2.2.1 1), g21_mrow, m_tried, (u_28.2.2.1 0)].getD i (fun _ => 0), fun i => [].getD i (fun _ => 0)) rfl (show (0 ≤ (m_bestMany).toInt ∧ (m_bestMany).toInt ≤ 12) ∧ (Iv 12 (0) (11) g21_mrow) ∧ (Iv 7 (0) (11) m_tried) from ⟨by omega, hi_21_1, h_m_tried⟩) [5, 6, 0, 1, 2, 3, 7, 4, 8, 9] (by decide) rfl (by decide) (by decide) dX11_triesOrders_64
        · skip
          rw [i_le] at c_22
          refine j_aload_n (pc := 26) C dX11_triesOrders_26 rfl 1 rfl ?_
          refine j_get (pc := 27) (ci := 11) (v := .ref mrow) C inw_11 0 rfl rfl 25 (by decide) wd_780 rfl rfl dX11_triesOrders_27 ?_
          refine j_iload_n (pc := 30) C dX11_triesOrders_30 rfl 0 rfl ?_
          refine j_aload_n (pc := 31) C dX11_triesOrders_31 rfl 1 rfl ?_
          refine j_get (pc := 32) (ci := 11) (v := .ref mtried) C inw_11 0 rfl rfl 36 (by decide) wd_880 rfl rfl dX11_triesOrders_32 ?_
          refine j_iload_n (pc := 35) C dX11_triesOrders_35 rfl 0 rfl ?_
          obtain ⟨v_30, ev_30⟩ : ∃ z, m_tried (x21_3).toInt.toNat = z := ⟨_, rfl⟩
          have env_30 : (m_tried (x21_3).toInt.toNat).toInt = v_30.toInt := by rw [ev_30]
          have hv_30 := h_m_tried (x21_3).toInt.toNat (i_lt_n hi_21_0.1 (by omega)); rw [ev_30] at hv_30
          refine j_iald (pc := 36) (v := v_30) (k := (x21_3).toInt.toNat) C 8 1 rfl rfl (i_nn hi_21_0.1) rfl (i_lt_n hi_21_0.1 (by omega)) ev_30 dX11_triesOrders_36 ?_
          obtain ⟨f_31, ef_31⟩ : ∃ z, z = upd g21_mrow (x21_3).toInt.toNat v_30 := ⟨_, rfl⟩
          have hf_31 : Iv 12 (0) (11) f_31 := by rw [ef_31]; exact Iv.upd hi_21_1 (by omega) (by omega)
          refine j_iast (pc := 37) (k := (x21_3).toInt.toNat) (ws' := [(m0, .inr (11, [.int m_thrown, .ref mtape, .int m_taped, .int m_size, .ref msort, .ref mplace, .ref mvalue, .int m_at, .int m_fault, .ref mwords, .ref mtold, .ref mop, .ref marg, .int m_codes, .ref mnames, .ref mhasHabit, .int m_isNew, .ref mfactWords, .ref mfacts, .ref mpile, .ref mstates, .ref misMarked, .int m_inShelf, .int m_inStack, .int m_inPlace, .ref mrow, .int m_bestMany, .ref mthr, .ref mmays, .ref mtall, .ref mweights, .ref mrowOfWare, .ref mneededOf, .int m_goShelf, .int m_goStack, .int m_goLeft, .ref mtried, .ref mbestRow, .int m_bestCost, .int m_bestMany, .int m_bestShelf, .int m_bestSet, .ref mdigits])), (mtold, .inl (cyI, 240, .inl m_told)), (mop, .inl (cyI, 2200, .inl m_op)), (marg, .inl (cyI, 2200, .inl m_arg)), (mfacts, .inl (cyI, 8, .inl m_facts)), (mpile, .inl (cyI, 1100, .inl m_pile)), (mstates, .inl (cyI, 2760, .inl m_states)), (mrow, .inl (cyI, 12, .inl f_31)), (mtried, .inl (cyI, 7, .inl m_tried)), (mbestRow, .inl (cyI, 7, .inl m_bestRow))]) C 7 1 rfl rfl (i_nn hi_21_0.1) rfl (i_lt_n hi_21_0.1 (Int.lt_of_le_of_lt hi_21_0.2 (by decide))) dX11_triesOrders_37 (by rw [ef_31]; rfl) ?_
          obtain ⟨v_32, ev_32⟩ : ∃ z : Int32, x21_3 + 1 = z := ⟨_, rfl⟩
          have el_1 : (1 : Int32).toInt = 1 := rfl
          have hv_32 : v_32.toInt = x21_3.toInt + (1 : Int32).toInt := by rw [← ev_32]; exact fb_addI (by omega) (by omega)
          refine j_iinc (pc := 38) (v := v_32) (lv' := [(3, .int v_32), (0, .ref m0), (1, .int p0), (2, .int p1)]) C dX11_triesOrders_38 0 rfl ev_32 (by decide) rfl ?_
          refine j_goto (pc := 41) (tgt := 18) C dX11_triesOrders_41 (by decide) ?_
          exact j_lv [0, 1, 2, 3] rfl (ih_21 v_32 f_31 (by omega) hf_31 (by omega))
    have el_0 : (0 : Int32).toInt = 0 := rfl
    exact j_lv [0, 1, 2, 3] rfl (loop_21 4096 0 m_row (by decide) h_m_row (by omega))
set_option maxHeartbeats 4000000 in
set_option maxRecDepth 100000 in
theorem S_fam_c_X11_triesOrders : ∀ n9 : Nat, n9 ≤ 7 → S_c_X11_triesOrders n9 := by
  intro n9
  induction n9 with
  | zero => exact fun _ => c_X11_triesOrders_z
  | succ n9 ih =>
    intro h
    have i := ih (by omega)
    exact (fun l D cyC cyI cyJ cyZ cyO m0 mtold mop marg mfacts mpile mstates mrow mtried mbestRow mtape msort mplace mvalue mwords mnames mhasHabit mfactWords misMarked mthr mmays mtall mweights mrowOfWare mneededOf mdigits p0 p1 m_thrown m_taped m_size m_at m_fault m_codes m_isNew m_inShelf m_inStack m_inPlace m_rowMany m_goShelf m_goStack m_goLeft m_bestCost m_bestMany m_bestShelf m_bestSet m_told m_op m_arg m_facts m_pile m_states m_row m_tried m_bestRow h_m_taped h_m_size h_m_at h_m_fault h_m_codes h_m_isNew h_m_inShelf h_m_inStack h_m_inPlace h_m_rowMany h_m_goShelf h_m_bestMany h_m_bestShelf h_m_row h_m_told h_m_tried h_m_states hwf hbm9 hdp9 => c_X11_triesOrders_s l D cyC cyI cyJ cyZ cyO m0 mtold mop marg mfacts mpile mstates mrow mtried mbestRow mtape msort mplace mvalue mwords mnames mhasHabit mfactWords misMarked mthr mmays mtall mweights mrowOfWare mneededOf mdigits p0 p1 m_thrown m_taped m_size m_at m_fault m_codes m_isNew m_inShelf m_inStack m_inPlace m_rowMany m_goShelf m_goStack m_goLeft m_bestCost m_bestMany m_bestShelf m_bestSet m_told m_op m_arg m_facts m_pile m_states m_row m_tried m_bestRow n9 h_m_taped h_m_size h_m_at h_m_fault h_m_codes h_m_isNew h_m_inShelf h_m_inStack h_m_inPlace h_m_rowMany h_m_goShelf h_m_bestMany h_m_bestShelf h_m_row h_m_told h_m_tried h_m_states hwf hbm9 hdp9 (by omega) i)
set_option maxHeartbeats 4000000 in
set_option maxRecDepth 100000 in
theorem c_X11_triesOrders_0 (l : Launch) (D : DG) (cyC cyI cyJ cyZ cyO : ClassId) (m0 : Nat) (mtold : Nat) (mop : Nat) (marg : Nat) (mfacts : Nat) (mpile : Nat) (mstates : Nat) (mrow : Nat) (mtried : Nat) (mbestRow : Nat) (mtape : Nat) (msort : Nat) (mplace : Nat) (mvalue : Nat) (mwords : Nat) (mnames : Nat) (mhasHabit : Nat) (mfactWords : Nat) (misMarked : Nat) (mthr : Nat) (mmays : Nat) (mtall : Nat) (mweights : Nat) (mrowOfWare : Nat) (mneededOf : Nat) (mdigits : Nat) (p0 : Int32) (p1 : Int32) (m_thrown : Int32) (m_taped : Int32) (m_size : Int32) (m_at : Int32) (m_fault : Int32) (m_codes : Int32) (m_isNew : Int32) (m_inShelf : Int32) (m_inStack : Int32) (m_inPlace : Int32) (m_rowMany : Int32) (m_goShelf : Int32) (m_goStack : Int32) (m_goLeft : Int32) (m_bestCost : Int32) (m_bestMany : Int32) (m_bestShelf : Int32) (m_bestSet : Int32) (m_told : Nat → Int32) (m_op : Nat → Int32) (m_arg : Nat → Int32) (m_facts : Nat → Int32) (m_pile : Nat → Int32) (m_states : Nat → Int32) (m_row : Nat → Int32) (m_tried : Nat → Int32) (m_bestRow : Nat → Int32) (h_m_taped : 0 ≤ (m_taped).toInt ∧ (m_taped).toInt ≤ 1000) (h_m_size : 0 ≤ (m_size).toInt ∧ (m_size).toInt ≤ 1000) (h_m_at : 0 ≤ (m_at).toInt ∧ (m_at).toInt ≤ 1000) (h_m_fault : 0 ≤ (m_fault).toInt ∧ (m_fault).toInt ≤ 16005) (h_m_codes : 0 ≤ (m_codes).toInt ∧ (m_codes).toInt ≤ 1000) (h_m_isNew : 0 ≤ (m_isNew).toInt ∧ (m_isNew).toInt ≤ 1) (h_m_inShelf : 0 ≤ (m_inShelf).toInt ∧ (m_inShelf).toInt ≤ 3) (h_m_inStack : 0 ≤ (m_inStack).toInt ∧ (m_inStack).toInt ≤ 7) (h_m_inPlace : 0 ≤ (m_inPlace).toInt ∧ (m_inPlace).toInt ≤ 11) (h_m_rowMany : 0 ≤ (m_rowMany).toInt ∧ (m_rowMany).toInt ≤ 12) (h_m_goShelf : -1 ≤ (m_goShelf).toInt ∧ (m_goShelf).toInt ≤ 3) (h_m_bestMany : 0 ≤ (m_bestMany).toInt ∧ (m_bestMany).toInt ≤ 7) (h_m_bestShelf : 0 ≤ (m_bestShelf).toInt ∧ (m_bestShelf).toInt ≤ 3) (h_m_row : Iv 12 (0) (11) m_row) (h_m_told : TV m_told) (h_m_tried : Iv 7 (0) (11) m_tried) (h_m_states : SV m_states) (hwf : WFm m_told m_op m_arg) (hbm9 : (p0).toInt ≤ (m_bestMany).toInt) (hdp9 : (p0).toInt = 7 - ((7 : Nat) : Int)) : KK l D (TY cyC cyI cyJ cyZ cyO) yX11_triesOrders cX11_triesOrders 4 none ({ frames := 12, cells := 0, slots := 0, locals := 274 } : Room) 0 0 [.ref m0, .int p0, .int p1] [(m0, .inr (11, [.int m_thrown, .ref mtape, .int m_taped, .int m_size, .ref msort, .ref mplace, .ref mvalue, .int m_at, .int m_fault, .ref mwords, .ref mtold, .ref mop, .ref marg, .int m_codes, .ref mnames, .ref mhasHabit, .int m_isNew, .ref mfactWords, .ref mfacts, .ref mpile, .ref mstates, .ref misMarked, .int m_inShelf, .int m_inStack, .int m_inPlace, .ref mrow, .int m_rowMany, .ref mthr, .ref mmays, .ref mtall, .ref mweights, .ref mrowOfWare, .ref mneededOf, .int m_goShelf, .int m_goStack, .int m_goLeft, .ref mtried, .ref mbestRow, .int m_bestCost, .int m_bestMany, .int m_bestShelf, .int m_bestSet, .ref mdigits])), (mtold, .inl (cyI, 240, .inl m_told)), (mop, .inl (cyI, 2200, .inl m_op)), (marg, .inl (cyI, 2200, .inl m_arg)), (mfacts, .inl (cyI, 8, .inl m_facts)), (mpile, .inl (cyI, 1100, .inl m_pile)), (mstates, .inl (cyI, 2760, .inl m_states)), (mrow, .inl (cyI, 12, .inl m_row)), (mtried, .inl (cyI, 7, .inl m_tried)), (mbestRow, .inl (cyI, 7, .inl m_bestRow))] (fun u => none) (fun u => (0 ≤ (u.2.1 0).toInt ∧ (u.2.1 0).toInt ≤ 12) ∧ (Iv 12 (0) (11) (u.2.2.1 2)) ∧ (Iv 7 (0) (11) (u.2.2.1 3))) (fun u => [(m0, .inr (11, [.int m_thrown, .ref mtape, .int m_taped, .int m_size, .ref msort, .ref mplace, .ref mvalue, .int m_at, .int m_fault, .ref mwords, .ref mtold, .ref mop, .ref marg, .int m_codes, .ref mnames, .ref mhasHabit, .int m_isNew, .ref mfactWords, .ref mfacts, .ref mpile, .ref mstates, .ref misMarked, .int m_inShelf, .int m_inStack, .int m_inPlace, .ref mrow, .int (u.2.1 0), .ref mthr, .ref mmays, .ref mtall, .ref mweights, .ref mrowOfWare, .ref mneededOf, .int m_goShelf, .int m_goStack, .int m_goLeft, .ref mtried, .ref mbestRow, .int (u.2.1 1), .int m_bestMany, .int m_bestShelf, .int m_bestSet, .ref mdigits])), (mtold, .inl (cyI, 240, .inl m_told)), (mop, .inl (cyI, 2200, .inl m_op)), (marg, .inl (cyI, 2200, .inl m_arg)), (mfacts, .inl (cyI, 8, .inl (u.2.2.1 0))), (mpile, .inl (cyI, 1100, .inl (u.2.2.1 1))), (mstates, .inl (cyI, 2760, .inl m_states)), (mrow, .inl (cyI, 12, .inl (u.2.2.1 2))), (mtried, .inl (cyI, 7, .inl (u.2.2.1 3))), (mbestRow, .inl (cyI, 7, .inl (u.2.2.1 4)))]) := (S_fam_c_X11_triesOrders 7 (Nat.le_refl _)) l D cyC cyI cyJ cyZ cyO m0 mtold mop marg mfacts mpile mstates mrow mtried mbestRow mtape msort mplace mvalue mwords mnames mhasHabit mfactWords misMarked mthr mmays mtall mweights mrowOfWare mneededOf mdigits p0 p1 m_thrown m_taped m_size m_at m_fault m_codes m_isNew m_inShelf m_inStack m_inPlace m_rowMany m_goShelf m_goStack m_goLeft m_bestCost m_bestMany m_bestShelf m_bestSet m_told m_op m_arg m_facts m_pile m_states m_row m_tried m_bestRow h_m_taped h_m_size h_m_at h_m_fault h_m_codes h_m_isNew h_m_inShelf h_m_inStack h_m_inPlace h_m_rowMany h_m_goShelf h_m_bestMany h_m_bestShelf h_m_row h_m_told h_m_tried h_m_states hwf hbm9 hdp9
set_option maxHeartbeats 4000000 in
set_option maxRecDepth 100000 in
theorem c_X11_best (l : Launch) (D : DG) (cyC cyI cyJ cyZ cyO : ClassId) (m0 : Nat) (mtold : Nat) (mop : Nat) (marg : Nat) (mfacts : Nat) (mpile : Nat) (mstates : Nat) (mrow : Nat) (mtried : Nat) (mbestRow : Nat) (mtape : Nat) (msort : Nat) (mplace : Nat) (mvalue : Nat) (mwords : Nat) (mnames : Nat) (mhasHabit : Nat) (mfactWords : Nat) (misMarked : Nat) (mthr : Nat) (mmays : Nat) (mtall : Nat) (mweights : Nat) (mrowOfWare : Nat) (mneededOf : Nat) (mdigits : Nat) (p0 : Int32) (p1 : Int32) (p2 : Int32) (m_thrown : Int32) (m_taped : Int32) (m_size : Int32) (m_at : Int32) (m_fault : Int32) (m_codes : Int32) (m_isNew : Int32) (m_inShelf : Int32) (m_inStack : Int32) (m_inPlace : Int32) (m_rowMany : Int32) (m_goShelf : Int32) (m_goStack : Int32) (m_goLeft : Int32) (m_bestCost : Int32) (m_bestMany : Int32) (m_bestShelf : Int32) (m_bestSet : Int32) (m_told : Nat → Int32) (m_op : Nat → Int32) (m_arg : Nat → Int32) (m_facts : Nat → Int32) (m_pile : Nat → Int32) (m_states : Nat → Int32) (m_row : Nat → Int32) (m_tried : Nat → Int32) (m_bestRow : Nat → Int32) (h_m_taped : 0 ≤ (m_taped).toInt ∧ (m_taped).toInt ≤ 1000) (h_m_size : 0 ≤ (m_size).toInt ∧ (m_size).toInt ≤ 1000) (h_m_at : 0 ≤ (m_at).toInt ∧ (m_at).toInt ≤ 1000) (h_m_fault : 0 ≤ (m_fault).toInt ∧ (m_fault).toInt ≤ 16005) (h_m_codes : 0 ≤ (m_codes).toInt ∧ (m_codes).toInt ≤ 1000) (h_m_isNew : 0 ≤ (m_isNew).toInt ∧ (m_isNew).toInt ≤ 1) (h_m_inShelf : 0 ≤ (m_inShelf).toInt ∧ (m_inShelf).toInt ≤ 3) (h_m_inStack : 0 ≤ (m_inStack).toInt ∧ (m_inStack).toInt ≤ 7) (h_m_inPlace : 0 ≤ (m_inPlace).toInt ∧ (m_inPlace).toInt ≤ 11) (h_m_rowMany : 0 ≤ (m_rowMany).toInt ∧ (m_rowMany).toInt ≤ 12) (h_m_goShelf : -1 ≤ (m_goShelf).toInt ∧ (m_goShelf).toInt ≤ 3) (h_m_bestMany : 0 ≤ (m_bestMany).toInt ∧ (m_bestMany).toInt ≤ 7) (h_m_bestShelf : 0 ≤ (m_bestShelf).toInt ∧ (m_bestShelf).toInt ≤ 3) (h_m_row : Iv 12 (0) (11) m_row) (h_m_told : TV m_told) (h_m_tried : Iv 7 (0) (11) m_tried) (h_m_states : SV m_states) (hwf : WFm m_told m_op m_arg) : KK l D (TY cyC cyI cyJ cyZ cyO) yX11_best cX11_best 5 (some .int) ({ frames := 13, cells := 0, slots := 0, locals := 297 } : Room) 0 0 [.ref m0, .int p0, .int p1, .int p2] [(m0, .inr (11, [.int m_thrown, .ref mtape, .int m_taped, .int m_size, .ref msort, .ref mplace, .ref mvalue, .int m_at, .int m_fault, .ref mwords, .ref mtold, .ref mop, .ref marg, .int m_codes, .ref mnames, .ref mhasHabit, .int m_isNew, .ref mfactWords, .ref mfacts, .ref mpile, .ref mstates, .ref misMarked, .int m_inShelf, .int m_inStack, .int m_inPlace, .ref mrow, .int m_rowMany, .ref mthr, .ref mmays, .ref mtall, .ref mweights, .ref mrowOfWare, .ref mneededOf, .int m_goShelf, .int m_goStack, .int m_goLeft, .ref mtried, .ref mbestRow, .int m_bestCost, .int m_bestMany, .int m_bestShelf, .int m_bestSet, .ref mdigits])), (mtold, .inl (cyI, 240, .inl m_told)), (mop, .inl (cyI, 2200, .inl m_op)), (marg, .inl (cyI, 2200, .inl m_arg)), (mfacts, .inl (cyI, 8, .inl m_facts)), (mpile, .inl (cyI, 1100, .inl m_pile)), (mstates, .inl (cyI, 2760, .inl m_states)), (mrow, .inl (cyI, 12, .inl m_row)), (mtried, .inl (cyI, 7, .inl m_tried)), (mbestRow, .inl (cyI, 7, .inl m_bestRow))] (fun u => some (.int (u.2.1 0))) (fun u => (0 ≤ (u.2.1 1).toInt ∧ (u.2.1 1).toInt ≤ 12) ∧ (0 ≤ (u.2.1 3).toInt ∧ (u.2.1 3).toInt ≤ 7) ∧ (0 ≤ (u.2.1 4).toInt ∧ (u.2.1 4).toInt ≤ 3) ∧ (Iv 12 (0) (11) (u.2.2.1 2)) ∧ (Iv 7 (0) (11) (u.2.2.1 3))) (fun u => [(m0, .inr (11, [.int 0, .ref mtape, .int m_taped, .int m_size, .ref msort, .ref mplace, .ref mvalue, .int m_at, .int m_fault, .ref mwords, .ref mtold, .ref mop, .ref marg, .int m_codes, .ref mnames, .ref mhasHabit, .int m_isNew, .ref mfactWords, .ref mfacts, .ref mpile, .ref mstates, .ref misMarked, .int m_inShelf, .int m_inStack, .int m_inPlace, .ref mrow, .int (u.2.1 1), .ref mthr, .ref mmays, .ref mtall, .ref mweights, .ref mrowOfWare, .ref mneededOf, .int m_goShelf, .int m_goStack, .int m_goLeft, .ref mtried, .ref mbestRow, .int (u.2.1 2), .int (u.2.1 3), .int (u.2.1 4), .int (u.2.1 5), .ref mdigits])), (mtold, .inl (cyI, 240, .inl m_told)), (mop, .inl (cyI, 2200, .inl m_op)), (marg, .inl (cyI, 2200, .inl m_arg)), (mfacts, .inl (cyI, 8, .inl (u.2.2.1 0))), (mpile, .inl (cyI, 1100, .inl (u.2.2.1 1))), (mstates, .inl (cyI, 2760, .inl m_states)), (mrow, .inl (cyI, 12, .inl (u.2.2.1 2))), (mtried, .inl (cyI, 7, .inl (u.2.2.1 3))), (mbestRow, .inl (cyI, 7, .inl (u.2.2.1 4)))]) := by
  refine KK.of (lv0 := [(0, .ref m0), (1, .int p0), (2, .int p1), (3, .int p2)]) (by decide) rfl (Nat.le_of_ble_eq_true rfl) ?_
  intro p e s m args below meth c A C hr hk hin
  refine j_aload_n (pc := 0) C dX11_best_0 rfl 0 rfl ?_
  refine j_iconst (pc := 1) (v := 0) C dX11_best_1 (by decide) ?_
  refine j_put (pc := 2) (ci := 11) (v := .int 0) (ws' := [(m0, .inr (11, [.int 0, .ref mtape, .int m_taped, .int m_size, .ref msort, .ref mplace, .ref mvalue, .int m_at, .int m_fault, .ref mwords, .ref mtold, .ref mop, .ref marg, .int m_codes, .ref mnames, .ref mhasHabit, .int m_isNew, .ref mfactWords, .ref mfacts, .ref mpile, .ref mstates, .ref misMarked, .int m_inShelf, .int m_inStack, .int m_inPlace, .ref mrow, .int m_rowMany, .ref mthr, .ref mmays, .ref mtall, .ref mweights, .ref mrowOfWare, .ref mneededOf, .int m_goShelf, .int m_goStack, .int m_goLeft, .ref mtried, .ref mbestRow, .int m_bestCost, .int m_bestMany, .int m_bestShelf, .int m_bestSet, .ref mdigits])), (mtold, .inl (cyI, 240, .inl m_told)), (mop, .inl (cyI, 2200, .inl m_op)), (marg, .inl (cyI, 2200, .inl m_arg)), (mfacts, .inl (cyI, 8, .inl m_facts)), (mpile, .inl (cyI, 1100, .inl m_pile)), (mstates, .inl (cyI, 2760, .inl m_states)), (mrow, .inl (cyI, 12, .inl m_row)), (mtried, .inl (cyI, 7, .inl m_tried)), (mbestRow, .inl (cyI, 7, .inl m_bestRow))]) C inw_11 0 rfl rfl 0 (by decide) wd_629 rfl tyX11_ok nmX11 rfl (tyX11_ok 0 (by decide)) rfl rfl (Nat.le_of_ble_eq_true rfl) dX11_best_2 rfl ?_
  refine j_aload_n (pc := 5) C dX11_best_5 rfl 0 rfl ?_
  refine j_iconst (pc := 6) (v := 0) C dX11_best_6 (by decide) ?_
  refine j_iload_n (pc := 7) C dX11_best_7 rfl 1 rfl ?_
  refine j_iload_n (pc := 8) C dX11_best_8 rfl 2 rfl ?_
  refine j_callV (pc := 9) (As := [.int 0, .int p0, .int p1]) (rest := []) (wr := [(mop, .inl (cyI, 2200, .inl m_op)), (marg, .inl (cyI, 2200, .inl m_arg)), (mfacts, .inl (cyI, 8, .inl m_facts)), (mpile, .inl (cyI, 1100, .inl m_pile)), (mrow, .inl (cyI, 12, .inl m_row)), (mtried, .inl (cyI, 7, .inl m_tried)), (mbestRow, .inl (cyI, 7, .inl m_bestRow))]) C (c_X11_isStack_0 l D cyC cyI cyJ cyZ cyO m0 mtold mstates mtape msort mplace mvalue mwords mop marg mnames mhasHabit mfactWords mfacts mpile misMarked mrow mthr mmays mtall mweights mrowOfWare mneededOf mtried mbestRow mdigits p0 p1 0 m_taped m_size m_at m_fault m_codes m_isNew m_inShelf m_inStack m_inPlace m_rowMany m_goShelf m_goStack m_goLeft m_bestCost m_bestMany m_bestShelf m_bestSet m_told m_states h_m_taped h_m_size h_m_at h_m_fault h_m_codes h_m_isNew h_m_inShelf h_m_inStack h_m_inPlace h_m_rowMany h_m_goShelf h_m_bestMany h_m_bestShelf h_m_told h_m_states) wd_821 wd_624 wd_822 wd_823 wd_824 ⟨by decide, by decide, rfl⟩ rfl ⟨rfl, rfl, by decide, by decide⟩ ⟨by decide, by decide⟩ [0, 1, 6] [2, 3, 4, 5, 7, 8, 9] rfl rfl ⟨by decide, by decide, by decide⟩ 0 rfl rfl rfl (Nat.le_of_ble_eq_true rfl) dX11_best_9 (fun u_1 hw_2 => ?_)
  refine j_eq (ws2 := [(mop, .inl (cyI, 2200, .inl m_op)), (marg, .inl (cyI, 2200, .inl m_arg)), (mfacts, .inl (cyI, 8, .inl m_facts)), (mpile, .inl (cyI, 1100, .inl m_pile)), (mrow, .inl (cyI, 12, .inl m_row)), (mtried, .inl (cyI, 7, .inl m_tried)), (mbestRow, .inl (cyI, 7, .inl m_bestRow)), (m0, .inr (11, [.int 0, .ref mtape, .int m_taped, .int m_size, .ref msort, .ref mplace, .ref mvalue, .int m_at, .int m_fault, .ref mwords, .ref mtold, .ref mop, .ref marg, .int m_codes, .ref mnames, .ref mhasHabit, .int m_isNew, .ref mfactWords, .ref mfacts, .ref mpile, .ref mstates, .ref misMarked, .int m_inShelf, .int m_inStack, .int m_inPlace, .ref mrow, .int m_rowMany, .ref mthr, .ref mmays, .ref mtall, .ref mweights, .ref mrowOfWare, .ref mneededOf, .int m_goShelf, .int m_goStack, .int m_goLeft, .ref mtried, .ref mbestRow, .int m_bestCost, .int m_bestMany, .int m_bestShelf, .int m_bestSet, .ref mdigits])), (mtold, .inl (cyI, 240, .inl m_told)), (mstates, .inl (cyI, 2760, .inl m_states))]) (pc2 := 12) (lv2 := [(0, .ref m0), (1, .int p0), (2, .int p1), (3, .int p2)]) (st2 := [.int (u_1.2.1 0)]) rfl rfl rfl rfl ?_
  obtain ⟨hw_2_0, hw_2_1, hw_2_2⟩ := hw_2
  refine j_if_eq (pc := 12) (tgt := 50) C dX11_best_12 (by decide) (fun c_3 => ?_) (fun c_3 => ?_)
  · skip
    have el_0 : (0 : Int32).toInt = 0 := rfl
    rw [i_eq] at c_3
    refine j_iconst (pc := 50) (v := (-1)) C dX11_best_50 (by decide) ?_
    exact j_iret (pc := 51) C hr hk (fun i => [].getD i 0, fun i => [(-1), m_rowMany, m_bestCost, m_bestMany, m_bestShelf, m_bestSet].getD i 0, fun i => [m_facts, m_pile, m_row, m_tried, m_bestRow].getD i (fun _ => 0), fun i => [].getD i (fun _ => 0)) rfl (show (0 ≤ (m_rowMany).toInt ∧ (m_rowMany).toInt ≤ 12) ∧ (0 ≤ (m_bestMany).toInt ∧ (m_bestMany).toInt ≤ 7) ∧ (0 ≤ (m_bestShelf).toInt ∧ (m_bestShelf).toInt ≤ 3) ∧ (Iv 12 (0) (11) m_row) ∧ (Iv 7 (0) (11) m_tried) from ⟨h_m_rowMany, h_m_bestMany, h_m_bestShelf, h_m_row, h_m_tried⟩) [7, 8, 0, 1, 2, 3, 9, 4, 5, 6] (by decide) rfl (by decide) (by decide) dX11_best_51
  · skip
    have el_0 : (0 : Int32).toInt = 0 := rfl
    rw [i_eq] at c_3
    have k0c_3 : ((u_1.2.1 0)).toInt = 1 := by omega
    refine j_aload_n (pc := 15) C dX11_best_15 rfl 0 rfl ?_
    refine j_get (pc := 16) (ci := 11) (v := .ref mstates) C inw_11 7 rfl rfl 20 (by decide) wd_764 rfl rfl dX11_best_16 ?_
    refine j_iconst (pc := 19) (v := 0) C dX11_best_19 (by decide) ?_
    refine j_iload_n (pc := 20) C dX11_best_20 rfl 1 rfl ?_
    refine j_iload_n (pc := 21) C dX11_best_21 rfl 2 rfl ?_
    refine j_callS (pc := 22) (As := [.int 0, .int p0, .int p1]) (rest := [.ref mstates]) (wr := [(mop, .inl (cyI, 2200, .inl m_op)), (marg, .inl (cyI, 2200, .inl m_arg)), (mfacts, .inl (cyI, 8, .inl m_facts)), (mpile, .inl (cyI, 1100, .inl m_pile)), (mrow, .inl (cyI, 12, .inl m_row)), (mtried, .inl (cyI, 7, .inl m_tried)), (mbestRow, .inl (cyI, 7, .inl m_bestRow)), (m0, .inr (11, [.int 0, .ref mtape, .int m_taped, .int m_size, .ref msort, .ref mplace, .ref mvalue, .int m_at, .int m_fault, .ref mwords, .ref mtold, .ref mop, .ref marg, .int m_codes, .ref mnames, .ref mhasHabit, .int m_isNew, .ref mfactWords, .ref mfacts, .ref mpile, .ref mstates, .ref misMarked, .int m_inShelf, .int m_inStack, .int m_inPlace, .ref mrow, .int m_rowMany, .ref mthr, .ref mmays, .ref mtall, .ref mweights, .ref mrowOfWare, .ref mneededOf, .int m_goShelf, .int m_goStack, .int m_goLeft, .ref mtried, .ref mbestRow, .int m_bestCost, .int m_bestMany, .int m_bestShelf, .int m_bestSet, .ref mdigits])), (mtold, .inl (cyI, 240, .inl m_told)), (mstates, .inl (cyI, 2760, .inl m_states))]) C (c_X11_stackAt l D cyC cyI cyJ cyZ cyO 0 p0 p1 (by decide) (by omega) (by omega)) wd_773 wd_624 wd_774 wd_775 ⟨by decide, by decide, rfl⟩ rfl ⟨rfl, rfl, by decide, by decide⟩ ⟨by decide, by decide⟩ [] [0, 1, 2, 3, 4, 5, 6, 7, 8, 9] rfl rfl ⟨by decide, by decide, by decide⟩ rfl (Nat.le_of_ble_eq_true rfl) dX11_best_22 (fun u_4 hw_5 => ?_)
    refine j_eq (ws2 := [(mop, .inl (cyI, 2200, .inl m_op)), (marg, .inl (cyI, 2200, .inl m_arg)), (mfacts, .inl (cyI, 8, .inl m_facts)), (mpile, .inl (cyI, 1100, .inl m_pile)), (mrow, .inl (cyI, 12, .inl m_row)), (mtried, .inl (cyI, 7, .inl m_tried)), (mbestRow, .inl (cyI, 7, .inl m_bestRow)), (m0, .inr (11, [.int 0, .ref mtape, .int m_taped, .int m_size, .ref msort, .ref mplace, .ref mvalue, .int m_at, .int m_fault, .ref mwords, .ref mtold, .ref mop, .ref marg, .int m_codes, .ref mnames, .ref mhasHabit, .int m_isNew, .ref mfactWords, .ref mfacts, .ref mpile, .ref mstates, .ref misMarked, .int m_inShelf, .int m_inStack, .int m_inPlace, .ref mrow, .int m_rowMany, .ref mthr, .ref mmays, .ref mtall, .ref mweights, .ref mrowOfWare, .ref mneededOf, .int m_goShelf, .int m_goStack, .int m_goLeft, .ref mtried, .ref mbestRow, .int m_bestCost, .int m_bestMany, .int m_bestShelf, .int m_bestSet, .ref mdigits])), (mtold, .inl (cyI, 240, .inl m_told)), (mstates, .inl (cyI, 2760, .inl m_states))]) (pc2 := 25) (lv2 := [(0, .ref m0), (1, .int p0), (2, .int p1), (3, .int p2)]) (st2 := [.int (u_4.2.1 0), .ref mstates]) rfl rfl rfl rfl ?_
    obtain ⟨hw_5_0, hw_5_1⟩ := hw_5
    have el_0 : (0 : Int32).toInt = 0 := rfl
    have ad_6 : AD (u_4.2.1 0).toInt := ⟨0, (p0).toInt.toNat, (p1).toInt.toNat, by decide, by omega, by omega, by omega⟩
    obtain ⟨v_7, ev_7⟩ : ∃ z, m_states ((u_4.2.1 0)).toInt.toNat = z := ⟨_, rfl⟩
    have env_7 : (m_states ((u_4.2.1 0)).toInt.toNat).toInt = v_7.toInt := by rw [ev_7]
    have hv_7 : 0 ≤ v_7.toInt ∧ v_7.toInt ≤ 12 := by rw [← ev_7]; exact SV.siz h_m_states ad_6 (by omega)
    refine j_iald (pc := 25) (v := v_7) (k := ((u_4.2.1 0)).toInt.toNat) C 9 1 rfl rfl (i_nn (by omega)) rfl (i_lt_n (by omega) (by omega)) ev_7 dX11_best_25 ?_
    refine j_bipush (pc := 26) (v := 7) C dX11_best_26 (by decide) ?_
    refine j_icmp_gt (pc := 28) (tgt := 50) C dX11_best_28 (by decide) (fun c_8 => ?_) (fun c_8 => ?_)
    · skip
      have el_7 : (7 : Int32).toInt = 7 := rfl
      rw [i_lt] at c_8
      refine j_iconst (pc := 50) (v := (-1)) C dX11_best_50 (by decide) ?_
      exact j_iret (pc := 51) C hr hk (fun i => [].getD i 0, fun i => [(-1), m_rowMany, m_bestCost, m_bestMany, m_bestShelf, m_bestSet].getD i 0, fun i => [m_facts, m_pile, m_row, m_tried, m_bestRow].getD i (fun _ => 0), fun i => [].getD i (fun _ => 0)) rfl (show (0 ≤ (m_rowMany).toInt ∧ (m_rowMany).toInt ≤ 12) ∧ (0 ≤ (m_bestMany).toInt ∧ (m_bestMany).toInt ≤ 7) ∧ (0 ≤ (m_bestShelf).toInt ∧ (m_bestShelf).toInt ≤ 3) ∧ (Iv 12 (0) (11) m_row) ∧ (Iv 7 (0) (11) m_tried) from ⟨h_m_rowMany, h_m_bestMany, h_m_bestShelf, h_m_row, h_m_tried⟩) [7, 8, 0, 1, 2, 3, 9, 4, 5, 6] (by decide) rfl (by decide) (by decide) dX11_best_51
    · skip
      have el_7 : (7 : Int32).toInt = 7 := rfl
      rw [i_lt] at c_8
      refine j_iload_n (pc := 31) C dX11_best_31 rfl 3 rfl ?_
      refine j_iconst (pc := 32) (v := 0) C dX11_best_32 (by decide) ?_
      refine j_aload_n (pc := 33) C dX11_best_33 rfl 0 rfl ?_
      refine j_get (pc := 34) (ci := 11) (v := .ref mstates) C inw_11 7 rfl rfl 20 (by decide) wd_764 rfl rfl dX11_best_34 ?_
      refine j_iconst (pc := 37) (v := 0) C dX11_best_37 (by decide) ?_
      refine j_iload_n (pc := 38) C dX11_best_38 rfl 1 rfl ?_
      refine j_iload_n (pc := 39) C dX11_best_39 rfl 2 rfl ?_
      refine j_callS (pc := 40) (As := [.int 0, .int p0, .int p1]) (rest := [.ref mstates, .int 0, .int p2]) (wr := [(mop, .inl (cyI, 2200, .inl m_op)), (marg, .inl (cyI, 2200, .inl m_arg)), (mfacts, .inl (cyI, 8, .inl m_facts)), (mpile, .inl (cyI, 1100, .inl m_pile)), (mrow, .inl (cyI, 12, .inl m_row)), (mtried, .inl (cyI, 7, .inl m_tried)), (mbestRow, .inl (cyI, 7, .inl m_bestRow)), (m0, .inr (11, [.int 0, .ref mtape, .int m_taped, .int m_size, .ref msort, .ref mplace, .ref mvalue, .int m_at, .int m_fault, .ref mwords, .ref mtold, .ref mop, .ref marg, .int m_codes, .ref mnames, .ref mhasHabit, .int m_isNew, .ref mfactWords, .ref mfacts, .ref mpile, .ref mstates, .ref misMarked, .int m_inShelf, .int m_inStack, .int m_inPlace, .ref mrow, .int m_rowMany, .ref mthr, .ref mmays, .ref mtall, .ref mweights, .ref mrowOfWare, .ref mneededOf, .int m_goShelf, .int m_goStack, .int m_goLeft, .ref mtried, .ref mbestRow, .int m_bestCost, .int m_bestMany, .int m_bestShelf, .int m_bestSet, .ref mdigits])), (mtold, .inl (cyI, 240, .inl m_told)), (mstates, .inl (cyI, 2760, .inl m_states))]) C (c_X11_stackAt l D cyC cyI cyJ cyZ cyO 0 p0 p1 (by decide) (by omega) (by omega)) wd_773 wd_624 wd_774 wd_775 ⟨by decide, by decide, rfl⟩ rfl ⟨rfl, rfl, by decide, by decide⟩ ⟨by decide, by decide⟩ [] [0, 1, 2, 3, 4, 5, 6, 7, 8, 9] rfl rfl ⟨by decide, by decide, by decide⟩ rfl (Nat.le_of_ble_eq_true rfl) dX11_best_40 (fun u_9 hw_10 => ?_)
      refine j_eq (ws2 := [(mop, .inl (cyI, 2200, .inl m_op)), (marg, .inl (cyI, 2200, .inl m_arg)), (mfacts, .inl (cyI, 8, .inl m_facts)), (mpile, .inl (cyI, 1100, .inl m_pile)), (mrow, .inl (cyI, 12, .inl m_row)), (mtried, .inl (cyI, 7, .inl m_tried)), (mbestRow, .inl (cyI, 7, .inl m_bestRow)), (m0, .inr (11, [.int 0, .ref mtape, .int m_taped, .int m_size, .ref msort, .ref mplace, .ref mvalue, .int m_at, .int m_fault, .ref mwords, .ref mtold, .ref mop, .ref marg, .int m_codes, .ref mnames, .ref mhasHabit, .int m_isNew, .ref mfactWords, .ref mfacts, .ref mpile, .ref mstates, .ref misMarked, .int m_inShelf, .int m_inStack, .int m_inPlace, .ref mrow, .int m_rowMany, .ref mthr, .ref mmays, .ref mtall, .ref mweights, .ref mrowOfWare, .ref mneededOf, .int m_goShelf, .int m_goStack, .int m_goLeft, .ref mtried, .ref mbestRow, .int m_bestCost, .int m_bestMany, .int m_bestShelf, .int m_bestSet, .ref mdigits])), (mtold, .inl (cyI, 240, .inl m_told)), (mstates, .inl (cyI, 2760, .inl m_states))]) (pc2 := 43) (lv2 := [(0, .ref m0), (1, .int p0), (2, .int p1), (3, .int p2)]) (st2 := [.int (u_9.2.1 0), .ref mstates, .int 0, .int p2]) rfl rfl rfl rfl ?_
      obtain ⟨hw_10_0, hw_10_1⟩ := hw_10
      have el_0 : (0 : Int32).toInt = 0 := rfl
      have ad_11 : AD (u_9.2.1 0).toInt := ⟨0, (p0).toInt.toNat, (p1).toInt.toNat, by decide, by omega, by omega, by omega⟩
      obtain ⟨v_12, ev_12⟩ : ∃ z, m_states ((u_9.2.1 0)).toInt.toNat = z := ⟨_, rfl⟩
      have env_12 : (m_states ((u_9.2.1 0)).toInt.toNat).toInt = v_12.toInt := by rw [ev_12]
      have hv_12 : 0 ≤ v_12.toInt ∧ v_12.toInt ≤ 12 := by rw [← ev_12]; exact SV.siz h_m_states ad_11 (by omega)
      refine j_iald (pc := 43) (v := v_12) (k := ((u_9.2.1 0)).toInt.toNat) C 9 1 rfl rfl (i_nn (by omega)) rfl (i_lt_n (by omega) (by omega)) ev_12 dX11_best_43 ?_
      have hv9 : v_12.toInt = v_7.toInt := by rw [← ev_12, show ((u_9.2.1 0)).toInt.toNat = ((u_4.2.1 0)).toInt.toNat from (by omega), ev_7]
      refine j_callS (pc := 44) (As := [.int p2, .int 0, .int v_12]) (rest := []) (wr := [(mop, .inl (cyI, 2200, .inl m_op)), (marg, .inl (cyI, 2200, .inl m_arg)), (mfacts, .inl (cyI, 8, .inl m_facts)), (mpile, .inl (cyI, 1100, .inl m_pile)), (mrow, .inl (cyI, 12, .inl m_row)), (mtried, .inl (cyI, 7, .inl m_tried)), (mbestRow, .inl (cyI, 7, .inl m_bestRow)), (m0, .inr (11, [.int 0, .ref mtape, .int m_taped, .int m_size, .ref msort, .ref mplace, .ref mvalue, .int m_at, .int m_fault, .ref mwords, .ref mtold, .ref mop, .ref marg, .int m_codes, .ref mnames, .ref mhasHabit, .int m_isNew, .ref mfactWords, .ref mfacts, .ref mpile, .ref mstates, .ref misMarked, .int m_inShelf, .int m_inStack, .int m_inPlace, .ref mrow, .int m_rowMany, .ref mthr, .ref mmays, .ref mtall, .ref mweights, .ref mrowOfWare, .ref mneededOf, .int m_goShelf, .int m_goStack, .int m_goLeft, .ref mtried, .ref mbestRow, .int m_bestCost, .int m_bestMany, .int m_bestShelf, .int m_bestSet, .ref mdigits])), (mtold, .inl (cyI, 240, .inl m_told)), (mstates, .inl (cyI, 2760, .inl m_states))]) C (c_X11_within_f l D cyC cyI cyJ cyZ cyO p2 0 v_12) wd_818 wd_624 wd_819 wd_820 ⟨by decide, by decide, rfl⟩ rfl ⟨rfl, rfl, by decide, by decide⟩ ⟨by decide, by decide⟩ [] [0, 1, 2, 3, 4, 5, 6, 7, 8, 9] rfl rfl ⟨by decide, by decide, by decide⟩ rfl (Nat.le_of_ble_eq_true rfl) dX11_best_44 (fun u_13 hw_14 => ?_)
      refine j_eq (ws2 := [(mop, .inl (cyI, 2200, .inl m_op)), (marg, .inl (cyI, 2200, .inl m_arg)), (mfacts, .inl (cyI, 8, .inl m_facts)), (mpile, .inl (cyI, 1100, .inl m_pile)), (mrow, .inl (cyI, 12, .inl m_row)), (mtried, .inl (cyI, 7, .inl m_tried)), (mbestRow, .inl (cyI, 7, .inl m_bestRow)), (m0, .inr (11, [.int 0, .ref mtape, .int m_taped, .int m_size, .ref msort, .ref mplace, .ref mvalue, .int m_at, .int m_fault, .ref mwords, .ref mtold, .ref mop, .ref marg, .int m_codes, .ref mnames, .ref mhasHabit, .int m_isNew, .ref mfactWords, .ref mfacts, .ref mpile, .ref mstates, .ref misMarked, .int m_inShelf, .int m_inStack, .int m_inPlace, .ref mrow, .int m_rowMany, .ref mthr, .ref mmays, .ref mtall, .ref mweights, .ref mrowOfWare, .ref mneededOf, .int m_goShelf, .int m_goStack, .int m_goLeft, .ref mtried, .ref mbestRow, .int m_bestCost, .int m_bestMany, .int m_bestShelf, .int m_bestSet, .ref mdigits])), (mtold, .inl (cyI, 240, .inl m_told)), (mstates, .inl (cyI, 2760, .inl m_states))]) (pc2 := 47) (lv2 := [(0, .ref m0), (1, .int p0), (2, .int p1), (3, .int p2)]) (st2 := [.int (u_13.2.1 0)]) rfl rfl rfl rfl ?_
      obtain ⟨hw_14_0, hw_14_1, hw_14_2⟩ := hw_14
      have el_0 : (0 : Int32).toInt = 0 := rfl
      refine j_if_ne (pc := 47) (tgt := 52) C dX11_best_47 (by decide) (fun c_15 => ?_) (fun c_15 => ?_)
      · skip
        have el_0 : (0 : Int32).toInt = 0 := rfl
        rw [i_eq] at c_15
        have k0c_15 : ((u_13.2.1 0)).toInt = 1 := by omega
        refine j_aload_n (pc := 52) C dX11_best_52 rfl 0 rfl ?_
        refine j_iconst (pc := 53) (v := 0) C dX11_best_53 (by decide) ?_
        refine j_iload_n (pc := 54) C dX11_best_54 rfl 1 rfl ?_
        refine j_iload_n (pc := 55) C dX11_best_55 rfl 2 rfl ?_
        refine j_callS (pc := 56) (As := [.int 0, .int p0, .int p1]) (rest := [.ref m0]) (wr := [(mop, .inl (cyI, 2200, .inl m_op)), (marg, .inl (cyI, 2200, .inl m_arg)), (mfacts, .inl (cyI, 8, .inl m_facts)), (mpile, .inl (cyI, 1100, .inl m_pile)), (mrow, .inl (cyI, 12, .inl m_row)), (mtried, .inl (cyI, 7, .inl m_tried)), (mbestRow, .inl (cyI, 7, .inl m_bestRow)), (m0, .inr (11, [.int 0, .ref mtape, .int m_taped, .int m_size, .ref msort, .ref mplace, .ref mvalue, .int m_at, .int m_fault, .ref mwords, .ref mtold, .ref mop, .ref marg, .int m_codes, .ref mnames, .ref mhasHabit, .int m_isNew, .ref mfactWords, .ref mfacts, .ref mpile, .ref mstates, .ref misMarked, .int m_inShelf, .int m_inStack, .int m_inPlace, .ref mrow, .int m_rowMany, .ref mthr, .ref mmays, .ref mtall, .ref mweights, .ref mrowOfWare, .ref mneededOf, .int m_goShelf, .int m_goStack, .int m_goLeft, .ref mtried, .ref mbestRow, .int m_bestCost, .int m_bestMany, .int m_bestShelf, .int m_bestSet, .ref mdigits])), (mtold, .inl (cyI, 240, .inl m_told)), (mstates, .inl (cyI, 2760, .inl m_states))]) C (c_X11_stackAt l D cyC cyI cyJ cyZ cyO 0 p0 p1 (by decide) (by omega) (by omega)) wd_773 wd_624 wd_774 wd_775 ⟨by decide, by decide, rfl⟩ rfl ⟨rfl, rfl, by decide, by decide⟩ ⟨by decide, by decide⟩ [] [0, 1, 2, 3, 4, 5, 6, 7, 8, 9] rfl rfl ⟨by decide, by decide, by decide⟩ rfl (Nat.le_of_ble_eq_true rfl) dX11_best_56 (fun u_16 hw_17 => ?_)
        refine j_eq (ws2 := [(mop, .inl (cyI, 2200, .inl m_op)), (marg, .inl (cyI, 2200, .inl m_arg)), (mfacts, .inl (cyI, 8, .inl m_facts)), (mpile, .inl (cyI, 1100, .inl m_pile)), (mrow, .inl (cyI, 12, .inl m_row)), (mtried, .inl (cyI, 7, .inl m_tried)), (mbestRow, .inl (cyI, 7, .inl m_bestRow)), (m0, .inr (11, [.int 0, .ref mtape, .int m_taped, .int m_size, .ref msort, .ref mplace, .ref mvalue, .int m_at, .int m_fault, .ref mwords, .ref mtold, .ref mop, .ref marg, .int m_codes, .ref mnames, .ref mhasHabit, .int m_isNew, .ref mfactWords, .ref mfacts, .ref mpile, .ref mstates, .ref misMarked, .int m_inShelf, .int m_inStack, .int m_inPlace, .ref mrow, .int m_rowMany, .ref mthr, .ref mmays, .ref mtall, .ref mweights, .ref mrowOfWare, .ref mneededOf, .int m_goShelf, .int m_goStack, .int m_goLeft, .ref mtried, .ref mbestRow, .int m_bestCost, .int m_bestMany, .int m_bestShelf, .int m_bestSet, .ref mdigits])), (mtold, .inl (cyI, 240, .inl m_told)), (mstates, .inl (cyI, 2760, .inl m_states))]) (pc2 := 59) (lv2 := [(0, .ref m0), (1, .int p0), (2, .int p1), (3, .int p2)]) (st2 := [.int (u_16.2.1 0), .ref m0]) rfl rfl rfl rfl ?_
        obtain ⟨hw_17_0, hw_17_1⟩ := hw_17
        have el_0 : (0 : Int32).toInt = 0 := rfl
        have ad_18 : AD (u_16.2.1 0).toInt := ⟨0, (p0).toInt.toNat, (p1).toInt.toNat, by decide, by omega, by omega, by omega⟩
        refine j_callV (pc := 59) (As := [.int (u_16.2.1 0)]) (rest := []) (wr := [(mop, .inl (cyI, 2200, .inl m_op)), (marg, .inl (cyI, 2200, .inl m_arg)), (mfacts, .inl (cyI, 8, .inl m_facts)), (mpile, .inl (cyI, 1100, .inl m_pile)), (mtried, .inl (cyI, 7, .inl m_tried)), (mbestRow, .inl (cyI, 7, .inl m_bestRow)), (mtold, .inl (cyI, 240, .inl m_told))]) C (c_X11_takesRow l D cyC cyI cyJ cyZ cyO m0 mstates mrow mtape msort mplace mvalue mwords mtold mop marg mnames mhasHabit mfactWords mfacts mpile misMarked mthr mmays mtall mweights mrowOfWare mneededOf mtried mbestRow mdigits (u_16.2.1 0) 0 m_taped m_size m_at m_fault m_codes m_isNew m_inShelf m_inStack m_inPlace m_rowMany m_goShelf m_goStack m_goLeft m_bestCost m_bestMany m_bestShelf m_bestSet m_states m_row h_m_taped h_m_size h_m_at h_m_fault h_m_codes h_m_isNew h_m_inShelf h_m_inStack h_m_inPlace h_m_rowMany h_m_goShelf h_m_bestMany h_m_bestShelf (by omega) h_m_row h_m_states ad_18) wd_781 wd_624 wd_782 wd_783 wd_784 ⟨by decide, by decide, rfl⟩ rfl ⟨rfl, rfl, by decide, by decide⟩ ⟨by decide, by decide⟩ [7, 9, 4] [0, 1, 2, 3, 5, 6, 8] rfl rfl ⟨by decide, by decide, by decide⟩ 7 rfl rfl rfl (Nat.le_of_ble_eq_true rfl) dX11_best_59 (fun u_19 hw_20 => ?_)
        refine j_eq (ws2 := [(mop, .inl (cyI, 2200, .inl m_op)), (marg, .inl (cyI, 2200, .inl m_arg)), (mfacts, .inl (cyI, 8, .inl m_facts)), (mpile, .inl (cyI, 1100, .inl m_pile)), (mtried, .inl (cyI, 7, .inl m_tried)), (mbestRow, .inl (cyI, 7, .inl m_bestRow)), (mtold, .inl (cyI, 240, .inl m_told)), (m0, .inr (11, [.int 0, .ref mtape, .int m_taped, .int m_size, .ref msort, .ref mplace, .ref mvalue, .int m_at, .int m_fault, .ref mwords, .ref mtold, .ref mop, .ref marg, .int m_codes, .ref mnames, .ref mhasHabit, .int m_isNew, .ref mfactWords, .ref mfacts, .ref mpile, .ref mstates, .ref misMarked, .int m_inShelf, .int m_inStack, .int m_inPlace, .ref mrow, .int (u_19.2.1 0), .ref mthr, .ref mmays, .ref mtall, .ref mweights, .ref mrowOfWare, .ref mneededOf, .int m_goShelf, .int m_goStack, .int m_goLeft, .ref mtried, .ref mbestRow, .int m_bestCost, .int m_bestMany, .int m_bestShelf, .int m_bestSet, .ref mdigits])), (mstates, .inl (cyI, 2760, .inl m_states)), (mrow, .inl (cyI, 12, .inl (u_19.2.2.1 0)))]) (pc2 := 62) (lv2 := [(0, .ref m0), (1, .int p0), (2, .int p1), (3, .int p2)]) (st2 := []) rfl rfl rfl rfl ?_
        obtain ⟨hw_20_0, hw_20_1, hw_20_2, hw_20_3⟩ := hw_20
        have hv8 : ((u_19.2.1 0)).toInt = v_7.toInt := by rw [hw_20_2, show ((u_16.2.1 0)).toInt.toNat = ((u_4.2.1 0)).toInt.toNat from (by omega), ev_7]
        refine j_aload_n (pc := 62) C dX11_best_62 rfl 0 rfl ?_
        refine j_aload_n (pc := 63) C dX11_best_63 rfl 0 rfl ?_
        refine j_get (pc := 64) (ci := 11) (v := .int (u_19.2.1 0)) C inw_11 7 rfl rfl 26 (by decide) wd_779 rfl rfl dX11_best_64 ?_
        refine j_put (pc := 67) (ci := 11) (v := .int (u_19.2.1 0)) (ws' := [(mop, .inl (cyI, 2200, .inl m_op)), (marg, .inl (cyI, 2200, .inl m_arg)), (mfacts, .inl (cyI, 8, .inl m_facts)), (mpile, .inl (cyI, 1100, .inl m_pile)), (mtried, .inl (cyI, 7, .inl m_tried)), (mbestRow, .inl (cyI, 7, .inl m_bestRow)), (mtold, .inl (cyI, 240, .inl m_told)), (m0, .inr (11, [.int 0, .ref mtape, .int m_taped, .int m_size, .ref msort, .ref mplace, .ref mvalue, .int m_at, .int m_fault, .ref mwords, .ref mtold, .ref mop, .ref marg, .int m_codes, .ref mnames, .ref mhasHabit, .int m_isNew, .ref mfactWords, .ref mfacts, .ref mpile, .ref mstates, .ref misMarked, .int m_inShelf, .int m_inStack, .int m_inPlace, .ref mrow, .int (u_19.2.1 0), .ref mthr, .ref mmays, .ref mtall, .ref mweights, .ref mrowOfWare, .ref mneededOf, .int m_goShelf, .int m_goStack, .int m_goLeft, .ref mtried, .ref mbestRow, .int m_bestCost, .int (u_19.2.1 0), .int m_bestShelf, .int m_bestSet, .ref mdigits])), (mstates, .inl (cyI, 2760, .inl m_states)), (mrow, .inl (cyI, 12, .inl (u_19.2.2.1 0)))]) C inw_11 7 rfl rfl 39 (by decide) wd_878 rfl tyX11_ok nmX11 rfl (tyX11_ok 39 (by decide)) rfl rfl (Nat.le_of_ble_eq_true rfl) dX11_best_67 rfl ?_
        refine j_aload_n (pc := 70) C dX11_best_70 rfl 0 rfl ?_
        refine j_iload_n (pc := 71) C dX11_best_71 rfl 1 rfl ?_
        refine j_put (pc := 72) (ci := 11) (v := .int p0) (ws' := [(mop, .inl (cyI, 2200, .inl m_op)), (marg, .inl (cyI, 2200, .inl m_arg)), (mfacts, .inl (cyI, 8, .inl m_facts)), (mpile, .inl (cyI, 1100, .inl m_pile)), (mtried, .inl (cyI, 7, .inl m_tried)), (mbestRow, .inl (cyI, 7, .inl m_bestRow)), (mtold, .inl (cyI, 240, .inl m_told)), (m0, .inr (11, [.int 0, .ref mtape, .int m_taped, .int m_size, .ref msort, .ref mplace, .ref mvalue, .int m_at, .int m_fault, .ref mwords, .ref mtold, .ref mop, .ref marg, .int m_codes, .ref mnames, .ref mhasHabit, .int m_isNew, .ref mfactWords, .ref mfacts, .ref mpile, .ref mstates, .ref misMarked, .int m_inShelf, .int m_inStack, .int m_inPlace, .ref mrow, .int (u_19.2.1 0), .ref mthr, .ref mmays, .ref mtall, .ref mweights, .ref mrowOfWare, .ref mneededOf, .int m_goShelf, .int m_goStack, .int m_goLeft, .ref mtried, .ref mbestRow, .int m_bestCost, .int (u_19.2.1 0), .int p0, .int m_bestSet, .ref mdigits])), (mstates, .inl (cyI, 2760, .inl m_states)), (mrow, .inl (cyI, 12, .inl (u_19.2.2.1 0)))]) C inw_11 7 rfl rfl 40 (by decide) wd_881 rfl tyX11_ok nmX11 rfl (tyX11_ok 40 (by decide)) rfl rfl (Nat.le_of_ble_eq_true rfl) dX11_best_72 rfl ?_
        refine j_aload_n (pc := 75) C dX11_best_75 rfl 0 rfl ?_
        refine j_iconst (pc := 76) (v := 0) C dX11_best_76 (by decide) ?_
        refine j_put (pc := 77) (ci := 11) (v := .int 0) (ws' := [(mop, .inl (cyI, 2200, .inl m_op)), (marg, .inl (cyI, 2200, .inl m_arg)), (mfacts, .inl (cyI, 8, .inl m_facts)), (mpile, .inl (cyI, 1100, .inl m_pile)), (mtried, .inl (cyI, 7, .inl m_tried)), (mbestRow, .inl (cyI, 7, .inl m_bestRow)), (mtold, .inl (cyI, 240, .inl m_told)), (m0, .inr (11, [.int 0, .ref mtape, .int m_taped, .int m_size, .ref msort, .ref mplace, .ref mvalue, .int m_at, .int m_fault, .ref mwords, .ref mtold, .ref mop, .ref marg, .int m_codes, .ref mnames, .ref mhasHabit, .int m_isNew, .ref mfactWords, .ref mfacts, .ref mpile, .ref mstates, .ref misMarked, .int m_inShelf, .int m_inStack, .int m_inPlace, .ref mrow, .int (u_19.2.1 0), .ref mthr, .ref mmays, .ref mtall, .ref mweights, .ref mrowOfWare, .ref mneededOf, .int m_goShelf, .int m_goStack, .int m_goLeft, .ref mtried, .ref mbestRow, .int m_bestCost, .int (u_19.2.1 0), .int p0, .int 0, .ref mdigits])), (mstates, .inl (cyI, 2760, .inl m_states)), (mrow, .inl (cyI, 12, .inl (u_19.2.2.1 0)))]) C inw_11 7 rfl rfl 41 (by decide) wd_886 rfl tyX11_ok nmX11 rfl (tyX11_ok 41 (by decide)) rfl rfl (Nat.le_of_ble_eq_true rfl) dX11_best_77 rfl ?_
        refine j_iconst (pc := 80) (v := 0) C dX11_best_80 (by decide) ?_
        refine j_istore (pc := 81) (lv' := [(4, .int 0), (0, .ref m0), (1, .int p0), (2, .int p1), (3, .int p2)]) C dX11_best_81 (by decide) rfl ?_
        have loop_21 : ∀ (k_21 : Nat) (x21_4 : Int32) (y21_m0_41 : Int32), (0 ≤ (x21_4).toInt ∧ (x21_4).toInt ≤ 12) → (12 - x21_4.toInt).toNat < k_21 → J p l e ({ frames := 13, cells := 0, slots := 0, locals := 297 } : Room) s m args below meth c D A 5 0 0 (QX below D (TY cyC cyI cyJ cyZ cyO) A (fun u => some (.int (u.2.1 0))) (fun u => (0 ≤ (u.2.1 1).toInt ∧ (u.2.1 1).toInt ≤ 12) ∧ (0 ≤ (u.2.1 3).toInt ∧ (u.2.1 3).toInt ≤ 7) ∧ (0 ≤ (u.2.1 4).toInt ∧ (u.2.1 4).toInt ≤ 3) ∧ (Iv 12 (0) (11) (u.2.2.1 2)) ∧ (Iv 7 (0) (11) (u.2.2.1 3))) (fun u => [(m0, .inr (11, [.int 0, .ref mtape, .int m_taped, .int m_size, .ref msort, .ref mplace, .ref mvalue, .int m_at, .int m_fault, .ref mwords, .ref mtold, .ref mop, .ref marg, .int m_codes, .ref mnames, .ref mhasHabit, .int m_isNew, .ref mfactWords, .ref mfacts, .ref mpile, .ref mstates, .ref misMarked, .int m_inShelf, .int m_inStack, .int m_inPlace, .ref mrow, .int (u.2.1 1), .ref mthr, .ref mmays, .ref mtall, .ref mweights, .ref mrowOfWare, .ref mneededOf, .int m_goShelf, .int m_goStack, .int m_goLeft, .ref mtried, .ref mbestRow, .int (u.2.1 2), .int (u.2.1 3), .int (u.2.1 4), .int (u.2.1 5), .ref mdigits])), (mtold, .inl (cyI, 240, .inl m_told)), (mop, .inl (cyI, 2200, .inl m_op)), (marg, .inl (cyI, 2200, .inl m_arg)), (mfacts, .inl (cyI, 8, .inl (u.2.2.1 0))), (mpile, .inl (cyI, 1100, .inl (u.2.2.1 1))), (mstates, .inl (cyI, 2760, .inl m_states)), (mrow, .inl (cyI, 12, .inl (u.2.2.1 2))), (mtried, .inl (cyI, 7, .inl (u.2.2.1 3))), (mbestRow, .inl (cyI, 7, .inl (u.2.2.1 4)))]) args s 0 0) [(mop, .inl (cyI, 2200, .inl m_op)), (marg, .inl (cyI, 2200, .inl m_arg)), (mfacts, .inl (cyI, 8, .inl m_facts)), (mpile, .inl (cyI, 1100, .inl m_pile)), (mtried, .inl (cyI, 7, .inl m_tried)), (mbestRow, .inl (cyI, 7, .inl m_bestRow)), (mtold, .inl (cyI, 240, .inl m_told)), (m0, .inr (11, [.int 0, .ref mtape, .int m_taped, .int m_size, .ref msort, .ref mplace, .ref mvalue, .int m_at, .int m_fault, .ref mwords, .ref mtold, .ref mop, .ref marg, .int m_codes, .ref mnames, .ref mhasHabit, .int m_isNew, .ref mfactWords, .ref mfacts, .ref mpile, .ref mstates, .ref misMarked, .int m_inShelf, .int m_inStack, .int m_inPlace, .ref mrow, .int (u_19.2.1 0), .ref mthr, .ref mmays, .ref mtall, .ref mweights, .ref mrowOfWare, .ref mneededOf, .int m_goShelf, .int m_goStack, .int m_goLeft, .ref mtried, .ref mbestRow, .int m_bestCost, .int (u_19.2.1 0), .int p0, .int y21_m0_41, .ref mdigits])), (mstates, .inl (cyI, 2760, .inl m_states)), (mrow, .inl (cyI, 12, .inl (u_19.2.2.1 0)))] 83 [(4, .int x21_4), (0, .ref m0), (1, .int p0), (2, .int p1), (3, .int p2)] [] := by
          intro k_21
          induction k_21 with
          | zero =>
            intro x21_4 y21_m0_41 hi_21_0 hm_21
            exact absurd hm_21 (Nat.not_lt_zero _)
          | succ k_21 ih_21 =>
            intro x21_4 y21_m0_41 hi_21_0 hm_21
            refine j_iload (pc := 83) C dX11_best_83 0 rfl ?_
            refine j_aload_n (pc := 85) C dX11_best_85 rfl 1 rfl ?_
            refine j_get (pc := 86) (ci := 11) (v := .int (u_19.2.1 0)) C inw_11 7 rfl rfl 26 (by decide) wd_779 rfl rfl dX11_best_86 ?_
            refine j_icmp_ge (pc := 89) (tgt := 116) C dX11_best_89 (by decide) (fun c_22 => ?_) (fun c_22 => ?_)
            · skip
              rw [i_le] at c_22
              refine j_aload_n (pc := 116) C dX11_best_116 rfl 1 rfl ?_
              refine j_iconst (pc := 117) (v := (-1)) C dX11_best_117 (by decide) ?_
              refine j_put (pc := 118) (ci := 11) (v := .int (-1)) (ws' := [(mop, .inl (cyI, 2200, .inl m_op)), (marg, .inl (cyI, 2200, .inl m_arg)), (mfacts, .inl (cyI, 8, .inl m_facts)), (mpile, .inl (cyI, 1100, .inl m_pile)), (mtried, .inl (cyI, 7, .inl m_tried)), (mbestRow, .inl (cyI, 7, .inl m_bestRow)), (mtold, .inl (cyI, 240, .inl m_told)), (m0, .inr (11, [.int 0, .ref mtape, .int m_taped, .int m_size, .ref msort, .ref mplace, .ref mvalue, .int m_at, .int m_fault, .ref mwords, .ref mtold, .ref mop, .ref marg, .int m_codes, .ref mnames, .ref mhasHabit, .int m_isNew, .ref mfactWords, .ref mfacts, .ref mpile, .ref mstates, .ref misMarked, .int m_inShelf, .int m_inStack, .int m_inPlace, .ref mrow, .int (u_19.2.1 0), .ref mthr, .ref mmays, .ref mtall, .ref mweights, .ref mrowOfWare, .ref mneededOf, .int m_goShelf, .int m_goStack, .int m_goLeft, .ref mtried, .ref mbestRow, .int (-1), .int (u_19.2.1 0), .int p0, .int y21_m0_41, .ref mdigits])), (mstates, .inl (cyI, 2760, .inl m_states)), (mrow, .inl (cyI, 12, .inl (u_19.2.2.1 0)))]) C inw_11 7 rfl rfl 38 (by decide) wd_877 rfl tyX11_ok nmX11 rfl (tyX11_ok 38 (by decide)) rfl rfl (Nat.le_of_ble_eq_true rfl) dX11_best_118 rfl ?_
              refine j_aload_n (pc := 121) C dX11_best_121 rfl 1 rfl ?_
              refine j_iconst (pc := 122) (v := 0) C dX11_best_122 (by decide) ?_
              refine j_iconst (pc := 123) (v := 0) C dX11_best_123 (by decide) ?_
              refine j_callV (pc := 124) (As := [.int 0, .int 0]) (rest := []) (wr := []) C (c_X11_triesOrders_0 l D cyC cyI cyJ cyZ cyO m0 mtold mop marg mfacts mpile mstates mrow mtried mbestRow mtape msort mplace mvalue mwords mnames mhasHabit mfactWords misMarked mthr mmays mtall mweights mrowOfWare mneededOf mdigits 0 0 0 m_taped m_size m_at m_fault m_codes m_isNew m_inShelf m_inStack m_inPlace (u_19.2.1 0) m_goShelf m_goStack m_goLeft (-1) (u_19.2.1 0) p0 y21_m0_41 m_told m_op m_arg m_facts m_pile m_states (u_19.2.2.1 0) m_tried m_bestRow h_m_taped h_m_size h_m_at h_m_fault h_m_codes h_m_isNew h_m_inShelf h_m_inStack h_m_inPlace hw_20_0 h_m_goShelf (by omega) (by omega) hw_20_1 h_m_told h_m_tried h_m_states hwf (by omega) (by decide)) wd_887 wd_624 wd_888 wd_889 wd_890 ⟨by decide, by decide, rfl⟩ rfl ⟨rfl, rfl, by decide, by decide⟩ ⟨by decide, by decide⟩ [7, 6, 0, 1, 2, 3, 8, 9, 4, 5] [] rfl rfl ⟨by decide, by decide, by decide⟩ 7 rfl rfl rfl (Nat.le_of_ble_eq_true rfl) dX11_best_124 (fun u_23 hw_24 => ?_)
              refine j_eq (ws2 := [(m0, .inr (11, [.int 0, .ref mtape, .int m_taped, .int m_size, .ref msort, .ref mplace, .ref mvalue, .int m_at, .int m_fault, .ref mwords, .ref mtold, .ref mop, .ref marg, .int m_codes, .ref mnames, .ref mhasHabit, .int m_isNew, .ref mfactWords, .ref mfacts, .ref mpile, .ref mstates, .ref misMarked, .int m_inShelf, .int m_inStack, .int m_inPlace, .ref mrow, .int (u_23.2.1 0), .ref mthr, .ref mmays, .ref mtall, .ref mweights, .ref mrowOfWare, .ref mneededOf, .int m_goShelf, .int m_goStack, .int m_goLeft, .ref mtried, .ref mbestRow, .int (u_23.2.1 1), .int (u_19.2.1 0), .int p0, .int y21_m0_41, .ref mdigits])), (mtold, .inl (cyI, 240, .inl m_told)), (mop, .inl (cyI, 2200, .inl m_op)), (marg, .inl (cyI, 2200, .inl m_arg)), (mfacts, .inl (cyI, 8, .inl (u_23.2.2.1 0))), (mpile, .inl (cyI, 1100, .inl (u_23.2.2.1 1))), (mstates, .inl (cyI, 2760, .inl m_states)), (mrow, .inl (cyI, 12, .inl (u_23.2.2.1 2))), (mtried, .inl (cyI, 7, .inl (u_23.2.2.1 3))), (mbestRow, .inl (cyI, 7, .inl (u_23.2.2.1 4)))]) (pc2 := 127) (lv2 := [(4, .int x21_4), (0, .ref m0), (1, .int p0), (2, .int p1), (3, .int p2)]) (st2 := []) rfl rfl rfl rfl ?_
              obtain ⟨hw_24_0, hw_24_1, hw_24_2⟩ := hw_24
              refine j_aload_n (pc := 127) C dX11_best_127 rfl 1 rfl ?_
              refine j_get (pc := 128) (ci := 11) (v := .int (u_23.2.1 1)) C inw_11 0 rfl rfl 38 (by decide) wd_877 rfl rfl dX11_best_128 ?_
              refine j_if_ge (pc := 131) (tgt := 138) C dX11_best_131 (by decide) (fun c_25 => ?_) (fun c_25 => ?_)
              · skip
                have el_0 : (0 : Int32).toInt = 0 := rfl
                rw [i_le] at c_25
                refine j_iload_n (pc := 138) C dX11_best_138 rfl 4 rfl ?_
                refine j_if_ne (pc := 139) (tgt := 149) C dX11_best_139 (by decide) (fun c_26 => ?_) (fun c_26 => ?_)
                · skip
                  have el_0 : (0 : Int32).toInt = 0 := rfl
                  rw [i_eq] at c_26
                  refine j_aload_n (pc := 149) C dX11_best_149 rfl 1 rfl ?_
                  refine j_get (pc := 150) (ci := 11) (v := .ref mbestRow) C inw_11 0 rfl rfl 37 (by decide) wd_879 rfl rfl dX11_best_150 ?_
                  refine j_iload_n (pc := 153) C dX11_best_153 rfl 4 rfl ?_
                  refine j_iconst (pc := 154) (v := 1) C dX11_best_154 (by decide) ?_
                  obtain ⟨v_27, ev_27⟩ : ∃ z : Int32, p2 - 1 = z := ⟨_, rfl⟩
                  have el_1 : (1 : Int32).toInt = 1 := rfl
                  have hv_27 : v_27.toInt = p2.toInt - (1 : Int32).toInt := by rw [← ev_27]; exact fb_subI (by omega) (by omega)
                  refine j_isub (pc := 155) (v := v_27) C dX11_best_155 ev_27 ?_
                  obtain ⟨v_28, ev_28⟩ : ∃ z, (u_23.2.2.1 4) (v_27).toInt.toNat = z := ⟨_, rfl⟩
                  have env_28 : ((u_23.2.2.1 4) (v_27).toInt.toNat).toInt = v_28.toInt := by rw [ev_28]
                  refine j_iald (pc := 156) (v := v_28) (k := (v_27).toInt.toNat) C 9 1 rfl rfl (i_nn (by omega)) rfl (i_lt_n (by omega) (by omega)) ev_28 dX11_best_156 ?_
                  exact j_iret (pc := 157) C hr hk (fun i => [].getD i 0, fun i => [v_28, (u_23.2.1 0), (u_23.2.1 1), (u_19.2.1 0), p0, y21_m0_41].getD i 0, fun i => [(u_23.2.2.1 0), (u_23.2.2.1 1), (u_23.2.2.1 2), (u_23.2.2.1 3), (u_23.2.2.1 4)].getD i (fun _ => 0), fun i => [].getD i (fun _ => 0)) rfl (show (0 ≤ ((u_23.2.1 0)).toInt ∧ ((u_23.2.1 0)).toInt ≤ 12) ∧ (0 ≤ ((u_19.2.1 0)).toInt ∧ ((u_19.2.1 0)).toInt ≤ 7) ∧ (0 ≤ (p0).toInt ∧ (p0).toInt ≤ 3) ∧ (Iv 12 (0) (11) (u_23.2.2.1 2)) ∧ (Iv 7 (0) (11) (u_23.2.2.1 3)) from ⟨hw_24_0, by omega, by omega, hw_24_1, hw_24_2⟩) [0, 1, 2, 3, 4, 5, 6, 7, 8, 9] (by decide) rfl (by decide) (by decide) dX11_best_157
                · skip
                  have el_0 : (0 : Int32).toInt = 0 := rfl
                  rw [i_eq] at c_26
                  refine j_aload_n (pc := 142) C dX11_best_142 rfl 1 rfl ?_
                  refine j_get (pc := 143) (ci := 11) (v := .int (u_23.2.1 1)) C inw_11 0 rfl rfl 38 (by decide) wd_877 rfl rfl dX11_best_143 ?_
                  refine j_goto (pc := 146) (tgt := 157) C dX11_best_146 (by decide) ?_
                  exact j_iret (pc := 157) C hr hk (fun i => [].getD i 0, fun i => [(u_23.2.1 1), (u_23.2.1 0), (u_23.2.1 1), (u_19.2.1 0), p0, y21_m0_41].getD i 0, fun i => [(u_23.2.2.1 0), (u_23.2.2.1 1), (u_23.2.2.1 2), (u_23.2.2.1 3), (u_23.2.2.1 4)].getD i (fun _ => 0), fun i => [].getD i (fun _ => 0)) rfl (show (0 ≤ ((u_23.2.1 0)).toInt ∧ ((u_23.2.1 0)).toInt ≤ 12) ∧ (0 ≤ ((u_19.2.1 0)).toInt ∧ ((u_19.2.1 0)).toInt ≤ 7) ∧ (0 ≤ (p0).toInt ∧ (p0).toInt ≤ 3) ∧ (Iv 12 (0) (11) (u_23.2.2.1 2)) ∧ (Iv 7 (0) (11) (u_23.2.2.1 3)) from ⟨hw_24_0, by omega, by omega, hw_24_1, hw_24_2⟩) [0, 1, 2, 3, 4, 5, 6, 7, 8, 9] (by decide) rfl (by decide) (by decide) dX11_best_157
              · skip
                have el_0 : (0 : Int32).toInt = 0 := rfl
                rw [i_le] at c_25
                refine j_iconst (pc := 134) (v := (-1)) C dX11_best_134 (by decide) ?_
                refine j_goto (pc := 135) (tgt := 157) C dX11_best_135 (by decide) ?_
                exact j_iret (pc := 157) C hr hk (fun i => [].getD i 0, fun i => [(-1), (u_23.2.1 0), (u_23.2.1 1), (u_19.2.1 0), p0, y21_m0_41].getD i 0, fun i => [(u_23.2.2.1 0), (u_23.2.2.1 1), (u_23.2.2.1 2), (u_23.2.2.1 3), (u_23.2.2.1 4)].getD i (fun _ => 0), fun i => [].getD i (fun _ => 0)) rfl (show (0 ≤ ((u_23.2.1 0)).toInt ∧ ((u_23.2.1 0)).toInt ≤ 12) ∧ (0 ≤ ((u_19.2.1 0)).toInt ∧ ((u_19.2.1 0)).toInt ≤ 7) ∧ (0 ≤ (p0).toInt ∧ (p0).toInt ≤ 3) ∧ (Iv 12 (0) (11) (u_23.2.2.1 2)) ∧ (Iv 7 (0) (11) (u_23.2.2.1 3)) from ⟨hw_24_0, by omega, by omega, hw_24_1, hw_24_2⟩) [0, 1, 2, 3, 4, 5, 6, 7, 8, 9] (by decide) rfl (by decide) (by decide) dX11_best_157
            · skip
              rw [i_le] at c_22
              refine j_aload_n (pc := 92) C dX11_best_92 rfl 1 rfl ?_
              refine j_dup (pc := 93) C dX11_best_93 rfl ?_
              refine j_get (pc := 94) (ci := 11) (v := .int y21_m0_41) C inw_11 7 rfl rfl 41 (by decide) wd_886 rfl rfl dX11_best_94 ?_
              refine j_iconst (pc := 97) (v := 1) C dX11_best_97 (by decide) ?_
              refine j_aload_n (pc := 98) C dX11_best_98 rfl 1 rfl ?_
              refine j_get (pc := 99) (ci := 11) (v := .ref mrow) C inw_11 7 rfl rfl 25 (by decide) wd_780 rfl rfl dX11_best_99 ?_
              refine j_iload (pc := 102) C dX11_best_102 0 rfl ?_
              obtain ⟨v_29, ev_29⟩ : ∃ z, (u_19.2.2.1 0) (x21_4).toInt.toNat = z := ⟨_, rfl⟩
              have env_29 : ((u_19.2.2.1 0) (x21_4).toInt.toNat).toInt = v_29.toInt := by rw [ev_29]
              have hv_29 := hw_20_1 (x21_4).toInt.toNat (i_lt_n hi_21_0.1 (by omega)); rw [ev_29] at hv_29
              refine j_iald (pc := 104) (v := v_29) (k := (x21_4).toInt.toNat) C 9 1 rfl rfl (i_nn hi_21_0.1) rfl (i_lt_n hi_21_0.1 (by omega)) ev_29 dX11_best_104 ?_
              obtain ⟨v_30, ev_30⟩ : ∃ z : Int32, 1 <<< (v_29 &&& 31) = z := ⟨_, rfl⟩
              have el_1 : (1 : Int32).toInt = 1 := rfl
              have hv_30 : 1 ≤ v_30.toInt ∧ v_30.toInt ≤ 2048 := by rw [← ev_30]; exact shl1_iv 0 11 (by omega) (by omega) (by omega)
              refine j_ishl (pc := 105) (v := v_30) C dX11_best_105 ev_30 ?_
              obtain ⟨v_31, ev_31⟩ : ∃ z : Int32, y21_m0_41 ||| v_30 = z := ⟨_, rfl⟩
              refine j_ior (pc := 106) (v := v_31) C dX11_best_106 ev_31 ?_
              refine j_put (pc := 107) (ci := 11) (v := .int v_31) (ws' := [(mop, .inl (cyI, 2200, .inl m_op)), (marg, .inl (cyI, 2200, .inl m_arg)), (mfacts, .inl (cyI, 8, .inl m_facts)), (mpile, .inl (cyI, 1100, .inl m_pile)), (mtried, .inl (cyI, 7, .inl m_tried)), (mbestRow, .inl (cyI, 7, .inl m_bestRow)), (mtold, .inl (cyI, 240, .inl m_told)), (m0, .inr (11, [.int 0, .ref mtape, .int m_taped, .int m_size, .ref msort, .ref mplace, .ref mvalue, .int m_at, .int m_fault, .ref mwords, .ref mtold, .ref mop, .ref marg, .int m_codes, .ref mnames, .ref mhasHabit, .int m_isNew, .ref mfactWords, .ref mfacts, .ref mpile, .ref mstates, .ref misMarked, .int m_inShelf, .int m_inStack, .int m_inPlace, .ref mrow, .int (u_19.2.1 0), .ref mthr, .ref mmays, .ref mtall, .ref mweights, .ref mrowOfWare, .ref mneededOf, .int m_goShelf, .int m_goStack, .int m_goLeft, .ref mtried, .ref mbestRow, .int m_bestCost, .int (u_19.2.1 0), .int p0, .int v_31, .ref mdigits])), (mstates, .inl (cyI, 2760, .inl m_states)), (mrow, .inl (cyI, 12, .inl (u_19.2.2.1 0)))]) C inw_11 7 rfl rfl 41 (by decide) wd_886 rfl tyX11_ok nmX11 rfl (tyX11_ok 41 (by decide)) rfl rfl (Nat.le_of_ble_eq_true rfl) dX11_best_107 rfl ?_
              obtain ⟨v_32, ev_32⟩ : ∃ z : Int32, x21_4 + 1 = z := ⟨_, rfl⟩
              have el_1 : (1 : Int32).toInt = 1 := rfl
              have hv_32 : v_32.toInt = x21_4.toInt + (1 : Int32).toInt := by rw [← ev_32]; exact fb_addI (by omega) (by omega)
              refine j_iinc (pc := 110) (v := v_32) (lv' := [(4, .int v_32), (0, .ref m0), (1, .int p0), (2, .int p1), (3, .int p2)]) C dX11_best_110 0 rfl ev_32 (by decide) rfl ?_
              refine j_goto (pc := 113) (tgt := 83) C dX11_best_113 (by decide) ?_
              exact j_lv [0, 1, 2, 3, 4] rfl (ih_21 v_32 v_31 (by omega) (by omega))
        have el_0 : (0 : Int32).toInt = 0 := rfl
        have el_0 : (0 : Int32).toInt = 0 := rfl
        exact j_lv [0, 1, 2, 3, 4] rfl (loop_21 4096 0 0 (by decide) (by omega))
      · skip
        have el_0 : (0 : Int32).toInt = 0 := rfl
        rw [i_eq] at c_15
        refine j_iconst (pc := 50) (v := (-1)) C dX11_best_50 (by decide) ?_
        exact j_iret (pc := 51) C hr hk (fun i => [].getD i 0, fun i => [(-1), m_rowMany, m_bestCost, m_bestMany, m_bestShelf, m_bestSet].getD i 0, fun i => [m_facts, m_pile, m_row, m_tried, m_bestRow].getD i (fun _ => 0), fun i => [].getD i (fun _ => 0)) rfl (show (0 ≤ (m_rowMany).toInt ∧ (m_rowMany).toInt ≤ 12) ∧ (0 ≤ (m_bestMany).toInt ∧ (m_bestMany).toInt ≤ 7) ∧ (0 ≤ (m_bestShelf).toInt ∧ (m_bestShelf).toInt ≤ 3) ∧ (Iv 12 (0) (11) m_row) ∧ (Iv 7 (0) (11) m_tried) from ⟨h_m_rowMany, h_m_bestMany, h_m_bestShelf, h_m_row, h_m_tried⟩) [7, 8, 0, 1, 2, 3, 9, 4, 5, 6] (by decide) rfl (by decide) (by decide) dX11_best_51
