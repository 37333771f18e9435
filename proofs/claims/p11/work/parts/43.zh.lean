theorem wd_797 : Cond.fieldLink RX11 105 "BowlShelfModel" "pile" "[I" ∈ WALL := wl_in (by decide +kernel) (by decide +kernel)
theorem wd_798 : Cond.fieldLink RX11 102 "BowlShelfModel" "facts" "[I" ∈ WALL := wl_in (by decide +kernel) (by decide +kernel)
theorem wd_799 : Cond.code yX11_both cX11_both 3 (some .int) ∈ WALL := wl_in (by decide +kernel) (by decide +kernel)
theorem wd_800 : Cond.methodLink RX11 261 yX11_both ∈ WALL := wl_in (by decide +kernel) (by decide +kernel)
theorem wd_801 : Cond.static yX11_both ∈ WALL := wl_in (by decide +kernel) (by decide +kernel)
theorem wd_802 : Cond.code yX11_worthAt cX11_worthAt 5 (some .int) ∈ WALL := wl_in (by decide +kernel) (by decide +kernel)
theorem wd_803 : Cond.methodLink RX11 274 yX11_worthAt ∈ WALL := wl_in (by decide +kernel) (by decide +kernel)
theorem wd_804 : Cond.instanceMethod yX11_worthAt ∈ WALL := wl_in (by decide +kernel) (by decide +kernel)
theorem wd_805 : Cond.selects RX11 yX11_worthAt yX11_worthAt ∈ WALL := wl_in (by decide +kernel) (by decide +kernel)
theorem dX11_both_0 : decode cX11_both 0 = .ok (.iload_n 0, 1) := by decide +kernel
theorem dX11_both_1 : decode cX11_both 1 = .ok (.tableswitch 87 4 9 #[39, 43, 47, 51, 62, 73], 39) := by decide +kernel
theorem dX11_both_40 : decode cX11_both 40 = .ok (.iload_n 1, 1) := by decide +kernel
theorem dX11_both_41 : decode cX11_both 41 = .ok (.iload_n 2, 1) := by decide +kernel
theorem dX11_both_42 : decode cX11_both 42 = .ok (.iadd, 1) := by decide +kernel
theorem dX11_both_43 : decode cX11_both 43 = .ok (.ireturn, 1) := by decide +kernel
theorem dX11_both_44 : decode cX11_both 44 = .ok (.iload_n 1, 1) := by decide +kernel
theorem dX11_both_45 : decode cX11_both 45 = .ok (.iload_n 2, 1) := by decide +kernel
theorem dX11_both_46 : decode cX11_both 46 = .ok (.isub, 1) := by decide +kernel
theorem dX11_both_47 : decode cX11_both 47 = .ok (.ireturn, 1) := by decide +kernel
theorem dX11_both_48 : decode cX11_both 48 = .ok (.iload_n 1, 1) := by decide +kernel
theorem dX11_both_49 : decode cX11_both 49 = .ok (.iload_n 2, 1) := by decide +kernel
theorem dX11_both_50 : decode cX11_both 50 = .ok (.imul, 1) := by decide +kernel
theorem dX11_both_51 : decode cX11_both 51 = .ok (.ireturn, 1) := by decide +kernel
theorem dX11_both_52 : decode cX11_both 52 = .ok (.iload_n 1, 1) := by decide +kernel
theorem dX11_both_53 : decode cX11_both 53 = .ok (.iload_n 2, 1) := by decide +kernel
theorem dX11_both_54 : decode cX11_both 54 = .ok (.if_icmp .ge 7, 3) := by decide +kernel
theorem dX11_both_57 : decode cX11_both 57 = .ok (.iconst 1, 1) := by decide +kernel
theorem dX11_both_58 : decode cX11_both 58 = .ok (.goto 4, 3) := by decide +kernel
theorem dX11_both_61 : decode cX11_both 61 = .ok (.iconst 0, 1) := by decide +kernel
theorem dX11_both_62 : decode cX11_both 62 = .ok (.ireturn, 1) := by decide +kernel
theorem dX11_both_63 : decode cX11_both 63 = .ok (.iload_n 1, 1) := by decide +kernel
theorem dX11_both_64 : decode cX11_both 64 = .ok (.iload_n 2, 1) := by decide +kernel
theorem dX11_both_65 : decode cX11_both 65 = .ok (.if_icmp .ne 7, 3) := by decide +kernel
theorem dX11_both_68 : decode cX11_both 68 = .ok (.iconst 1, 1) := by decide +kernel
theorem dX11_both_69 : decode cX11_both 69 = .ok (.goto 4, 3) := by decide +kernel
theorem dX11_both_72 : decode cX11_both 72 = .ok (.iconst 0, 1) := by decide +kernel
theorem dX11_both_73 : decode cX11_both 73 = .ok (.ireturn, 1) := by decide +kernel
theorem dX11_both_74 : decode cX11_both 74 = .ok (.iload_n 1, 1) := by decide +kernel
theorem dX11_both_75 : decode cX11_both 75 = .ok (.ifCond .eq 11, 3) := by decide +kernel
theorem dX11_both_78 : decode cX11_both 78 = .ok (.iload_n 2, 1) := by decide +kernel
theorem dX11_both_79 : decode cX11_both 79 = .ok (.ifCond .eq 7, 3) := by decide +kernel
theorem dX11_both_82 : decode cX11_both 82 = .ok (.iconst 1, 1) := by decide +kernel
theorem dX11_both_83 : decode cX11_both 83 = .ok (.goto 4, 3) := by decide +kernel
theorem dX11_both_86 : decode cX11_both 86 = .ok (.iconst 0, 1) := by decide +kernel
theorem dX11_both_87 : decode cX11_both 87 = .ok (.ireturn, 1) := by decide +kernel
theorem dX11_both_88 : decode cX11_both 88 = .ok (.iload_n 1, 1) := by decide +kernel
theorem dX11_both_89 : decode cX11_both 89 = .ok (.ifCond .ne 7, 3) := by decide +kernel
theorem dX11_both_92 : decode cX11_both 92 = .ok (.iload_n 2, 1) := by decide +kernel
theorem dX11_both_93 : decode cX11_both 93 = .ok (.ifCond .eq 7, 3) := by decide +kernel
theorem dX11_both_96 : decode cX11_both 96 = .ok (.iconst 1, 1) := by decide +kernel
theorem dX11_both_97 : decode cX11_both 97 = .ok (.goto 4, 3) := by decide +kernel
theorem dX11_both_100 : decode cX11_both 100 = .ok (.iconst 0, 1) := by decide +kernel
theorem dX11_both_101 : decode cX11_both 101 = .ok (.ireturn, 1) := by decide +kernel
theorem dX11_worthAt_0 : decode cX11_worthAt 0 = .ok (.iconst 0, 1) := by decide +kernel
theorem dX11_worthAt_1 : decode cX11_worthAt 1 = .ok (.istore_n 2, 1) := by decide +kernel
theorem dX11_worthAt_2 : decode cX11_worthAt 2 = .ok (.iload_n 1, 1) := by decide +kernel
theorem dX11_worthAt_3 : decode cX11_worthAt 3 = .ok (.istore_n 3, 1) := by decide +kernel
theorem dX11_worthAt_4 : decode cX11_worthAt 4 = .ok (.aload_n 0, 1) := by decide +kernel
theorem dX11_worthAt_5 : decode cX11_worthAt 5 = .ok (.getfield 86, 3) := by decide +kernel
theorem dX11_worthAt_8 : decode cX11_worthAt 8 = .ok (.iload_n 3, 1) := by decide +kernel
theorem dX11_worthAt_9 : decode cX11_worthAt 9 = .ok (.iaload, 1) := by decide +kernel
theorem dX11_worthAt_10 : decode cX11_worthAt 10 = .ok (.ifCond .eq 130, 3) := by decide +kernel
theorem dX11_worthAt_13 : decode cX11_worthAt 13 = .ok (.aload_n 0, 1) := by decide +kernel
theorem dX11_worthAt_14 : decode cX11_worthAt 14 = .ok (.getfield 86, 3) := by decide +kernel
theorem dX11_worthAt_17 : decode cX11_worthAt 17 = .ok (.iload_n 3, 1) := by decide +kernel
theorem dX11_worthAt_18 : decode cX11_worthAt 18 = .ok (.iaload, 1) := by decide +kernel
theorem dX11_worthAt_19 : decode cX11_worthAt 19 = .ok (.istore 4, 2) := by decide +kernel
theorem dX11_worthAt_21 : decode cX11_worthAt 21 = .ok (.iload 4, 2) := by decide +kernel
theorem dX11_worthAt_23 : decode cX11_worthAt 23 = .ok (.iconst 1, 1) := by decide +kernel
theorem dX11_worthAt_24 : decode cX11_worthAt 24 = .ok (.if_icmp .eq 9, 3) := by decide +kernel
theorem dX11_worthAt_27 : decode cX11_worthAt 27 = .ok (.iload 4, 2) := by decide +kernel
theorem dX11_worthAt_29 : decode cX11_worthAt 29 = .ok (.iconst 2, 1) := by decide +kernel
theorem dX11_worthAt_30 : decode cX11_worthAt 30 = .ok (.if_icmp .ne 41, 3) := by decide +kernel
theorem dX11_worthAt_33 : decode cX11_worthAt 33 = .ok (.aload_n 0, 1) := by decide +kernel
theorem dX11_worthAt_34 : decode cX11_worthAt 34 = .ok (.getfield 105, 3) := by decide +kernel
theorem dX11_worthAt_37 : decode cX11_worthAt 37 = .ok (.iload_n 2, 1) := by decide +kernel
theorem dX11_worthAt_38 : decode cX11_worthAt 38 = .ok (.iload 4, 2) := by decide +kernel
theorem dX11_worthAt_40 : decode cX11_worthAt 40 = .ok (.iconst 1, 1) := by decide +kernel
theorem dX11_worthAt_41 : decode cX11_worthAt 41 = .ok (.if_icmp .ne 12, 3) := by decide +kernel
theorem dX11_worthAt_44 : decode cX11_worthAt 44 = .ok (.aload_n 0, 1) := by decide +kernel
theorem dX11_worthAt_45 : decode cX11_worthAt 45 = .ok (.getfield 89, 3) := by decide +kernel
theorem dX11_worthAt_48 : decode cX11_worthAt 48 = .ok (.iload_n 3, 1) := by decide +kernel
theorem dX11_worthAt_49 : decode cX11_worthAt 49 = .ok (.iaload, 1) := by decide +kernel
theorem dX11_worthAt_50 : decode cX11_worthAt 50 = .ok (.goto 14, 3) := by decide +kernel
theorem dX11_worthAt_53 : decode cX11_worthAt 53 = .ok (.aload_n 0, 1) := by decide +kernel
theorem dX11_worthAt_54 : decode cX11_worthAt 54 = .ok (.getfield 102, 3) := by decide +kernel
theorem dX11_worthAt_57 : decode cX11_worthAt 57 = .ok (.aload_n 0, 1) := by decide +kernel
theorem dX11_worthAt_58 : decode cX11_worthAt 58 = .ok (.getfield 89, 3) := by decide +kernel
theorem dX11_worthAt_61 : decode cX11_worthAt 61 = .ok (.iload_n 3, 1) := by decide +kernel
theorem dX11_worthAt_62 : decode cX11_worthAt 62 = .ok (.iaload, 1) := by decide +kernel
theorem dX11_worthAt_63 : decode cX11_worthAt 63 = .ok (.iaload, 1) := by decide +kernel
theorem dX11_worthAt_64 : decode cX11_worthAt 64 = .ok (.iastore, 1) := by decide +kernel
theorem dX11_worthAt_65 : decode cX11_worthAt 65 = .ok (.iinc 2 1, 3) := by decide +kernel
theorem dX11_worthAt_68 : decode cX11_worthAt 68 = .ok (.goto 66, 3) := by decide +kernel
theorem dX11_worthAt_71 : decode cX11_worthAt 71 = .ok (.iload 4, 2) := by decide +kernel
theorem dX11_worthAt_73 : decode cX11_worthAt 73 = .ok (.iconst 3, 1) := by decide +kernel
theorem dX11_worthAt_74 : decode cX11_worthAt 74 = .ok (.if_icmp .ne 30, 3) := by decide +kernel
theorem dX11_worthAt_77 : decode cX11_worthAt 77 = .ok (.aload_n 0, 1) := by decide +kernel
theorem dX11_worthAt_78 : decode cX11_worthAt 78 = .ok (.getfield 105, 3) := by decide +kernel
theorem dX11_worthAt_81 : decode cX11_worthAt 81 = .ok (.iload_n 2, 1) := by decide +kernel
theorem dX11_worthAt_82 : decode cX11_worthAt 82 = .ok (.iconst 1, 1) := by decide +kernel
theorem dX11_worthAt_83 : decode cX11_worthAt 83 = .ok (.isub, 1) := by decide +kernel
theorem dX11_worthAt_84 : decode cX11_worthAt 84 = .ok (.aload_n 0, 1) := by decide +kernel
theorem dX11_worthAt_85 : decode cX11_worthAt 85 = .ok (.getfield 105, 3) := by decide +kernel
theorem dX11_worthAt_88 : decode cX11_worthAt 88 = .ok (.iload_n 2, 1) := by decide +kernel
theorem dX11_worthAt_89 : decode cX11_worthAt 89 = .ok (.iconst 1, 1) := by decide +kernel
theorem dX11_worthAt_90 : decode cX11_worthAt 90 = .ok (.isub, 1) := by decide +kernel
theorem dX11_worthAt_91 : decode cX11_worthAt 91 = .ok (.iaload, 1) := by decide +kernel
theorem dX11_worthAt_92 : decode cX11_worthAt 92 = .ok (.ifCond .ne 7, 3) := by decide +kernel
theorem dX11_worthAt_95 : decode cX11_worthAt 95 = .ok (.iconst 1, 1) := by decide +kernel
theorem dX11_worthAt_96 : decode cX11_worthAt 96 = .ok (.goto 4, 3) := by decide +kernel
theorem dX11_worthAt_99 : decode cX11_worthAt 99 = .ok (.iconst 0, 1) := by decide +kernel
theorem dX11_worthAt_100 : decode cX11_worthAt 100 = .ok (.iastore, 1) := by decide +kernel
theorem dX11_worthAt_101 : decode cX11_worthAt 101 = .ok (.goto 33, 3) := by decide +kernel
theorem dX11_worthAt_104 : decode cX11_worthAt 104 = .ok (.iinc 2 (-1), 3) := by decide +kernel
theorem dX11_worthAt_107 : decode cX11_worthAt 107 = .ok (.aload_n 0, 1) := by decide +kernel
theorem dX11_worthAt_108 : decode cX11_worthAt 108 = .ok (.getfield 105, 3) := by decide +kernel
theorem dX11_worthAt_111 : decode cX11_worthAt 111 = .ok (.iload_n 2, 1) := by decide +kernel
theorem dX11_worthAt_112 : decode cX11_worthAt 112 = .ok (.iconst 1, 1) := by decide +kernel
theorem dX11_worthAt_113 : decode cX11_worthAt 113 = .ok (.isub, 1) := by decide +kernel
theorem dX11_worthAt_114 : decode cX11_worthAt 114 = .ok (.iload 4, 2) := by decide +kernel
theorem dX11_worthAt_116 : decode cX11_worthAt 116 = .ok (.aload_n 0, 1) := by decide +kernel
theorem dX11_worthAt_117 : decode cX11_worthAt 117 = .ok (.getfield 105, 3) := by decide +kernel
theorem dX11_worthAt_120 : decode cX11_worthAt 120 = .ok (.iload_n 2, 1) := by decide +kernel
theorem dX11_worthAt_121 : decode cX11_worthAt 121 = .ok (.iconst 1, 1) := by decide +kernel
theorem dX11_worthAt_122 : decode cX11_worthAt 122 = .ok (.isub, 1) := by decide +kernel
theorem dX11_worthAt_123 : decode cX11_worthAt 123 = .ok (.iaload, 1) := by decide +kernel
theorem dX11_worthAt_124 : decode cX11_worthAt 124 = .ok (.aload_n 0, 1) := by decide +kernel
theorem dX11_worthAt_125 : decode cX11_worthAt 125 = .ok (.getfield 105, 3) := by decide +kernel
theorem dX11_worthAt_128 : decode cX11_worthAt 128 = .ok (.iload_n 2, 1) := by decide +kernel
theorem dX11_worthAt_129 : decode cX11_worthAt 129 = .ok (.iaload, 1) := by decide +kernel
theorem dX11_worthAt_130 : decode cX11_worthAt 130 = .ok (.invokestatic 261, 3) := by decide +kernel
theorem dX11_worthAt_133 : decode cX11_worthAt 133 = .ok (.iastore, 1) := by decide +kernel
theorem dX11_worthAt_134 : decode cX11_worthAt 134 = .ok (.iinc 3 1, 3) := by decide +kernel
theorem dX11_worthAt_137 : decode cX11_worthAt 137 = .ok (.goto (-133), 3) := by decide +kernel
theorem dX11_worthAt_140 : decode cX11_worthAt 140 = .ok (.aload_n 0, 1) := by decide +kernel
theorem dX11_worthAt_141 : decode cX11_worthAt 141 = .ok (.getfield 105, 3) := by decide +kernel
theorem dX11_worthAt_144 : decode cX11_worthAt 144 = .ok (.iconst 0, 1) := by decide +kernel
theorem dX11_worthAt_145 : decode cX11_worthAt 145 = .ok (.iaload, 1) := by decide +kernel
theorem dX11_worthAt_146 : decode cX11_worthAt 146 = .ok (.ireturn, 1) := by decide +kernel
theorem dX11_mayOn_0 : decode cX11_mayOn 0 = .ok (.aload_n 0, 1) := by decide +kernel
theorem dX11_mayOn_1 : decode cX11_mayOn 1 = .ok (.iload_n 2, 1) := by decide +kernel
theorem dX11_mayOn_2 : decode cX11_mayOn 2 = .ok (.bipush 7, 2) := by decide +kernel
theorem dX11_mayOn_4 : decode cX11_mayOn 4 = .ok (.invokevirtual 271, 3) := by decide +kernel
theorem dX11_mayOn_7 : decode cX11_mayOn 7 = .ok (.iconst 1, 1) := by decide +kernel
theorem dX11_mayOn_8 : decode cX11_mayOn 8 = .ok (.if_icmp .ne 5, 3) := by decide +kernel
theorem dX11_mayOn_11 : decode cX11_mayOn 11 = .ok (.iconst 0, 1) := by decide +kernel
theorem dX11_mayOn_12 : decode cX11_mayOn 12 = .ok (.ireturn, 1) := by decide +kernel
theorem dX11_mayOn_13 : decode cX11_mayOn 13 = .ok (.aload_n 0, 1) := by decide +kernel
theorem dX11_mayOn_14 : decode cX11_mayOn 14 = .ok (.getfield 102, 3) := by decide +kernel
theorem dX11_mayOn_17 : decode cX11_mayOn 17 = .ok (.iconst 0, 1) := by decide +kernel
theorem dX11_mayOn_18 : decode cX11_mayOn 18 = .ok (.aload_n 0, 1) := by decide +kernel
theorem dX11_mayOn_19 : decode cX11_mayOn 19 = .ok (.iload_n 1, 1) := by decide +kernel
theorem dX11_mayOn_20 : decode cX11_mayOn 20 = .ok (.iconst 0, 1) := by decide +kernel
theorem dX11_mayOn_21 : decode cX11_mayOn 21 = .ok (.invokevirtual 271, 3) := by decide +kernel
theorem dX11_mayOn_24 : decode cX11_mayOn 24 = .ok (.iastore, 1) := by decide +kernel
theorem dX11_mayOn_25 : decode cX11_mayOn 25 = .ok (.aload_n 0, 1) := by decide +kernel
theorem dX11_mayOn_26 : decode cX11_mayOn 26 = .ok (.getfield 102, 3) := by decide +kernel
theorem dX11_mayOn_29 : decode cX11_mayOn 29 = .ok (.iconst 1, 1) := by decide +kernel
theorem dX11_mayOn_30 : decode cX11_mayOn 30 = .ok (.aload_n 0, 1) := by decide +kernel
theorem dX11_mayOn_31 : decode cX11_mayOn 31 = .ok (.iload_n 2, 1) := by decide +kernel
theorem dX11_mayOn_32 : decode cX11_mayOn 32 = .ok (.iconst 0, 1) := by decide +kernel
theorem dX11_mayOn_33 : decode cX11_mayOn 33 = .ok (.invokevirtual 271, 3) := by decide +kernel
theorem dX11_mayOn_36 : decode cX11_mayOn 36 = .ok (.iastore, 1) := by decide +kernel
theorem dX11_mayOn_37 : decode cX11_mayOn 37 = .ok (.aload_n 0, 1) := by decide +kernel
theorem dX11_mayOn_38 : decode cX11_mayOn 38 = .ok (.getfield 102, 3) := by decide +kernel
theorem dX11_mayOn_41 : decode cX11_mayOn 41 = .ok (.iconst 2, 1) := by decide +kernel
theorem dX11_mayOn_42 : decode cX11_mayOn 42 = .ok (.aload_n 0, 1) := by decide +kernel
theorem dX11_mayOn_43 : decode cX11_mayOn 43 = .ok (.iload_n 1, 1) := by decide +kernel
theorem dX11_mayOn_44 : decode cX11_mayOn 44 = .ok (.iconst 1, 1) := by decide +kernel
theorem dX11_mayOn_45 : decode cX11_mayOn 45 = .ok (.invokevirtual 271, 3) := by decide +kernel
theorem dX11_mayOn_48 : decode cX11_mayOn 48 = .ok (.iastore, 1) := by decide +kernel
theorem dX11_mayOn_49 : decode cX11_mayOn 49 = .ok (.aload_n 0, 1) := by decide +kernel
theorem dX11_mayOn_50 : decode cX11_mayOn 50 = .ok (.getfield 102, 3) := by decide +kernel
theorem dX11_mayOn_53 : decode cX11_mayOn 53 = .ok (.iconst 3, 1) := by decide +kernel
theorem dX11_mayOn_54 : decode cX11_mayOn 54 = .ok (.aload_n 0, 1) := by decide +kernel
theorem dX11_mayOn_55 : decode cX11_mayOn 55 = .ok (.iload_n 2, 1) := by decide +kernel
theorem dX11_mayOn_56 : decode cX11_mayOn 56 = .ok (.iconst 1, 1) := by decide +kernel
theorem dX11_mayOn_57 : decode cX11_mayOn 57 = .ok (.invokevirtual 271, 3) := by decide +kernel
theorem dX11_mayOn_60 : decode cX11_mayOn 60 = .ok (.iastore, 1) := by decide +kernel
theorem dX11_mayOn_61 : decode cX11_mayOn 61 = .ok (.aload_n 0, 1) := by decide +kernel
theorem dX11_mayOn_62 : decode cX11_mayOn 62 = .ok (.getfield 102, 3) := by decide +kernel
theorem dX11_mayOn_65 : decode cX11_mayOn 65 = .ok (.iconst 4, 1) := by decide +kernel
theorem dX11_mayOn_66 : decode cX11_mayOn 66 = .ok (.aload_n 0, 1) := by decide +kernel
theorem dX11_mayOn_67 : decode cX11_mayOn 67 = .ok (.iload_n 1, 1) := by decide +kernel
theorem dX11_mayOn_68 : decode cX11_mayOn 68 = .ok (.iconst 2, 1) := by decide +kernel
theorem dX11_mayOn_69 : decode cX11_mayOn 69 = .ok (.invokevirtual 271, 3) := by decide +kernel
theorem dX11_mayOn_72 : decode cX11_mayOn 72 = .ok (.iastore, 1) := by decide +kernel
theorem dX11_mayOn_73 : decode cX11_mayOn 73 = .ok (.aload_n 0, 1) := by decide +kernel
theorem dX11_mayOn_74 : decode cX11_mayOn 74 = .ok (.getfield 102, 3) := by decide +kernel
theorem dX11_mayOn_77 : decode cX11_mayOn 77 = .ok (.iconst 5, 1) := by decide +kernel
theorem dX11_mayOn_78 : decode cX11_mayOn 78 = .ok (.aload_n 0, 1) := by decide +kernel
theorem dX11_mayOn_79 : decode cX11_mayOn 79 = .ok (.iload_n 2, 1) := by decide +kernel
theorem dX11_mayOn_80 : decode cX11_mayOn 80 = .ok (.iconst 2, 1) := by decide +kernel
theorem dX11_mayOn_81 : decode cX11_mayOn 81 = .ok (.invokevirtual 271, 3) := by decide +kernel
theorem dX11_mayOn_84 : decode cX11_mayOn 84 = .ok (.iastore, 1) := by decide +kernel
theorem dX11_mayOn_85 : decode cX11_mayOn 85 = .ok (.aload_n 0, 1) := by decide +kernel
theorem dX11_mayOn_86 : decode cX11_mayOn 86 = .ok (.getfield 102, 3) := by decide +kernel
theorem dX11_mayOn_89 : decode cX11_mayOn 89 = .ok (.bipush 6, 2) := by decide +kernel
theorem dX11_mayOn_91 : decode cX11_mayOn 91 = .ok (.aload_n 0, 1) := by decide +kernel
theorem dX11_mayOn_92 : decode cX11_mayOn 92 = .ok (.iload_n 1, 1) := by decide +kernel
theorem dX11_mayOn_93 : decode cX11_mayOn 93 = .ok (.bipush 6, 2) := by decide +kernel
theorem dX11_mayOn_95 : decode cX11_mayOn 95 = .ok (.invokevirtual 271, 3) := by decide +kernel
theorem dX11_mayOn_98 : decode cX11_mayOn 98 = .ok (.iastore, 1) := by decide +kernel
theorem dX11_mayOn_99 : decode cX11_mayOn 99 = .ok (.aload_n 0, 1) := by decide +kernel
theorem dX11_mayOn_100 : decode cX11_mayOn 100 = .ok (.getfield 102, 3) := by decide +kernel
theorem dX11_mayOn_103 : decode cX11_mayOn 103 = .ok (.bipush 7, 2) := by decide +kernel
theorem dX11_mayOn_105 : decode cX11_mayOn 105 = .ok (.aload_n 0, 1) := by decide +kernel
theorem dX11_mayOn_106 : decode cX11_mayOn 106 = .ok (.iload_n 2, 1) := by decide +kernel
theorem dX11_mayOn_107 : decode cX11_mayOn 107 = .ok (.bipush 6, 2) := by decide +kernel
theorem dX11_mayOn_109 : decode cX11_mayOn 109 = .ok (.invokevirtual 271, 3) := by decide +kernel
theorem dX11_mayOn_112 : decode cX11_mayOn 112 = .ok (.iastore, 1) := by decide +kernel
theorem dX11_mayOn_113 : decode cX11_mayOn 113 = .ok (.aload_n 0, 1) := by decide +kernel
theorem dX11_mayOn_114 : decode cX11_mayOn 114 = .ok (.getfield 83, 3) := by decide +kernel
theorem dX11_mayOn_117 : decode cX11_mayOn 117 = .ok (.iconst 2, 1) := by decide +kernel
theorem dX11_mayOn_118 : decode cX11_mayOn 118 = .ok (.iaload, 1) := by decide +kernel
theorem dX11_mayOn_119 : decode cX11_mayOn 119 = .ok (.ifCond .gt 18, 3) := by decide +kernel
theorem dX11_mayOn_122 : decode cX11_mayOn 122 = .ok (.aload_n 0, 1) := by decide +kernel
theorem dX11_mayOn_123 : decode cX11_mayOn 123 = .ok (.getfield 102, 3) := by decide +kernel
theorem dX11_mayOn_126 : decode cX11_mayOn 126 = .ok (.iconst 0, 1) := by decide +kernel
theorem dX11_mayOn_127 : decode cX11_mayOn 127 = .ok (.iaload, 1) := by decide +kernel
theorem dX11_mayOn_128 : decode cX11_mayOn 128 = .ok (.aload_n 0, 1) := by decide +kernel
theorem dX11_mayOn_129 : decode cX11_mayOn 129 = .ok (.getfield 102, 3) := by decide +kernel
theorem dX11_mayOn_132 : decode cX11_mayOn 132 = .ok (.iconst 1, 1) := by decide +kernel
theorem dX11_mayOn_133 : decode cX11_mayOn 133 = .ok (.iaload, 1) := by decide +kernel
theorem dX11_mayOn_134 : decode cX11_mayOn 134 = .ok (.if_icmp .ge 7, 3) := by decide +kernel
theorem dX11_mayOn_137 : decode cX11_mayOn 137 = .ok (.iconst 1, 1) := by decide +kernel
theorem dX11_mayOn_138 : decode cX11_mayOn 138 = .ok (.goto 4, 3) := by decide +kernel
theorem dX11_mayOn_141 : decode cX11_mayOn 141 = .ok (.iconst 0, 1) := by decide +kernel
theorem dX11_mayOn_142 : decode cX11_mayOn 142 = .ok (.istore_n 3, 1) := by decide +kernel
theorem dX11_mayOn_143 : decode cX11_mayOn 143 = .ok (.iconst 0, 1) := by decide +kernel
theorem dX11_mayOn_144 : decode cX11_mayOn 144 = .ok (.istore 4, 2) := by decide +kernel
theorem dX11_mayOn_146 : decode cX11_mayOn 146 = .ok (.iload 4, 2) := by decide +kernel
theorem dX11_mayOn_148 : decode cX11_mayOn 148 = .ok (.aload_n 0, 1) := by decide +kernel
theorem dX11_mayOn_149 : decode cX11_mayOn 149 = .ok (.getfield 83, 3) := by decide +kernel
theorem dX11_mayOn_152 : decode cX11_mayOn 152 = .ok (.iconst 2, 1) := by decide +kernel
theorem dX11_mayOn_153 : decode cX11_mayOn 153 = .ok (.iaload, 1) := by decide +kernel
theorem dX11_mayOn_154 : decode cX11_mayOn 154 = .ok (.if_icmp .ge 36, 3) := by decide +kernel
theorem dX11_mayOn_157 : decode cX11_mayOn 157 = .ok (.iload_n 3, 1) := by decide +kernel
theorem dX11_mayOn_158 : decode cX11_mayOn 158 = .ok (.ifCond .eq 24, 3) := by decide +kernel
theorem dX11_mayOn_161 : decode cX11_mayOn 161 = .ok (.aload_n 0, 1) := by decide +kernel
theorem dX11_mayOn_162 : decode cX11_mayOn 162 = .ok (.aload_n 0, 1) := by decide +kernel
theorem dX11_mayOn_163 : decode cX11_mayOn 163 = .ok (.getfield 83, 3) := by decide +kernel
theorem dX11_mayOn_166 : decode cX11_mayOn 166 = .ok (.bipush 111, 2) := by decide +kernel
theorem dX11_mayOn_168 : decode cX11_mayOn 168 = .ok (.iload 4, 2) := by decide +kernel
theorem dX11_mayOn_170 : decode cX11_mayOn 170 = .ok (.iadd, 1) := by decide +kernel
theorem dX11_mayOn_171 : decode cX11_mayOn 171 = .ok (.iaload, 1) := by decide +kernel
theorem dX11_mayOn_172 : decode cX11_mayOn 172 = .ok (.invokevirtual 274, 3) := by decide +kernel
theorem dX11_mayOn_175 : decode cX11_mayOn 175 = .ok (.ifCond .eq 7, 3) := by decide +kernel
theorem dX11_mayOn_178 : decode cX11_mayOn 178 = .ok (.iconst 1, 1) := by decide +kernel
theorem dX11_mayOn_179 : decode cX11_mayOn 179 = .ok (.goto 4, 3) := by decide +kernel
theorem dX11_mayOn_182 : decode cX11_mayOn 182 = .ok (.iconst 0, 1) := by decide +kernel
theorem dX11_mayOn_183 : decode cX11_mayOn 183 = .ok (.istore_n 3, 1) := by decide +kernel
theorem dX11_mayOn_184 : decode cX11_mayOn 184 = .ok (.iinc 4 1, 3) := by decide +kernel
theorem dX11_mayOn_187 : decode cX11_mayOn 187 = .ok (.goto (-41), 3) := by decide +kernel
theorem dX11_mayOn_190 : decode cX11_mayOn 190 = .ok (.iload_n 3, 1) := by decide +kernel
theorem dX11_mayOn_191 : decode cX11_mayOn 191 = .ok (.ireturn, 1) := by decide +kernel
/-- from place i, with h numbers waiting, the code ends with one -/
def W1 (o a : Nat → Int32) (i h : Nat) : Prop := ∃ e : Nat, i ≤ e ∧ e < 1100 ∧ o e = 0 ∧ sim o a (e - i) i h = some 1
theorem W1.cast {o a : Nat → Int32} {i h i' h' : Nat} (H : W1 o a i h) (e1 : i' = i) (e2 : h' = h) : W1 o a i' h' := by subst e1 e2; exact H
theorem W1.lt {o a : Nat → Int32} {i h : Nat} (H : W1 o a i h) : i < 1100 := by obtain ⟨e, h1, h2, -⟩ := H; omega
theorem W1.step {o a : Nat → Int32} {i h : Nat} (H : W1 o a i h) (hn : ¬ o i = 0) : ∃ z, stp (o i) (a i) h = some z ∧ W1 o a (i + 1) z := by
  obtain ⟨e, h1, h2, h3, h4⟩ := H
  have h5 : i ≠ e := fun z => hn (z ▸ h3)
  rw [show e - i = (e - (i + 1)) + 1 from (by omega), sim_s] at h4
  cases hz : stp (o i) (a i) h with
  | none => rw [hz] at h4; exact absurd h4 (by simp)
  | some z => rw [hz] at h4; exact ⟨z, rfl, e, by omega, h2, h3, h4⟩
theorem W1.s1 {o a : Nat → Int32} {i h : Nat} (H : W1 o a i h) (e : o i = 1) : W1 o a (i + 1) (h + 1) := by
  obtain ⟨z, h1, h2⟩ := H.step (by rw [e]; decide)
  rw [e] at h1
  have h3 : some (h + 1) = some z := h1
  cases h3; exact h2
theorem W1.s2 {o a : Nat → Int32} {i h : Nat} (H : W1 o a i h) (e : o i = 2) : (0 ≤ (a i).toInt ∧ (a i).toInt ≤ 7) ∧ W1 o a (i + 1) (h + 1) := by
  obtain ⟨z, h1, h2⟩ := H.step (by rw [e]; decide)
  rw [e] at h1
  have h3 : (if 0 ≤ (a i).toInt ∧ (a i).toInt ≤ 7 then some (h + 1) else none) = some z := h1
  by_cases q : 0 ≤ (a i).toInt ∧ (a i).toInt ≤ 7
  · rw [if_pos q] at h3; cases h3; exact ⟨q, h2⟩
  · rw [if_neg q] at h3; cases h3
theorem W1.s3 {o a : Nat → Int32} {i h : Nat} (H : W1 o a i h) (e : o i = 3) : 1 ≤ h ∧ W1 o a (i + 1) h := by
  obtain ⟨z, h1, h2⟩ := H.step (by rw [e]; decide)
  rw [e] at h1
  have h3 : (if 1 ≤ h then some h else none) = some z := h1
  by_cases q : 1 ≤ h
  · rw [if_pos q] at h3; cases h3; exact ⟨q, h2⟩
  · rw [if_neg q] at h3; cases h3
theorem W1.s4 {o a : Nat → Int32} {i h : Nat} (H : W1 o a i h) (n0 : ¬ o i = 0) (n1 : ¬ o i = 1) (n2 : ¬ o i = 2) (n3 : ¬ o i = 3) : 2 ≤ h ∧ W1 o a (i + 1) (h - 1) := by
  obtain ⟨z, h1, h2⟩ := H.step n0
  unfold stp at h1
  rw [if_neg n1, if_neg n2, if_neg n3] at h1
  by_cases q : 4 ≤ (o i).toInt ∧ (o i).toInt ≤ 10
  · rw [if_pos q] at h1
    by_cases q2 : 2 ≤ h
    · rw [if_pos q2] at h1; cases h1; exact ⟨q2, h2⟩
    · rw [if_neg q2] at h1; cases h1
  · rw [if_neg q] at h1; cases h1
theorem W1.of {o a : Nat → Int32} {i : Nat} (h : ∃ e : Nat, Seg o a i e ∧ o e = 0 ∧ e < 1100) : W1 o a i 0 := by
  obtain ⟨e, h1, h2, h3⟩ := h
  exact ⟨e, h1.1, h3, h2, h1.2 0⟩
theorem AD.nat {x : Int} (h : AD x) : AD ((x.toNat : Nat) : Int) := by have := h.bd; rw [Int.toNat_of_nonneg (by omega)]; exact h
set_option maxHeartbeats 4000000 in
set_option maxRecDepth 100000 in
theorem c_X11_both (l : Launch) (D : DG) (cyC cyI cyJ cyZ cyO : ClassId) (p0 : Int32) (p1 : Int32) (p2 : Int32) : KK l D (TY cyC cyI cyJ cyZ cyO) yX11_both cX11_both 3 (some .int) ({ frames := 0, cells := 0, slots := 0, locals := 0 } : Room) 0 0 [.int p0, .int p1, .int p2] [] (fun u => some (.int (u.2.1 0))) (fun u => ((u.2.1 0) = bth p0 p1 p2)) (fun u => []) := by
  refine KK.of (lv0 := [(0, .int p0), (1, .int p1), (2, .int p2)]) (by decide) rfl (Nat.le_of_ble_eq_true rfl) ?_
  intro p e s m args below meth c A C hr hk hin
  refine j_iload_n (pc := 0) C dX11_both_0 rfl 0 rfl ?_
  rcases (by omega : p0.toInt = 4 ∨ p0.toInt = 5 ∨ p0.toInt = 6 ∨ p0.toInt = 7 ∨ p0.toInt = 8 ∨ p0.toInt = 9 ∨ (¬ p0.toInt = 4 ∧ ¬ p0.toInt = 5 ∧ ¬ p0.toInt = 6 ∧ ¬ p0.toInt = 7 ∧ ¬ p0.toInt = 8 ∧ ¬ p0.toInt = 9)) with sw_1 | sw_1 | sw_1 | sw_1 | sw_1 | sw_1 | sw_1
  · skip
    refine j_tin (pc := 1) (off := 39) (tgt := 40) C dX11_both_1 (by omega) (by omega) (by rw [sw_1]; decide) (by decide) ?_
    refine j_iload_n (pc := 40) C dX11_both_40 rfl 1 rfl ?_
    refine j_iload_n (pc := 41) C dX11_both_41 rfl 2 rfl ?_
    obtain ⟨v_2, ev_2⟩ : ∃ z : Int32, p1 + p2 = z := ⟨_, rfl⟩
    refine j_iadd (pc := 42) (v := v_2) C dX11_both_42 ev_2 ?_
    have el_0 : (0 : Int32).toInt = 0 := rfl
    have el_4 : (4 : Int32).toInt = 4 := rfl
    have el_5 : (5 : Int32).toInt = 5 := rfl
    have el_6 : (6 : Int32).toInt = 6 := rfl
    have el_7 : (7 : Int32).toInt = 7 := rfl
    have el_8 : (8 : Int32).toInt = 8 := rfl
    have el_9 : (9 : Int32).toInt = 9 := rfl
    exact j_iret (pc := 43) C hr hk (fun i => [].getD i 0, fun i => [v_2].getD i 0, fun i => [].getD i (fun _ => 0), fun i => [].getD i (fun _ => 0)) rfl (show (v_2 = bth p0 p1 p2) from ((by unfold bth; rw [if_pos ((i_eq _ _).mpr (by omega))]; exact ev_2.symm))) [] (by decide) rfl (by decide) (by decide) dX11_both_43
  · skip
    refine j_tin (pc := 1) (off := 43) (tgt := 44) C dX11_both_1 (by omega) (by omega) (by rw [sw_1]; decide) (by decide) ?_
    refine j_iload_n (pc := 44) C dX11_both_44 rfl 1 rfl ?_
    refine j_iload_n (pc := 45) C dX11_both_45 rfl 2 rfl ?_
    obtain ⟨v_3, ev_3⟩ : ∃ z : Int32, p1 - p2 = z := ⟨_, rfl⟩
    refine j_isub (pc := 46) (v := v_3) C dX11_both_46 ev_3 ?_
    have el_0 : (0 : Int32).toInt = 0 := rfl
    have el_4 : (4 : Int32).toInt = 4 := rfl
    have el_5 : (5 : Int32).toInt = 5 := rfl
    have el_6 : (6 : Int32).toInt = 6 := rfl
    have el_7 : (7 : Int32).toInt = 7 := rfl
    have el_8 : (8 : Int32).toInt = 8 := rfl
    have el_9 : (9 : Int32).toInt = 9 := rfl
    exact j_iret (pc := 47) C hr hk (fun i => [].getD i 0, fun i => [v_3].getD i 0, fun i => [].getD i (fun _ => 0), fun i => [].getD i (fun _ => 0)) rfl (show (v_3 = bth p0 p1 p2) from ((by unfold bth; rw [if_neg (by rw [i_eq]; omega), if_pos ((i_eq _ _).mpr (by omega))]; exact ev_3.symm))) [] (by decide) rfl (by decide) (by decide) dX11_both_47
  · skip
    refine j_tin (pc := 1) (off := 47) (tgt := 48) C dX11_both_1 (by omega) (by omega) (by rw [sw_1]; decide) (by decide) ?_
    refine j_iload_n (pc := 48) C dX11_both_48 rfl 1 rfl ?_
    refine j_iload_n (pc := 49) C dX11_both_49 rfl 2 rfl ?_
    obtain ⟨v_4, ev_4⟩ : ∃ z : Int32, p1 * p2 = z := ⟨_, rfl⟩
    refine j_imul (pc := 50) (v := v_4) C dX11_both_50 ev_4 ?_
    have el_0 : (0 : Int32).toInt = 0 := rfl
    have el_4 : (4 : Int32).toInt = 4 := rfl
    have el_5 : (5 : Int32).toInt = 5 := rfl
    have el_6 : (6 : Int32).toInt = 6 := rfl
    have el_7 : (7 : Int32).toInt = 7 := rfl
    have el_8 : (8 : Int32).toInt = 8 := rfl
    have el_9 : (9 : Int32).toInt = 9 := rfl
    exact j_iret (pc := 51) C hr hk (fun i => [].getD i 0, fun i => [v_4].getD i 0, fun i => [].getD i (fun _ => 0), fun i => [].getD i (fun _ => 0)) rfl (show (v_4 = bth p0 p1 p2) from ((by unfold bth; rw [if_neg (by rw [i_eq]; omega), if_neg (by rw [i_eq]; omega), if_pos ((i_eq _ _).mpr (by omega))]; exact ev_4.symm))) [] (by decide) rfl (by decide) (by decide) dX11_both_51
  · skip
    refine j_tin (pc := 1) (off := 51) (tgt := 52) C dX11_both_1 (by omega) (by omega) (by rw [sw_1]; decide) (by decide) ?_
    refine j_iload_n (pc := 52) C dX11_both_52 rfl 1 rfl ?_
    refine j_iload_n (pc := 53) C dX11_both_53 rfl 2 rfl ?_
    refine j_icmp_ge (pc := 54) (tgt := 61) C dX11_both_54 (by decide) (fun c_5 => ?_) (fun c_5 => ?_)
    · skip
      rw [i_le] at c_5
      refine j_iconst (pc := 61) (v := 0) C dX11_both_61 (by decide) ?_
      have el_0 : (0 : Int32).toInt = 0 := rfl
      have el_0 : (0 : Int32).toInt = 0 := rfl
      have el_4 : (4 : Int32).toInt = 4 := rfl
      have el_5 : (5 : Int32).toInt = 5 := rfl
      have el_6 : (6 : Int32).toInt = 6 := rfl
      have el_7 : (7 : Int32).toInt = 7 := rfl
      have el_8 : (8 : Int32).toInt = 8 := rfl
      have el_9 : (9 : Int32).toInt = 9 := rfl
      exact j_iret (pc := 62) C hr hk (fun i => [].getD i 0, fun i => [0].getD i 0, fun i => [].getD i (fun _ => 0), fun i => [].getD i (fun _ => 0)) rfl (show ((0 : Int32) = bth p0 p1 p2) from ((by unfold bth; rw [if_neg (by rw [i_eq]; omega), if_neg (by rw [i_eq]; omega), if_neg (by rw [i_eq]; omega), if_pos ((i_eq _ _).mpr (by omega))]; rw [if_neg (by rw [i_lt]; omega)]))) [] (by decide) rfl (by decide) (by decide) dX11_both_62
    · skip
      rw [i_le] at c_5
      refine j_iconst (pc := 57) (v := 1) C dX11_both_57 (by decide) ?_
      refine j_goto (pc := 58) (tgt := 62) C dX11_both_58 (by decide) ?_
      have el_1 : (1 : Int32).toInt = 1 := rfl
      have el_0 : (0 : Int32).toInt = 0 := rfl
      have el_4 : (4 : Int32).toInt = 4 := rfl
      have el_5 : (5 : Int32).toInt = 5 := rfl
      have el_6 : (6 : Int32).toInt = 6 := rfl
      have el_7 : (7 : Int32).toInt = 7 := rfl
      have el_8 : (8 : Int32).toInt = 8 := rfl
      have el_9 : (9 : Int32).toInt = 9 := rfl
      exact j_iret (pc := 62) C hr hk (fun i => [].getD i 0, fun i => [1].getD i 0, fun i => [].getD i (fun _ => 0), fun i => [].getD i (fun _ => 0)) rfl (show ((1 : Int32) = bth p0 p1 p2) from ((by unfold bth; rw [if_neg (by rw [i_eq]; omega), if_neg (by rw [i_eq]; omega), if_neg (by rw [i_eq]; omega), if_pos ((i_eq _ _).mpr (by omega))]; rw [if_pos ((i_lt _ _).mpr (by omega))]))) [] (by decide) rfl (by decide) (by decide) dX11_both_62
  · skip
    refine j_tin (pc := 1) (off := 62) (tgt := 63) C dX11_both_1 (by omega) (by omega) (by rw [sw_1]; decide) (by decide) ?_
    refine j_iload_n (pc := 63) C dX11_both_63 rfl 1 rfl ?_
    refine j_iload_n (pc := 64) C dX11_both_64 rfl 2 rfl ?_
    refine j_icmp_ne (pc := 65) (tgt := 72) C dX11_both_65 (by decide) (fun c_6 => ?_) (fun c_6 => ?_)
    · skip
      rw [i_eq] at c_6
      refine j_iconst (pc := 72) (v := 0) C dX11_both_72 (by decide) ?_
      have el_0 : (0 : Int32).toInt = 0 := rfl
      have el_0 : (0 : Int32).toInt = 0 := rfl
      have el_4 : (4 : Int32).toInt = 4 := rfl
      have el_5 : (5 : Int32).toInt = 5 := rfl
      have el_6 : (6 : Int32).toInt = 6 := rfl
      have el_7 : (7 : Int32).toInt = 7 := rfl
      have el_8 : (8 : Int32).toInt = 8 := rfl
      have el_9 : (9 : Int32).toInt = 9 := rfl
      exact j_iret (pc := 73) C hr hk (fun i => [].getD i 0, fun i => [0].getD i 0, fun i => [].getD i (fun _ => 0), fun i => [].getD i (fun _ => 0)) rfl (show ((0 : Int32) = bth p0 p1 p2) from ((by unfold bth; rw [if_neg (by rw [i_eq]; omega), if_neg (by rw [i_eq]; omega), if_neg (by rw [i_eq]; omega), if_neg (by rw [i_eq]; omega), if_pos ((i_eq _ _).mpr (by omega))]; rw [if_neg (by rw [i_eq]; omega)]))) [] (by decide) rfl (by decide) (by decide) dX11_both_73
    · skip
      rw [i_eq] at c_6
      refine j_iconst (pc := 68) (v := 1) C dX11_both_68 (by decide) ?_
      refine j_goto (pc := 69) (tgt := 73) C dX11_both_69 (by decide) ?_
      have el_1 : (1 : Int32).toInt = 1 := rfl
      have el_0 : (0 : Int32).toInt = 0 := rfl
      have el_4 : (4 : Int32).toInt = 4 := rfl
      have el_5 : (5 : Int32).toInt = 5 := rfl
      have el_6 : (6 : Int32).toInt = 6 := rfl
      have el_7 : (7 : Int32).toInt = 7 := rfl
      have el_8 : (8 : Int32).toInt = 8 := rfl
      have el_9 : (9 : Int32).toInt = 9 := rfl
      exact j_iret (pc := 73) C hr hk (fun i => [].getD i 0, fun i => [1].getD i 0, fun i => [].getD i (fun _ => 0), fun i => [].getD i (fun _ => 0)) rfl (show ((1 : Int32) = bth p0 p1 p2) from ((by unfold bth; rw [if_neg (by rw [i_eq]; omega), if_neg (by rw [i_eq]; omega), if_neg (by rw [i_eq]; omega), if_neg (by rw [i_eq]; omega), if_pos ((i_eq _ _).mpr (by omega))]; rw [if_pos ((i_eq _ _).mpr (by omega))]))) [] (by decide) rfl (by decide) (by decide) dX11_both_73
  · skip
    refine j_tin (pc := 1) (off := 73) (tgt := 74) C dX11_both_1 (by omega) (by omega) (by rw [sw_1]; decide) (by decide) ?_
    refine j_iload_n (pc := 74) C dX11_both_74 rfl 1 rfl ?_
    refine j_if_eq (pc := 75) (tgt := 86) C dX11_both_75 (by decide) (fun c_7 => ?_) (fun c_7 => ?_)
    · skip
      have el_0 : (0 : Int32).toInt = 0 := rfl
      rw [i_eq] at c_7
      refine j_iconst (pc := 86) (v := 0) C dX11_both_86 (by decide) ?_
      have el_0 : (0 : Int32).toInt = 0 := rfl
      have el_0 : (0 : Int32).toInt = 0 := rfl
      have el_4 : (4 : Int32).toInt = 4 := rfl
      have el_5 : (5 : Int32).toInt = 5 := rfl
      have el_6 : (6 : Int32).toInt = 6 := rfl
      have el_7 : (7 : Int32).toInt = 7 := rfl
      have el_8 : (8 : Int32).toInt = 8 := rfl
      have el_9 : (9 : Int32).toInt = 9 := rfl
      exact j_iret (pc := 87) C hr hk (fun i => [].getD i 0, fun i => [0].getD i 0, fun i => [].getD i (fun _ => 0), fun i => [].getD i (fun _ => 0)) rfl (show ((0 : Int32) = bth p0 p1 p2) from ((by unfold bth; rw [if_neg (by rw [i_eq]; omega), if_neg (by rw [i_eq]; omega), if_neg (by rw [i_eq]; omega), if_neg (by rw [i_eq]; omega), if_neg (by rw [i_eq]; omega), if_pos ((i_eq _ _).mpr (by omega))]; rw [if_neg (by rw [i_eq, i_eq]; omega)]))) [] (by decide) rfl (by decide) (by decide) dX11_both_87
    · skip
      have el_0 : (0 : Int32).toInt = 0 := rfl
      rw [i_eq] at c_7
      refine j_iload_n (pc := 78) C dX11_both_78 rfl 2 rfl ?_
      refine j_if_eq (pc := 79) (tgt := 86) C dX11_both_79 (by decide) (fun c_8 => ?_) (fun c_8 => ?_)
      · skip
        have el_0 : (0 : Int32).toInt = 0 := rfl
        rw [i_eq] at c_8
        refine j_iconst (pc := 86) (v := 0) C dX11_both_86 (by decide) ?_
        have el_0 : (0 : Int32).toInt = 0 := rfl
        have el_0 : (0 : Int32).toInt = 0 := rfl
        have el_4 : (4 : Int32).toInt = 4 := rfl
        have el_5 : (5 : Int32).toInt = 5 := rfl
        have el_6 : (6 : Int32).toInt = 6 := rfl
        have el_7 : (7 : Int32).toInt = 7 := rfl
        have el_8 : (8 : Int32).toInt = 8 := rfl
        have el_9 : (9 : Int32).toInt = 9 := rfl
        exact j_iret (pc := 87) C hr hk (fun i => [].getD i 0, fun i => [0].getD i 0, fun i => [].getD i (fun _ => 0), fun i => [].getD i (fun _ => 0)) rfl (show ((0 : Int32) = bth p0 p1 p2) from ((by unfold bth; rw [if_neg (by rw [i_eq]; omega), if_neg (by rw [i_eq]; omega), if_neg (by rw [i_eq]; omega), if_neg (by rw [i_eq]; omega), if_neg (by rw [i_eq]; omega), if_pos ((i_eq _ _).mpr (by omega))]; rw [if_neg (by rw [i_eq, i_eq]; omega)]))) [] (by decide) rfl (by decide) (by decide) dX11_both_87
      · skip
        have el_0 : (0 : Int32).toInt = 0 := rfl
        rw [i_eq] at c_8
        refine j_iconst (pc := 82) (v := 1) C dX11_both_82 (by decide) ?_
        refine j_goto (pc := 83) (tgt := 87) C dX11_both_83 (by decide) ?_
        have el_1 : (1 : Int32).toInt = 1 := rfl
        have el_0 : (0 : Int32).toInt = 0 := rfl
        have el_4 : (4 : Int32).toInt = 4 := rfl
        have el_5 : (5 : Int32).toInt = 5 := rfl
        have el_6 : (6 : Int32).toInt = 6 := rfl
        have el_7 : (7 : Int32).toInt = 7 := rfl
        have el_8 : (8 : Int32).toInt = 8 := rfl
        have el_9 : (9 : Int32).toInt = 9 := rfl
        exact j_iret (pc := 87) C hr hk (fun i => [].getD i 0, fun i => [1].getD i 0, fun i => [].getD i (fun _ => 0), fun i => [].getD i (fun _ => 0)) rfl (show ((1 : Int32) = bth p0 p1 p2) from ((by unfold bth; rw [if_neg (by rw [i_eq]; omega), if_neg (by rw [i_eq]; omega), if_neg (by rw [i_eq]; omega), if_neg (by rw [i_eq]; omega), if_neg (by rw [i_eq]; omega), if_pos ((i_eq _ _).mpr (by omega))]; rw [if_pos ⟨by rw [i_eq]; omega, by rw [i_eq]; omega⟩]))) [] (by decide) rfl (by decide) (by decide) dX11_both_87
  · skip
    refine j_tout (pc := 1) (tgt := 88) C dX11_both_1 (by omega) (by decide) ?_
    refine j_iload_n (pc := 88) C dX11_both_88 rfl 1 rfl ?_
    refine j_if_ne (pc := 89) (tgt := 96) C dX11_both_89 (by decide) (fun c_9 => ?_) (fun c_9 => ?_)
    · skip
      have el_0 : (0 : Int32).toInt = 0 := rfl
      rw [i_eq] at c_9
      refine j_iconst (pc := 96) (v := 1) C dX11_both_96 (by decide) ?_
      refine j_goto (pc := 97) (tgt := 101) C dX11_both_97 (by decide) ?_
      have el_1 : (1 : Int32).toInt = 1 := rfl
      have el_0 : (0 : Int32).toInt = 0 := rfl
      have el_4 : (4 : Int32).toInt = 4 := rfl
      have el_5 : (5 : Int32).toInt = 5 := rfl
      have el_6 : (6 : Int32).toInt = 6 := rfl
      have el_7 : (7 : Int32).toInt = 7 := rfl
      have el_8 : (8 : Int32).toInt = 8 := rfl
      have el_9 : (9 : Int32).toInt = 9 := rfl
      exact j_iret (pc := 101) C hr hk (fun i => [].getD i 0, fun i => [1].getD i 0, fun i => [].getD i (fun _ => 0), fun i => [].getD i (fun _ => 0)) rfl (show ((1 : Int32) = bth p0 p1 p2) from ((by unfold bth; rw [if_neg (by rw [i_eq]; omega), if_neg (by rw [i_eq]; omega), if_neg (by rw [i_eq]; omega), if_neg (by rw [i_eq]; omega), if_neg (by rw [i_eq]; omega), if_neg (by rw [i_eq]; omega)]; rw [if_pos (by rw [i_eq, i_eq]; omega)]))) [] (by decide) rfl (by decide) (by decide) dX11_both_101
    · skip
      have el_0 : (0 : Int32).toInt = 0 := rfl
      rw [i_eq] at c_9
      refine j_iload_n (pc := 92) C dX11_both_92 rfl 2 rfl ?_
      refine j_if_eq (pc := 93) (tgt := 100) C dX11_both_93 (by decide) (fun c_10 => ?_) (fun c_10 => ?_)
      · skip
        have el_0 : (0 : Int32).toInt = 0 := rfl
        rw [i_eq] at c_10
        refine j_iconst (pc := 100) (v := 0) C dX11_both_100 (by decide) ?_
        have el_0 : (0 : Int32).toInt = 0 := rfl
        have el_0 : (0 : Int32).toInt = 0 := rfl
        have el_4 : (4 : Int32).toInt = 4 := rfl
        have el_5 : (5 : Int32).toInt = 5 := rfl
        have el_6 : (6 : Int32).toInt = 6 := rfl
        have el_7 : (7 : Int32).toInt = 7 := rfl
        have el_8 : (8 : Int32).toInt = 8 := rfl
        have el_9 : (9 : Int32).toInt = 9 := rfl
        exact j_iret (pc := 101) C hr hk (fun i => [].getD i 0, fun i => [0].getD i 0, fun i => [].getD i (fun _ => 0), fun i => [].getD i (fun _ => 0)) rfl (show ((0 : Int32) = bth p0 p1 p2) from ((by unfold bth; rw [if_neg (by rw [i_eq]; omega), if_neg (by rw [i_eq]; omega), if_neg (by rw [i_eq]; omega), if_neg (by rw [i_eq]; omega), if_neg (by rw [i_eq]; omega), if_neg (by rw [i_eq]; omega)]; rw [if_neg (by rw [i_eq, i_eq]; omega)]))) [] (by decide) rfl (by decide) (by decide) dX11_both_101
      · skip
        have el_0 : (0 : Int32).toInt = 0 := rfl
        rw [i_eq] at c_10
        refine j_iconst (pc := 96) (v := 1) C dX11_both_96 (by decide) ?_
        refine j_goto (pc := 97) (tgt := 101) C dX11_both_97 (by decide) ?_
        have el_1 : (1 : Int32).toInt = 1 := rfl
        have el_0 : (0 : Int32).toInt = 0 := rfl
        have el_4 : (4 : Int32).toInt = 4 := rfl
        have el_5 : (5 : Int32).toInt = 5 := rfl
        have el_6 : (6 : Int32).toInt = 6 := rfl
        have el_7 : (7 : Int32).toInt = 7 := rfl
        have el_8 : (8 : Int32).toInt = 8 := rfl
        have el_9 : (9 : Int32).toInt = 9 := rfl
        exact j_iret (pc := 101) C hr hk (fun i => [].getD i 0, fun i => [1].getD i 0, fun i => [].getD i (fun _ => 0), fun i => [].getD i (fun _ => 0)) rfl (show ((1 : Int32) = bth p0 p1 p2) from ((by unfold bth; rw [if_neg (by rw [i_eq]; omega), if_neg (by rw [i_eq]; omega), if_neg (by rw [i_eq]; omega), if_neg (by rw [i_eq]; omega), if_neg (by rw [i_eq]; omega), if_neg (by rw [i_eq]; omega)]; rw [if_pos (by rw [i_eq, i_eq]; omega)]))) [] (by decide) rfl (by decide) (by decide) dX11_both_101
set_option maxHeartbeats 4000000 in
set_option maxRecDepth 100000 in
theorem c_X11_worthAt (l : Launch) (D : DG) (cyC cyI cyJ cyZ cyO : ClassId) (m0 : Nat) (mop : Nat) (marg : Nat) (mfacts : Nat) (mpile : Nat) (mtape : Nat) (msort : Nat) (mplace : Nat) (mvalue : Nat) (mwords : Nat) (mtold : Nat) (mnames : Nat) (mhasHabit : Nat) (mfactWords : Nat) (mstates : Nat) (misMarked : Nat) (mrow : Nat) (mthr : Nat) (mmays : Nat) (mtall : Nat) (mweights : Nat) (mrowOfWare : Nat) (mneededOf : Nat) (mtried : Nat) (mbestRow : Nat) (mdigits : Nat) (p0 : Int32) (m_thrown : Int32) (m_taped : Int32) (m_size : Int32) (m_at : Int32) (m_fault : Int32) (m_codes : Int32) (m_isNew : Int32) (m_inShelf : Int32) (m_inStack : Int32) (m_inPlace : Int32) (m_rowMany : Int32) (m_goShelf : Int32) (m_goStack : Int32) (m_goLeft : Int32) (m_bestCost : Int32) (m_bestMany : Int32) (m_bestShelf : Int32) (m_bestSet : Int32) (m_op : Nat → Int32) (m_arg : Nat → Int32) (m_facts : Nat → Int32) (m_pile : Nat → Int32) (h_m_taped : 0 ≤ (m_taped).toInt ∧ (m_taped).toInt ≤ 1000) (h_m_size : 0 ≤ (m_size).toInt ∧ (m_size).toInt ≤ 1000) (h_m_at : 0 ≤ (m_at).toInt ∧ (m_at).toInt ≤ 1000) (h_m_fault : 0 ≤ (m_fault).toInt ∧ (m_fault).toInt ≤ 16005) (h_m_codes : 0 ≤ (m_codes).toInt ∧ (m_codes).toInt ≤ 1000) (h_m_isNew : 0 ≤ (m_isNew).toInt ∧ (m_isNew).toInt ≤ 1) (h_m_inShelf : 0 ≤ (m_inShelf).toInt ∧ (m_inShelf).toInt ≤ 3) (h_m_inStack : 0 ≤ (m_inStack).toInt ∧ (m_inStack).toInt ≤ 7) (h_m_inPlace : 0 ≤ (m_inPlace).toInt ∧ (m_inPlace).toInt ≤ 11) (h_m_rowMany : 0 ≤ (m_rowMany).toInt ∧ (m_rowMany).toInt ≤ 12) (h_m_goShelf : -1 ≤ (m_goShelf).toInt ∧ (m_goShelf).toInt ≤ 3) (h_m_bestMany : 0 ≤ (m_bestMany).toInt ∧ (m_bestMany).toInt ≤ 7) (h_m_bestShelf : 0 ≤ (m_bestShelf).toInt ∧ (m_bestShelf).toInt ≤ 3) (h_p0 : 0 ≤ (p0).toInt ∧ (p0).toInt ≤ 1000) (hwf : ∃ e : Nat, Seg m_op m_arg (p0).toInt.toNat e ∧ m_op e = 0 ∧ e < 1100) : KK l D (TY cyC cyI cyJ cyZ cyO) yX11_worthAt cX11_worthAt 5 (some .int) ({ frames := 1, cells := 0, slots := 0, locals := 22 } : Room) 0 0 [.ref m0, .int p0] [(m0, .inr (11, [.int m_thrown, .ref mtape, .int m_taped, .int m_size, .ref msort, .ref mplace, .ref mvalue, .int m_at, .int m_fault, .ref mwords, .ref mtold, .ref mop, .ref marg, .int m_codes, .ref mnames, .ref mhasHabit, .int m_isNew, .ref mfactWords, .ref mfacts, .ref mpile, .ref mstates, .ref misMarked, .int m_inShelf, .int m_inStack, .int m_inPlace, .ref mrow, .int m_rowMany, .ref mthr, .ref mmays, .ref mtall, .ref mweights, .ref mrowOfWare, .ref mneededOf, .int m_goShelf, .int m_goStack, .int m_goLeft, .ref mtried, .ref mbestRow, .int m_bestCost, .int m_bestMany, .int m_bestShelf, .int m_bestSet, .ref mdigits])), (mop, .inl (cyI, 2200, .inl m_op)), (marg, .inl (cyI, 2200, .inl m_arg)), (mfacts, .inl (cyI, 8, .inl m_facts)), (mpile, .inl (cyI, 1100, .inl m_pile))] (fun u => some (.int (u.2.1 0))) (fun u => (∀ (V : (Nat → Int32) → Int32) (e : Nat), MSeg m_op m_arg (p0).toInt.toNat e V → m_op e = 0 → (u.2.1 0) = V m_facts)) (fun u => [(m0, .inr (11, [.int m_thrown, .ref mtape, .int m_taped, .int m_size, .ref msort, .ref mplace, .ref mvalue, .int m_at, .int m_fault, .ref mwords, .ref mtold, .ref mop, .ref marg, .int m_codes, .ref mnames, .ref mhasHabit, .int m_isNew, .ref mfactWords, .ref mfacts, .ref mpile, .ref mstates, .ref misMarked, .int m_inShelf, .int m_inStack, .int m_inPlace, .ref mrow, .int m_rowMany, .ref mthr, .ref mmays, .ref mtall, .ref mweights, .ref mrowOfWare, .ref mneededOf, .int m_goShelf, .int m_goStack, .int m_goLeft, .ref mtried, .ref mbestRow, .int m_bestCost, .int m_bestMany, .int m_bestShelf, .int m_bestSet, .ref mdigits])), (mop, .inl (cyI, 2200, .inl m_op)), (marg, .inl (cyI, 2200, .inl m_arg)), (mfacts, .inl (cyI, 8, .inl m_facts)), (mpile, .inl (cyI, 1100, .inl (u.2.2.1 0)))]) := by
  refine KK.of (lv0 := [(0, .ref m0), (1, .int p0)]) (by decide) rfl (Nat.le_of_ble_eq_true rfl) ?_
  intro p e s m args below meth c A C hr hk hin
  refine j_iconst (pc := 0) (v := 0) C dX11_worthAt_0 (by decide) ?_
  refine j_istore_n (pc := 1) (lv' := [(2, .int 0), (0, .ref m0), (1, .int p0)]) C dX11_worthAt_1 rfl (by decide) rfl ?_
  refine j_iload_n (pc := 2) C dX11_worthAt_2 rfl 2 rfl ?_
  refine j_istore_n (pc := 3) (lv' := [(3, .int p0), (2, .int 0), (0, .ref m0), (1, .int p0)]) C dX11_worthAt_3 rfl (by decide) rfl ?_
  have loop_1 : ∀ (k_1 : Nat) (x1_3 : Int32) (x1_2 : Int32) (g1_mpile : Nat → Int32), (0 ≤ (x1_3).toInt ∧ (x1_3).toInt ≤ 1099) → (0 ≤ (x1_2).toInt ∧ (x1_2).toInt ≤ 1099) → (x1_2.toInt ≤ x1_3.toInt ∧ (p0).toInt ≤ x1_3.toInt) → (W1 m_op m_arg (x1_3.toInt).toNat (x1_2.toInt).toNat) → (mrun m_facts m_op m_arg (x1_3.toInt - (p0).toInt).toNat (p0).toInt.toNat (0, m_pile) = ((x1_2.toInt).toNat, g1_mpile)) → (∀ t : Nat, (p0).toInt.toNat ≤ t → (t : Int) < x1_3.toInt → ¬ m_op t = 0) → (1100 - x1_3.toInt).toNat < k_1 → J p l e ({ frames := 1, cells := 0, slots := 0, locals := 22 } : Room) s m args below meth c D A 5 0 0 (QX below D (TY cyC cyI cyJ cyZ cyO) A (fun u => some (.int (u.2.1 0))) (fun u => (∀ (V : (Nat → Int32) → Int32) (e : Nat), MSeg m_op m_arg (p0).toInt.toNat e V → m_op e = 0 → (u.2.1 0) = V m_facts)) (fun u => [(m0, .inr (11, [.int m_thrown, .ref mtape, .int m_taped, .int m_size, .ref msort, .ref mplace, .ref mvalue, .int m_at, .int m_fault, .ref mwords, .ref mtold, .ref mop, .ref marg, .int m_codes, .ref mnames, .ref mhasHabit, .int m_isNew, .ref mfactWords, .ref mfacts, .ref mpile, .ref mstates, .ref misMarked, .int m_inShelf, .int m_inStack, .int m_inPlace, .ref mrow, .int m_rowMany, .ref mthr, .ref mmays, .ref mtall, .ref mweights, .ref mrowOfWare, .ref mneededOf, .int m_goShelf, .int m_goStack, .int m_goLeft, .ref mtried, .ref mbestRow, .int m_bestCost, .int m_bestMany, .int m_bestShelf, .int m_bestSet, .ref mdigits])), (mop, .inl (cyI, 2200, .inl m_op)), (marg, .inl (cyI, 2200, .inl m_arg)), (mfacts, .inl (cyI, 8, .inl m_facts)), (mpile, .inl (cyI, 1100, .inl (u.2.2.1 0)))]) args s 0 0) [(m0, .inr (11, [.int m_thrown, .ref mtape, .int m_taped, .int m_size, .ref msort, .ref mplace, .ref mvalue, .int m_at, .int m_fault, .ref mwords, .ref mtold, .ref mop, .ref marg, .int m_codes, .ref mnames, .ref mhasHabit, .int m_isNew, .ref mfactWords, .ref mfacts, .ref mpile, .ref mstates, .ref misMarked, .int m_inShelf, .int m_inStack, .int m_inPlace, .ref mrow, .int m_rowMany, .ref mthr, .ref mmays, .ref mtall, .ref mweights, .ref mrowOfWare, .ref mneededOf, .int m_goShelf, .int m_goStack, .int m_goLeft, .ref mtried, .ref mbestRow, .int m_bestCost, .int m_bestMany, .int m_bestShelf, .int m_bestSet, .ref mdigits])), (mop, .inl (cyI, 2200, .inl m_op)), (marg, .inl (cyI, 2200, .inl m_arg)), (mfacts, .inl (cyI, 8, .inl m_facts)), (mpile, .inl (cyI, 1100, .inl g1_mpile))] 4 [(3, .int x1_3), (2, .int x1_2), (0, .ref m0), (1, .int p0)] [] := by
    intro k_1
    induction k_1 with
    | zero =>
      intro x1_3 x1_2 g1_mpile hi_1_0 hi_1_1 hr_1 hq_1_0 hq_1_1 hq_1_2 hm_1
      exact absurd hm_1 (Nat.not_lt_zero _)
    | succ k_1 ih_1 =>
      intro x1_3 x1_2 g1_mpile hi_1_0 hi_1_1 hr_1 hq_1_0 hq_1_1 hq_1_2 hm_1
      refine j_aload_n (pc := 4) C dX11_worthAt_4 rfl 2 rfl ?_
      refine j_get (pc := 5) (ci := 11) (v := .ref mop) C inw_11 0 rfl rfl 11 (by decide) wd_696 rfl rfl dX11_worthAt_5 ?_
      refine j_iload_n (pc := 8) C dX11_worthAt_8 rfl 0 rfl ?_
      obtain ⟨v_2, ev_2⟩ : ∃ z, m_op (x1_3).toInt.toNat = z := ⟨_, rfl⟩
      have env_2 : (m_op (x1_3).toInt.toNat).toInt = v_2.toInt := by rw [ev_2]
      refine j_iald (pc := 9) (v := v_2) (k := (x1_3).toInt.toNat) C 1 1 rfl rfl (i_nn hi_1_0.1) rfl (i_lt_n hi_1_0.1 (Int.lt_of_le_of_lt hi_1_0.2 (by decide))) ev_2 dX11_worthAt_9 ?_
      refine j_if_eq (pc := 10) (tgt := 140) C dX11_worthAt_10 (by decide) (fun c_3 => ?_) (fun c_3 => ?_)
      · skip
        have el_0 : (0 : Int32).toInt = 0 := rfl
        rw [i_eq] at c_3
        refine j_aload_n (pc := 140) C dX11_worthAt_140 rfl 2 rfl ?_
        refine j_get (pc := 141) (ci := 11) (v := .ref mpile) C inw_11 0 rfl rfl 19 (by decide) wd_797 rfl rfl dX11_worthAt_141 ?_
        refine j_iconst (pc := 144) (v := 0) C dX11_worthAt_144 (by decide) ?_
        obtain ⟨v_4, ev_4⟩ : ∃ z, g1_mpile 0 = z := ⟨_, rfl⟩
        have env_4 : (g1_mpile 0).toInt = v_4.toInt := by rw [ev_4]
        refine j_iald (pc := 145) (v := v_4) (k := 0) C 4 1 rfl rfl (by decide) (by decide) (by decide) ev_4 dX11_worthAt_145 ?_
        have el_0 : (0 : Int32).toInt = 0 := rfl
        exact j_iret (pc := 146) C hr hk (fun i => [].getD i 0, fun i => [v_4].getD i 0, fun i => [g1_mpile].getD i (fun _ => 0), fun i => [].getD i (fun _ => 0)) rfl (show (∀ (V : (Nat → Int32) → Int32) (e : Nat), MSeg m_op m_arg (p0).toInt.toNat e V → m_op e = 0 → v_4 = V m_facts) from ((fun V e hV he => by have l : e = (x1_3).toInt.toNat := (by rcases Nat.lt_trichotomy e (x1_3).toInt.toNat with q | q | q; (exact absurd he (hq_1_2 e hV.1 (by omega))); (exact q); (exact absurd (ev_2.trans ((i_eq _ _).mpr (by omega))) (hV.2.1 _ (by omega) q))); have y := (hV.2.2 m_facts (0, m_pile)).2.1; rw [l, show (x1_3).toInt.toNat - (p0).toInt.toNat = (x1_3.toInt - (p0).toInt).toNat from (by omega), hq_1_1] at y; exact ev_4.symm.trans y))) [0, 1, 2, 3, 4] (by decide) rfl (by decide) (by decide) dX11_worthAt_146
      · skip
        have el_0 : (0 : Int32).toInt = 0 := rfl
        rw [i_eq] at c_3
        refine j_aload_n (pc := 13) C dX11_worthAt_13 rfl 2 rfl ?_
        refine j_get (pc := 14) (ci := 11) (v := .ref mop) C inw_11 0 rfl rfl 11 (by decide) wd_696 rfl rfl dX11_worthAt_14 ?_
        refine j_iload_n (pc := 17) C dX11_worthAt_17 rfl 0 rfl ?_
        refine j_iald (pc := 18) (v := v_2) (k := (x1_3).toInt.toNat) C 1 1 rfl rfl (i_nn hi_1_0.1) rfl (i_lt_n hi_1_0.1 (Int.lt_of_le_of_lt hi_1_0.2 (by decide))) ev_2 dX11_worthAt_18 ?_
        refine j_istore (pc := 19) (lv' := [(4, .int v_2), (3, .int x1_3), (2, .int x1_2), (0, .ref m0), (1, .int p0)]) C dX11_worthAt_19 (by decide) rfl ?_
        refine j_iload (pc := 21) C dX11_worthAt_21 0 rfl ?_
        refine j_iconst (pc := 23) (v := 1) C dX11_worthAt_23 (by decide) ?_
        refine j_icmp_eq (pc := 24) (tgt := 33) C dX11_worthAt_24 (by decide) (fun c_5 => ?_) (fun c_5 => ?_)
        · skip
          have el_1 : (1 : Int32).toInt = 1 := rfl
          rw [i_eq] at c_5
          have hw9 := W1.s1 hq_1_0 (ev_2.trans ((i_eq _ _).mpr (by omega)))
          refine j_aload_n (pc := 33) C dX11_worthAt_33 rfl 3 rfl ?_
          refine j_get (pc := 34) (ci := 11) (v := .ref mpile) C inw_11 0 rfl rfl 19 (by decide) wd_797 rfl rfl dX11_worthAt_34 ?_
          refine j_iload_n (pc := 37) C dX11_worthAt_37 rfl 2 rfl ?_
          refine j_iload (pc := 38) C dX11_worthAt_38 0 rfl ?_
          refine j_iconst (pc := 40) (v := 1) C dX11_worthAt_40 (by decide) ?_
          refine j_icmp_ne (pc := 41) (tgt := 53) C dX11_worthAt_41 (by decide) (fun c_6 => ?_) (fun c_6 => ?_)
          · skip
            have el_1 : (1 : Int32).toInt = 1 := rfl
            rw [i_eq] at c_6
            refine j_aload_n (pc := 53) C dX11_worthAt_53 rfl 3 rfl ?_
            refine j_get (pc := 54) (ci := 11) (v := .ref mfacts) C inw_11 0 rfl rfl 18 (by decide) wd_798 rfl rfl dX11_worthAt_54 ?_
            refine j_aload_n (pc := 57) C dX11_worthAt_57 rfl 3 rfl ?_
            refine j_get (pc := 58) (ci := 11) (v := .ref marg) C inw_11 0 rfl rfl 12 (by decide) wd_698 rfl rfl dX11_worthAt_58 ?_
            refine j_iload_n (pc := 61) C dX11_worthAt_61 rfl 1 rfl ?_
            obtain ⟨v_7, ev_7⟩ : ∃ z, m_arg (x1_3).toInt.toNat = z := ⟨_, rfl⟩
            have env_7 : (m_arg (x1_3).toInt.toNat).toInt = v_7.toInt := by rw [ev_7]
            refine j_iald (pc := 62) (v := v_7) (k := (x1_3).toInt.toNat) C 2 1 rfl rfl (i_nn hi_1_0.1) rfl (i_lt_n hi_1_0.1 (Int.lt_of_le_of_lt hi_1_0.2 (by decide))) ev_7 dX11_worthAt_62 ?_
            obtain ⟨v_8, ev_8⟩ : ∃ z, m_facts (v_7).toInt.toNat = z := ⟨_, rfl⟩
            have env_8 : (m_facts (v_7).toInt.toNat).toInt = v_8.toInt := by rw [ev_8]
            refine j_iald (pc := 63) (v := v_8) (k := (v_7).toInt.toNat) C 3 1 rfl rfl (i_nn (by omega)) rfl (i_lt_n (by omega) (by omega)) ev_8 dX11_worthAt_63 ?_
            obtain ⟨f_9, ef_9⟩ : ∃ z, z = upd g1_mpile (x1_2).toInt.toNat v_8 := ⟨_, rfl⟩
            refine j_iast (pc := 64) (k := (x1_2).toInt.toNat) (ws' := [(m0, .inr (11, [.int m_thrown, .ref mtape, .int m_taped, .int m_size, .ref msort, .ref mplace, .ref mvalue, .int m_at, .int m_fault, .ref mwords, .ref mtold, .ref mop, .ref marg, .int m_codes, .ref mnames, .ref mhasHabit, .int m_isNew, .ref mfactWords, .ref mfacts, .ref mpile, .ref mstates, .ref misMarked, .int m_inShelf, .int m_inStack, .int m_inPlace, .ref mrow, .int m_rowMany, .ref mthr, .ref mmays, .ref mtall, .ref mweights, .ref mrowOfWare, .ref mneededOf, .int m_goShelf, .int m_goStack, .int m_goLeft, .ref mtried, .ref mbestRow, .int m_bestCost, .int m_bestMany, .int m_bestShelf, .int m_bestSet, .ref mdigits])), (mop, .inl (cyI, 2200, .inl m_op)), (marg, .inl (cyI, 2200, .inl m_arg)), (mfacts, .inl (cyI, 8, .inl m_facts)), (mpile, .inl (cyI, 1100, .inl f_9))]) C 4 1 rfl rfl (i_nn hi_1_1.1) rfl (i_lt_n hi_1_1.1 (Int.lt_of_le_of_lt hi_1_1.2 (by decide))) dX11_worthAt_64 (by rw [ef_9]; rfl) ?_
            obtain ⟨v_10, ev_10⟩ : ∃ z : Int32, x1_2 + 1 = z := ⟨_, rfl⟩
            have el_1 : (1 : Int32).toInt = 1 := rfl
            have hv_10 : v_10.toInt = x1_2.toInt + (1 : Int32).toInt := by rw [← ev_10]; exact fb_addI (by omega) (by omega)
            refine j_iinc (pc := 65) (v := v_10) (lv' := [(2, .int v_10), (4, .int v_2), (3, .int x1_3), (0, .ref m0), (1, .int p0)]) C dX11_worthAt_65 2 rfl ev_10 (by decide) rfl ?_
            refine j_goto (pc := 68) (tgt := 134) C dX11_worthAt_68 (by decide) ?_
            have hl9 := W1.lt hw9
            obtain ⟨v_11, ev_11⟩ : ∃ z : Int32, x1_3 + 1 = z := ⟨_, rfl⟩
            have el_1 : (1 : Int32).toInt = 1 := rfl
            have hv_11 : v_11.toInt = x1_3.toInt + (1 : Int32).toInt := by rw [← ev_11]; exact fb_addI (by omega) (by omega)
            refine j_iinc (pc := 134) (v := v_11) (lv' := [(3, .int v_11), (2, .int v_10), (4, .int v_2), (0, .ref m0), (1, .int p0)]) C dX11_worthAt_134 2 rfl ev_11 (by decide) rfl ?_
            refine j_goto (pc := 137) (tgt := 4) C dX11_worthAt_137 (by decide) ?_
            have el_1 : (1 : Int32).toInt = 1 := rfl
            have el_2 : (2 : Int32).toInt = 2 := rfl
            have el_3 : (3 : Int32).toInt = 3 := rfl
            exact j_lv [0, 1, 3, 4] rfl (ih_1 v_11 v_10 f_9 (by omega) (by omega) (by omega) (W1.cast hw9 (by omega) (by omega)) (by exfalso; omega) (fun t t1 t2 => by rcases Int.lt_or_le (t : Int) (x1_3).toInt with q | q; (exact hq_1_2 t t1 q); (rw [show t = (x1_3).toInt.toNat from (by omega), ev_2, i_eq]; omega)) (by omega))
          · skip
            have el_1 : (1 : Int32).toInt = 1 := rfl
            rw [i_eq] at c_6
            refine j_aload_n (pc := 44) C dX11_worthAt_44 rfl 3 rfl ?_
            refine j_get (pc := 45) (ci := 11) (v := .ref marg) C inw_11 0 rfl rfl 12 (by decide) wd_698 rfl rfl dX11_worthAt_45 ?_
            refine j_iload_n (pc := 48) C dX11_worthAt_48 rfl 1 rfl ?_
            obtain ⟨v_12, ev_12⟩ : ∃ z, m_arg (x1_3).toInt.toNat = z := ⟨_, rfl⟩
            have env_12 : (m_arg (x1_3).toInt.toNat).toInt = v_12.toInt := by rw [ev_12]
            refine j_iald (pc := 49) (v := v_12) (k := (x1_3).toInt.toNat) C 2 1 rfl rfl (i_nn hi_1_0.1) rfl (i_lt_n hi_1_0.1 (Int.lt_of_le_of_lt hi_1_0.2 (by decide))) ev_12 dX11_worthAt_49 ?_
            refine j_goto (pc := 50) (tgt := 64) C dX11_worthAt_50 (by decide) ?_
            obtain ⟨f_13, ef_13⟩ : ∃ z, z = upd g1_mpile (x1_2).toInt.toNat v_12 := ⟨_, rfl⟩
            refine j_iast (pc := 64) (k := (x1_2).toInt.toNat) (ws' := [(m0, .inr (11, [.int m_thrown, .ref mtape, .int m_taped, .int m_size, .ref msort, .ref mplace, .ref mvalue, .int m_at, .int m_fault, .ref mwords, .ref mtold, .ref mop, .ref marg, .int m_codes, .ref mnames, .ref mhasHabit, .int m_isNew, .ref mfactWords, .ref mfacts, .ref mpile, .ref mstates, .ref misMarked, .int m_inShelf, .int m_inStack, .int m_inPlace, .ref mrow, .int m_rowMany, .ref mthr, .ref mmays, .ref mtall, .ref mweights, .ref mrowOfWare, .ref mneededOf, .int m_goShelf, .int m_goStack, .int m_goLeft, .ref mtried, .ref mbestRow, .int m_bestCost, .int m_bestMany, .int m_bestShelf, .int m_bestSet, .ref mdigits])), (mop, .inl (cyI, 2200, .inl m_op)), (marg, .inl (cyI, 2200, .inl m_arg)), (mfacts, .inl (cyI, 8, .inl m_facts)), (mpile, .inl (cyI, 1100, .inl f_13))]) C 4 1 rfl rfl (i_nn hi_1_1.1) rfl (i_lt_n hi_1_1.1 (Int.lt_of_le_of_lt hi_1_1.2 (by decide))) dX11_worthAt_64 (by rw [ef_13]; rfl) ?_
            obtain ⟨v_14, ev_14⟩ : ∃ z : Int32, x1_2 + 1 = z := ⟨_, rfl⟩
            have el_1 : (1 : Int32).toInt = 1 := rfl
            have hv_14 : v_14.toInt = x1_2.toInt + (1 : Int32).toInt := by rw [← ev_14]; exact fb_addI (by omega) (by omega)
            refine j_iinc (pc := 65) (v := v_14) (lv' := [(2, .int v_14), (4, .int v_2), (3, .int x1_3), (0, .ref m0), (1, .int p0)]) C dX11_worthAt_65 2 rfl ev_14 (by decide) rfl ?_
            refine j_goto (pc := 68) (tgt := 134) C dX11_worthAt_68 (by decide) ?_
            have hl9 := W1.lt hw9
            obtain ⟨v_15, ev_15⟩ : ∃ z : Int32, x1_3 + 1 = z := ⟨_, rfl⟩
            have el_1 : (1 : Int32).toInt = 1 := rfl
            have hv_15 : v_15.toInt = x1_3.toInt + (1 : Int32).toInt := by rw [← ev_15]; exact fb_addI (by omega) (by omega)
            refine j_iinc (pc := 134) (v := v_15) (lv' := [(3, .int v_15), (2, .int v_14), (4, .int v_2), (0, .ref m0), (1, .int p0)]) C dX11_worthAt_134 2 rfl ev_15 (by decide) rfl ?_
            refine j_goto (pc := 137) (tgt := 4) C dX11_worthAt_137 (by decide) ?_
            have el_1 : (1 : Int32).toInt = 1 := rfl
            have el_2 : (2 : Int32).toInt = 2 := rfl
            have el_3 : (3 : Int32).toInt = 3 := rfl
            exact j_lv [0, 1, 3, 4] rfl (ih_1 v_15 v_14 f_13 (by omega) (by omega) (by omega) (W1.cast hw9 (by omega) (by omega)) (by rw [show (v_15.toInt - (p0).toInt).toNat = (x1_3.toInt - (p0).toInt).toNat + 1 from (by omega), mrun_snoc hq_1_1 (c := v_2) (x := v_12) (by rw [show (p0).toInt.toNat + (x1_3.toInt - (p0).toInt).toNat = (x1_3).toInt.toNat from (by omega)]; exact ev_2) (by rw [show (p0).toInt.toNat + (x1_3.toInt - (p0).toInt).toNat = (x1_3).toInt.toNat from (by omega)]; exact ev_12)]; exact mcs_num ((i_eq _ _).mpr (by omega)) (by omega) ef_13) (fun t t1 t2 => by rcases Int.lt_or_le (t : Int) (x1_3).toInt with q | q; (exact hq_1_2 t t1 q); (rw [show t = (x1_3).toInt.toNat from (by omega), ev_2, i_eq]; omega)) (by omega))
        · skip
          have el_1 : (1 : Int32).toInt = 1 := rfl
          rw [i_eq] at c_5
          refine j_iload (pc := 27) C dX11_worthAt_27 0 rfl ?_
          refine j_iconst (pc := 29) (v := 2) C dX11_worthAt_29 (by decide) ?_
          refine j_icmp_ne (pc := 30) (tgt := 71) C dX11_worthAt_30 (by decide) (fun c_16 => ?_) (fun c_16 => ?_)
          · skip
            have el_2 : (2 : Int32).toInt = 2 := rfl
            rw [i_eq] at c_16
            refine j_iload (pc := 71) C dX11_worthAt_71 0 rfl ?_
            refine j_iconst (pc := 73) (v := 3) C dX11_worthAt_73 (by decide) ?_
            refine j_icmp_ne (pc := 74) (tgt := 104) C dX11_worthAt_74 (by decide) (fun c_17 => ?_) (fun c_17 => ?_)
            · skip
              have el_3 : (3 : Int32).toInt = 3 := rfl
              rw [i_eq] at c_17
              obtain ⟨ht9, hw9⟩ := W1.s4 hq_1_0 (fun z => by have z2 := congrArg Int32.toInt (ev_2.symm.trans z); have z3 : (0 : Int32).toInt = 0 := rfl; omega) (fun z => by have z2 := congrArg Int32.toInt (ev_2.symm.trans z); have z3 : (1 : Int32).toInt = 1 := rfl; omega) (fun z => by have z2 := congrArg Int32.toInt (ev_2.symm.trans z); have z3 : (2 : Int32).toInt = 2 := rfl; omega) (fun z => by have z2 := congrArg Int32.toInt (ev_2.symm.trans z); have z3 : (3 : Int32).toInt = 3 := rfl; omega)
              obtain ⟨v_18, ev_18⟩ : ∃ z : Int32, x1_2 + (-1) = z := ⟨_, rfl⟩
              have el_m1 : ((-1) : Int32).toInt = (-1) := rfl
              have hv_18 : v_18.toInt = x1_2.toInt + ((-1) : Int32).toInt := by rw [← ev_18]; exact fb_addI (by omega) (by omega)
              refine j_iinc (pc := 104) (v := v_18) (lv' := [(2, .int v_18), (4, .int v_2), (3, .int x1_3), (0, .ref m0), (1, .int p0)]) C dX11_worthAt_104 2 rfl ev_18 (by decide) rfl ?_
              refine j_aload_n (pc := 107) C dX11_worthAt_107 rfl 3 rfl ?_
              refine j_get (pc := 108) (ci := 11) (v := .ref mpile) C inw_11 0 rfl rfl 19 (by decide) wd_797 rfl rfl dX11_worthAt_108 ?_
              refine j_iload_n (pc := 111) C dX11_worthAt_111 rfl 0 rfl ?_
              refine j_iconst (pc := 112) (v := 1) C dX11_worthAt_112 (by decide) ?_
              obtain ⟨v_19, ev_19⟩ : ∃ z : Int32, v_18 - 1 = z := ⟨_, rfl⟩
              have el_1 : (1 : Int32).toInt = 1 := rfl
              have hv_19 : v_19.toInt = v_18.toInt - (1 : Int32).toInt := by rw [← ev_19]; exact fb_subI (by omega) (by omega)
              refine j_isub (pc := 113) (v := v_19) C dX11_worthAt_113 ev_19 ?_
              refine j_iload (pc := 114) C dX11_worthAt_114 1 rfl ?_
              refine j_aload_n (pc := 116) C dX11_worthAt_116 rfl 3 rfl ?_
              refine j_get (pc := 117) (ci := 11) (v := .ref mpile) C inw_11 0 rfl rfl 19 (by decide) wd_797 rfl rfl dX11_worthAt_117 ?_
              refine j_iload_n (pc := 120) C dX11_worthAt_120 rfl 0 rfl ?_
              refine j_iconst (pc := 121) (v := 1) C dX11_worthAt_121 (by decide) ?_
              obtain ⟨v_20, ev_20⟩ : ∃ z : Int32, v_18 - 1 = z := ⟨_, rfl⟩
              have el_1 : (1 : Int32).toInt = 1 := rfl
              have hv_20 : v_20.toInt = v_18.toInt - (1 : Int32).toInt := by rw [← ev_20]; exact fb_subI (by omega) (by omega)
              refine j_isub (pc := 122) (v := v_20) C dX11_worthAt_122 ev_20 ?_
              obtain ⟨v_21, ev_21⟩ : ∃ z, g1_mpile (v_20).toInt.toNat = z := ⟨_, rfl⟩
              have env_21 : (g1_mpile (v_20).toInt.toNat).toInt = v_21.toInt := by rw [ev_21]
              refine j_iald (pc := 123) (v := v_21) (k := (v_20).toInt.toNat) C 4 1 rfl rfl (i_nn (by omega)) rfl (i_lt_n (by omega) (by omega)) ev_21 dX11_worthAt_123 ?_
              refine j_aload_n (pc := 124) C dX11_worthAt_124 rfl 3 rfl ?_
              refine j_get (pc := 125) (ci := 11) (v := .ref mpile) C inw_11 0 rfl rfl 19 (by decide) wd_797 rfl rfl dX11_worthAt_125 ?_
              refine j_iload_n (pc := 128) C dX11_worthAt_128 rfl 0 rfl ?_
              obtain ⟨v_22, ev_22⟩ : ∃ z, g1_mpile (v_18).toInt.toNat = z := ⟨_, rfl⟩
              have env_22 : (g1_mpile (v_18).toInt.toNat).toInt = v_22.toInt := by rw [ev_22]
              refine j_iald (pc := 129) (v := v_22) (k := (v_18).toInt.toNat) C 4 1 rfl rfl (i_nn (by omega)) rfl (i_lt_n (by omega) (by omega)) ev_22 dX11_worthAt_129 ?_
              refine j_callS (pc := 130) (As := [.int v_2, .int v_21, .int v_22]) (rest := [.int v_19, .ref mpile]) (wr := [(m0, .inr (11, [.int m_thrown, .ref mtape, .int m_taped, .int m_size, .ref msort, .ref mplace, .ref mvalue, .int m_at, .int m_fault, .ref mwords, .ref mtold, .ref mop, .ref marg, .int m_codes, .ref mnames, .ref mhasHabit, .int m_isNew, .ref mfactWords, .ref mfacts, .ref mpile, .ref mstates, .ref misMarked, .int m_inShelf, .int m_inStack, .int m_inPlace, .ref mrow, .int m_rowMany, .ref mthr, .ref mmays, .ref mtall, .ref mweights, .ref mrowOfWare, .ref mneededOf, .int m_goShelf, .int m_goStack, .int m_goLeft, .ref mtried, .ref mbestRow, .int m_bestCost, .int m_bestMany, .int m_bestShelf, .int m_bestSet, .ref mdigits])), (mop, .inl (cyI, 2200, .inl m_op)), (marg, .inl (cyI, 2200, .inl m_arg)), (mfacts, .inl (cyI, 8, .inl m_facts)), (mpile, .inl (cyI, 1100, .inl g1_mpile))]) C (c_X11_both l D cyC cyI cyJ cyZ cyO v_2 v_21 v_22) wd_799 wd_624 wd_800 wd_801 ⟨by decide, by decide, rfl⟩ rfl ⟨rfl, rfl, by decide, by decide⟩ ⟨by decide, by decide⟩ [] [0, 1, 2, 3, 4] rfl rfl ⟨by decide, by decide, by decide⟩ rfl (Nat.le_of_ble_eq_true rfl) dX11_worthAt_130 (fun u_23 hw_24 => ?_)
              refine j_eq (ws2 := [(m0, .inr (11, [.int m_thrown, .ref mtape, .int m_taped, .int m_size, .ref msort, .ref mplace, .ref mvalue, .int m_at, .int m_fault, .ref mwords, .ref mtold, .ref mop, .ref marg, .int m_codes, .ref mnames, .ref mhasHabit, .int m_isNew, .ref mfactWords, .ref mfacts, .ref mpile, .ref mstates, .ref misMarked, .int m_inShelf, .int m_inStack, .int m_inPlace, .ref mrow, .int m_rowMany, .ref mthr, .ref mmays, .ref mtall, .ref mweights, .ref mrowOfWare, .ref mneededOf, .int m_goShelf, .int m_goStack, .int m_goLeft, .ref mtried, .ref mbestRow, .int m_bestCost, .int m_bestMany, .int m_bestShelf, .int m_bestSet, .ref mdigits])), (mop, .inl (cyI, 2200, .inl m_op)), (marg, .inl (cyI, 2200, .inl m_arg)), (mfacts, .inl (cyI, 8, .inl m_facts)), (mpile, .inl (cyI, 1100, .inl g1_mpile))]) (pc2 := 133) (lv2 := [(2, .int v_18), (4, .int v_2), (3, .int x1_3), (0, .ref m0), (1, .int p0)]) (st2 := [.int (u_23.2.1 0), .int v_19, .ref mpile]) rfl rfl rfl rfl ?_
              have hw_24_0 : (u_23.2.1 0) = bth v_2 v_21 v_22 := hw_24
              obtain ⟨f_25, ef_25⟩ : ∃ z, z = upd g1_mpile (v_19).toInt.toNat (u_23.2.1 0) := ⟨_, rfl⟩
              refine j_iast (pc := 133) (k := (v_19).toInt.toNat) (ws' := [(m0, .inr (11, [.int m_thrown, .ref mtape, .int m_taped, .int m_size, .ref msort, .ref mplace, .ref mvalue, .int m_at, .int m_fault, .ref mwords, .ref mtold, .ref mop, .ref marg, .int m_codes, .ref mnames, .ref mhasHabit, .int m_isNew, .ref mfactWords, .ref mfacts, .ref mpile, .ref mstates, .ref misMarked, .int m_inShelf, .int m_inStack, .int m_inPlace, .ref mrow, .int m_rowMany, .ref mthr, .ref mmays, .ref mtall, .ref mweights, .ref mrowOfWare, .ref mneededOf, .int m_goShelf, .int m_goStack, .int m_goLeft, .ref mtried, .ref mbestRow, .int m_bestCost, .int m_bestMany, .int m_bestShelf, .int m_bestSet, .ref mdigits])), (mop, .inl (cyI, 2200, .inl m_op)), (marg, .inl (cyI, 2200, .inl m_arg)), (mfacts, .inl (cyI, 8, .inl m_facts)), (mpile, .inl (cyI, 1100, .inl f_25))]) C 4 1 rfl rfl (i_nn (by omega)) rfl (i_lt_n (by omega) (by omega)) dX11_worthAt_133 (by rw [ef_25]; rfl) ?_
              have hl9 := W1.lt hw9
              obtain ⟨v_26, ev_26⟩ : ∃ z : Int32, x1_3 + 1 = z := ⟨_, rfl⟩
              have el_1 : (1 : Int32).toInt = 1 := rfl
              have hv_26 : v_26.toInt = x1_3.toInt + (1 : Int32).toInt := by rw [← ev_26]; exact fb_addI (by omega) (by omega)
              refine j_iinc (pc := 134) (v := v_26) (lv' := [(3, .int v_26), (2, .int v_18), (4, .int v_2), (0, .ref m0), (1, .int p0)]) C dX11_worthAt_134 2 rfl ev_26 (by decide) rfl ?_
              refine j_goto (pc := 137) (tgt := 4) C dX11_worthAt_137 (by decide) ?_
              have el_1 : (1 : Int32).toInt = 1 := rfl
              have el_2 : (2 : Int32).toInt = 2 := rfl
              have el_3 : (3 : Int32).toInt = 3 := rfl
              exact j_lv [0, 1, 3, 4] rfl (ih_1 v_26 v_18 f_25 (by omega) (by omega) (by omega) (W1.cast hw9 (by omega) (by omega)) (by rw [show (v_26.toInt - (p0).toInt).toNat = (x1_3.toInt - (p0).toInt).toNat + 1 from (by omega), mrun_snoc hq_1_1 (c := v_2) (by rw [show (p0).toInt.toNat + (x1_3.toInt - (p0).toInt).toNat = (x1_3).toInt.toNat from (by omega)]; exact ev_2) rfl]; exact mcs_bin (m := (v_19).toInt.toNat) (k := (v_18).toInt.toNat) (by rw [i_eq]; omega) (by rw [i_eq]; omega) (by rw [i_eq]; omega) (by omega) (by omega) (by omega) (by rw [show (v_19).toInt.toNat = (v_20).toInt.toNat from (by omega), ev_21, ev_22]; exact hw_24_0) ef_25) (fun t t1 t2 => by rcases Int.lt_or_le (t : Int) (x1_3).toInt with q | q; (exact hq_1_2 t t1 q); (rw [show t = (x1_3).toInt.toNat from (by omega), ev_2, i_eq]; omega)) (by omega))
            · skip
              have el_3 : (3 : Int32).toInt = 3 := rfl
              rw [i_eq] at c_17
              obtain ⟨ht9, hw9⟩ := W1.s3 hq_1_0 (ev_2.trans ((i_eq _ _).mpr (by omega)))
              refine j_aload_n (pc := 77) C dX11_worthAt_77 rfl 3 rfl ?_
              refine j_get (pc := 78) (ci := 11) (v := .ref mpile) C inw_11 0 rfl rfl 19 (by decide) wd_797 rfl rfl dX11_worthAt_78 ?_
              refine j_iload_n (pc := 81) C dX11_worthAt_81 rfl 2 rfl ?_
              refine j_iconst (pc := 82) (v := 1) C dX11_worthAt_82 (by decide) ?_
              obtain ⟨v_27, ev_27⟩ : ∃ z : Int32, x1_2 - 1 = z := ⟨_, rfl⟩
              have el_1 : (1 : Int32).toInt = 1 := rfl
              have hv_27 : v_27.toInt = x1_2.toInt - (1 : Int32).toInt := by rw [← ev_27]; exact fb_subI (by omega) (by omega)
              refine j_isub (pc := 83) (v := v_27) C dX11_worthAt_83 ev_27 ?_
              refine j_aload_n (pc := 84) C dX11_worthAt_84 rfl 3 rfl ?_
              refine j_get (pc := 85) (ci := 11) (v := .ref mpile) C inw_11 0 rfl rfl 19 (by decide) wd_797 rfl rfl dX11_worthAt_85 ?_
              refine j_iload_n (pc := 88) C dX11_worthAt_88 rfl 2 rfl ?_
              refine j_iconst (pc := 89) (v := 1) C dX11_worthAt_89 (by decide) ?_
              obtain ⟨v_28, ev_28⟩ : ∃ z : Int32, x1_2 - 1 = z := ⟨_, rfl⟩
              have el_1 : (1 : Int32).toInt = 1 := rfl
              have hv_28 : v_28.toInt = x1_2.toInt - (1 : Int32).toInt := by rw [← ev_28]; exact fb_subI (by omega) (by omega)
              refine j_isub (pc := 90) (v := v_28) C dX11_worthAt_90 ev_28 ?_
              obtain ⟨v_29, ev_29⟩ : ∃ z, g1_mpile (v_28).toInt.toNat = z := ⟨_, rfl⟩
              have env_29 : (g1_mpile (v_28).toInt.toNat).toInt = v_29.toInt := by rw [ev_29]
              refine j_iald (pc := 91) (v := v_29) (k := (v_28).toInt.toNat) C 4 1 rfl rfl (i_nn (by omega)) rfl (i_lt_n (by omega) (by omega)) ev_29 dX11_worthAt_91 ?_
              refine j_if_ne (pc := 92) (tgt := 99) C dX11_worthAt_92 (by decide) (fun c_30 => ?_) (fun c_30 => ?_)
              · skip
                have el_0 : (0 : Int32).toInt = 0 := rfl
                rw [i_eq] at c_30
                refine j_iconst (pc := 99) (v := 0) C dX11_worthAt_99 (by decide) ?_
                obtain ⟨f_31, ef_31⟩ : ∃ z, z = upd g1_mpile (v_27).toInt.toNat 0 := ⟨_, rfl⟩
                refine j_iast (pc := 100) (k := (v_27).toInt.toNat) (ws' := [(m0, .inr (11, [.int m_thrown, .ref mtape, .int m_taped, .int m_size, .ref msort, .ref mplace, .ref mvalue, .int m_at, .int m_fault, .ref mwords, .ref mtold, .ref mop, .ref marg, .int m_codes, .ref mnames, .ref mhasHabit, .int m_isNew, .ref mfactWords, .ref mfacts, .ref mpile, .ref mstates, .ref misMarked, .int m_inShelf, .int m_inStack, .int m_inPlace, .ref mrow, .int m_rowMany, .ref mthr, .ref mmays, .ref mtall, .ref mweights, .ref mrowOfWare, .ref mneededOf, .int m_goShelf, .int m_goStack, .int m_goLeft, .ref mtried, .ref mbestRow, .int m_bestCost, .int m_bestMany, .int m_bestShelf, .int m_bestSet, .ref mdigits])), (mop, .inl (cyI, 2200, .inl m_op)), (marg, .inl (cyI, 2200, .inl m_arg)), (mfacts, .inl (cyI, 8, .inl m_facts)), (mpile, .inl (cyI, 1100, .inl f_31))]) C 4 1 rfl rfl (i_nn (by omega)) rfl (i_lt_n (by omega) (by omega)) dX11_worthAt_100 (by rw [ef_31]; rfl) ?_
                refine j_goto (pc := 101) (tgt := 134) C dX11_worthAt_101 (by decide) ?_
                have hl9 := W1.lt hw9
                obtain ⟨v_32, ev_32⟩ : ∃ z : Int32, x1_3 + 1 = z := ⟨_, rfl⟩
                have el_1 : (1 : Int32).toInt = 1 := rfl
                have hv_32 : v_32.toInt = x1_3.toInt + (1 : Int32).toInt := by rw [← ev_32]; exact fb_addI (by omega) (by omega)
                refine j_iinc (pc := 134) (v := v_32) (lv' := [(3, .int v_32), (4, .int v_2), (2, .int x1_2), (0, .ref m0), (1, .int p0)]) C dX11_worthAt_134 1 rfl ev_32 (by decide) rfl ?_
                refine j_goto (pc := 137) (tgt := 4) C dX11_worthAt_137 (by decide) ?_
                have el_1 : (1 : Int32).toInt = 1 := rfl
                have el_2 : (2 : Int32).toInt = 2 := rfl
                have el_3 : (3 : Int32).toInt = 3 := rfl
                exact j_lv [0, 2, 3, 4] rfl (ih_1 v_32 x1_2 f_31 (by omega) hi_1_1 (by omega) (W1.cast hw9 (by omega) (by omega)) (by rw [show (v_32.toInt - (p0).toInt).toNat = (x1_3.toInt - (p0).toInt).toNat + 1 from (by omega), mrun_snoc hq_1_1 (c := v_2) (by rw [show (p0).toInt.toNat + (x1_3.toInt - (p0).toInt).toNat = (x1_3).toInt.toNat from (by omega)]; exact ev_2) rfl]; exact mcs_neg (m := (v_27).toInt.toNat) (r := v_29) ((i_eq _ _).mpr (by omega)) (by omega) (by omega) (by rw [show (v_27).toInt.toNat = (v_28).toInt.toNat from (by omega)]; exact ev_29) ((if_neg (by rw [i_eq]; omega)).symm) ef_31) (fun t t1 t2 => by rcases Int.lt_or_le (t : Int) (x1_3).toInt with q | q; (exact hq_1_2 t t1 q); (rw [show t = (x1_3).toInt.toNat from (by omega), ev_2, i_eq]; omega)) (by omega))
              · skip
                have el_0 : (0 : Int32).toInt = 0 := rfl
                rw [i_eq] at c_30
                refine j_iconst (pc := 95) (v := 1) C dX11_worthAt_95 (by decide) ?_
                refine j_goto (pc := 96) (tgt := 100) C dX11_worthAt_96 (by decide) ?_
                obtain ⟨f_33, ef_33⟩ : ∃ z, z = upd g1_mpile (v_27).toInt.toNat 1 := ⟨_, rfl⟩
                refine j_iast (pc := 100) (k := (v_27).toInt.toNat) (ws' := [(m0, .inr (11, [.int m_thrown, .ref mtape, .int m_taped, .int m_size, .ref msort, .ref mplace, .ref mvalue, .int m_at, .int m_fault, .ref mwords, .ref mtold, .ref mop, .ref marg, .int m_codes, .ref mnames, .ref mhasHabit, .int m_isNew, .ref mfactWords, .ref mfacts, .ref mpile, .ref mstates, .ref misMarked, .int m_inShelf, .int m_inStack, .int m_inPlace, .ref mrow, .int m_rowMany, .ref mthr, .ref mmays, .ref mtall, .ref mweights, .ref mrowOfWare, .ref mneededOf, .int m_goShelf, .int m_goStack, .int m_goLeft, .ref mtried, .ref mbestRow, .int m_bestCost, .int m_bestMany, .int m_bestShelf, .int m_bestSet, .ref mdigits])), (mop, .inl (cyI, 2200, .inl m_op)), (marg, .inl (cyI, 2200, .inl m_arg)), (mfacts, .inl (cyI, 8, .inl m_facts)), (mpile, .inl (cyI, 1100, .inl f_33))]) C 4 1 rfl rfl (i_nn (by omega)) rfl (i_lt_n (by omega) (by omega)) dX11_worthAt_100 (by rw [ef_33]; rfl) ?_
                refine j_goto (pc := 101) (tgt := 134) C dX11_worthAt_101 (by decide) ?_
                have hl9 := W1.lt hw9
                obtain ⟨v_34, ev_34⟩ : ∃ z : Int32, x1_3 + 1 = z := ⟨_, rfl⟩
                have el_1 : (1 : Int32).toInt = 1 := rfl
                have hv_34 : v_34.toInt = x1_3.toInt + (1 : Int32).toInt := by rw [← ev_34]; exact fb_addI (by omega) (by omega)
                refine j_iinc (pc := 134) (v := v_34) (lv' := [(3, .int v_34), (4, .int v_2), (2, .int x1_2), (0, .ref m0), (1, .int p0)]) C dX11_worthAt_134 1 rfl ev_34 (by decide) rfl ?_
                refine j_goto (pc := 137) (tgt := 4) C dX11_worthAt_137 (by decide) ?_
                have el_1 : (1 : Int32).toInt = 1 := rfl
                have el_2 : (2 : Int32).toInt = 2 := rfl
                have el_3 : (3 : Int32).toInt = 3 := rfl
                exact j_lv [0, 2, 3, 4] rfl (ih_1 v_34 x1_2 f_33 (by omega) hi_1_1 (by omega) (W1.cast hw9 (by omega) (by omega)) (by rw [show (v_34.toInt - (p0).toInt).toNat = (x1_3.toInt - (p0).toInt).toNat + 1 from (by omega), mrun_snoc hq_1_1 (c := v_2) (by rw [show (p0).toInt.toNat + (x1_3.toInt - (p0).toInt).toNat = (x1_3).toInt.toNat from (by omega)]; exact ev_2) rfl]; exact mcs_neg (m := (v_27).toInt.toNat) (r := v_29) ((i_eq _ _).mpr (by omega)) (by omega) (by omega) (by rw [show (v_27).toInt.toNat = (v_28).toInt.toNat from (by omega)]; exact ev_29) ((if_pos ((i_eq _ _).mpr (by omega))).symm) ef_33) (fun t t1 t2 => by rcases Int.lt_or_le (t : Int) (x1_3).toInt with q | q; (exact hq_1_2 t t1 q); (rw [show t = (x1_3).toInt.toNat from (by omega), ev_2, i_eq]; omega)) (by omega))
          · skip
            have el_2 : (2 : Int32).toInt = 2 := rfl
            rw [i_eq] at c_16
            obtain ⟨ha9, hw9⟩ := W1.s2 hq_1_0 (ev_2.trans ((i_eq _ _).mpr (by omega)))
            refine j_aload_n (pc := 33) C dX11_worthAt_33 rfl 3 rfl ?_
            refine j_get (pc := 34) (ci := 11) (v := .ref mpile) C inw_11 0 rfl rfl 19 (by decide) wd_797 rfl rfl dX11_worthAt_34 ?_
            refine j_iload_n (pc := 37) C dX11_worthAt_37 rfl 2 rfl ?_
            refine j_iload (pc := 38) C dX11_worthAt_38 0 rfl ?_
            refine j_iconst (pc := 40) (v := 1) C dX11_worthAt_40 (by decide) ?_
            have el_1 : (1 : Int32).toInt = 1 := rfl
            refine j_icmp_ne_t (pc := 41) (tgt := 53) C dX11_worthAt_41 (by decide) (by rw [i_eq]; omega) ?_
            refine j_aload_n (pc := 53) C dX11_worthAt_53 rfl 3 rfl ?_
            refine j_get (pc := 54) (ci := 11) (v := .ref mfacts) C inw_11 0 rfl rfl 18 (by decide) wd_798 rfl rfl dX11_worthAt_54 ?_
            refine j_aload_n (pc := 57) C dX11_worthAt_57 rfl 3 rfl ?_
            refine j_get (pc := 58) (ci := 11) (v := .ref marg) C inw_11 0 rfl rfl 12 (by decide) wd_698 rfl rfl dX11_worthAt_58 ?_
            refine j_iload_n (pc := 61) C dX11_worthAt_61 rfl 1 rfl ?_
            obtain ⟨v_35, ev_35⟩ : ∃ z, m_arg (x1_3).toInt.toNat = z := ⟨_, rfl⟩
            have env_35 : (m_arg (x1_3).toInt.toNat).toInt = v_35.toInt := by rw [ev_35]
            refine j_iald (pc := 62) (v := v_35) (k := (x1_3).toInt.toNat) C 2 1 rfl rfl (i_nn hi_1_0.1) rfl (i_lt_n hi_1_0.1 (Int.lt_of_le_of_lt hi_1_0.2 (by decide))) ev_35 dX11_worthAt_62 ?_
            obtain ⟨v_36, ev_36⟩ : ∃ z, m_facts (v_35).toInt.toNat = z := ⟨_, rfl⟩
            have env_36 : (m_facts (v_35).toInt.toNat).toInt = v_36.toInt := by rw [ev_36]
            refine j_iald (pc := 63) (v := v_36) (k := (v_35).toInt.toNat) C 3 1 rfl rfl (i_nn (by omega)) rfl (i_lt_n (by omega) (by omega)) ev_36 dX11_worthAt_63 ?_
            obtain ⟨f_37, ef_37⟩ : ∃ z, z = upd g1_mpile (x1_2).toInt.toNat v_36 := ⟨_, rfl⟩
            refine j_iast (pc := 64) (k := (x1_2).toInt.toNat) (ws' := [(m0, .inr (11, [.int m_thrown, .ref mtape, .int m_taped, .int m_size, .ref msort, .ref mplace, .ref mvalue, .int m_at, .int m_fault, .ref mwords, .ref mtold, .ref mop, .ref marg, .int m_codes, .ref mnames, .ref mhasHabit, .int m_isNew, .ref mfactWords, .ref mfacts, .ref mpile, .ref mstates, .ref misMarked, .int m_inShelf, .int m_inStack, .int m_inPlace, .ref mrow, .int m_rowMany, .ref mthr, .ref mmays, .ref mtall, .ref mweights, .ref mrowOfWare, .ref mneededOf, .int m_goShelf, .int m_goStack, .int m_goLeft, .ref mtried, .ref mbestRow, .int m_bestCost, .int m_bestMany, .int m_bestShelf, .int m_bestSet, .ref mdigits])), (mop, .inl (cyI, 2200, .inl m_op)), (marg, .inl (cyI, 2200, .inl m_arg)), (mfacts, .inl (cyI, 8, .inl m_facts)), (mpile, .inl (cyI, 1100, .inl f_37))]) C 4 1 rfl rfl (i_nn hi_1_1.1) rfl (i_lt_n hi_1_1.1 (Int.lt_of_le_of_lt hi_1_1.2 (by decide))) dX11_worthAt_64 (by rw [ef_37]; rfl) ?_
            obtain ⟨v_38, ev_38⟩ : ∃ z : Int32, x1_2 + 1 = z := ⟨_, rfl⟩
            have el_1 : (1 : Int32).toInt = 1 := rfl
            have hv_38 : v_38.toInt = x1_2.toInt + (1 : Int32).toInt := by rw [← ev_38]; exact fb_addI (by omega) (by omega)
            refine j_iinc (pc := 65) (v := v_38) (lv' := [(2, .int v_38), (4, .int v_2), (3, .int x1_3), (0, .ref m0), (1, .int p0)]) C dX11_worthAt_65 2 rfl ev_38 (by decide) rfl ?_
            refine j_goto (pc := 68) (tgt := 134) C dX11_worthAt_68 (by decide) ?_
            have hl9 := W1.lt hw9
            obtain ⟨v_39, ev_39⟩ : ∃ z : Int32, x1_3 + 1 = z := ⟨_, rfl⟩
            have el_1 : (1 : Int32).toInt = 1 := rfl
            have hv_39 : v_39.toInt = x1_3.toInt + (1 : Int32).toInt := by rw [← ev_39]; exact fb_addI (by omega) (by omega)
            refine j_iinc (pc := 134) (v := v_39) (lv' := [(3, .int v_39), (2, .int v_38), (4, .int v_2), (0, .ref m0), (1, .int p0)]) C dX11_worthAt_134 2 rfl ev_39 (by decide) rfl ?_
            refine j_goto (pc := 137) (tgt := 4) C dX11_worthAt_137 (by decide) ?_
            have el_1 : (1 : Int32).toInt = 1 := rfl
            have el_2 : (2 : Int32).toInt = 2 := rfl
            have el_3 : (3 : Int32).toInt = 3 := rfl
            exact j_lv [0, 1, 3, 4] rfl (ih_1 v_39 v_38 f_37 (by omega) (by omega) (by omega) (W1.cast hw9 (by omega) (by omega)) (by rw [show (v_39.toInt - (p0).toInt).toNat = (x1_3.toInt - (p0).toInt).toNat + 1 from (by omega), mrun_snoc hq_1_1 (c := v_2) (x := v_35) (by rw [show (p0).toInt.toNat + (x1_3.toInt - (p0).toInt).toNat = (x1_3).toInt.toNat from (by omega)]; exact ev_2) (by rw [show (p0).toInt.toNat + (x1_3.toInt - (p0).toInt).toNat = (x1_3).toInt.toNat from (by omega)]; exact ev_35)]; exact mcs_fct ((i_eq _ _).mpr (by omega)) (by omega) ev_36 ef_37) (fun t t1 t2 => by rcases Int.lt_or_le (t : Int) (x1_3).toInt with q | q; (exact hq_1_2 t t1 q); (rw [show t = (x1_3).toInt.toNat from (by omega), ev_2, i_eq]; omega)) (by omega))
  have el_0 : (0 : Int32).toInt = 0 := rfl
  exact j_lv [0, 1, 2, 3] rfl (loop_1 4096 p0 0 m_pile (by omega) (by decide) (by omega) (W1.of hwf) (by rw [show (p0.toInt - (p0).toInt).toNat = 0 from (by omega)]; rfl) (fun t t1 t2 => absurd t2 (by omega)) (by omega))
set_option maxHeartbeats 4000000 in
set_option maxRecDepth 100000 in
theorem c_X11_mayOn (l : Launch) (D : DG) (cyC cyI cyJ cyZ cyO : ClassId) (m0 : Nat) (mtold : Nat) (mop : Nat) (marg : Nat) (mfacts : Nat) (mpile : Nat) (mtape : Nat) (msort : Nat) (mplace : Nat) (mvalue : Nat) (mwords : Nat) (mnames : Nat) (mhasHabit : Nat) (mfactWords : Nat) (mstates : Nat) (misMarked : Nat) (mrow : Nat) (mthr : Nat) (mmays : Nat) (mtall : Nat) (mweights : Nat) (mrowOfWare : Nat) (mneededOf : Nat) (mtried : Nat) (mbestRow : Nat) (mdigits : Nat) (p0 : Int32) (p1 : Int32) (m_thrown : Int32) (m_taped : Int32) (m_size : Int32) (m_at : Int32) (m_fault : Int32) (m_codes : Int32) (m_isNew : Int32) (m_inShelf : Int32) (m_inStack : Int32) (m_inPlace : Int32) (m_rowMany : Int32) (m_goShelf : Int32) (m_goStack : Int32) (m_goLeft : Int32) (m_bestCost : Int32) (m_bestMany : Int32) (m_bestShelf : Int32) (m_bestSet : Int32) (m_told : Nat → Int32) (m_op : Nat → Int32) (m_arg : Nat → Int32) (m_facts : Nat → Int32) (m_pile : Nat → Int32) (h_m_taped : 0 ≤ (m_taped).toInt ∧ (m_taped).toInt ≤ 1000) (h_m_size : 0 ≤ (m_size).toInt ∧ (m_size).toInt ≤ 1000) (h_m_at : 0 ≤ (m_at).toInt ∧ (m_at).toInt ≤ 1000) (h_m_fault : 0 ≤ (m_fault).toInt ∧ (m_fault).toInt ≤ 16005) (h_m_codes : 0 ≤ (m_codes).toInt ∧ (m_codes).toInt ≤ 1000) (h_m_isNew : 0 ≤ (m_isNew).toInt ∧ (m_isNew).toInt ≤ 1) (h_m_inShelf : 0 ≤ (m_inShelf).toInt ∧ (m_inShelf).toInt ≤ 3) (h_m_inStack : 0 ≤ (m_inStack).toInt ∧ (m_inStack).toInt ≤ 7) (h_m_inPlace : 0 ≤ (m_inPlace).toInt ∧ (m_inPlace).toInt ≤ 11) (h_m_rowMany : 0 ≤ (m_rowMany).toInt ∧ (m_rowMany).toInt ≤ 12) (h_m_goShelf : -1 ≤ (m_goShelf).toInt ∧ (m_goShelf).toInt ≤ 3) (h_m_bestMany : 0 ≤ (m_bestMany).toInt ∧ (m_bestMany).toInt ≤ 7) (h_m_bestShelf : 0 ≤ (m_bestShelf).toInt ∧ (m_bestShelf).toInt ≤ 3) (h_p0 : 0 ≤ (p0).toInt ∧ (p0).toInt ≤ 11) (h_p1 : 0 ≤ (p1).toInt ∧ (p1).toInt ≤ 11) (h_m_told : TV m_told) (hwf : WFm m_told m_op m_arg) : KK l D (TY cyC cyI cyJ cyZ cyO) yX11_mayOn cX11_mayOn 5 (some .boolean) ({ frames := 2, cells := 0, slots := 0, locals := 46 } : Room) 0 0 [.ref m0, .int p0, .int p1] [(m0, .inr (11, [.int m_thrown, .ref mtape, .int m_taped, .int m_size, .ref msort, .ref mplace, .ref mvalue, .int m_at, .int m_fault, .ref mwords, .ref mtold, .ref mop, .ref marg, .int m_codes, .ref mnames, .ref mhasHabit, .int m_isNew, .ref mfactWords, .ref mfacts, .ref mpile, .ref mstates, .ref misMarked, .int m_inShelf, .int m_inStack, .int m_inPlace, .ref mrow, .int m_rowMany, .ref mthr, .ref mmays, .ref mtall, .ref mweights, .ref mrowOfWare, .ref mneededOf, .int m_goShelf, .int m_goStack, .int m_goLeft, .ref mtried, .ref mbestRow, .int m_bestCost, .int m_bestMany, .int m_bestShelf, .int m_bestSet, .ref mdigits])), (mtold, .inl (cyI, 240, .inl m_told)), (mop, .inl (cyI, 2200, .inl m_op)), (marg, .inl (cyI, 2200, .inl m_arg)), (mfacts, .inl (cyI, 8, .inl m_facts)), (mpile, .inl (cyI, 1100, .inl m_pile))] (fun u => some (.int (u.2.1 0))) (fun u => (0 ≤ (u.2.1 0).toInt ∧ (u.2.1 0).toInt ≤ 1) ∧ (∀ E : (Nat → (Nat → Int32) → Int32), ME6 m_told m_op m_arg E → (u.2.1 0).toInt = if mayM m_told E (p0).toInt.toNat (p1).toInt.toNat = true then 1 else 0)) (fun u => [(m0, .inr (11, [.int m_thrown, .ref mtape, .int m_taped, .int m_size, .ref msort, .ref mplace, .ref mvalue, .int m_at, .int m_fault, .ref mwords, .ref mtold, .ref mop, .ref marg, .int m_codes, .ref mnames, .ref mhasHabit, .int m_isNew, .ref mfactWords, .ref mfacts, .ref mpile, .ref mstates, .ref misMarked, .int m_inShelf, .int m_inStack, .int m_inPlace, .ref mrow, .int m_rowMany, .ref mthr, .ref mmays, .ref mtall, .ref mweights, .ref mrowOfWare, .ref mneededOf, .int m_goShelf, .int m_goStack, .int m_goLeft, .ref mtried, .ref mbestRow, .int m_bestCost, .int m_bestMany, .int m_bestShelf, .int m_bestSet, .ref mdigits])), (mtold, .inl (cyI, 240, .inl m_told)), (mop, .inl (cyI, 2200, .inl m_op)), (marg, .inl (cyI, 2200, .inl m_arg)), (mfacts, .inl (cyI, 8, .inl (u.2.2.1 0))), (mpile, .inl (cyI, 1100, .inl (u.2.2.1 1)))]) := by
  refine KK.of (lv0 := [(0, .ref m0), (1, .int p0), (2, .int p1)]) (by decide) rfl (Nat.le_of_ble_eq_true rfl) ?_
  intro p e s m args below meth c A C hr hk hin
  refine j_aload_n (pc := 0) C dX11_mayOn_0 rfl 0 rfl ?_
  refine j_iload_n (pc := 1) C dX11_mayOn_1 rfl 2 rfl ?_
  refine j_bipush (pc := 2) (v := 7) C dX11_mayOn_2 (by decide) ?_
  refine j_callV (pc := 4) (As := [.int p1, .int 7]) (rest := []) (wr := [(mop, .inl (cyI, 2200, .inl m_op)), (marg, .inl (cyI, 2200, .inl m_arg)), (mfacts, .inl (cyI, 8, .inl m_facts)), (mpile, .inl (cyI, 1100, .inl m_pile))]) C (c_X11_wareOf l D cyC cyI cyJ cyZ cyO m0 mtold mtape msort mplace mvalue mwords mop marg mnames mhasHabit mfactWords mfacts mpile mstates misMarked mrow mthr mmays mtall mweights mrowOfWare mneededOf mtried mbestRow mdigits p1 7 m_thrown m_taped m_size m_at m_fault m_codes m_isNew m_inShelf m_inStack m_inPlace m_rowMany m_goShelf m_goStack m_goLeft m_bestCost m_bestMany m_bestShelf m_bestSet m_told h_m_taped h_m_size h_m_at h_m_fault h_m_codes h_m_isNew h_m_inShelf h_m_inStack h_m_inPlace h_m_rowMany h_m_goShelf h_m_bestMany h_m_bestShelf h_p1 (by decide) h_m_told) wd_756 wd_624 wd_757 wd_758 wd_759 ⟨by decide, by decide, rfl⟩ rfl ⟨rfl, rfl, by decide, by decide⟩ ⟨by decide, by decide⟩ [0, 1] [2, 3, 4, 5] rfl rfl ⟨by decide, by decide, by decide⟩ 0 rfl rfl rfl (Nat.le_of_ble_eq_true rfl) dX11_mayOn_4 (fun u_1 hw_2 => ?_)
  refine j_eq (ws2 := [(mop, .inl (cyI, 2200, .inl m_op)), (marg, .inl (cyI, 2200, .inl m_arg)), (mfacts, .inl (cyI, 8, .inl m_facts)), (mpile, .inl (cyI, 1100, .inl m_pile)), (m0, .inr (11, [.int m_thrown, .ref mtape, .int m_taped, .int m_size, .ref msort, .ref mplace, .ref mvalue, .int m_at, .int m_fault, .ref mwords, .ref mtold, .ref mop, .ref marg, .int m_codes, .ref mnames, .ref mhasHabit, .int m_isNew, .ref mfactWords, .ref mfacts, .ref mpile, .ref mstates, .ref misMarked, .int m_inShelf, .int m_inStack, .int m_inPlace, .ref mrow, .int m_rowMany, .ref mthr, .ref mmays, .ref mtall, .ref mweights, .ref mrowOfWare, .ref mneededOf, .int m_goShelf, .int m_goStack, .int m_goLeft, .ref mtried, .ref mbestRow, .int m_bestCost, .int m_bestMany, .int m_bestShelf, .int m_bestSet, .ref mdigits])), (mtold, .inl (cyI, 240, .inl m_told))]) (pc2 := 7) (lv2 := [(0, .ref m0), (1, .int p0), (2, .int p1)]) (st2 := [.int (u_1.2.1 0)]) rfl rfl rfl rfl ?_
  obtain ⟨hw_2_0, hw_2_1⟩ := hw_2
  refine j_iconst (pc := 7) (v := 1) C dX11_mayOn_7 (by decide) ?_
  refine j_icmp_ne (pc := 8) (tgt := 13) C dX11_mayOn_8 (by decide) (fun c_3 => ?_) (fun c_3 => ?_)
  · skip
    have el_1 : (1 : Int32).toInt = 1 := rfl
    rw [i_eq] at c_3
    refine j_aload_n (pc := 13) C dX11_mayOn_13 rfl 0 rfl ?_
    refine j_get (pc := 14) (ci := 11) (v := .ref mfacts) C inw_11 4 rfl rfl 18 (by decide) wd_798 rfl rfl dX11_mayOn_14 ?_
    refine j_iconst (pc := 17) (v := 0) C dX11_mayOn_17 (by decide) ?_
    refine j_aload_n (pc := 18) C dX11_mayOn_18 rfl 0 rfl ?_
    refine j_iload_n (pc := 19) C dX11_mayOn_19 rfl 1 rfl ?_
    refine j_iconst (pc := 20) (v := 0) C dX11_mayOn_20 (by decide) ?_
    refine j_callV (pc := 21) (As := [.int p0, .int 0]) (rest := [.int 0, .ref mfacts]) (wr := [(mop, .inl (cyI, 2200, .inl m_op)), (marg, .inl (cyI, 2200, .inl m_arg)), (mfacts, .inl (cyI, 8, .inl m_facts)), (mpile, .inl (cyI, 1100, .inl m_pile))]) C (c_X11_wareOf l D cyC cyI cyJ cyZ cyO m0 mtold mtape msort mplace mvalue mwords mop marg mnames mhasHabit mfactWords mfacts mpile mstates misMarked mrow mthr mmays mtall mweights mrowOfWare mneededOf mtried mbestRow mdigits p0 0 m_thrown m_taped m_size m_at m_fault m_codes m_isNew m_inShelf m_inStack m_inPlace m_rowMany m_goShelf m_goStack m_goLeft m_bestCost m_bestMany m_bestShelf m_bestSet m_told h_m_taped h_m_size h_m_at h_m_fault h_m_codes h_m_isNew h_m_inShelf h_m_inStack h_m_inPlace h_m_rowMany h_m_goShelf h_m_bestMany h_m_bestShelf h_p0 (by decide) h_m_told) wd_756 wd_624 wd_757 wd_758 wd_759 ⟨by decide, by decide, rfl⟩ rfl ⟨rfl, rfl, by decide, by decide⟩ ⟨by decide, by decide⟩ [4, 5] [0, 1, 2, 3] rfl rfl ⟨by decide, by decide, by decide⟩ 4 rfl rfl rfl (Nat.le_of_ble_eq_true rfl) dX11_mayOn_21 (fun u_4 hw_5 => ?_)
    refine j_eq (ws2 := [(mop, .inl (cyI, 2200, .inl m_op)), (marg, .inl (cyI, 2200, .inl m_arg)), (mfacts, .inl (cyI, 8, .inl m_facts)), (mpile, .inl (cyI, 1100, .inl m_pile)), (m0, .inr (11, [.int m_thrown, .ref mtape, .int m_taped, .int m_size, .ref msort, .ref mplace, .ref mvalue, .int m_at, .int m_fault, .ref mwords, .ref mtold, .ref mop, .ref marg, .int m_codes, .ref mnames, .ref mhasHabit, .int m_isNew, .ref mfactWords, .ref mfacts, .ref mpile, .ref mstates, .ref misMarked, .int m_inShelf, .int m_inStack, .int m_inPlace, .ref mrow, .int m_rowMany, .ref mthr, .ref mmays, .ref mtall, .ref mweights, .ref mrowOfWare, .ref mneededOf, .int m_goShelf, .int m_goStack, .int m_goLeft, .ref mtried, .ref mbestRow, .int m_bestCost, .int m_bestMany, .int m_bestShelf, .int m_bestSet, .ref mdigits])), (mtold, .inl (cyI, 240, .inl m_told))]) (pc2 := 24) (lv2 := [(0, .ref m0), (1, .int p0), (2, .int p1)]) (st2 := [.int (u_4.2.1 0), .int 0, .ref mfacts]) rfl rfl rfl rfl ?_
    obtain ⟨hw_5_0, hw_5_1⟩ := hw_5
    obtain ⟨f_6, ef_6⟩ : ∃ z, z = upd m_facts 0 (u_4.2.1 0) := ⟨_, rfl⟩
    refine j_iast (pc := 24) (k := 0) (ws' := [(mop, .inl (cyI, 2200, .inl m_op)), (marg, .inl (cyI, 2200, .inl m_arg)), (mfacts, .inl (cyI, 8, .inl f_6)), (mpile, .inl (cyI, 1100, .inl m_pile)), (m0, .inr (11, [.int m_thrown, .ref mtape, .int m_taped, .int m_size, .ref msort, .ref mplace, .ref mvalue, .int m_at, .int m_fault, .ref mwords, .ref mtold, .ref mop, .ref marg, .int m_codes, .ref mnames, .ref mhasHabit, .int m_isNew, .ref mfactWords, .ref mfacts, .ref mpile, .ref mstates, .ref misMarked, .int m_inShelf, .int m_inStack, .int m_inPlace, .ref mrow, .int m_rowMany, .ref mthr, .ref mmays, .ref mtall, .ref mweights, .ref mrowOfWare, .ref mneededOf, .int m_goShelf, .int m_goStack, .int m_goLeft, .ref mtried, .ref mbestRow, .int m_bestCost, .int m_bestMany, .int m_bestShelf, .int m_bestSet, .ref mdigits])), (mtold, .inl (cyI, 240, .inl m_told))]) C 2 1 rfl rfl (by decide) (by decide) (by decide) dX11_mayOn_24 (by rw [ef_6]; rfl) ?_
    refine j_aload_n (pc := 25) C dX11_mayOn_25 rfl 0 rfl ?_
    refine j_get (pc := 26) (ci := 11) (v := .ref mfacts) C inw_11 4 rfl rfl 18 (by decide) wd_798 rfl rfl dX11_mayOn_26 ?_
    refine j_iconst (pc := 29) (v := 1) C dX11_mayOn_29 (by decide) ?_
    refine j_aload_n (pc := 30) C dX11_mayOn_30 rfl 0 rfl ?_
    refine j_iload_n (pc := 31) C dX11_mayOn_31 rfl 2 rfl ?_
    refine j_iconst (pc := 32) (v := 0) C dX11_mayOn_32 (by decide) ?_
    refine j_callV (pc := 33) (As := [.int p1, .int 0]) (rest := [.int 1, .ref mfacts]) (wr := [(mop, .inl (cyI, 2200, .inl m_op)), (marg, .inl (cyI, 2200, .inl m_arg)), (mfacts, .inl (cyI, 8, .inl f_6)), (mpile, .inl (cyI, 1100, .inl m_pile))]) C (c_X11_wareOf l D cyC cyI cyJ cyZ cyO m0 mtold mtape msort mplace mvalue mwords mop marg mnames mhasHabit mfactWords mfacts mpile mstates misMarked mrow mthr mmays mtall mweights mrowOfWare mneededOf mtried mbestRow mdigits p1 0 m_thrown m_taped m_size m_at m_fault m_codes m_isNew m_inShelf m_inStack m_inPlace m_rowMany m_goShelf m_goStack m_goLeft m_bestCost m_bestMany m_bestShelf m_bestSet m_told h_m_taped h_m_size h_m_at h_m_fault h_m_codes h_m_isNew h_m_inShelf h_m_inStack h_m_inPlace h_m_rowMany h_m_goShelf h_m_bestMany h_m_bestShelf h_p1 (by decide) h_m_told) wd_756 wd_624 wd_757 wd_758 wd_759 ⟨by decide, by decide, rfl⟩ rfl ⟨rfl, rfl, by decide, by decide⟩ ⟨by decide, by decide⟩ [4, 5] [0, 1, 2, 3] rfl rfl ⟨by decide, by decide, by decide⟩ 4 rfl rfl rfl (Nat.le_of_ble_eq_true rfl) dX11_mayOn_33 (fun u_7 hw_8 => ?_)
    refine j_eq (ws2 := [(mop, .inl (cyI, 2200, .inl m_op)), (marg, .inl (cyI, 2200, .inl m_arg)), (mfacts, .inl (cyI, 8, .inl f_6)), (mpile, .inl (cyI, 1100, .inl m_pile)), (m0, .inr (11, [.int m_thrown, .ref mtape, .int m_taped, .int m_size, .ref msort, .ref mplace, .ref mvalue, .int m_at, .int m_fault, .ref mwords, .ref mtold, .ref mop, .ref marg, .int m_codes, .ref mnames, .ref mhasHabit, .int m_isNew, .ref mfactWords, .ref mfacts, .ref mpile, .ref mstates, .ref misMarked, .int m_inShelf, .int m_inStack, .int m_inPlace, .ref mrow, .int m_rowMany, .ref mthr, .ref mmays, .ref mtall, .ref mweights, .ref mrowOfWare, .ref mneededOf, .int m_goShelf, .int m_goStack, .int m_goLeft, .ref mtried, .ref mbestRow, .int m_bestCost, .int m_bestMany, .int m_bestShelf, .int m_bestSet, .ref mdigits])), (mtold, .inl (cyI, 240, .inl m_told))]) (pc2 := 36) (lv2 := [(0, .ref m0), (1, .int p0), (2, .int p1)]) (st2 := [.int (u_7.2.1 0), .int 1, .ref mfacts]) rfl rfl rfl rfl ?_
    obtain ⟨hw_8_0, hw_8_1⟩ := hw_8
    obtain ⟨f_9, ef_9⟩ : ∃ z, z = upd f_6 1 (u_7.2.1 0) := ⟨_, rfl⟩
    refine j_iast (pc := 36) (k := 1) (ws' := [(mop, .inl (cyI, 2200, .inl m_op)), (marg, .inl (cyI, 2200, .inl m_arg)), (mfacts, .inl (cyI, 8, .inl f_9)), (mpile, .inl (cyI, 1100, .inl m_pile)), (m0, .inr (11, [.int m_thrown, .ref mtape, .int m_taped, .int m_size, .ref msort, .ref mplace, .ref mvalue, .int m_at, .int m_fault, .ref mwords, .ref mtold, .ref mop, .ref marg, .int m_codes, .ref mnames, .ref mhasHabit, .int m_isNew, .ref mfactWords, .ref mfacts, .ref mpile, .ref mstates, .ref misMarked, .int m_inShelf, .int m_inStack, .int m_inPlace, .ref mrow, .int m_rowMany, .ref mthr, .ref mmays, .ref mtall, .ref mweights, .ref mrowOfWare, .ref mneededOf, .int m_goShelf, .int m_goStack, .int m_goLeft, .ref mtried, .ref mbestRow, .int m_bestCost, .int m_bestMany, .int m_bestShelf, .int m_bestSet, .ref mdigits])), (mtold, .inl (cyI, 240, .inl m_told))]) C 2 1 rfl rfl (by decide) (by decide) (by decide) dX11_mayOn_36 (by rw [ef_9]; rfl) ?_
    refine j_aload_n (pc := 37) C dX11_mayOn_37 rfl 0 rfl ?_
    refine j_get (pc := 38) (ci := 11) (v := .ref mfacts) C inw_11 4 rfl rfl 18 (by decide) wd_798 rfl rfl dX11_mayOn_38 ?_
    refine j_iconst (pc := 41) (v := 2) C dX11_mayOn_41 (by decide) ?_
    refine j_aload_n (pc := 42) C dX11_mayOn_42 rfl 0 rfl ?_
    refine j_iload_n (pc := 43) C dX11_mayOn_43 rfl 1 rfl ?_
    refine j_iconst (pc := 44) (v := 1) C dX11_mayOn_44 (by decide) ?_
    refine j_callV (pc := 45) (As := [.int p0, .int 1]) (rest := [.int 2, .ref mfacts]) (wr := [(mop, .inl (cyI, 2200, .inl m_op)), (marg, .inl (cyI, 2200, .inl m_arg)), (mfacts, .inl (cyI, 8, .inl f_9)), (mpile, .inl (cyI, 1100, .inl m_pile))]) C (c_X11_wareOf l D cyC cyI cyJ cyZ cyO m0 mtold mtape msort mplace mvalue mwords mop marg mnames mhasHabit mfactWords mfacts mpile mstates misMarked mrow mthr mmays mtall mweights mrowOfWare mneededOf mtried mbestRow mdigits p0 1 m_thrown m_taped m_size m_at m_fault m_codes m_isNew m_inShelf m_inStack m_inPlace m_rowMany m_goShelf m_goStack m_goLeft m_bestCost m_bestMany m_bestShelf m_bestSet m_told h_m_taped h_m_size h_m_at h_m_fault h_m_codes h_m_isNew h_m_inShelf h_m_inStack h_m_inPlace h_m_rowMany h_m_goShelf h_m_bestMany h_m_bestShelf h_p0 (by decide) h_m_told) wd_756 wd_624 wd_757 wd_758 wd_759 ⟨by decide, by decide, rfl⟩ rfl ⟨rfl, rfl, by decide, by decide⟩ ⟨by decide, by decide⟩ [4, 5] [0, 1, 2, 3] rfl rfl ⟨by decide, by decide, by decide⟩ 4 rfl rfl rfl (Nat.le_of_ble_eq_true rfl) dX11_mayOn_45 (fun u_10 hw_11 => ?_)
    refine j_eq (ws2 := [(mop, .inl (cyI, 2200, .inl m_op)), (marg, .inl (cyI, 2200, .inl m_arg)), (mfacts, .inl (cyI, 8, .inl f_9)), (mpile, .inl (cyI, 1100, .inl m_pile)), (m0, .inr (11, [.int m_thrown, .ref mtape, .int m_taped, .int m_size, .ref msort, .ref mplace, .ref mvalue, .int m_at, .int m_fault, .ref mwords, .ref mtold, .ref mop, .ref marg, .int m_codes, .ref mnames, .ref mhasHabit, .int m_isNew, .ref mfactWords, .ref mfacts, .ref mpile, .ref mstates, .ref misMarked, .int m_inShelf, .int m_inStack, .int m_inPlace, .ref mrow, .int m_rowMany, .ref mthr, .ref mmays, .ref mtall, .ref mweights, .ref mrowOfWare, .ref mneededOf, .int m_goShelf, .int m_goStack, .int m_goLeft, .ref mtried, .ref mbestRow, .int m_bestCost, .int m_bestMany, .int m_bestShelf, .int m_bestSet, .ref mdigits])), (mtold, .inl (cyI, 240, .inl m_told))]) (pc2 := 48) (lv2 := [(0, .ref m0), (1, .int p0), (2, .int p1)]) (st2 := [.int (u_10.2.1 0), .int 2, .ref mfacts]) rfl rfl rfl rfl ?_
    obtain ⟨hw_11_0, hw_11_1⟩ := hw_11
    obtain ⟨f_12, ef_12⟩ : ∃ z, z = upd f_9 2 (u_10.2.1 0) := ⟨_, rfl⟩
    refine j_iast (pc := 48) (k := 2) (ws' := [(mop, .inl (cyI, 2200, .inl m_op)), (marg, .inl (cyI, 2200, .inl m_arg)), (mfacts, .inl (cyI, 8, .inl f_12)), (mpile, .inl (cyI, 1100, .inl m_pile)), (m0, .inr (11, [.int m_thrown, .ref mtape, .int m_taped, .int m_size, .ref msort, .ref mplace, .ref mvalue, .int m_at, .int m_fault, .ref mwords, .ref mtold, .ref mop, .ref marg, .int m_codes, .ref mnames, .ref mhasHabit, .int m_isNew, .ref mfactWords, .ref mfacts, .ref mpile, .ref mstates, .ref misMarked, .int m_inShelf, .int m_inStack, .int m_inPlace, .ref mrow, .int m_rowMany, .ref mthr, .ref mmays, .ref mtall, .ref mweights, .ref mrowOfWare, .ref mneededOf, .int m_goShelf, .int m_goStack, .int m_goLeft, .ref mtried, .ref mbestRow, .int m_bestCost, .int m_bestMany, .int m_bestShelf, .int m_bestSet, .ref mdigits])), (mtold, .inl (cyI, 240, .inl m_told))]) C 2 1 rfl rfl (by decide) (by decide) (by decide) dX11_mayOn_48 (by rw [ef_12]; rfl) ?_
    refine j_aload_n (pc := 49) C dX11_mayOn_49 rfl 0 rfl ?_
    refine j_get (pc := 50) (ci := 11) (v := .ref mfacts) C inw_11 4 rfl rfl 18 (by decide) wd_798 rfl rfl dX11_mayOn_50 ?_
    refine j_iconst (pc := 53) (v := 3) C dX11_mayOn_53 (by decide) ?_
    refine j_aload_n (pc := 54) C dX11_mayOn_54 rfl 0 rfl ?_
    refine j_iload_n (pc := 55) C dX11_mayOn_55 rfl 2 rfl ?_
    refine j_iconst (pc := 56) (v := 1) C dX11_mayOn_56 (by decide) ?_
    refine j_callV (pc := 57) (As := [.int p1, .int 1]) (rest := [.int 3, .ref mfacts]) (wr := [(mop, .inl (cyI, 2200, .inl m_op)), (marg, .inl (cyI, 2200, .inl m_arg)), (mfacts, .inl (cyI, 8, .inl f_12)), (mpile, .inl (cyI, 1100, .inl m_pile))]) C (c_X11_wareOf l D cyC cyI cyJ cyZ cyO m0 mtold mtape msort mplace mvalue mwords mop marg mnames mhasHabit mfactWords mfacts mpile mstates misMarked mrow mthr mmays mtall mweights mrowOfWare mneededOf mtried mbestRow mdigits p1 1 m_thrown m_taped m_size m_at m_fault m_codes m_isNew m_inShelf m_inStack m_inPlace m_rowMany m_goShelf m_goStack m_goLeft m_bestCost m_bestMany m_bestShelf m_bestSet m_told h_m_taped h_m_size h_m_at h_m_fault h_m_codes h_m_isNew h_m_inShelf h_m_inStack h_m_inPlace h_m_rowMany h_m_goShelf h_m_bestMany h_m_bestShelf h_p1 (by decide) h_m_told) wd_756 wd_624 wd_757 wd_758 wd_759 ⟨by decide, by decide, rfl⟩ rfl ⟨rfl, rfl, by decide, by decide⟩ ⟨by decide, by decide⟩ [4, 5] [0, 1, 2, 3] rfl rfl ⟨by decide, by decide, by decide⟩ 4 rfl rfl rfl (Nat.le_of_ble_eq_true rfl) dX11_mayOn_57 (fun u_13 hw_14 => ?_)
    refine j_eq (ws2 := [(mop, .inl (cyI, 2200, .inl m_op)), (marg, .inl (cyI, 2200, .inl m_arg)), (mfacts, .inl (cyI, 8, .inl f_12)), (mpile, .inl (cyI, 1100, .inl m_pile)), (m0, .inr (11, [.int m_thrown, .ref mtape, .int m_taped, .int m_size, .ref msort, .ref mplace, .ref mvalue, .int m_at, .int m_fault, .ref mwords, .ref mtold, .ref mop, .ref marg, .int m_codes, .ref mnames, .ref mhasHabit, .int m_isNew, .ref mfactWords, .ref mfacts, .ref mpile, .ref mstates, .ref misMarked, .int m_inShelf, .int m_inStack, .int m_inPlace, .ref mrow, .int m_rowMany, .ref mthr, .ref mmays, .ref mtall, .ref mweights, .ref mrowOfWare, .ref mneededOf, .int m_goShelf, .int m_goStack, .int m_goLeft, .ref mtried, .ref mbestRow, .int m_bestCost, .int m_bestMany, .int m_bestShelf, .int m_bestSet, .ref mdigits])), (mtold, .inl (cyI, 240, .inl m_told))]) (pc2 := 60) (lv2 := [(0, .ref m0), (1, .int p0), (2, .int p1)]) (st2 := [.int (u_13.2.1 0), .int 3, .ref mfacts]) rfl rfl rfl rfl ?_
    obtain ⟨hw_14_0, hw_14_1⟩ := hw_14
    obtain ⟨f_15, ef_15⟩ : ∃ z, z = upd f_12 3 (u_13.2.1 0) := ⟨_, rfl⟩
    refine j_iast (pc := 60) (k := 3) (ws' := [(mop, .inl (cyI, 2200, .inl m_op)), (marg, .inl (cyI, 2200, .inl m_arg)), (mfacts, .inl (cyI, 8, .inl f_15)), (mpile, .inl (cyI, 1100, .inl m_pile)), (m0, .inr (11, [.int m_thrown, .ref mtape, .int m_taped, .int m_size, .ref msort, .ref mplace, .ref mvalue, .int m_at, .int m_fault, .ref mwords, .ref mtold, .ref mop, .ref marg, .int m_codes, .ref mnames, .ref mhasHabit, .int m_isNew, .ref mfactWords, .ref mfacts, .ref mpile, .ref mstates, .ref misMarked, .int m_inShelf, .int m_inStack, .int m_inPlace, .ref mrow, .int m_rowMany, .ref mthr, .ref mmays, .ref mtall, .ref mweights, .ref mrowOfWare, .ref mneededOf, .int m_goShelf, .int m_goStack, .int m_goLeft, .ref mtried, .ref mbestRow, .int m_bestCost, .int m_bestMany, .int m_bestShelf, .int m_bestSet, .ref mdigits])), (mtold, .inl (cyI, 240, .inl m_told))]) C 2 1 rfl rfl (by decide) (by decide) (by decide) dX11_mayOn_60 (by rw [ef_15]; rfl) ?_
    refine j_aload_n (pc := 61) C dX11_mayOn_61 rfl 0 rfl ?_
    refine j_get (pc := 62) (ci := 11) (v := .ref mfacts) C inw_11 4 rfl rfl 18 (by decide) wd_798 rfl rfl dX11_mayOn_62 ?_
    refine j_iconst (pc := 65) (v := 4) C dX11_mayOn_65 (by decide) ?_
    refine j_aload_n (pc := 66) C dX11_mayOn_66 rfl 0 rfl ?_
    refine j_iload_n (pc := 67) C dX11_mayOn_67 rfl 1 rfl ?_
    refine j_iconst (pc := 68) (v := 2) C dX11_mayOn_68 (by decide) ?_
    refine j_callV (pc := 69) (As := [.int p0, .int 2]) (rest := [.int 4, .ref mfacts]) (wr := [(mop, .inl (cyI, 2200, .inl m_op)), (marg, .inl (cyI, 2200, .inl m_arg)), (mfacts, .inl (cyI, 8, .inl f_15)), (mpile, .inl (cyI, 1100, .inl m_pile))]) C (c_X11_wareOf l D cyC cyI cyJ cyZ cyO m0 mtold mtape msort mplace mvalue mwords mop marg mnames mhasHabit mfactWords mfacts mpile mstates misMarked mrow mthr mmays mtall mweights mrowOfWare mneededOf mtried mbestRow mdigits p0 2 m_thrown m_taped m_size m_at m_fault m_codes m_isNew m_inShelf m_inStack m_inPlace m_rowMany m_goShelf m_goStack m_goLeft m_bestCost m_bestMany m_bestShelf m_bestSet m_told h_m_taped h_m_size h_m_at h_m_fault h_m_codes h_m_isNew h_m_inShelf h_m_inStack h_m_inPlace h_m_rowMany h_m_goShelf h_m_bestMany h_m_bestShelf h_p0 (by decide) h_m_told) wd_756 wd_624 wd_757 wd_758 wd_759 ⟨by decide, by decide, rfl⟩ rfl ⟨rfl, rfl, by decide, by decide⟩ ⟨by decide, by decide⟩ [4, 5] [0, 1, 2, 3] rfl rfl ⟨by decide, by decide, by decide⟩ 4 rfl rfl rfl (Nat.le_of_ble_eq_true rfl) dX11_mayOn_69 (fun u_16 hw_17 => ?_)
    refine j_eq (ws2 := [(mop, .inl (cyI, 2200, .inl m_op)), (marg, .inl (cyI, 2200, .inl m_arg)), (mfacts, .inl (cyI, 8, .inl f_15)), (mpile, .inl (cyI, 1100, .inl m_pile)), (m0, .inr (11, [.int m_thrown, .ref mtape, .int m_taped, .int m_size, .ref msort, .ref mplace, .ref mvalue, .int m_at, .int m_fault, .ref mwords, .ref mtold, .ref mop, .ref marg, .int m_codes, .ref mnames, .ref mhasHabit, .int m_isNew, .ref mfactWords, .ref mfacts, .ref mpile, .ref mstates, .ref misMarked, .int m_inShelf, .int m_inStack, .int m_inPlace, .ref mrow, .int m_rowMany, .ref mthr, .ref mmays, .ref mtall, .ref mweights, .ref mrowOfWare, .ref mneededOf, .int m_goShelf, .int m_goStack, .int m_goLeft, .ref mtried, .ref mbestRow, .int m_bestCost, .int m_bestMany, .int m_bestShelf, .int m_bestSet, .ref mdigits])), (mtold, .inl (cyI, 240, .inl m_told))]) (pc2 := 72) (lv2 := [(0, .ref m0), (1, .int p0), (2, .int p1)]) (st2 := [.int (u_16.2.1 0), .int 4, .ref mfacts]) rfl rfl rfl rfl ?_
    obtain ⟨hw_17_0, hw_17_1⟩ := hw_17
    obtain ⟨f_18, ef_18⟩ : ∃ z, z = upd f_15 4 (u_16.2.1 0) := ⟨_, rfl⟩
    refine j_iast (pc := 72) (k := 4) (ws' := [(mop, .inl (cyI, 2200, .inl m_op)), (marg, .inl (cyI, 2200, .inl m_arg)), (mfacts, .inl (cyI, 8, .inl f_18)), (mpile, .inl (cyI, 1100, .inl m_pile)), (m0, .inr (11, [.int m_thrown, .ref mtape, .int m_taped, .int m_size, .ref msort, .ref mplace, .ref mvalue, .int m_at, .int m_fault, .ref mwords, .ref mtold, .ref mop, .ref marg, .int m_codes, .ref mnames, .ref mhasHabit, .int m_isNew, .ref mfactWords, .ref mfacts, .ref mpile, .ref mstates, .ref misMarked, .int m_inShelf, .int m_inStack, .int m_inPlace, .ref mrow, .int m_rowMany, .ref mthr, .ref mmays, .ref mtall, .ref mweights, .ref mrowOfWare, .ref mneededOf, .int m_goShelf, .int m_goStack, .int m_goLeft, .ref mtried, .ref mbestRow, .int m_bestCost, .int m_bestMany, .int m_bestShelf, .int m_bestSet, .ref mdigits])), (mtold, .inl (cyI, 240, .inl m_told))]) C 2 1 rfl rfl (by decide) (by decide) (by decide) dX11_mayOn_72 (by rw [ef_18]; rfl) ?_
    refine j_aload_n (pc := 73) C dX11_mayOn_73 rfl 0 rfl ?_
    refine j_get (pc := 74) (ci := 11) (v := .ref mfacts) C inw_11 4 rfl rfl 18 (by decide) wd_798 rfl rfl dX11_mayOn_74 ?_
    refine j_iconst (pc := 77) (v := 5) C dX11_mayOn_77 (by decide) ?_
    refine j_aload_n (pc := 78) C dX11_mayOn_78 rfl 0 rfl ?_
    refine j_iload_n (pc := 79) C dX11_mayOn_79 rfl 2 rfl ?_
    refine j_iconst (pc := 80) (v := 2) C dX11_mayOn_80 (by decide) ?_
    refine j_callV (pc := 81) (As := [.int p1, .int 2]) (rest := [.int 5, .ref mfacts]) (wr := [(mop, .inl (cyI, 2200, .inl m_op)), (marg, .inl (cyI, 2200, .inl m_arg)), (mfacts, .inl (cyI, 8, .inl f_18)), (mpile, .inl (cyI, 1100, .inl m_pile))]) C (c_X11_wareOf l D cyC cyI cyJ cyZ cyO m0 mtold mtape msort mplace mvalue mwords mop marg mnames mhasHabit mfactWords mfacts mpile mstates misMarked mrow mthr mmays mtall mweights mrowOfWare mneededOf mtried mbestRow mdigits p1 2 m_thrown m_taped m_size m_at m_fault m_codes m_isNew m_inShelf m_inStack m_inPlace m_rowMany m_goShelf m_goStack m_goLeft m_bestCost m_bestMany m_bestShelf m_bestSet m_told h_m_taped h_m_size h_m_at h_m_fault h_m_codes h_m_isNew h_m_inShelf h_m_inStack h_m_inPlace h_m_rowMany h_m_goShelf h_m_bestMany h_m_bestShelf h_p1 (by decide) h_m_told) wd_756 wd_624 wd_757 wd_758 wd_759 ⟨by decide, by decide, rfl⟩ rfl ⟨rfl, rfl, by decide, by decide⟩ ⟨by decide, by decide⟩ [4, 5] [0, 1, 2, 3] rfl rfl ⟨by decide, by decide, by decide⟩ 4 rfl rfl rfl (Nat.le_of_ble_eq_true rfl) dX11_mayOn_81 (fun u_19 hw_20 => ?_)
    refine j_eq (ws2 := [(mop, .inl (cyI, 2200, .inl m_op)), (marg, .inl (cyI, 2200, .inl m_arg)), (mfacts, .inl (cyI, 8, .inl f_18)), (mpile, .inl (cyI, 1100, .inl m_pile)), (m0, .inr (11, [.int m_thrown, .ref mtape, .int m_taped, .int m_size, .ref msort, .ref mplace, .ref mvalue, .int m_at, .int m_fault, .ref mwords, .ref mtold, .ref mop, .ref marg, .int m_codes, .ref mnames, .ref mhasHabit, .int m_isNew, .ref mfactWords, .ref mfacts, .ref mpile, .ref mstates, .ref misMarked, .int m_inShelf, .int m_inStack, .int m_inPlace, .ref mrow, .int m_rowMany, .ref mthr, .ref mmays, .ref mtall, .ref mweights, .ref mrowOfWare, .ref mneededOf, .int m_goShelf, .int m_goStack, .int m_goLeft, .ref mtried, .ref mbestRow, .int m_bestCost, .int m_bestMany, .int m_bestShelf, .int m_bestSet, .ref mdigits])), (mtold, .inl (cyI, 240, .inl m_told))]) (pc2 := 84) (lv2 := [(0, .ref m0), (1, .int p0), (2, .int p1)]) (st2 := [.int (u_19.2.1 0), .int 5, .ref mfacts]) rfl rfl rfl rfl ?_
    obtain ⟨hw_20_0, hw_20_1⟩ := hw_20
    obtain ⟨f_21, ef_21⟩ : ∃ z, z = upd f_18 5 (u_19.2.1 0) := ⟨_, rfl⟩
    refine j_iast (pc := 84) (k := 5) (ws' := [(mop, .inl (cyI, 2200, .inl m_op)), (marg, .inl (cyI, 2200, .inl m_arg)), (mfacts, .inl (cyI, 8, .inl f_21)), (mpile, .inl (cyI, 1100, .inl m_pile)), (m0, .inr (11, [.int m_thrown, .ref mtape, .int m_taped, .int m_size, .ref msort, .ref mplace, .ref mvalue, .int m_at, .int m_fault, .ref mwords, .ref mtold, .ref mop, .ref marg, .int m_codes, .ref mnames, .ref mhasHabit, .int m_isNew, .ref mfactWords, .ref mfacts, .ref mpile, .ref mstates, .ref misMarked, .int m_inShelf, .int m_inStack, .int m_inPlace, .ref mrow, .int m_rowMany, .ref mthr, .ref mmays, .ref mtall, .ref mweights, .ref mrowOfWare, .ref mneededOf, .int m_goShelf, .int m_goStack, .int m_goLeft, .ref mtried, .ref mbestRow, .int m_bestCost, .int m_bestMany, .int m_bestShelf, .int m_bestSet, .ref mdigits])), (mtold, .inl (cyI, 240, .inl m_told))]) C 2 1 rfl rfl (by decide) (by decide) (by decide) dX11_mayOn_84 (by rw [ef_21]; rfl) ?_
    refine j_aload_n (pc := 85) C dX11_mayOn_85 rfl 0 rfl ?_
    refine j_get (pc := 86) (ci := 11) (v := .ref mfacts) C inw_11 4 rfl rfl 18 (by decide) wd_798 rfl rfl dX11_mayOn_86 ?_
    refine j_bipush (pc := 89) (v := 6) C dX11_mayOn_89 (by decide) ?_
    refine j_aload_n (pc := 91) C dX11_mayOn_91 rfl 0 rfl ?_
    refine j_iload_n (pc := 92) C dX11_mayOn_92 rfl 1 rfl ?_
    refine j_bipush (pc := 93) (v := 6) C dX11_mayOn_93 (by decide) ?_
    refine j_callV (pc := 95) (As := [.int p0, .int 6]) (rest := [.int 6, .ref mfacts]) (wr := [(mop, .inl (cyI, 2200, .inl m_op)), (marg, .inl (cyI, 2200, .inl m_arg)), (mfacts, .inl (cyI, 8, .inl f_21)), (mpile, .inl (cyI, 1100, .inl m_pile))]) C (c_X11_wareOf l D cyC cyI cyJ cyZ cyO m0 mtold mtape msort mplace mvalue mwords mop marg mnames mhasHabit mfactWords mfacts mpile mstates misMarked mrow mthr mmays mtall mweights mrowOfWare mneededOf mtried mbestRow mdigits p0 6 m_thrown m_taped m_size m_at m_fault m_codes m_isNew m_inShelf m_inStack m_inPlace m_rowMany m_goShelf m_goStack m_goLeft m_bestCost m_bestMany m_bestShelf m_bestSet m_told h_m_taped h_m_size h_m_at h_m_fault h_m_codes h_m_isNew h_m_inShelf h_m_inStack h_m_inPlace h_m_rowMany h_m_goShelf h_m_bestMany h_m_bestShelf h_p0 (by decide) h_m_told) wd_756 wd_624 wd_757 wd_758 wd_759 ⟨by decide, by decide, rfl⟩ rfl ⟨rfl, rfl, by decide, by decide⟩ ⟨by decide, by decide⟩ [4, 5] [0, 1, 2, 3] rfl rfl ⟨by decide, by decide, by decide⟩ 4 rfl rfl rfl (Nat.le_of_ble_eq_true rfl) dX11_mayOn_95 (fun u_22 hw_23 => ?_)
    refine j_eq (ws2 := [(mop, .inl (cyI, 2200, .inl m_op)), (marg, .inl (cyI, 2200, .inl m_arg)), (mfacts, .inl (cyI, 8, .inl f_21)), (mpile, .inl (cyI, 1100, .inl m_pile)), (m0, .inr (11, [.int m_thrown, .ref mtape, .int m_taped, .int m_size, .ref msort, .ref mplace, .ref mvalue, .int m_at, .int m_fault, .ref mwords, .ref mtold, .ref mop, .ref marg, .int m_codes, .ref mnames, .ref mhasHabit, .int m_isNew, .ref mfactWords, .ref mfacts, .ref mpile, .ref mstates, .ref misMarked, .int m_inShelf, .int m_inStack, .int m_inPlace, .ref mrow, .int m_rowMany, .ref mthr, .ref mmays, .ref mtall, .ref mweights, .ref mrowOfWare, .ref mneededOf, .int m_goShelf, .int m_goStack, .int m_goLeft, .ref mtried, .ref mbestRow, .int m_bestCost, .int m_bestMany, .int m_bestShelf, .int m_bestSet, .ref mdigits])), (mtold, .inl (cyI, 240, .inl m_told))]) (pc2 := 98) (lv2 := [(0, .ref m0), (1, .int p0), (2, .int p1)]) (st2 := [.int (u_22.2.1 0), .int 6, .ref mfacts]) rfl rfl rfl rfl ?_
    obtain ⟨hw_23_0, hw_23_1⟩ := hw_23
    obtain ⟨f_24, ef_24⟩ : ∃ z, z = upd f_21 6 (u_22.2.1 0) := ⟨_, rfl⟩
    refine j_iast (pc := 98) (k := 6) (ws' := [(mop, .inl (cyI, 2200, .inl m_op)), (marg, .inl (cyI, 2200, .inl m_arg)), (mfacts, .inl (cyI, 8, .inl f_24)), (mpile, .inl (cyI, 1100, .inl m_pile)), (m0, .inr (11, [.int m_thrown, .ref mtape, .int m_taped, .int m_size, .ref msort, .ref mplace, .ref mvalue, .int m_at, .int m_fault, .ref mwords, .ref mtold, .ref mop, .ref marg, .int m_codes, .ref mnames, .ref mhasHabit, .int m_isNew, .ref mfactWords, .ref mfacts, .ref mpile, .ref mstates, .ref misMarked, .int m_inShelf, .int m_inStack, .int m_inPlace, .ref mrow, .int m_rowMany, .ref mthr, .ref mmays, .ref mtall, .ref mweights, .ref mrowOfWare, .ref mneededOf, .int m_goShelf, .int m_goStack, .int m_goLeft, .ref mtried, .ref mbestRow, .int m_bestCost, .int m_bestMany, .int m_bestShelf, .int m_bestSet, .ref mdigits])), (mtold, .inl (cyI, 240, .inl m_told))]) C 2 1 rfl rfl (by decide) (by decide) (by decide) dX11_mayOn_98 (by rw [ef_24]; rfl) ?_
    refine j_aload_n (pc := 99) C dX11_mayOn_99 rfl 0 rfl ?_
    refine j_get (pc := 100) (ci := 11) (v := .ref mfacts) C inw_11 4 rfl rfl 18 (by decide) wd_798 rfl rfl dX11_mayOn_100 ?_
    refine j_bipush (pc := 103) (v := 7) C dX11_mayOn_103 (by decide) ?_
    refine j_aload_n (pc := 105) C dX11_mayOn_105 rfl 0 rfl ?_
    refine j_iload_n (pc := 106) C dX11_mayOn_106 rfl 2 rfl ?_
    refine j_bipush (pc := 107) (v := 6) C dX11_mayOn_107 (by decide) ?_
    refine j_callV (pc := 109) (As := [.int p1, .int 6]) (rest := [.int 7, .ref mfacts]) (wr := [(mop, .inl (cyI, 2200, .inl m_op)), (marg, .inl (cyI, 2200, .inl m_arg)), (mfacts, .inl (cyI, 8, .inl f_24)), (mpile, .inl (cyI, 1100, .inl m_pile))]) C (c_X11_wareOf l D cyC cyI cyJ cyZ cyO m0 mtold mtape msort mplace mvalue mwords mop marg mnames mhasHabit mfactWords mfacts mpile mstates misMarked mrow mthr mmays mtall mweights mrowOfWare mneededOf mtried mbestRow mdigits p1 6 m_thrown m_taped m_size m_at m_fault m_codes m_isNew m_inShelf m_inStack m_inPlace m_rowMany m_goShelf m_goStack m_goLeft m_bestCost m_bestMany m_bestShelf m_bestSet m_told h_m_taped h_m_size h_m_at h_m_fault h_m_codes h_m_isNew h_m_inShelf h_m_inStack h_m_inPlace h_m_rowMany h_m_goShelf h_m_bestMany h_m_bestShelf h_p1 (by decide) h_m_told) wd_756 wd_624 wd_757 wd_758 wd_759 ⟨by decide, by decide, rfl⟩ rfl ⟨rfl, rfl, by decide, by decide⟩ ⟨by decide, by decide⟩ [4, 5] [0, 1, 2, 3] rfl rfl ⟨by decide, by decide, by decide⟩ 4 rfl rfl rfl (Nat.le_of_ble_eq_true rfl) dX11_mayOn_109 (fun u_25 hw_26 => ?_)
    refine j_eq (ws2 := [(mop, .inl (cyI, 2200, .inl m_op)), (marg, .inl (cyI, 2200, .inl m_arg)), (mfacts, .inl (cyI, 8, .inl f_24)), (mpile, .inl (cyI, 1100, .inl m_pile)), (m0, .inr (11, [.int m_thrown, .ref mtape, .int m_taped, .int m_size, .ref msort, .ref mplace, .ref mvalue, .int m_at, .int m_fault, .ref mwords, .ref mtold, .ref mop, .ref marg, .int m_codes, .ref mnames, .ref mhasHabit, .int m_isNew, .ref mfactWords, .ref mfacts, .ref mpile, .ref mstates, .ref misMarked, .int m_inShelf, .int m_inStack, .int m_inPlace, .ref mrow, .int m_rowMany, .ref mthr, .ref mmays, .ref mtall, .ref mweights, .ref mrowOfWare, .ref mneededOf, .int m_goShelf, .int m_goStack, .int m_goLeft, .ref mtried, .ref mbestRow, .int m_bestCost, .int m_bestMany, .int m_bestShelf, .int m_bestSet, .ref mdigits])), (mtold, .inl (cyI, 240, .inl m_told))]) (pc2 := 112) (lv2 := [(0, .ref m0), (1, .int p0), (2, .int p1)]) (st2 := [.int (u_25.2.1 0), .int 7, .ref mfacts]) rfl rfl rfl rfl ?_
    obtain ⟨hw_26_0, hw_26_1⟩ := hw_26
    obtain ⟨f_27, ef_27⟩ : ∃ z, z = upd f_24 7 (u_25.2.1 0) := ⟨_, rfl⟩
    refine j_iast (pc := 112) (k := 7) (ws' := [(mop, .inl (cyI, 2200, .inl m_op)), (marg, .inl (cyI, 2200, .inl m_arg)), (mfacts, .inl (cyI, 8, .inl f_27)), (mpile, .inl (cyI, 1100, .inl m_pile)), (m0, .inr (11, [.int m_thrown, .ref mtape, .int m_taped, .int m_size, .ref msort, .ref mplace, .ref mvalue, .int m_at, .int m_fault, .ref mwords, .ref mtold, .ref mop, .ref marg, .int m_codes, .ref mnames, .ref mhasHabit, .int m_isNew, .ref mfactWords, .ref mfacts, .ref mpile, .ref mstates, .ref misMarked, .int m_inShelf, .int m_inStack, .int m_inPlace, .ref mrow, .int m_rowMany, .ref mthr, .ref mmays, .ref mtall, .ref mweights, .ref mrowOfWare, .ref mneededOf, .int m_goShelf, .int m_goStack, .int m_goLeft, .ref mtried, .ref mbestRow, .int m_bestCost, .int m_bestMany, .int m_bestShelf, .int m_bestSet, .ref mdigits])), (mtold, .inl (cyI, 240, .inl m_told))]) C 2 1 rfl rfl (by decide) (by decide) (by decide) dX11_mayOn_112 (by rw [ef_27]; rfl) ?_
    have hf8 : ∀ k : Nat, k < 8 → f_27 k = (fcM m_told (p0).toInt.toNat (p1).toInt.toNat) k := by
      intro k hk
      have hk8 : k = 0 ∨ k = 1 ∨ k = 2 ∨ k = 3 ∨ k = 4 ∨ k = 5 ∨ k = 6 ∨ k = 7 := by omega
      rcases hk8 with rfl | rfl | rfl | rfl | rfl | rfl | rfl | rfl
      · rw [ef_27, pk_un (show ¬ 0 = 7 from (by decide)), ef_24, pk_un (show ¬ 0 = 6 from (by decide)), ef_21, pk_un (show ¬ 0 = 5 from (by decide)), ef_18, pk_un (show ¬ 0 = 4 from (by decide)), ef_15, pk_un (show ¬ 0 = 3 from (by decide)), ef_12, pk_un (show ¬ 0 = 2 from (by decide)), ef_9, pk_un (show ¬ 0 = 1 from (by decide)), ef_6, pk_us]; exact hw_5_1
      · rw [ef_27, pk_un (show ¬ 1 = 7 from (by decide)), ef_24, pk_un (show ¬ 1 = 6 from (by decide)), ef_21, pk_un (show ¬ 1 = 5 from (by decide)), ef_18, pk_un (show ¬ 1 = 4 from (by decide)), ef_15, pk_un (show ¬ 1 = 3 from (by decide)), ef_12, pk_un (show ¬ 1 = 2 from (by decide)), ef_9, pk_us]; exact hw_8_1
      · rw [ef_27, pk_un (show ¬ 2 = 7 from (by decide)), ef_24, pk_un (show ¬ 2 = 6 from (by decide)), ef_21, pk_un (show ¬ 2 = 5 from (by decide)), ef_18, pk_un (show ¬ 2 = 4 from (by decide)), ef_15, pk_un (show ¬ 2 = 3 from (by decide)), ef_12, pk_us]; exact hw_11_1
      · rw [ef_27, pk_un (show ¬ 3 = 7 from (by decide)), ef_24, pk_un (show ¬ 3 = 6 from (by decide)), ef_21, pk_un (show ¬ 3 = 5 from (by decide)), ef_18, pk_un (show ¬ 3 = 4 from (by decide)), ef_15, pk_us]; exact hw_14_1
      · rw [ef_27, pk_un (show ¬ 4 = 7 from (by decide)), ef_24, pk_un (show ¬ 4 = 6 from (by decide)), ef_21, pk_un (show ¬ 4 = 5 from (by decide)), ef_18, pk_us]; exact hw_17_1
      · rw [ef_27, pk_un (show ¬ 5 = 7 from (by decide)), ef_24, pk_un (show ¬ 5 = 6 from (by decide)), ef_21, pk_us]; exact hw_20_1
      · rw [ef_27, pk_un (show ¬ 6 = 7 from (by decide)), ef_24, pk_us]; exact hw_23_1
      · rw [ef_27, pk_us]; exact hw_26_1
    refine j_aload_n (pc := 113) C dX11_mayOn_113 rfl 0 rfl ?_
    refine j_get (pc := 114) (ci := 11) (v := .ref mtold) C inw_11 4 rfl rfl 10 (by decide) wd_669 rfl rfl dX11_mayOn_114 ?_
    refine j_iconst (pc := 117) (v := 2) C dX11_mayOn_117 (by decide) ?_
    obtain ⟨v_28, ev_28⟩ : ∃ z, m_told 2 = z := ⟨_, rfl⟩
    have env_28 : (m_told 2).toInt = v_28.toInt := by rw [ev_28]
    have hv_28 : 0 ≤ v_28.toInt ∧ v_28.toInt ≤ 4 := by have z := h_m_told 2 (by decide); rw [ev_28] at z; exact z
    refine j_iald (pc := 118) (v := v_28) (k := 2) C 5 1 rfl rfl (by decide) (by decide) (by decide) ev_28 dX11_mayOn_118 ?_
    refine j_if_gt (pc := 119) (tgt := 137) C dX11_mayOn_119 (by decide) (fun c_29 => ?_) (fun c_29 => ?_)
    · skip
      have el_0 : (0 : Int32).toInt = 0 := rfl
      rw [i_lt] at c_29
      refine j_iconst (pc := 137) (v := 1) C dX11_mayOn_137 (by decide) ?_
      refine j_goto (pc := 138) (tgt := 142) C dX11_mayOn_138 (by decide) ?_
      refine j_istore_n (pc := 142) (lv' := [(3, .int 1), (0, .ref m0), (1, .int p0), (2, .int p1)]) C dX11_mayOn_142 rfl (by decide) rfl ?_
      refine j_iconst (pc := 143) (v := 0) C dX11_mayOn_143 (by decide) ?_
      refine j_istore (pc := 144) (lv' := [(4, .int 0), (3, .int 1), (0, .ref m0), (1, .int p0), (2, .int p1)]) C dX11_mayOn_144 (by decide) rfl ?_
      have loop_30 : ∀ (k_30 : Nat) (x30_4 : Int32) (x30_3 : Int32) (g30_mpile : Nat → Int32), (0 ≤ (x30_4).toInt ∧ (x30_4).toInt ≤ 4) → (0 ≤ (x30_3).toInt ∧ (x30_3).toInt ≤ 1) → (∀ E : (Nat → (Nat → Int32) → Int32), ME6 m_told m_op m_arg E → MYL (m_told 2).toInt.toNat E (fcM m_told (p0).toInt.toNat (p1).toInt.toNat) (decide ((m_told (3 + 8 * (p0).toInt.toNat)).toInt < (m_told (3 + 8 * (p1).toInt.toNat)).toInt)) x30_4.toInt x30_3.toInt) → (4 - x30_4.toInt).toNat < k_30 → J p l e ({ frames := 2, cells := 0, slots := 0, locals := 46 } : Room) s m args below meth c D A 5 0 0 (QX below D (TY cyC cyI cyJ cyZ cyO) A (fun u => some (.int (u.2.1 0))) (fun u => (0 ≤ (u.2.1 0).toInt ∧ (u.2.1 0).toInt ≤ 1) ∧ (∀ E : (Nat → (Nat → Int32) → Int32), ME6 m_told m_op m_arg E → (u.2.1 0).toInt = if mayM m_told E (p0).toInt.toNat (p1).toInt.toNat = true then 1 else 0)) (fun u => [(m0, .inr (11, [.int m_thrown, .ref mtape, .int m_taped, .int m_size, .ref msort, .ref mplace, .ref mvalue, .int m_at, .int m_fault, .ref mwords, .ref mtold, .ref mop, .ref marg, .int m_codes, .ref mnames, .ref mhasHabit, .int m_isNew, .ref mfactWords, .ref mfacts, .ref mpile, .ref mstates, .ref misMarked, .int m_inShelf, .int m_inStack, .int m_inPlace, .ref mrow, .int m_rowMany, .ref mthr, .ref mmays, .ref mtall, .ref mweights, .ref mrowOfWare, .ref mneededOf, .int m_goShelf, .int m_goStack, .int m_goLeft, .ref mtried, .ref mbestRow, .int m_bestCost, .int m_bestMany, .int m_bestShelf, .int m_bestSet, .ref mdigits])), (mtold, .inl (cyI, 240, .inl m_told)), (mop, .inl (cyI, 2200, .inl m_op)), (marg, .inl (cyI, 2200, .inl m_arg)), (mfacts, .inl (cyI, 8, .inl (u.2.2.1 0))), (mpile, .inl (cyI, 1100, .inl (u.2.2.1 1)))]) args s 0 0) [(mop, .inl (cyI, 2200, .inl m_op)), (marg, .inl (cyI, 2200, .inl m_arg)), (mfacts, .inl (cyI, 8, .inl f_27)), (mpile, .inl (cyI, 1100, .inl g30_mpile)), (m0, .inr (11, [.int m_thrown, .ref mtape, .int m_taped, .int m_size, .ref msort, .ref mplace, .ref mvalue, .int m_at, .int m_fault, .ref mwords, .ref mtold, .ref mop, .ref marg, .int m_codes, .ref mnames, .ref mhasHabit, .int m_isNew, .ref mfactWords, .ref mfacts, .ref mpile, .ref mstates, .ref misMarked, .int m_inShelf, .int m_inStack, .int m_inPlace, .ref mrow, .int m_rowMany, .ref mthr, .ref mmays, .ref mtall, .ref mweights, .ref mrowOfWare, .ref mneededOf, .int m_goShelf, .int m_goStack, .int m_goLeft, .ref mtried, .ref mbestRow, .int m_bestCost, .int m_bestMany, .int m_bestShelf, .int m_bestSet, .ref mdigits])), (mtold, .inl (cyI, 240, .inl m_told))] 146 [(4, .int x30_4), (3, .int x30_3), (0, .ref m0), (1, .int p0), (2, .int p1)] [] := by
        intro k_30
        induction k_30 with
        | zero =>
          intro x30_4 x30_3 g30_mpile hi_30_0 hi_30_1 hq_30_0 hm_30
          exact absurd hm_30 (Nat.not_lt_zero _)
        | succ k_30 ih_30 =>
          intro x30_4 x30_3 g30_mpile hi_30_0 hi_30_1 hq_30_0 hm_30
          refine j_iload (pc := 146) C dX11_mayOn_146 0 rfl ?_
          refine j_aload_n (pc := 148) C dX11_mayOn_148 rfl 2 rfl ?_
          refine j_get (pc := 149) (ci := 11) (v := .ref mtold) C inw_11 4 rfl rfl 10 (by decide) wd_669 rfl rfl dX11_mayOn_149 ?_
          refine j_iconst (pc := 152) (v := 2) C dX11_mayOn_152 (by decide) ?_
          refine j_iald (pc := 153) (v := v_28) (k := 2) C 5 1 rfl rfl (by decide) (by decide) (by decide) ev_28 dX11_mayOn_153 ?_
          refine j_icmp_ge (pc := 154) (tgt := 190) C dX11_mayOn_154 (by decide) (fun c_31 => ?_) (fun c_31 => ?_)
          · skip
            rw [i_le] at c_31
            refine j_iload_n (pc := 190) C dX11_mayOn_190 rfl 1 rfl ?_
            have el_0 : (0 : Int32).toInt = 0 := rfl
            have el_1 : (1 : Int32).toInt = 1 := rfl
            exact j_zret (pc := 191) C hr (nb_01 ⟨by omega, by omega⟩).1 hk (fun i => [].getD i 0, fun i => [x30_3].getD i 0, fun i => [f_27, g30_mpile].getD i (fun _ => 0), fun i => [].getD i (fun _ => 0)) rfl (show (0 ≤ (x30_3).toInt ∧ (x30_3).toInt ≤ 1) ∧ (∀ E : (Nat → (Nat → Int32) → Int32), ME6 m_told m_op m_arg E → x30_3.toInt = if mayM m_told E (p0).toInt.toNat (p1).toInt.toNat = true then 1 else 0) from ⟨hi_30_1, (fun E hE => by have y7 : (m_told (3 + 8 * (p1).toInt.toNat + 7)).toInt = (u_1.2.1 0).toInt := (by rw [hw_2_1]; rfl); have y2 : (m_told 2).toInt = (v_28).toInt := (by rw [ev_28]); exact MYL.fin (hq_30_0 E hE) (by omega) (by omega) (decide_eq_false (by omega)))⟩) [4, 5, 0, 1, 2, 3] (by decide) rfl (by decide) (by decide) dX11_mayOn_191
          · skip
            rw [i_le] at c_31
            refine j_iload_n (pc := 157) C dX11_mayOn_157 rfl 1 rfl ?_
            refine j_if_eq (pc := 158) (tgt := 182) C dX11_mayOn_158 (by decide) (fun c_32 => ?_) (fun c_32 => ?_)
            · skip
              have el_0 : (0 : Int32).toInt = 0 := rfl
              rw [i_eq] at c_32
              refine j_iconst (pc := 182) (v := 0) C dX11_mayOn_182 (by decide) ?_
              refine j_istore_n (pc := 183) (lv' := [(3, .int 0), (4, .int x30_4), (0, .ref m0), (1, .int p0), (2, .int p1)]) C dX11_mayOn_183 rfl (by decide) rfl ?_
              obtain ⟨v_33, ev_33⟩ : ∃ z : Int32, x30_4 + 1 = z := ⟨_, rfl⟩
              have el_1 : (1 : Int32).toInt = 1 := rfl
              have hv_33 : v_33.toInt = x30_4.toInt + (1 : Int32).toInt := by rw [← ev_33]; exact fb_addI (by omega) (by omega)
              refine j_iinc (pc := 184) (v := v_33) (lv' := [(4, .int v_33), (3, .int 0), (0, .ref m0), (1, .int p0), (2, .int p1)]) C dX11_mayOn_184 1 rfl ev_33 (by decide) rfl ?_
              refine j_goto (pc := 187) (tgt := 146) C dX11_mayOn_187 (by decide) ?_
              have el_0 : (0 : Int32).toInt = 0 := rfl
              exact j_lv [0, 1, 2, 3, 4] rfl (ih_30 v_33 0 g30_mpile (by omega) (by decide) (fun E hE => ⟨fun h => absurd h (by decide), fun _ => (hq_30_0 E hE).2 (by omega)⟩) (by omega))
            · skip
              have el_0 : (0 : Int32).toInt = 0 := rfl
              rw [i_eq] at c_32
              have k0c_32 : x30_3.toInt = 1 := by omega
              refine j_aload_n (pc := 161) C dX11_mayOn_161 rfl 2 rfl ?_
              refine j_aload_n (pc := 162) C dX11_mayOn_162 rfl 2 rfl ?_
              refine j_get (pc := 163) (ci := 11) (v := .ref mtold) C inw_11 4 rfl rfl 10 (by decide) wd_669 rfl rfl dX11_mayOn_163 ?_
              refine j_bipush (pc := 166) (v := 111) C dX11_mayOn_166 (by decide) ?_
              refine j_iload (pc := 168) C dX11_mayOn_168 0 rfl ?_
              obtain ⟨v_34, ev_34⟩ : ∃ z : Int32, 111 + x30_4 = z := ⟨_, rfl⟩
              have el_111 : (111 : Int32).toInt = 111 := rfl
              have hv_34 : v_34.toInt = (111 : Int32).toInt + x30_4.toInt := by rw [← ev_34]; exact fb_addI (by omega) (by omega)
              refine j_iadd (pc := 170) (v := v_34) C dX11_mayOn_170 ev_34 ?_
              obtain ⟨v_35, ev_35⟩ : ∃ z, m_told (v_34).toInt.toNat = z := ⟨_, rfl⟩
              have env_35 : (m_told (v_34).toInt.toNat).toInt = v_35.toInt := by rw [ev_35]
              have hv_35 : 0 ≤ v_35.toInt ∧ v_35.toInt ≤ 1000 := by rw [← ev_35]; exact TV.any h_m_told (by omega)
              refine j_iald (pc := 171) (v := v_35) (k := (v_34).toInt.toNat) C 5 1 rfl rfl (i_nn (by omega)) rfl (i_lt_n (by omega) (by omega)) ev_35 dX11_mayOn_171 ?_
              refine j_callV (pc := 172) (As := [.int v_35]) (rest := []) (wr := [(mtold, .inl (cyI, 240, .inl m_told))]) C (c_X11_worthAt l D cyC cyI cyJ cyZ cyO m0 mop marg mfacts mpile mtape msort mplace mvalue mwords mtold mnames mhasHabit mfactWords mstates misMarked mrow mthr mmays mtall mweights mrowOfWare mneededOf mtried mbestRow mdigits v_35 m_thrown m_taped m_size m_at m_fault m_codes m_isNew m_inShelf m_inStack m_inPlace m_rowMany m_goShelf m_goStack m_goLeft m_bestCost m_bestMany m_bestShelf m_bestSet m_op m_arg f_27 g30_mpile h_m_taped h_m_size h_m_at h_m_fault h_m_codes h_m_isNew h_m_inShelf h_m_inStack h_m_inPlace h_m_rowMany h_m_goShelf h_m_bestMany h_m_bestShelf (by omega) (by have h9 := hwf (x30_4).toInt.toNat (by rw [ev_28]; omega); rw [show 111 + (x30_4).toInt.toNat = (v_34).toInt.toNat from (by omega), ev_35] at h9; exact h9)) wd_802 wd_624 wd_803 wd_804 wd_805 ⟨by decide, by decide, rfl⟩ rfl ⟨rfl, rfl, by decide, by decide⟩ ⟨by decide, by decide⟩ [4, 0, 1, 2, 3] [5] rfl rfl ⟨by decide, by decide, by decide⟩ 4 rfl rfl rfl (Nat.le_of_ble_eq_true rfl) dX11_mayOn_172 (fun u_36 hw_37 => ?_)
              refine j_eq (ws2 := [(mtold, .inl (cyI, 240, .inl m_told)), (m0, .inr (11, [.int m_thrown, .ref mtape, .int m_taped, .int m_size, .ref msort, .ref mplace, .ref mvalue, .int m_at, .int m_fault, .ref mwords, .ref mtold, .ref mop, .ref marg, .int m_codes, .ref mnames, .ref mhasHabit, .int m_isNew, .ref mfactWords, .ref mfacts, .ref mpile, .ref mstates, .ref misMarked, .int m_inShelf, .int m_inStack, .int m_inPlace, .ref mrow, .int m_rowMany, .ref mthr, .ref mmays, .ref mtall, .ref mweights, .ref mrowOfWare, .ref mneededOf, .int m_goShelf, .int m_goStack, .int m_goLeft, .ref mtried, .ref mbestRow, .int m_bestCost, .int m_bestMany, .int m_bestShelf, .int m_bestSet, .ref mdigits])), (mop, .inl (cyI, 2200, .inl m_op)), (marg, .inl (cyI, 2200, .inl m_arg)), (mfacts, .inl (cyI, 8, .inl f_27)), (mpile, .inl (cyI, 1100, .inl (u_36.2.2.1 0)))]) (pc2 := 175) (lv2 := [(4, .int x30_4), (3, .int x30_3), (0, .ref m0), (1, .int p0), (2, .int p1)]) (st2 := [.int (u_36.2.1 0)]) rfl rfl rfl rfl ?_
              have hw_37_0 : ∀ (V : (Nat → Int32) → Int32) (e : Nat), MSeg m_op m_arg (v_35).toInt.toNat e V → m_op e = 0 → (u_36.2.1 0) = V f_27 := hw_37
              refine j_if_eq (pc := 175) (tgt := 182) C dX11_mayOn_175 (by decide) (fun c_38 => ?_) (fun c_38 => ?_)
              · skip
                have el_0 : (0 : Int32).toInt = 0 := rfl
                rw [i_eq] at c_38
                refine j_iconst (pc := 182) (v := 0) C dX11_mayOn_182 (by decide) ?_
                refine j_istore_n (pc := 183) (lv' := [(3, .int 0), (4, .int x30_4), (0, .ref m0), (1, .int p0), (2, .int p1)]) C dX11_mayOn_183 rfl (by decide) rfl ?_
                obtain ⟨v_39, ev_39⟩ : ∃ z : Int32, x30_4 + 1 = z := ⟨_, rfl⟩
                have el_1 : (1 : Int32).toInt = 1 := rfl
                have hv_39 : v_39.toInt = x30_4.toInt + (1 : Int32).toInt := by rw [← ev_39]; exact fb_addI (by omega) (by omega)
                refine j_iinc (pc := 184) (v := v_39) (lv' := [(4, .int v_39), (3, .int 0), (0, .ref m0), (1, .int p0), (2, .int p1)]) C dX11_mayOn_184 1 rfl ev_39 (by decide) rfl ?_
                refine j_goto (pc := 187) (tgt := 146) C dX11_mayOn_187 (by decide) ?_
                have el_0 : (0 : Int32).toInt = 0 := rfl
                refine j_subG (ws' := [(mop, .inl (cyI, 2200, .inl m_op)), (marg, .inl (cyI, 2200, .inl m_arg)), (mfacts, .inl (cyI, 8, .inl f_27)), (mpile, .inl (cyI, 1100, .inl (u_36.2.2.1 0))), (m0, .inr (11, [.int m_thrown, .ref mtape, .int m_taped, .int m_size, .ref msort, .ref mplace, .ref mvalue, .int m_at, .int m_fault, .ref mwords, .ref mtold, .ref mop, .ref marg, .int m_codes, .ref mnames, .ref mhasHabit, .int m_isNew, .ref mfactWords, .ref mfacts, .ref mpile, .ref mstates, .ref misMarked, .int m_inShelf, .int m_inStack, .int m_inPlace, .ref mrow, .int m_rowMany, .ref mthr, .ref mmays, .ref mtall, .ref mweights, .ref mrowOfWare, .ref mneededOf, .int m_goShelf, .int m_goStack, .int m_goLeft, .ref mtried, .ref mbestRow, .int m_bestCost, .int m_bestMany, .int m_bestShelf, .int m_bestSet, .ref mdigits])), (mtold, .inl (cyI, 240, .inl m_told))]) [2, 3, 4, 5, 1, 0] (by decide) rfl ?_
                exact j_lv [0, 1, 2, 3, 4] rfl (ih_30 v_39 0 (u_36.2.2.1 0) (by omega) (by decide) (fun E hE => by have y2 : (m_told 2).toInt = (v_28).toInt := (by rw [ev_28]); have z9 : (u_36.2.1 0) = E (x30_4).toInt.toNat (fcM m_told (p0).toInt.toNat (p1).toInt.toNat) := (by obtain ⟨x8, e8, s8, o8⟩ := hE (x30_4).toInt.toNat (by rw [y2]; omega); rw [show 111 + (x30_4).toInt.toNat = (v_34).toInt.toNat from (by omega), ev_35] at s8; rw [hw_37_0 _ e8 s8 o8]; exact x8 _ _ hf8); exact ⟨fun h => absurd h (by decide), fun _ z => z.2 (x30_4).toInt.toNat (by omega) (by rw [← z9, i_eq]; omega)⟩) (by omega))
              · skip
                have el_0 : (0 : Int32).toInt = 0 := rfl
                rw [i_eq] at c_38
                refine j_iconst (pc := 178) (v := 1) C dX11_mayOn_178 (by decide) ?_
                refine j_goto (pc := 179) (tgt := 183) C dX11_mayOn_179 (by decide) ?_
                refine j_istore_n (pc := 183) (lv' := [(3, .int 1), (4, .int x30_4), (0, .ref m0), (1, .int p0), (2, .int p1)]) C dX11_mayOn_183 rfl (by decide) rfl ?_
                obtain ⟨v_40, ev_40⟩ : ∃ z : Int32, x30_4 + 1 = z := ⟨_, rfl⟩
                have el_1 : (1 : Int32).toInt = 1 := rfl
                have hv_40 : v_40.toInt = x30_4.toInt + (1 : Int32).toInt := by rw [← ev_40]; exact fb_addI (by omega) (by omega)
                refine j_iinc (pc := 184) (v := v_40) (lv' := [(4, .int v_40), (3, .int 1), (0, .ref m0), (1, .int p0), (2, .int p1)]) C dX11_mayOn_184 1 rfl ev_40 (by decide) rfl ?_
                refine j_goto (pc := 187) (tgt := 146) C dX11_mayOn_187 (by decide) ?_
                have el_1 : (1 : Int32).toInt = 1 := rfl
                refine j_subG (ws' := [(mop, .inl (cyI, 2200, .inl m_op)), (marg, .inl (cyI, 2200, .inl m_arg)), (mfacts, .inl (cyI, 8, .inl f_27)), (mpile, .inl (cyI, 1100, .inl (u_36.2.2.1 0))), (m0, .inr (11, [.int m_thrown, .ref mtape, .int m_taped, .int m_size, .ref msort, .ref mplace, .ref mvalue, .int m_at, .int m_fault, .ref mwords, .ref mtold, .ref mop, .ref marg, .int m_codes, .ref mnames, .ref mhasHabit, .int m_isNew, .ref mfactWords, .ref mfacts, .ref mpile, .ref mstates, .ref misMarked, .int m_inShelf, .int m_inStack, .int m_inPlace, .ref mrow, .int m_rowMany, .ref mthr, .ref mmays, .ref mtall, .ref mweights, .ref mrowOfWare, .ref mneededOf, .int m_goShelf, .int m_goStack, .int m_goLeft, .ref mtried, .ref mbestRow, .int m_bestCost, .int m_bestMany, .int m_bestShelf, .int m_bestSet, .ref mdigits])), (mtold, .inl (cyI, 240, .inl m_told))]) [2, 3, 4, 5, 1, 0] (by decide) rfl ?_
                exact j_lv [0, 1, 2, 3, 4] rfl (ih_30 v_40 1 (u_36.2.2.1 0) (by omega) (by decide) (fun E hE => by have y2 : (m_told 2).toInt = (v_28).toInt := (by rw [ev_28]); have z9 : (u_36.2.1 0) = E (x30_4).toInt.toNat (fcM m_told (p0).toInt.toNat (p1).toInt.toNat) := (by obtain ⟨x8, e8, s8, o8⟩ := hE (x30_4).toInt.toNat (by rw [y2]; omega); rw [show 111 + (x30_4).toInt.toNat = (v_34).toInt.toNat from (by omega), ev_35] at s8; rw [hw_37_0 _ e8 s8 o8]; exact x8 _ _ hf8); exact ⟨fun _ => ⟨((hq_30_0 E hE).1 (by omega)).1, fun i hi => by rcases Int.lt_or_le (i : Int) (x30_4).toInt with q | q; (exact ((hq_30_0 E hE).1 (by omega)).2 i q); (rw [show i = (x30_4).toInt.toNat from (by omega), ← z9, i_eq]; omega)⟩, fun h => absurd h (by decide)⟩) (by omega))
      have el_0 : (0 : Int32).toInt = 0 := rfl
      have el_1 : (1 : Int32).toInt = 1 := rfl
      exact j_lv [0, 1, 2, 3, 4] rfl (loop_30 4096 0 1 m_pile (by decide) (by decide) (fun E hE => ⟨fun _ => ⟨fun z => absurd z (by have y2 : (m_told 2).toInt = (v_28).toInt := (by rw [ev_28]); omega), fun i hi => absurd hi (by omega)⟩, fun h => absurd h (by decide)⟩) (by omega))
    · skip
      have el_0 : (0 : Int32).toInt = 0 := rfl
      rw [i_lt] at c_29
      have k0c_29 : v_28.toInt = 0 := by omega
      refine j_aload_n (pc := 122) C dX11_mayOn_122 rfl 0 rfl ?_
      refine j_get (pc := 123) (ci := 11) (v := .ref mfacts) C inw_11 4 rfl rfl 18 (by decide) wd_798 rfl rfl dX11_mayOn_123 ?_
      refine j_iconst (pc := 126) (v := 0) C dX11_mayOn_126 (by decide) ?_
      obtain ⟨v_41, ev_41⟩ : ∃ z, f_27 0 = z := ⟨_, rfl⟩
      have qv_41 : v_41 = (u_4.2.1 0) := by rw [← ev_41]; exact (by rw [ef_27, pk_un (show ¬ 0 = 7 from (by omega))]; exact (by rw [ef_24, pk_un (show ¬ 0 = 6 from (by omega))]; exact (by rw [ef_21, pk_un (show ¬ 0 = 5 from (by omega))]; exact (by rw [ef_18, pk_un (show ¬ 0 = 4 from (by omega))]; exact (by rw [ef_15, pk_un (show ¬ 0 = 3 from (by omega))]; exact (by rw [ef_12, pk_un (show ¬ 0 = 2 from (by omega))]; exact (by rw [ef_9, pk_un (show ¬ 0 = 1 from (by omega))]; exact (by rw [ef_6, pk_us]))))))))
      have env_41 : v_41.toInt = ((u_4.2.1 0)).toInt := by rw [qv_41]
      refine j_iald (pc := 127) (v := v_41) (k := 0) C 2 1 rfl rfl (by decide) (by decide) (by decide) ev_41 dX11_mayOn_127 ?_
      refine j_aload_n (pc := 128) C dX11_mayOn_128 rfl 0 rfl ?_
      refine j_get (pc := 129) (ci := 11) (v := .ref mfacts) C inw_11 4 rfl rfl 18 (by decide) wd_798 rfl rfl dX11_mayOn_129 ?_
      refine j_iconst (pc := 132) (v := 1) C dX11_mayOn_132 (by decide) ?_
      obtain ⟨v_42, ev_42⟩ : ∃ z, f_27 1 = z := ⟨_, rfl⟩
      have qv_42 : v_42 = (u_7.2.1 0) := by rw [← ev_42]; exact (by rw [ef_27, pk_un (show ¬ 1 = 7 from (by omega))]; exact (by rw [ef_24, pk_un (show ¬ 1 = 6 from (by omega))]; exact (by rw [ef_21, pk_un (show ¬ 1 = 5 from (by omega))]; exact (by rw [ef_18, pk_un (show ¬ 1 = 4 from (by omega))]; exact (by rw [ef_15, pk_un (show ¬ 1 = 3 from (by omega))]; exact (by rw [ef_12, pk_un (show ¬ 1 = 2 from (by omega))]; exact (by rw [ef_9, pk_us])))))))
      have env_42 : v_42.toInt = ((u_7.2.1 0)).toInt := by rw [qv_42]
      refine j_iald (pc := 133) (v := v_42) (k := 1) C 2 1 rfl rfl (by decide) (by decide) (by decide) ev_42 dX11_mayOn_133 ?_
      refine j_icmp_ge (pc := 134) (tgt := 141) C dX11_mayOn_134 (by decide) (fun c_43 => ?_) (fun c_43 => ?_)
      · skip
        rw [i_le] at c_43
        refine j_iconst (pc := 141) (v := 0) C dX11_mayOn_141 (by decide) ?_
        refine j_istore_n (pc := 142) (lv' := [(3, .int 0), (0, .ref m0), (1, .int p0), (2, .int p1)]) C dX11_mayOn_142 rfl (by decide) rfl ?_
        refine j_iconst (pc := 143) (v := 0) C dX11_mayOn_143 (by decide) ?_
        refine j_istore (pc := 144) (lv' := [(4, .int 0), (3, .int 0), (0, .ref m0), (1, .int p0), (2, .int p1)]) C dX11_mayOn_144 (by decide) rfl ?_
        refine j_iload (pc := 146) C dX11_mayOn_146 0 rfl ?_
        refine j_aload_n (pc := 148) C dX11_mayOn_148 rfl 2 rfl ?_
        refine j_get (pc := 149) (ci := 11) (v := .ref mtold) C inw_11 4 rfl rfl 10 (by decide) wd_669 rfl rfl dX11_mayOn_149 ?_
        refine j_iconst (pc := 152) (v := 2) C dX11_mayOn_152 (by decide) ?_
        refine j_iald (pc := 153) (v := v_28) (k := 2) C 5 1 rfl rfl (by decide) (by decide) (by decide) ev_28 dX11_mayOn_153 ?_
        have el_0 : (0 : Int32).toInt = 0 := rfl
        refine j_icmp_ge_t (pc := 154) (tgt := 190) C dX11_mayOn_154 (by decide) (by rw [i_le]; omega) ?_
        refine j_iload_n (pc := 190) C dX11_mayOn_190 rfl 1 rfl ?_
        have el_0 : (0 : Int32).toInt = 0 := rfl
        have el_0 : (0 : Int32).toInt = 0 := rfl
        have el_0 : (0 : Int32).toInt = 0 := rfl
        have el_1 : (1 : Int32).toInt = 1 := rfl
        exact j_zret (pc := 191) C hr rfl hk (fun i => [].getD i 0, fun i => [0].getD i 0, fun i => [f_27, m_pile].getD i (fun _ => 0), fun i => [].getD i (fun _ => 0)) rfl (show (0 ≤ ((0 : Int32)).toInt ∧ ((0 : Int32)).toInt ≤ 1) ∧ (∀ E : (Nat → (Nat → Int32) → Int32), ME6 m_told m_op m_arg E → (0 : Int32).toInt = if mayM m_told E (p0).toInt.toNat (p1).toInt.toNat = true then 1 else 0) from ⟨by omega, (fun E hE => by have y7 : (m_told (3 + 8 * (p1).toInt.toNat + 7)).toInt = (u_1.2.1 0).toInt := (by rw [hw_2_1]; rfl); have y2 : (m_told 2).toInt = (v_28).toInt := (by rw [ev_28]); have x0a : ((u_4.2.1 0)).toInt = (m_told (3 + 8 * (p0).toInt.toNat)).toInt := congrArg Int32.toInt hw_5_1; have x1a : ((u_7.2.1 0)).toInt = (m_told (3 + 8 * (p1).toInt.toNat)).toInt := congrArg Int32.toInt hw_8_1; rw [if_neg (fun z => by have y3 := of_decide_eq_true ((mayP_iff.mp z).2.1 (by omega)); omega)]; rfl)⟩) [4, 5, 0, 1, 2, 3] (by decide) rfl (by decide) (by decide) dX11_mayOn_191
      · skip
        rw [i_le] at c_43
        refine j_iconst (pc := 137) (v := 1) C dX11_mayOn_137 (by decide) ?_
        refine j_goto (pc := 138) (tgt := 142) C dX11_mayOn_138 (by decide) ?_
        refine j_istore_n (pc := 142) (lv' := [(3, .int 1), (0, .ref m0), (1, .int p0), (2, .int p1)]) C dX11_mayOn_142 rfl (by decide) rfl ?_
        refine j_iconst (pc := 143) (v := 0) C dX11_mayOn_143 (by decide) ?_
        refine j_istore (pc := 144) (lv' := [(4, .int 0), (3, .int 1), (0, .ref m0), (1, .int p0), (2, .int p1)]) C dX11_mayOn_144 (by decide) rfl ?_
        refine j_iload (pc := 146) C dX11_mayOn_146 0 rfl ?_
        refine j_aload_n (pc := 148) C dX11_mayOn_148 rfl 2 rfl ?_
        refine j_get (pc := 149) (ci := 11) (v := .ref mtold) C inw_11 4 rfl rfl 10 (by decide) wd_669 rfl rfl dX11_mayOn_149 ?_
        refine j_iconst (pc := 152) (v := 2) C dX11_mayOn_152 (by decide) ?_
        refine j_iald (pc := 153) (v := v_28) (k := 2) C 5 1 rfl rfl (by decide) (by decide) (by decide) ev_28 dX11_mayOn_153 ?_
        have el_0 : (0 : Int32).toInt = 0 := rfl
        refine j_icmp_ge_t (pc := 154) (tgt := 190) C dX11_mayOn_154 (by decide) (by rw [i_le]; omega) ?_
        refine j_iload_n (pc := 190) C dX11_mayOn_190 rfl 1 rfl ?_
        have el_1 : (1 : Int32).toInt = 1 := rfl
        have el_1 : (1 : Int32).toInt = 1 := rfl
        have el_0 : (0 : Int32).toInt = 0 := rfl
        have el_1 : (1 : Int32).toInt = 1 := rfl
        exact j_zret (pc := 191) C hr rfl hk (fun i => [].getD i 0, fun i => [1].getD i 0, fun i => [f_27, m_pile].getD i (fun _ => 0), fun i => [].getD i (fun _ => 0)) rfl (show (0 ≤ ((1 : Int32)).toInt ∧ ((1 : Int32)).toInt ≤ 1) ∧ (∀ E : (Nat → (Nat → Int32) → Int32), ME6 m_told m_op m_arg E → (1 : Int32).toInt = if mayM m_told E (p0).toInt.toNat (p1).toInt.toNat = true then 1 else 0) from ⟨by omega, (fun E hE => by have y7 : (m_told (3 + 8 * (p1).toInt.toNat + 7)).toInt = (u_1.2.1 0).toInt := (by rw [hw_2_1]; rfl); have y2 : (m_told 2).toInt = (v_28).toInt := (by rw [ev_28]); have x0a : ((u_4.2.1 0)).toInt = (m_told (3 + 8 * (p0).toInt.toNat)).toInt := congrArg Int32.toInt hw_5_1; have x1a : ((u_7.2.1 0)).toInt = (m_told (3 + 8 * (p1).toInt.toNat)).toInt := congrArg Int32.toInt hw_8_1; rw [if_pos (show mayM m_told E (p0).toInt.toNat (p1).toInt.toNat = true from mayP_iff.mpr ⟨decide_eq_false (by omega), fun _ => decide_eq_true (by omega), fun i hi => absurd hi (by omega)⟩)]; rfl)⟩) [4, 5, 0, 1, 2, 3] (by decide) rfl (by decide) (by decide) dX11_mayOn_191
  · skip
    have el_1 : (1 : Int32).toInt = 1 := rfl
    rw [i_eq] at c_3
    refine j_iconst (pc := 11) (v := 0) C dX11_mayOn_11 (by decide) ?_
    have el_0 : (0 : Int32).toInt = 0 := rfl
    have el_0 : (0 : Int32).toInt = 0 := rfl
    have el_0 : (0 : Int32).toInt = 0 := rfl
    have el_1 : (1 : Int32).toInt = 1 := rfl
    exact j_zret (pc := 12) C hr rfl hk (fun i => [].getD i 0, fun i => [0].getD i 0, fun i => [m_facts, m_pile].getD i (fun _ => 0), fun i => [].getD i (fun _ => 0)) rfl (show (0 ≤ ((0 : Int32)).toInt ∧ ((0 : Int32)).toInt ≤ 1) ∧ (∀ E : (Nat → (Nat → Int32) → Int32), ME6 m_told m_op m_arg E → (0 : Int32).toInt = if mayM m_told E (p0).toInt.toNat (p1).toInt.toNat = true then 1 else 0) from ⟨by omega, (fun E hE => by have y7 : (m_told (3 + 8 * (p1).toInt.toNat + 7)).toInt = (u_1.2.1 0).toInt := (by rw [hw_2_1]; rfl); rw [if_neg (fun z => by have y3 := (mayP_iff.mp z).1; rw [decide_eq_true (by omega)] at y3; exact absurd y3 (by decide))]; rfl)⟩) [4, 5, 0, 1, 2, 3] (by decide) rfl (by decide) (by decide) dX11_mayOn_12
