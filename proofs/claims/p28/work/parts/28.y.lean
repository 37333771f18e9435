theorem wd_687 : Cond.code yX11_newName cX11_newName 1 (some .long) ∈ WALL := wl_in (by decide +kernel) (by decide +kernel)
theorem wd_688 : Cond.methodLink RX11 231 yX11_newName ∈ WALL := wl_in (by decide +kernel) (by decide +kernel)
theorem wd_689 : Cond.instanceMethod yX11_newName ∈ WALL := wl_in (by decide +kernel) (by decide +kernel)
theorem wd_690 : Cond.selects RX11 yX11_newName yX11_newName ∈ WALL := wl_in (by decide +kernel) (by decide +kernel)
theorem wd_691 : Cond.code yX11_takeAfter cX11_takeAfter 4 (some .int) ∈ WALL := wl_in (by decide +kernel) (by decide +kernel)
theorem wd_692 : Cond.methodLink RX11 235 yX11_takeAfter ∈ WALL := wl_in (by decide +kernel) (by decide +kernel)
theorem wd_693 : Cond.instanceMethod yX11_takeAfter ∈ WALL := wl_in (by decide +kernel) (by decide +kernel)
theorem wd_694 : Cond.selects RX11 yX11_takeAfter yX11_takeAfter ∈ WALL := wl_in (by decide +kernel) (by decide +kernel)
theorem dX11_readWare_0 : decode cX11_readWare 0 = .ok (.aload_n 0, 1) := by decide +kernel
theorem dX11_readWare_1 : decode cX11_readWare 1 = .ok (.getfield 83, 3) := by decide +kernel
theorem dX11_readWare_4 : decode cX11_readWare 4 = .ok (.bipush 120, 2) := by decide +kernel
theorem dX11_readWare_6 : decode cX11_readWare 6 = .ok (.iaload, 1) := by decide +kernel
theorem dX11_readWare_7 : decode cX11_readWare 7 = .ok (.istore_n 2, 1) := by decide +kernel
theorem dX11_readWare_8 : decode cX11_readWare 8 = .ok (.iload_n 2, 1) := by decide +kernel
theorem dX11_readWare_9 : decode cX11_readWare 9 = .ok (.bipush 12, 2) := by decide +kernel
theorem dX11_readWare_11 : decode cX11_readWare 11 = .ok (.if_icmp .ne 9, 3) := by decide +kernel
theorem dX11_readWare_14 : decode cX11_readWare 14 = .ok (.aload_n 0, 1) := by decide +kernel
theorem dX11_readWare_15 : decode cX11_readWare 15 = .ok (.iconst 5, 1) := by decide +kernel
theorem dX11_readWare_16 : decode cX11_readWare 16 = .ok (.invokevirtual 181, 3) := by decide +kernel
theorem dX11_readWare_19 : decode cX11_readWare 19 = .ok (.return_, 1) := by decide +kernel
theorem dX11_readWare_20 : decode cX11_readWare 20 = .ok (.aload_n 0, 1) := by decide +kernel
theorem dX11_readWare_21 : decode cX11_readWare 21 = .ok (.dup, 1) := by decide +kernel
theorem dX11_readWare_22 : decode cX11_readWare 22 = .ok (.getfield 172, 3) := by decide +kernel
theorem dX11_readWare_25 : decode cX11_readWare 25 = .ok (.iconst 1, 1) := by decide +kernel
theorem dX11_readWare_26 : decode cX11_readWare 26 = .ok (.iadd, 1) := by decide +kernel
theorem dX11_readWare_27 : decode cX11_readWare 27 = .ok (.putfield 172, 3) := by decide +kernel
theorem dX11_readWare_30 : decode cX11_readWare 30 = .ok (.aload_n 0, 1) := by decide +kernel
theorem dX11_readWare_31 : decode cX11_readWare 31 = .ok (.invokevirtual 231, 3) := by decide +kernel
theorem dX11_readWare_34 : decode cX11_readWare 34 = .ok (.lstore_n 3, 1) := by decide +kernel
theorem dX11_readWare_35 : decode cX11_readWare 35 = .ok (.bipush 123, 2) := by decide +kernel
theorem dX11_readWare_37 : decode cX11_readWare 37 = .ok (.bipush 8, 2) := by decide +kernel
theorem dX11_readWare_39 : decode cX11_readWare 39 = .ok (.iload_n 2, 1) := by decide +kernel
theorem dX11_readWare_40 : decode cX11_readWare 40 = .ok (.imul, 1) := by decide +kernel
theorem dX11_readWare_41 : decode cX11_readWare 41 = .ok (.iadd, 1) := by decide +kernel
theorem dX11_readWare_42 : decode cX11_readWare 42 = .ok (.istore 5, 2) := by decide +kernel
theorem dX11_readWare_44 : decode cX11_readWare 44 = .ok (.aload_n 0, 1) := by decide +kernel
theorem dX11_readWare_45 : decode cX11_readWare 45 = .ok (.getfield 83, 3) := by decide +kernel
theorem dX11_readWare_48 : decode cX11_readWare 48 = .ok (.iload 5, 2) := by decide +kernel
theorem dX11_readWare_50 : decode cX11_readWare 50 = .ok (.iconst 0, 1) := by decide +kernel
theorem dX11_readWare_51 : decode cX11_readWare 51 = .ok (.iadd, 1) := by decide +kernel
theorem dX11_readWare_52 : decode cX11_readWare 52 = .ok (.aload_n 0, 1) := by decide +kernel
theorem dX11_readWare_53 : decode cX11_readWare 53 = .ok (.bipush 6, 2) := by decide +kernel
theorem dX11_readWare_55 : decode cX11_readWare 55 = .ok (.iconst 1, 1) := by decide +kernel
theorem dX11_readWare_56 : decode cX11_readWare 56 = .ok (.bipush 99, 2) := by decide +kernel
theorem dX11_readWare_58 : decode cX11_readWare 58 = .ok (.invokevirtual 235, 3) := by decide +kernel
theorem dX11_readWare_61 : decode cX11_readWare 61 = .ok (.iastore, 1) := by decide +kernel
theorem dX11_readWare_62 : decode cX11_readWare 62 = .ok (.aload_n 0, 1) := by decide +kernel
theorem dX11_readWare_63 : decode cX11_readWare 63 = .ok (.getfield 83, 3) := by decide +kernel
theorem dX11_readWare_66 : decode cX11_readWare 66 = .ok (.iload 5, 2) := by decide +kernel
theorem dX11_readWare_68 : decode cX11_readWare 68 = .ok (.iconst 1, 1) := by decide +kernel
theorem dX11_readWare_69 : decode cX11_readWare 69 = .ok (.iadd, 1) := by decide +kernel
theorem dX11_readWare_70 : decode cX11_readWare 70 = .ok (.iload_n 1, 1) := by decide +kernel
theorem dX11_readWare_71 : decode cX11_readWare 71 = .ok (.ifCond .eq 7, 3) := by decide +kernel
theorem dX11_readWare_74 : decode cX11_readWare 74 = .ok (.iconst 1, 1) := by decide +kernel
theorem dX11_readWare_75 : decode cX11_readWare 75 = .ok (.goto 12, 3) := by decide +kernel
theorem dX11_readWare_78 : decode cX11_readWare 78 = .ok (.aload_n 0, 1) := by decide +kernel
theorem dX11_readWare_79 : decode cX11_readWare 79 = .ok (.bipush 7, 2) := by decide +kernel
theorem dX11_readWare_81 : decode cX11_readWare 81 = .ok (.iconst 1, 1) := by decide +kernel
theorem dX11_readWare_82 : decode cX11_readWare 82 = .ok (.bipush 99, 2) := by decide +kernel
theorem dX11_readWare_84 : decode cX11_readWare 84 = .ok (.invokevirtual 235, 3) := by decide +kernel
theorem dX11_readWare_87 : decode cX11_readWare 87 = .ok (.iastore, 1) := by decide +kernel
theorem dX11_readWare_88 : decode cX11_readWare 88 = .ok (.aload_n 0, 1) := by decide +kernel
theorem dX11_readWare_89 : decode cX11_readWare 89 = .ok (.getfield 83, 3) := by decide +kernel
theorem dX11_readWare_92 : decode cX11_readWare 92 = .ok (.iload 5, 2) := by decide +kernel
theorem dX11_readWare_94 : decode cX11_readWare 94 = .ok (.iconst 2, 1) := by decide +kernel
theorem dX11_readWare_95 : decode cX11_readWare 95 = .ok (.iadd, 1) := by decide +kernel
theorem dX11_readWare_96 : decode cX11_readWare 96 = .ok (.aload_n 0, 1) := by decide +kernel
theorem dX11_readWare_97 : decode cX11_readWare 97 = .ok (.bipush 8, 2) := by decide +kernel
theorem dX11_readWare_99 : decode cX11_readWare 99 = .ok (.iconst 1, 1) := by decide +kernel
theorem dX11_readWare_100 : decode cX11_readWare 100 = .ok (.bipush 99, 2) := by decide +kernel
theorem dX11_readWare_102 : decode cX11_readWare 102 = .ok (.invokevirtual 235, 3) := by decide +kernel
theorem dX11_readWare_105 : decode cX11_readWare 105 = .ok (.iastore, 1) := by decide +kernel
theorem dX11_readWare_106 : decode cX11_readWare 106 = .ok (.aload_n 0, 1) := by decide +kernel
theorem dX11_readWare_107 : decode cX11_readWare 107 = .ok (.getfield 83, 3) := by decide +kernel
theorem dX11_readWare_110 : decode cX11_readWare 110 = .ok (.iload 5, 2) := by decide +kernel
theorem dX11_readWare_112 : decode cX11_readWare 112 = .ok (.iconst 3, 1) := by decide +kernel
theorem dX11_readWare_113 : decode cX11_readWare 113 = .ok (.iadd, 1) := by decide +kernel
theorem dX11_readWare_114 : decode cX11_readWare 114 = .ok (.iload_n 1, 1) := by decide +kernel
theorem dX11_readWare_115 : decode cX11_readWare 115 = .ok (.ifCond .eq 7, 3) := by decide +kernel
theorem dX11_readWare_118 : decode cX11_readWare 118 = .ok (.iconst 0, 1) := by decide +kernel
theorem dX11_readWare_119 : decode cX11_readWare 119 = .ok (.goto 13, 3) := by decide +kernel
theorem dX11_readWare_122 : decode cX11_readWare 122 = .ok (.aload_n 0, 1) := by decide +kernel
theorem dX11_readWare_123 : decode cX11_readWare 123 = .ok (.bipush 9, 2) := by decide +kernel
theorem dX11_readWare_125 : decode cX11_readWare 125 = .ok (.iconst 0, 1) := by decide +kernel
theorem dX11_readWare_126 : decode cX11_readWare 126 = .ok (.sipush 999, 3) := by decide +kernel
theorem dX11_readWare_129 : decode cX11_readWare 129 = .ok (.invokevirtual 235, 3) := by decide +kernel
theorem dX11_readWare_132 : decode cX11_readWare 132 = .ok (.iastore, 1) := by decide +kernel
theorem dX11_readWare_133 : decode cX11_readWare 133 = .ok (.aload_n 0, 1) := by decide +kernel
theorem dX11_readWare_134 : decode cX11_readWare 134 = .ok (.getfield 83, 3) := by decide +kernel
theorem dX11_readWare_137 : decode cX11_readWare 137 = .ok (.iload 5, 2) := by decide +kernel
theorem dX11_readWare_139 : decode cX11_readWare 139 = .ok (.iconst 4, 1) := by decide +kernel
theorem dX11_readWare_140 : decode cX11_readWare 140 = .ok (.iadd, 1) := by decide +kernel
theorem dX11_readWare_141 : decode cX11_readWare 141 = .ok (.aload_n 0, 1) := by decide +kernel
theorem dX11_readWare_142 : decode cX11_readWare 142 = .ok (.bipush 10, 2) := by decide +kernel
theorem dX11_readWare_144 : decode cX11_readWare 144 = .ok (.iconst 0, 1) := by decide +kernel
theorem dX11_readWare_145 : decode cX11_readWare 145 = .ok (.bipush 99, 2) := by decide +kernel
theorem dX11_readWare_147 : decode cX11_readWare 147 = .ok (.invokevirtual 235, 3) := by decide +kernel
theorem dX11_readWare_150 : decode cX11_readWare 150 = .ok (.iastore, 1) := by decide +kernel
theorem dX11_readWare_151 : decode cX11_readWare 151 = .ok (.aload_n 0, 1) := by decide +kernel
theorem dX11_readWare_152 : decode cX11_readWare 152 = .ok (.getfield 83, 3) := by decide +kernel
theorem dX11_readWare_155 : decode cX11_readWare 155 = .ok (.iload 5, 2) := by decide +kernel
theorem dX11_readWare_157 : decode cX11_readWare 157 = .ok (.bipush 6, 2) := by decide +kernel
theorem dX11_readWare_159 : decode cX11_readWare 159 = .ok (.iadd, 1) := by decide +kernel
theorem dX11_readWare_160 : decode cX11_readWare 160 = .ok (.iload_n 1, 1) := by decide +kernel
theorem dX11_readWare_161 : decode cX11_readWare 161 = .ok (.ifCond .eq 7, 3) := by decide +kernel
theorem dX11_readWare_164 : decode cX11_readWare 164 = .ok (.iconst 1, 1) := by decide +kernel
theorem dX11_readWare_165 : decode cX11_readWare 165 = .ok (.goto 4, 3) := by decide +kernel
theorem dX11_readWare_168 : decode cX11_readWare 168 = .ok (.iconst 0, 1) := by decide +kernel
theorem dX11_readWare_169 : decode cX11_readWare 169 = .ok (.iastore, 1) := by decide +kernel
theorem dX11_readWare_170 : decode cX11_readWare 170 = .ok (.aload_n 0, 1) := by decide +kernel
theorem dX11_readWare_171 : decode cX11_readWare 171 = .ok (.getfield 92, 3) := by decide +kernel
theorem dX11_readWare_174 : decode cX11_readWare 174 = .ok (.iload_n 2, 1) := by decide +kernel
theorem dX11_readWare_175 : decode cX11_readWare 175 = .ok (.lload_n 3, 1) := by decide +kernel
theorem dX11_readWare_176 : decode cX11_readWare 176 = .ok (.lastore, 1) := by decide +kernel
theorem dX11_readWare_177 : decode cX11_readWare 177 = .ok (.aload_n 0, 1) := by decide +kernel
theorem dX11_readWare_178 : decode cX11_readWare 178 = .ok (.getfield 83, 3) := by decide +kernel
theorem dX11_readWare_181 : decode cX11_readWare 181 = .ok (.bipush 120, 2) := by decide +kernel
theorem dX11_readWare_183 : decode cX11_readWare 183 = .ok (.dup2, 1) := by decide +kernel
theorem dX11_readWare_184 : decode cX11_readWare 184 = .ok (.iaload, 1) := by decide +kernel
theorem dX11_readWare_185 : decode cX11_readWare 185 = .ok (.iconst 1, 1) := by decide +kernel
theorem dX11_readWare_186 : decode cX11_readWare 186 = .ok (.iadd, 1) := by decide +kernel
theorem dX11_readWare_187 : decode cX11_readWare 187 = .ok (.iastore, 1) := by decide +kernel
theorem dX11_readWare_188 : decode cX11_readWare 188 = .ok (.return_, 1) := by decide +kernel
theorem dX11_readShelf_0 : decode cX11_readShelf 0 = .ok (.aload_n 0, 1) := by decide +kernel
theorem dX11_readShelf_1 : decode cX11_readShelf 1 = .ok (.getfield 83, 3) := by decide +kernel
theorem dX11_readShelf_4 : decode cX11_readShelf 4 = .ok (.bipush 121, 2) := by decide +kernel
theorem dX11_readShelf_6 : decode cX11_readShelf 6 = .ok (.iaload, 1) := by decide +kernel
theorem dX11_readShelf_7 : decode cX11_readShelf 7 = .ok (.istore_n 1, 1) := by decide +kernel
theorem dX11_readShelf_8 : decode cX11_readShelf 8 = .ok (.iload_n 1, 1) := by decide +kernel
theorem dX11_readShelf_9 : decode cX11_readShelf 9 = .ok (.iconst 4, 1) := by decide +kernel
theorem dX11_readShelf_10 : decode cX11_readShelf 10 = .ok (.if_icmp .ne 9, 3) := by decide +kernel
theorem dX11_readShelf_13 : decode cX11_readShelf 13 = .ok (.aload_n 0, 1) := by decide +kernel
theorem dX11_readShelf_14 : decode cX11_readShelf 14 = .ok (.iconst 5, 1) := by decide +kernel
theorem dX11_readShelf_15 : decode cX11_readShelf 15 = .ok (.invokevirtual 181, 3) := by decide +kernel
theorem dX11_readShelf_18 : decode cX11_readShelf 18 = .ok (.return_, 1) := by decide +kernel
theorem dX11_readShelf_19 : decode cX11_readShelf 19 = .ok (.aload_n 0, 1) := by decide +kernel
theorem dX11_readShelf_20 : decode cX11_readShelf 20 = .ok (.dup, 1) := by decide +kernel
theorem dX11_readShelf_21 : decode cX11_readShelf 21 = .ok (.getfield 172, 3) := by decide +kernel
theorem dX11_readShelf_24 : decode cX11_readShelf 24 = .ok (.iconst 1, 1) := by decide +kernel
theorem dX11_readShelf_25 : decode cX11_readShelf 25 = .ok (.iadd, 1) := by decide +kernel
theorem dX11_readShelf_26 : decode cX11_readShelf 26 = .ok (.putfield 172, 3) := by decide +kernel
theorem dX11_readShelf_29 : decode cX11_readShelf 29 = .ok (.aload_n 0, 1) := by decide +kernel
theorem dX11_readShelf_30 : decode cX11_readShelf 30 = .ok (.invokevirtual 231, 3) := by decide +kernel
theorem dX11_readShelf_33 : decode cX11_readShelf 33 = .ok (.lstore_n 2, 1) := by decide +kernel
theorem dX11_readShelf_34 : decode cX11_readShelf 34 = .ok (.sipush 219, 3) := by decide +kernel
theorem dX11_readShelf_37 : decode cX11_readShelf 37 = .ok (.iconst 3, 1) := by decide +kernel
theorem dX11_readShelf_38 : decode cX11_readShelf 38 = .ok (.iload_n 1, 1) := by decide +kernel
theorem dX11_readShelf_39 : decode cX11_readShelf 39 = .ok (.imul, 1) := by decide +kernel
theorem dX11_readShelf_40 : decode cX11_readShelf 40 = .ok (.iadd, 1) := by decide +kernel
theorem dX11_readShelf_41 : decode cX11_readShelf 41 = .ok (.istore 4, 2) := by decide +kernel
theorem dX11_readShelf_43 : decode cX11_readShelf 43 = .ok (.aload_n 0, 1) := by decide +kernel
theorem dX11_readShelf_44 : decode cX11_readShelf 44 = .ok (.getfield 83, 3) := by decide +kernel
theorem dX11_readShelf_47 : decode cX11_readShelf 47 = .ok (.iload 4, 2) := by decide +kernel
theorem dX11_readShelf_49 : decode cX11_readShelf 49 = .ok (.aload_n 0, 1) := by decide +kernel
theorem dX11_readShelf_50 : decode cX11_readShelf 50 = .ok (.bipush 11, 2) := by decide +kernel
theorem dX11_readShelf_52 : decode cX11_readShelf 52 = .ok (.iconst 1, 1) := by decide +kernel
theorem dX11_readShelf_53 : decode cX11_readShelf 53 = .ok (.sipush 999, 3) := by decide +kernel
theorem dX11_readShelf_56 : decode cX11_readShelf 56 = .ok (.invokevirtual 235, 3) := by decide +kernel
theorem dX11_readShelf_59 : decode cX11_readShelf 59 = .ok (.iastore, 1) := by decide +kernel
theorem dX11_readShelf_60 : decode cX11_readShelf 60 = .ok (.aload_n 0, 1) := by decide +kernel
theorem dX11_readShelf_61 : decode cX11_readShelf 61 = .ok (.getfield 83, 3) := by decide +kernel
theorem dX11_readShelf_64 : decode cX11_readShelf 64 = .ok (.iload 4, 2) := by decide +kernel
theorem dX11_readShelf_66 : decode cX11_readShelf 66 = .ok (.iconst 1, 1) := by decide +kernel
theorem dX11_readShelf_67 : decode cX11_readShelf 67 = .ok (.iadd, 1) := by decide +kernel
theorem dX11_readShelf_68 : decode cX11_readShelf 68 = .ok (.aload_n 0, 1) := by decide +kernel
theorem dX11_readShelf_69 : decode cX11_readShelf 69 = .ok (.bipush 12, 2) := by decide +kernel
theorem dX11_readShelf_71 : decode cX11_readShelf 71 = .ok (.iconst 0, 1) := by decide +kernel
theorem dX11_readShelf_72 : decode cX11_readShelf 72 = .ok (.bipush 99, 2) := by decide +kernel
theorem dX11_readShelf_74 : decode cX11_readShelf 74 = .ok (.invokevirtual 235, 3) := by decide +kernel
theorem dX11_readShelf_77 : decode cX11_readShelf 77 = .ok (.iastore, 1) := by decide +kernel
theorem dX11_readShelf_78 : decode cX11_readShelf 78 = .ok (.aload_n 0, 1) := by decide +kernel
theorem dX11_readShelf_79 : decode cX11_readShelf 79 = .ok (.getfield 83, 3) := by decide +kernel
theorem dX11_readShelf_82 : decode cX11_readShelf 82 = .ok (.iload 4, 2) := by decide +kernel
theorem dX11_readShelf_84 : decode cX11_readShelf 84 = .ok (.iconst 2, 1) := by decide +kernel
theorem dX11_readShelf_85 : decode cX11_readShelf 85 = .ok (.iadd, 1) := by decide +kernel
theorem dX11_readShelf_86 : decode cX11_readShelf 86 = .ok (.aload_n 0, 1) := by decide +kernel
theorem dX11_readShelf_87 : decode cX11_readShelf 87 = .ok (.bipush 13, 2) := by decide +kernel
theorem dX11_readShelf_89 : decode cX11_readShelf 89 = .ok (.iconst 1, 1) := by decide +kernel
theorem dX11_readShelf_90 : decode cX11_readShelf 90 = .ok (.bipush 8, 2) := by decide +kernel
theorem dX11_readShelf_92 : decode cX11_readShelf 92 = .ok (.invokevirtual 235, 3) := by decide +kernel
theorem dX11_readShelf_95 : decode cX11_readShelf 95 = .ok (.iastore, 1) := by decide +kernel
theorem dX11_readShelf_96 : decode cX11_readShelf 96 = .ok (.aload_n 0, 1) := by decide +kernel
theorem dX11_readShelf_97 : decode cX11_readShelf 97 = .ok (.getfield 92, 3) := by decide +kernel
theorem dX11_readShelf_100 : decode cX11_readShelf 100 = .ok (.bipush 12, 2) := by decide +kernel
theorem dX11_readShelf_102 : decode cX11_readShelf 102 = .ok (.iload_n 1, 1) := by decide +kernel
theorem dX11_readShelf_103 : decode cX11_readShelf 103 = .ok (.iadd, 1) := by decide +kernel
theorem dX11_readShelf_104 : decode cX11_readShelf 104 = .ok (.lload_n 2, 1) := by decide +kernel
theorem dX11_readShelf_105 : decode cX11_readShelf 105 = .ok (.lastore, 1) := by decide +kernel
theorem dX11_readShelf_106 : decode cX11_readShelf 106 = .ok (.aload_n 0, 1) := by decide +kernel
theorem dX11_readShelf_107 : decode cX11_readShelf 107 = .ok (.getfield 83, 3) := by decide +kernel
theorem dX11_readShelf_110 : decode cX11_readShelf 110 = .ok (.bipush 121, 2) := by decide +kernel
theorem dX11_readShelf_112 : decode cX11_readShelf 112 = .ok (.dup2, 1) := by decide +kernel
theorem dX11_readShelf_113 : decode cX11_readShelf 113 = .ok (.iaload, 1) := by decide +kernel
theorem dX11_readShelf_114 : decode cX11_readShelf 114 = .ok (.iconst 1, 1) := by decide +kernel
theorem dX11_readShelf_115 : decode cX11_readShelf 115 = .ok (.iadd, 1) := by decide +kernel
theorem dX11_readShelf_116 : decode cX11_readShelf 116 = .ok (.iastore, 1) := by decide +kernel
theorem dX11_readShelf_117 : decode cX11_readShelf 117 = .ok (.return_, 1) := by decide +kernel
/-- with the bounds of the habits' marks -/
def MRb (nm : Nat → Int64) (t hb : Nat → Int32) (S : ((Nat → Int64) × Nat × (Nat → Int64) × Nat × (Nat → Bool) × (Nat → Bool) × Nat)) : Prop := MR nm t hb S ∧ ∀ j, j < 12 → 0 ≤ (hb j).toInt ∧ (hb j).toInt ≤ 1
theorem MRb.ware {T : Nat → Int × Int64 × Nat} {nm nm' : Nat → Int64} {t t' hb : Nat → Int32} {S : ((Nat → Int64) × Nat × (Nat → Int64) × Nat × (Nat → Bool) × (Nat → Bool) × Nat)} {p n : Nat} {v : Int64} (h : MRb nm t hb S) (hn : (t 120).toInt = (n : Int)) (h1 : (t' 120).toInt = (t 120).toInt + 1) (h2 : ∀ j, (j = 121 ∨ j = 122 ∨ 130 ≤ j ∧ j % 8 = 2) → t' j = t j) (e : nm' = vp_updL nm n v) (hv : v = (T (nx T p)).2.1) (h12 : n < 12) : MRb nm' t' hb (sWare T S p) := ⟨h.1.ware hn h1 h2 e hv h12, h.2⟩
theorem MRb.shelf {T : Nat → Int × Int64 × Nat} {nm nm' : Nat → Int64} {t t' hb : Nat → Int32} {S : ((Nat → Int64) × Nat × (Nat → Int64) × Nat × (Nat → Bool) × (Nat → Bool) × Nat)} {p n : Nat} {v : Int64} (h : MRb nm t hb S) (hn : (t 121).toInt = (n : Int)) (h1 : (t' 121).toInt = (t 121).toInt + 1) (h2 : ∀ j, (j = 120 ∨ j = 122 ∨ 130 ≤ j ∧ j < 219 ∧ j % 8 = 2) → t' j = t j) (e : nm' = vp_updL nm (12 + n) v) (hv : v = (T (nx T p)).2.1) (hw : S.2.1 ≤ 12) : MRb nm' t' hb (sShelf T S p) := ⟨h.1.shelf hn h1 h2 e hv hw, h.2⟩
theorem MRb.top {T : Nat → Int × Int64 × Nat} {nm : Nat → Int64} {t t' hb : Nat → Int32} {S : ((Nat → Int64) × Nat × (Nat → Int64) × Nat × (Nat → Bool) × (Nat → Bool) × Nat)} {p k : Nat} (h : MRb nm t hb S) (hk : k = fnd S.1 S.2.1 (T (nx T p)).2.1) (h12 : k < 12) (e : t' = upd t (130 + 8 * k) 1) : MRb nm t' hb (sTop T S p) := ⟨h.1.top hk h12 e, h.2⟩
theorem MRb.hab {T : Nat → Int × Int64 × Nat} {nm : Nat → Int64} {t t' hb hb' : Nat → Int32} {S : ((Nat → Int64) × Nat × (Nat → Int64) × Nat × (Nat → Bool) × (Nat → Bool) × Nat)} {p k : Nat} (h : MRb nm t hb S) (hk : k = fnd S.1 S.2.1 (T (nx T p)).2.1) (h12 : k < 12) (e : hb' = upd hb k (vp_nar .boolean 1)) (h2 : ∀ j, (j = 120 ∨ j = 121 ∨ j = 122 ∨ 130 ≤ j ∧ j % 8 = 2) → t' j = t j) : MRb nm t' hb' (sHab T S p) := by
  refine ⟨h.1.hab hk h12 e h2, fun j hj => ?_⟩
  have e1 : (vp_nar .boolean 1).toInt = 1 := rfl
  rw [e]
  by_cases q : j = k
  · rw [q, pk_us]; omega
  · rw [pk_un q]; exact h.2 j hj
theorem MRb.nest {nm : Nat → Int64} {t t' hb : Nat → Int32} {S : ((Nat → Int64) × Nat × (Nat → Int64) × Nat × (Nat → Bool) × (Nat → Bool) × Nat)} (h : MRb nm t hb S) (h1 : (t' 122).toInt = (t 122).toInt + 1) (h2 : ∀ j, (j = 120 ∨ j = 121 ∨ 130 ≤ j ∧ j < 219 ∧ j % 8 = 2) → t' j = t j) : MRb nm t' hb (sNest S) := ⟨h.1.nest h1 h2, h.2⟩
theorem RP.nx {T : Nat → Int × Int64 × Nat} {pl : Nat → Int32} {fa a fa1 a1 fa2 a2 : Int} {g : Nat → Nat × Int} (h1 : RP pl fa a fa1 a1 (fun p => (nx T p, 0))) (h2 : RP pl fa1 a1 fa2 a2 g) : RP pl fa a fa2 a2 (fun p => g (nx T p)) := (RP.bind h1 h2).mv (fun z => (bnd_ok rfl).symm)
set_option maxHeartbeats 4000000 in
set_option maxRecDepth 100000 in
theorem c_X11_readWare_0 (l : Launch) (D : DG) (cyC cyI cyJ cyZ cyO : ClassId) (m0 : Nat) (msort : Nat) (mplace : Nat) (mvalue : Nat) (mwords : Nat) (mtold : Nat) (mnames : Nat) (mhasHabit : Nat) (mtape : Nat) (mop : Nat) (marg : Nat) (mfactWords : Nat) (mfacts : Nat) (mpile : Nat) (mstates : Nat) (misMarked : Nat) (mrow : Nat) (mthr : Nat) (mmays : Nat) (mtall : Nat) (mweights : Nat) (mrowOfWare : Nat) (mneededOf : Nat) (mtried : Nat) (mbestRow : Nat) (mdigits : Nat) (m_thrown : Int32) (m_taped : Int32) (m_size : Int32) (m_at : Int32) (m_fault : Int32) (m_codes : Int32) (m_isNew : Int32) (m_inShelf : Int32) (m_inStack : Int32) (m_inPlace : Int32) (m_rowMany : Int32) (m_goShelf : Int32) (m_goStack : Int32) (m_goLeft : Int32) (m_bestCost : Int32) (m_bestMany : Int32) (m_bestShelf : Int32) (m_bestSet : Int32) (m_sort : Nat → Int32) (m_place : Nat → Int32) (m_value : Nat → Int64) (m_words : Nat → Int64) (m_told : Nat → Int32) (m_names : Nat → Int64) (m_hasHabit : Nat → Int32) (T : Nat → Int × Int64 × Nat) (S : ((Nat → Int64) × Nat × (Nat → Int64) × Nat × (Nat → Bool) × (Nat → Bool) × Nat)) (h_m_taped : 0 ≤ (m_taped).toInt ∧ (m_taped).toInt ≤ 1000) (h_m_size : 0 ≤ (m_size).toInt ∧ (m_size).toInt ≤ 1000) (h_m_at : 0 ≤ (m_at).toInt ∧ (m_at).toInt ≤ 1000) (h_m_fault : 0 ≤ (m_fault).toInt ∧ (m_fault).toInt ≤ 16005) (h_m_codes : 0 ≤ (m_codes).toInt ∧ (m_codes).toInt ≤ 1000) (h_m_isNew : 0 ≤ (m_isNew).toInt ∧ (m_isNew).toInt ≤ 1) (h_m_inShelf : 0 ≤ (m_inShelf).toInt ∧ (m_inShelf).toInt ≤ 3) (h_m_inStack : 0 ≤ (m_inStack).toInt ∧ (m_inStack).toInt ≤ 7) (h_m_inPlace : 0 ≤ (m_inPlace).toInt ∧ (m_inPlace).toInt ≤ 11) (h_m_rowMany : 0 ≤ (m_rowMany).toInt ∧ (m_rowMany).toInt ≤ 12) (h_m_goShelf : -1 ≤ (m_goShelf).toInt ∧ (m_goShelf).toInt ≤ 3) (h_m_bestMany : 0 ≤ (m_bestMany).toInt ∧ (m_bestMany).toInt ≤ 7) (h_m_bestShelf : 0 ≤ (m_bestShelf).toInt ∧ (m_bestShelf).toInt ≤ 3) (h_m_place : Iv 1002 (0) (1000) m_place) (h_m_told : TV m_told) (hN1 : eN m_sort ≤ 1000) (hN2 : (m_at).toInt ≤ ((eN m_sort : Nat) : Int)) (hN3 : (m_at).toInt < ((eN m_sort : Nat) : Int)) (hRT : RWS m_sort m_place m_value T) (hWO : WRD m_words) (hMR : MRb m_names m_told m_hasHabit S) : KK l D (TY cyC cyI cyJ cyZ cyO) yX11_readWare cX11_readWare 6 none ({ frames := 4, cells := 0, slots := 0, locals := 87 } : Room) 0 0 [.ref m0, .int 0] [(m0, .inr (11, [.int m_thrown, .ref mtape, .int m_taped, .int m_size, .ref msort, .ref mplace, .ref mvalue, .int m_at, .int m_fault, .ref mwords, .ref mtold, .ref mop, .ref marg, .int m_codes, .ref mnames, .ref mhasHabit, .int m_isNew, .ref mfactWords, .ref mfacts, .ref mpile, .ref mstates, .ref misMarked, .int m_inShelf, .int m_inStack, .int m_inPlace, .ref mrow, .int m_rowMany, .ref mthr, .ref mmays, .ref mtall, .ref mweights, .ref mrowOfWare, .ref mneededOf, .int m_goShelf, .int m_goStack, .int m_goLeft, .ref mtried, .ref mbestRow, .int m_bestCost, .int m_bestMany, .int m_bestShelf, .int m_bestSet, .ref mdigits])), (msort, .inl (cyI, 1002, .inl m_sort)), (mplace, .inl (cyI, 1002, .inl m_place)), (mvalue, .inl (cyJ, 1002, .inr (.inl m_value))), (mwords, .inl (cyJ, 23, .inr (.inl m_words))), (mtold, .inl (cyI, 240, .inl m_told)), (mnames, .inl (cyJ, 16, .inr (.inl m_names))), (mhasHabit, .inl (cyZ, 12, .inl m_hasHabit))] (fun u => none) (fun u => (0 ≤ (u.2.1 0).toInt ∧ (u.2.1 0).toInt ≤ 1000) ∧ (0 ≤ (u.2.1 1).toInt ∧ (u.2.1 1).toInt ≤ 16005) ∧ (TV (u.2.2.1 0)) ∧ ((m_at).toInt ≤ ((u.2.1 0)).toInt) ∧ (((u.2.1 0)).toInt ≤ ((eN m_sort : Nat) : Int)) ∧ ((m_fault).toInt = 0 ∨ ¬ ((u.2.1 1)).toInt = 0) ∧ (∀ j : Nat, (j < 120 ∨ j = 122 ∨ 231 ≤ j) → (u.2.2.1 0) j = m_told j) ∧ (RP m_place (m_fault).toInt (m_at).toInt ((u.2.1 1)).toInt ((u.2.1 0)).toInt (rBowl T S)) ∧ (((u.2.1 1)).toInt = 0 → MRb (u.2.2.2 0) (u.2.2.1 0) m_hasHabit (sWare T S (m_place (m_at).toInt.toNat).toInt.toNat))) (fun u => [(m0, .inr (11, [.int m_thrown, .ref mtape, .int m_taped, .int m_size, .ref msort, .ref mplace, .ref mvalue, .int (u.2.1 0), .int (u.2.1 1), .ref mwords, .ref mtold, .ref mop, .ref marg, .int m_codes, .ref mnames, .ref mhasHabit, .int m_isNew, .ref mfactWords, .ref mfacts, .ref mpile, .ref mstates, .ref misMarked, .int m_inShelf, .int m_inStack, .int m_inPlace, .ref mrow, .int m_rowMany, .ref mthr, .ref mmays, .ref mtall, .ref mweights, .ref mrowOfWare, .ref mneededOf, .int m_goShelf, .int m_goStack, .int m_goLeft, .ref mtried, .ref mbestRow, .int m_bestCost, .int m_bestMany, .int m_bestShelf, .int m_bestSet, .ref mdigits])), (msort, .inl (cyI, 1002, .inl m_sort)), (mplace, .inl (cyI, 1002, .inl m_place)), (mvalue, .inl (cyJ, 1002, .inr (.inl m_value))), (mwords, .inl (cyJ, 23, .inr (.inl m_words))), (mtold, .inl (cyI, 240, .inl (u.2.2.1 0))), (mnames, .inl (cyJ, 16, .inr (.inl (u.2.2.2 0)))), (mhasHabit, .inl (cyZ, 12, .inl m_hasHabit))]) := by
  refine KK.of (lv0 := [(0, .ref m0), (1, .int 0)]) (by decide) rfl (Nat.le_of_ble_eq_true rfl) ?_
  intro p e s m args below meth c A C hr hk hin
  refine j_aload_n (pc := 0) C dX11_readWare_0 rfl 0 rfl ?_
  refine j_get (pc := 1) (ci := 11) (v := .ref mtold) C inw_11 0 rfl rfl 10 (by decide) wd_669 rfl rfl dX11_readWare_1 ?_
  refine j_bipush (pc := 4) (v := 120) C dX11_readWare_4 (by decide) ?_
  obtain ⟨v_1, ev_1⟩ : ∃ z, m_told 120 = z := ⟨_, rfl⟩
  have env_1 : (m_told 120).toInt = v_1.toInt := by rw [ev_1]
  have hv_1 : 0 ≤ v_1.toInt ∧ v_1.toInt ≤ 12 := by have z := h_m_told 120 (by decide); rw [ev_1] at z; exact z
  refine j_iald (pc := 6) (v := v_1) (k := 120) C 5 1 rfl rfl (by decide) (by decide) (by decide) ev_1 dX11_readWare_6 ?_
  refine j_istore_n (pc := 7) (lv' := [(2, .int v_1), (0, .ref m0), (1, .int 0)]) C dX11_readWare_7 rfl (by decide) rfl ?_
  refine j_iload_n (pc := 8) C dX11_readWare_8 rfl 0 rfl ?_
  refine j_bipush (pc := 9) (v := 12) C dX11_readWare_9 (by decide) ?_
  refine j_icmp_ne (pc := 11) (tgt := 20) C dX11_readWare_11 (by decide) (fun c_2 => ?_) (fun c_2 => ?_)
  · skip
    have el_12 : (12 : Int32).toInt = 12 := rfl
    rw [i_eq] at c_2
    refine j_aload_n (pc := 20) C dX11_readWare_20 rfl 1 rfl ?_
    refine j_dup (pc := 21) C dX11_readWare_21 rfl ?_
    refine j_get (pc := 22) (ci := 11) (v := .int m_at) C inw_11 0 rfl rfl 7 (by decide) wd_637 rfl rfl dX11_readWare_22 ?_
    refine j_iconst (pc := 25) (v := 1) C dX11_readWare_25 (by decide) ?_
    obtain ⟨v_3, ev_3⟩ : ∃ z : Int32, m_at + 1 = z := ⟨_, rfl⟩
    have el_1 : (1 : Int32).toInt = 1 := rfl
    have hv_3 : v_3.toInt = m_at.toInt + (1 : Int32).toInt := by rw [← ev_3]; exact fb_addI (by omega) (by omega)
    refine j_iadd (pc := 26) (v := v_3) C dX11_readWare_26 ev_3 ?_
    refine j_put (pc := 27) (ci := 11) (v := .int v_3) (ws' := [(m0, .inr (11, [.int m_thrown, .ref mtape, .int m_taped, .int m_size, .ref msort, .ref mplace, .ref mvalue, .int v_3, .int m_fault, .ref mwords, .ref mtold, .ref mop, .ref marg, .int m_codes, .ref mnames, .ref mhasHabit, .int m_isNew, .ref mfactWords, .ref mfacts, .ref mpile, .ref mstates, .ref misMarked, .int m_inShelf, .int m_inStack, .int m_inPlace, .ref mrow, .int m_rowMany, .ref mthr, .ref mmays, .ref mtall, .ref mweights, .ref mrowOfWare, .ref mneededOf, .int m_goShelf, .int m_goStack, .int m_goLeft, .ref mtried, .ref mbestRow, .int m_bestCost, .int m_bestMany, .int m_bestShelf, .int m_bestSet, .ref mdigits])), (msort, .inl (cyI, 1002, .inl m_sort)), (mplace, .inl (cyI, 1002, .inl m_place)), (mvalue, .inl (cyJ, 1002, .inr (.inl m_value))), (mwords, .inl (cyJ, 23, .inr (.inl m_words))), (mtold, .inl (cyI, 240, .inl m_told)), (mnames, .inl (cyJ, 16, .inr (.inl m_names))), (mhasHabit, .inl (cyZ, 12, .inl m_hasHabit))]) C inw_11 0 rfl rfl 7 (by decide) wd_637 rfl tyX11_ok nmX11 rfl (tyX11_ok 7 (by decide)) rfl rfl (Nat.le_of_ble_eq_true rfl) dX11_readWare_27 rfl ?_
    refine j_aload_n (pc := 30) C dX11_readWare_30 rfl 1 rfl ?_
    refine j_callV (pc := 31) (As := []) (rest := []) (wr := [(mhasHabit, .inl (cyZ, 12, .inl m_hasHabit))]) C (c_X11_newName l D cyC cyI cyJ cyZ cyO m0 msort mplace mvalue mwords mtold mnames mtape mop marg mhasHabit mfactWords mfacts mpile mstates misMarked mrow mthr mmays mtall mweights mrowOfWare mneededOf mtried mbestRow mdigits m_thrown m_taped m_size v_3 m_fault m_codes m_isNew m_inShelf m_inStack m_inPlace m_rowMany m_goShelf m_goStack m_goLeft m_bestCost m_bestMany m_bestShelf m_bestSet m_sort m_place m_value m_words m_told m_names T S (by omega) (by omega) (by omega) (by omega) (by omega) (by omega) (by omega) (by omega) (by omega) (by omega) (by omega) (by omega) (by omega) h_m_place h_m_told (by omega) (by omega) hRT hWO hMR.1.1) wd_687 wd_624 wd_688 wd_689 wd_690 ⟨by decide, by decide, rfl⟩ rfl ⟨rfl, rfl, by decide, by decide⟩ ⟨by decide, by decide⟩ [0, 1, 2, 3, 4, 5, 6] [7] rfl rfl ⟨by decide, by decide, by decide⟩ 0 rfl rfl rfl (Nat.le_of_ble_eq_true rfl) dX11_readWare_31 (fun u_4 hw_5 => ?_)
    refine j_eq (ws2 := [(mhasHabit, .inl (cyZ, 12, .inl m_hasHabit)), (m0, .inr (11, [.int m_thrown, .ref mtape, .int m_taped, .int m_size, .ref msort, .ref mplace, .ref mvalue, .int (u_4.2.1 0), .int (u_4.2.1 1), .ref mwords, .ref mtold, .ref mop, .ref marg, .int m_codes, .ref mnames, .ref mhasHabit, .int m_isNew, .ref mfactWords, .ref mfacts, .ref mpile, .ref mstates, .ref misMarked, .int m_inShelf, .int m_inStack, .int m_inPlace, .ref mrow, .int m_rowMany, .ref mthr, .ref mmays, .ref mtall, .ref mweights, .ref mrowOfWare, .ref mneededOf, .int m_goShelf, .int m_goStack, .int m_goLeft, .ref mtried, .ref mbestRow, .int m_bestCost, .int m_bestMany, .int m_bestShelf, .int m_bestSet, .ref mdigits])), (msort, .inl (cyI, 1002, .inl m_sort)), (mplace, .inl (cyI, 1002, .inl m_place)), (mvalue, .inl (cyJ, 1002, .inr (.inl m_value))), (mwords, .inl (cyJ, 23, .inr (.inl m_words))), (mtold, .inl (cyI, 240, .inl m_told)), (mnames, .inl (cyJ, 16, .inr (.inl m_names)))]) (pc2 := 34) (lv2 := [(2, .int v_1), (0, .ref m0), (1, .int 0)]) (st2 := [.long (u_4.2.2.2 0 0)]) rfl rfl rfl rfl ?_
    obtain ⟨hw_5_0, hw_5_1, hw_5_2, hw_5_3, hw_5_4, hw_5_5, hw_5_6⟩ := hw_5
    refine j_lstore_n (pc := 34) (lv' := [(3, .long (u_4.2.2.2 0 0)), (2, .int v_1), (0, .ref m0), (1, .int 0)]) C dX11_readWare_34 rfl (by decide) rfl ?_
    refine j_bipush (pc := 35) (v := 123) C dX11_readWare_35 (by decide) ?_
    refine j_bipush (pc := 37) (v := 8) C dX11_readWare_37 (by decide) ?_
    refine j_iload_n (pc := 39) C dX11_readWare_39 rfl 1 rfl ?_
    obtain ⟨v_6, ev_6⟩ : ∃ z : Int32, 8 * v_1 = z := ⟨_, rfl⟩
    have el_8 : (8 : Int32).toInt = 8 := rfl
    have hv_6 : v_6.toInt = 8 * v_1.toInt := by rw [← ev_6]; exact mulL (c := 8) rfl (by omega) (by omega)
    refine j_imul (pc := 40) (v := v_6) C dX11_readWare_40 ev_6 ?_
    obtain ⟨v_7, ev_7⟩ : ∃ z : Int32, 123 + v_6 = z := ⟨_, rfl⟩
    have el_123 : (123 : Int32).toInt = 123 := rfl
    have hv_7 : v_7.toInt = (123 : Int32).toInt + v_6.toInt := by rw [← ev_7]; exact fb_addI (by omega) (by omega)
    refine j_iadd (pc := 41) (v := v_7) C dX11_readWare_41 ev_7 ?_
    refine j_istore (pc := 42) (lv' := [(5, .int v_7), (3, .long (u_4.2.2.2 0 0)), (2, .int v_1), (0, .ref m0), (1, .int 0)]) C dX11_readWare_42 (by decide) rfl ?_
    refine j_aload_n (pc := 44) C dX11_readWare_44 rfl 3 rfl ?_
    refine j_get (pc := 45) (ci := 11) (v := .ref mtold) C inw_11 1 rfl rfl 10 (by decide) wd_669 rfl rfl dX11_readWare_45 ?_
    refine j_iload (pc := 48) C dX11_readWare_48 0 rfl ?_
    refine j_iconst (pc := 50) (v := 0) C dX11_readWare_50 (by decide) ?_
    obtain ⟨v_8, ev_8⟩ : ∃ z : Int32, v_7 + 0 = z := ⟨_, rfl⟩
    have el_0 : (0 : Int32).toInt = 0 := rfl
    have hv_8 : v_8.toInt = v_7.toInt + (0 : Int32).toInt := by rw [← ev_8]; exact fb_addI (by omega) (by omega)
    refine j_iadd (pc := 51) (v := v_8) C dX11_readWare_51 ev_8 ?_
    refine j_aload_n (pc := 52) C dX11_readWare_52 rfl 3 rfl ?_
    refine j_bipush (pc := 53) (v := 6) C dX11_readWare_53 (by decide) ?_
    refine j_iconst (pc := 55) (v := 1) C dX11_readWare_55 (by decide) ?_
    refine j_bipush (pc := 56) (v := 99) C dX11_readWare_56 (by decide) ?_
    refine j_callV (pc := 58) (As := [.int 6, .int 1, .int 99]) (rest := [.int v_8, .ref mtold]) (wr := [(mhasHabit, .inl (cyZ, 12, .inl m_hasHabit)), (mtold, .inl (cyI, 240, .inl m_told)), (mnames, .inl (cyJ, 16, .inr (.inl m_names)))]) C (c_X11_takeAfter l D cyC cyI cyJ cyZ cyO m0 msort mplace mvalue mwords mtape mtold mop marg mnames mhasHabit mfactWords mfacts mpile mstates misMarked mrow mthr mmays mtall mweights mrowOfWare mneededOf mtried mbestRow mdigits 6 1 99 m_thrown m_taped m_size (u_4.2.1 0) (u_4.2.1 1) m_codes m_isNew m_inShelf m_inStack m_inPlace m_rowMany m_goShelf m_goStack m_goLeft m_bestCost m_bestMany m_bestShelf m_bestSet m_sort m_place m_value m_words T (by omega) (by omega) (by omega) (by omega) (by omega) (by omega) (by omega) (by omega) (by omega) (by omega) (by omega) (by omega) (by omega) (by decide) h_m_place (by omega) (by omega) hRT hWO) wd_691 wd_624 wd_692 wd_693 wd_694 ⟨by decide, by decide, rfl⟩ rfl ⟨rfl, rfl, by decide, by decide⟩ ⟨by decide, by decide⟩ [1, 2, 3, 4, 5] [0, 6, 7] rfl rfl ⟨by decide, by decide, by decide⟩ 1 rfl rfl rfl (Nat.le_of_ble_eq_true rfl) dX11_readWare_58 (fun u_9 hw_10 => ?_)
    refine j_eq (ws2 := [(mhasHabit, .inl (cyZ, 12, .inl m_hasHabit)), (mtold, .inl (cyI, 240, .inl m_told)), (mnames, .inl (cyJ, 16, .inr (.inl m_names))), (m0, .inr (11, [.int m_thrown, .ref mtape, .int m_taped, .int m_size, .ref msort, .ref mplace, .ref mvalue, .int (u_9.2.1 1), .int (u_9.2.1 2), .ref mwords, .ref mtold, .ref mop, .ref marg, .int m_codes, .ref mnames, .ref mhasHabit, .int m_isNew, .ref mfactWords, .ref mfacts, .ref mpile, .ref mstates, .ref misMarked, .int m_inShelf, .int m_inStack, .int m_inPlace, .ref mrow, .int m_rowMany, .ref mthr, .ref mmays, .ref mtall, .ref mweights, .ref mrowOfWare, .ref mneededOf, .int m_goShelf, .int m_goStack, .int m_goLeft, .ref mtried, .ref mbestRow, .int m_bestCost, .int m_bestMany, .int m_bestShelf, .int m_bestSet, .ref mdigits])), (msort, .inl (cyI, 1002, .inl m_sort)), (mplace, .inl (cyI, 1002, .inl m_place)), (mvalue, .inl (cyJ, 1002, .inr (.inl m_value))), (mwords, .inl (cyJ, 23, .inr (.inl m_words)))]) (pc2 := 61) (lv2 := [(5, .int v_7), (3, .long (u_4.2.2.2 0 0)), (2, .int v_1), (0, .ref m0), (1, .int 0)]) (st2 := [.int (u_9.2.1 0), .int v_8, .ref mtold]) rfl rfl rfl rfl ?_
    obtain ⟨hw_10_0, hw_10_1, hw_10_2, hw_10_3, hw_10_4, hw_10_5, hw_10_6⟩ := hw_10
    have el_6 : (6 : Int32).toInt = 6 := rfl
    have el_1 : (1 : Int32).toInt = 1 := rfl
    have el_99 : (99 : Int32).toInt = 99 := rfl
    obtain ⟨f_11, ef_11⟩ : ∃ z, z = upd m_told (v_8).toInt.toNat (u_9.2.1 0) := ⟨_, rfl⟩
    have hf_11 : TV f_11 := by rw [ef_11]; exact TV.upd h_m_told (by omega) (Int.le_trans (show _ ≤ (999 : Int) from (by omega)) (hiT_k (by omega)))
    refine j_iast (pc := 61) (k := (v_8).toInt.toNat) (ws' := [(mhasHabit, .inl (cyZ, 12, .inl m_hasHabit)), (mtold, .inl (cyI, 240, .inl f_11)), (mnames, .inl (cyJ, 16, .inr (.inl m_names))), (m0, .inr (11, [.int m_thrown, .ref mtape, .int m_taped, .int m_size, .ref msort, .ref mplace, .ref mvalue, .int (u_9.2.1 1), .int (u_9.2.1 2), .ref mwords, .ref mtold, .ref mop, .ref marg, .int m_codes, .ref mnames, .ref mhasHabit, .int m_isNew, .ref mfactWords, .ref mfacts, .ref mpile, .ref mstates, .ref misMarked, .int m_inShelf, .int m_inStack, .int m_inPlace, .ref mrow, .int m_rowMany, .ref mthr, .ref mmays, .ref mtall, .ref mweights, .ref mrowOfWare, .ref mneededOf, .int m_goShelf, .int m_goStack, .int m_goLeft, .ref mtried, .ref mbestRow, .int m_bestCost, .int m_bestMany, .int m_bestShelf, .int m_bestSet, .ref mdigits])), (msort, .inl (cyI, 1002, .inl m_sort)), (mplace, .inl (cyI, 1002, .inl m_place)), (mvalue, .inl (cyJ, 1002, .inr (.inl m_value))), (mwords, .inl (cyJ, 23, .inr (.inl m_words)))]) C 1 1 rfl rfl (i_nn (by omega)) rfl (i_lt_n (by omega) (by omega)) dX11_readWare_61 (by rw [ef_11]; rfl) ?_
    refine j_aload_n (pc := 62) C dX11_readWare_62 rfl 3 rfl ?_
    refine j_get (pc := 63) (ci := 11) (v := .ref mtold) C inw_11 3 rfl rfl 10 (by decide) wd_669 rfl rfl dX11_readWare_63 ?_
    refine j_iload (pc := 66) C dX11_readWare_66 0 rfl ?_
    refine j_iconst (pc := 68) (v := 1) C dX11_readWare_68 (by decide) ?_
    obtain ⟨v_12, ev_12⟩ : ∃ z : Int32, v_7 + 1 = z := ⟨_, rfl⟩
    have el_1 : (1 : Int32).toInt = 1 := rfl
    have hv_12 : v_12.toInt = v_7.toInt + (1 : Int32).toInt := by rw [← ev_12]; exact fb_addI (by omega) (by omega)
    refine j_iadd (pc := 69) (v := v_12) C dX11_readWare_69 ev_12 ?_
    refine j_iload_n (pc := 70) C dX11_readWare_70 rfl 4 rfl ?_
    refine j_if_eq_t (pc := 71) (tgt := 78) C dX11_readWare_71 (by decide) (by decide) ?_
    refine j_aload_n (pc := 78) C dX11_readWare_78 rfl 3 rfl ?_
    refine j_bipush (pc := 79) (v := 7) C dX11_readWare_79 (by decide) ?_
    refine j_iconst (pc := 81) (v := 1) C dX11_readWare_81 (by decide) ?_
    refine j_bipush (pc := 82) (v := 99) C dX11_readWare_82 (by decide) ?_
    refine j_callV (pc := 84) (As := [.int 7, .int 1, .int 99]) (rest := [.int v_12, .ref mtold]) (wr := [(mhasHabit, .inl (cyZ, 12, .inl m_hasHabit)), (mtold, .inl (cyI, 240, .inl f_11)), (mnames, .inl (cyJ, 16, .inr (.inl m_names)))]) C (c_X11_takeAfter l D cyC cyI cyJ cyZ cyO m0 msort mplace mvalue mwords mtape mtold mop marg mnames mhasHabit mfactWords mfacts mpile mstates misMarked mrow mthr mmays mtall mweights mrowOfWare mneededOf mtried mbestRow mdigits 7 1 99 m_thrown m_taped m_size (u_9.2.1 1) (u_9.2.1 2) m_codes m_isNew m_inShelf m_inStack m_inPlace m_rowMany m_goShelf m_goStack m_goLeft m_bestCost m_bestMany m_bestShelf m_bestSet m_sort m_place m_value m_words T (by omega) (by omega) (by omega) (by omega) (by omega) (by omega) (by omega) (by omega) (by omega) (by omega) (by omega) (by omega) (by omega) (by decide) h_m_place (by omega) (by omega) hRT hWO) wd_691 wd_624 wd_692 wd_693 wd_694 ⟨by decide, by decide, rfl⟩ rfl ⟨rfl, rfl, by decide, by decide⟩ ⟨by decide, by decide⟩ [3, 4, 5, 6, 7] [0, 1, 2] rfl rfl ⟨by decide, by decide, by decide⟩ 3 rfl rfl rfl (Nat.le_of_ble_eq_true rfl) dX11_readWare_84 (fun u_13 hw_14 => ?_)
    refine j_eq (ws2 := [(mhasHabit, .inl (cyZ, 12, .inl m_hasHabit)), (mtold, .inl (cyI, 240, .inl f_11)), (mnames, .inl (cyJ, 16, .inr (.inl m_names))), (m0, .inr (11, [.int m_thrown, .ref mtape, .int m_taped, .int m_size, .ref msort, .ref mplace, .ref mvalue, .int (u_13.2.1 1), .int (u_13.2.1 2), .ref mwords, .ref mtold, .ref mop, .ref marg, .int m_codes, .ref mnames, .ref mhasHabit, .int m_isNew, .ref mfactWords, .ref mfacts, .ref mpile, .ref mstates, .ref misMarked, .int m_inShelf, .int m_inStack, .int m_inPlace, .ref mrow, .int m_rowMany, .ref mthr, .ref mmays, .ref mtall, .ref mweights, .ref mrowOfWare, .ref mneededOf, .int m_goShelf, .int m_goStack, .int m_goLeft, .ref mtried, .ref mbestRow, .int m_bestCost, .int m_bestMany, .int m_bestShelf, .int m_bestSet, .ref mdigits])), (msort, .inl (cyI, 1002, .inl m_sort)), (mplace, .inl (cyI, 1002, .inl m_place)), (mvalue, .inl (cyJ, 1002, .inr (.inl m_value))), (mwords, .inl (cyJ, 23, .inr (.inl m_words)))]) (pc2 := 87) (lv2 := [(5, .int v_7), (3, .long (u_4.2.2.2 0 0)), (2, .int v_1), (0, .ref m0), (1, .int 0)]) (st2 := [.int (u_13.2.1 0), .int v_12, .ref mtold]) rfl rfl rfl rfl ?_
    obtain ⟨hw_14_0, hw_14_1, hw_14_2, hw_14_3, hw_14_4, hw_14_5, hw_14_6⟩ := hw_14
    have el_7 : (7 : Int32).toInt = 7 := rfl
    have el_1 : (1 : Int32).toInt = 1 := rfl
    have el_99 : (99 : Int32).toInt = 99 := rfl
    obtain ⟨f_15, ef_15⟩ : ∃ z, z = upd f_11 (v_12).toInt.toNat (u_13.2.1 0) := ⟨_, rfl⟩
    have hf_15 : TV f_15 := by rw [ef_15]; exact TV.upd hf_11 (by omega) (Int.le_trans (show _ ≤ (999 : Int) from (by omega)) (hiT_k (by omega)))
    refine j_iast (pc := 87) (k := (v_12).toInt.toNat) (ws' := [(mhasHabit, .inl (cyZ, 12, .inl m_hasHabit)), (mtold, .inl (cyI, 240, .inl f_15)), (mnames, .inl (cyJ, 16, .inr (.inl m_names))), (m0, .inr (11, [.int m_thrown, .ref mtape, .int m_taped, .int m_size, .ref msort, .ref mplace, .ref mvalue, .int (u_13.2.1 1), .int (u_13.2.1 2), .ref mwords, .ref mtold, .ref mop, .ref marg, .int m_codes, .ref mnames, .ref mhasHabit, .int m_isNew, .ref mfactWords, .ref mfacts, .ref mpile, .ref mstates, .ref misMarked, .int m_inShelf, .int m_inStack, .int m_inPlace, .ref mrow, .int m_rowMany, .ref mthr, .ref mmays, .ref mtall, .ref mweights, .ref mrowOfWare, .ref mneededOf, .int m_goShelf, .int m_goStack, .int m_goLeft, .ref mtried, .ref mbestRow, .int m_bestCost, .int m_bestMany, .int m_bestShelf, .int m_bestSet, .ref mdigits])), (msort, .inl (cyI, 1002, .inl m_sort)), (mplace, .inl (cyI, 1002, .inl m_place)), (mvalue, .inl (cyJ, 1002, .inr (.inl m_value))), (mwords, .inl (cyJ, 23, .inr (.inl m_words)))]) C 1 1 rfl rfl (i_nn (by omega)) rfl (i_lt_n (by omega) (by omega)) dX11_readWare_87 (by rw [ef_15]; rfl) ?_
    refine j_aload_n (pc := 88) C dX11_readWare_88 rfl 3 rfl ?_
    refine j_get (pc := 89) (ci := 11) (v := .ref mtold) C inw_11 3 rfl rfl 10 (by decide) wd_669 rfl rfl dX11_readWare_89 ?_
    refine j_iload (pc := 92) C dX11_readWare_92 0 rfl ?_
    refine j_iconst (pc := 94) (v := 2) C dX11_readWare_94 (by decide) ?_
    obtain ⟨v_16, ev_16⟩ : ∃ z : Int32, v_7 + 2 = z := ⟨_, rfl⟩
    have el_2 : (2 : Int32).toInt = 2 := rfl
    have hv_16 : v_16.toInt = v_7.toInt + (2 : Int32).toInt := by rw [← ev_16]; exact fb_addI (by omega) (by omega)
    refine j_iadd (pc := 95) (v := v_16) C dX11_readWare_95 ev_16 ?_
    refine j_aload_n (pc := 96) C dX11_readWare_96 rfl 3 rfl ?_
    refine j_bipush (pc := 97) (v := 8) C dX11_readWare_97 (by decide) ?_
    refine j_iconst (pc := 99) (v := 1) C dX11_readWare_99 (by decide) ?_
    refine j_bipush (pc := 100) (v := 99) C dX11_readWare_100 (by decide) ?_
    refine j_callV (pc := 102) (As := [.int 8, .int 1, .int 99]) (rest := [.int v_16, .ref mtold]) (wr := [(mhasHabit, .inl (cyZ, 12, .inl m_hasHabit)), (mtold, .inl (cyI, 240, .inl f_15)), (mnames, .inl (cyJ, 16, .inr (.inl m_names)))]) C (c_X11_takeAfter l D cyC cyI cyJ cyZ cyO m0 msort mplace mvalue mwords mtape mtold mop marg mnames mhasHabit mfactWords mfacts mpile mstates misMarked mrow mthr mmays mtall mweights mrowOfWare mneededOf mtried mbestRow mdigits 8 1 99 m_thrown m_taped m_size (u_13.2.1 1) (u_13.2.1 2) m_codes m_isNew m_inShelf m_inStack m_inPlace m_rowMany m_goShelf m_goStack m_goLeft m_bestCost m_bestMany m_bestShelf m_bestSet m_sort m_place m_value m_words T (by omega) (by omega) (by omega) (by omega) (by omega) (by omega) (by omega) (by omega) (by omega) (by omega) (by omega) (by omega) (by omega) (by decide) h_m_place (by omega) (by omega) hRT hWO) wd_691 wd_624 wd_692 wd_693 wd_694 ⟨by decide, by decide, rfl⟩ rfl ⟨rfl, rfl, by decide, by decide⟩ ⟨by decide, by decide⟩ [3, 4, 5, 6, 7] [0, 1, 2] rfl rfl ⟨by decide, by decide, by decide⟩ 3 rfl rfl rfl (Nat.le_of_ble_eq_true rfl) dX11_readWare_102 (fun u_17 hw_18 => ?_)
    refine j_eq (ws2 := [(mhasHabit, .inl (cyZ, 12, .inl m_hasHabit)), (mtold, .inl (cyI, 240, .inl f_15)), (mnames, .inl (cyJ, 16, .inr (.inl m_names))), (m0, .inr (11, [.int m_thrown, .ref mtape, .int m_taped, .int m_size, .ref msort, .ref mplace, .ref mvalue, .int (u_17.2.1 1), .int (u_17.2.1 2), .ref mwords, .ref mtold, .ref mop, .ref marg, .int m_codes, .ref mnames, .ref mhasHabit, .int m_isNew, .ref mfactWords, .ref mfacts, .ref mpile, .ref mstates, .ref misMarked, .int m_inShelf, .int m_inStack, .int m_inPlace, .ref mrow, .int m_rowMany, .ref mthr, .ref mmays, .ref mtall, .ref mweights, .ref mrowOfWare, .ref mneededOf, .int m_goShelf, .int m_goStack, .int m_goLeft, .ref mtried, .ref mbestRow, .int m_bestCost, .int m_bestMany, .int m_bestShelf, .int m_bestSet, .ref mdigits])), (msort, .inl (cyI, 1002, .inl m_sort)), (mplace, .inl (cyI, 1002, .inl m_place)), (mvalue, .inl (cyJ, 1002, .inr (.inl m_value))), (mwords, .inl (cyJ, 23, .inr (.inl m_words)))]) (pc2 := 105) (lv2 := [(5, .int v_7), (3, .long (u_4.2.2.2 0 0)), (2, .int v_1), (0, .ref m0), (1, .int 0)]) (st2 := [.int (u_17.2.1 0), .int v_16, .ref mtold]) rfl rfl rfl rfl ?_
    obtain ⟨hw_18_0, hw_18_1, hw_18_2, hw_18_3, hw_18_4, hw_18_5, hw_18_6⟩ := hw_18
    have el_8 : (8 : Int32).toInt = 8 := rfl
    have el_1 : (1 : Int32).toInt = 1 := rfl
    have el_99 : (99 : Int32).toInt = 99 := rfl
    obtain ⟨f_19, ef_19⟩ : ∃ z, z = upd f_15 (v_16).toInt.toNat (u_17.2.1 0) := ⟨_, rfl⟩
    have hf_19 : TV f_19 := by rw [ef_19]; exact TV.upd hf_15 (by omega) (Int.le_trans (show _ ≤ (999 : Int) from (by omega)) (hiT_k (by omega)))
    refine j_iast (pc := 105) (k := (v_16).toInt.toNat) (ws' := [(mhasHabit, .inl (cyZ, 12, .inl m_hasHabit)), (mtold, .inl (cyI, 240, .inl f_19)), (mnames, .inl (cyJ, 16, .inr (.inl m_names))), (m0, .inr (11, [.int m_thrown, .ref mtape, .int m_taped, .int m_size, .ref msort, .ref mplace, .ref mvalue, .int (u_17.2.1 1), .int (u_17.2.1 2), .ref mwords, .ref mtold, .ref mop, .ref marg, .int m_codes, .ref mnames, .ref mhasHabit, .int m_isNew, .ref mfactWords, .ref mfacts, .ref mpile, .ref mstates, .ref misMarked, .int m_inShelf, .int m_inStack, .int m_inPlace, .ref mrow, .int m_rowMany, .ref mthr, .ref mmays, .ref mtall, .ref mweights, .ref mrowOfWare, .ref mneededOf, .int m_goShelf, .int m_goStack, .int m_goLeft, .ref mtried, .ref mbestRow, .int m_bestCost, .int m_bestMany, .int m_bestShelf, .int m_bestSet, .ref mdigits])), (msort, .inl (cyI, 1002, .inl m_sort)), (mplace, .inl (cyI, 1002, .inl m_place)), (mvalue, .inl (cyJ, 1002, .inr (.inl m_value))), (mwords, .inl (cyJ, 23, .inr (.inl m_words)))]) C 1 1 rfl rfl (i_nn (by omega)) rfl (i_lt_n (by omega) (by omega)) dX11_readWare_105 (by rw [ef_19]; rfl) ?_
    refine j_aload_n (pc := 106) C dX11_readWare_106 rfl 3 rfl ?_
    refine j_get (pc := 107) (ci := 11) (v := .ref mtold) C inw_11 3 rfl rfl 10 (by decide) wd_669 rfl rfl dX11_readWare_107 ?_
    refine j_iload (pc := 110) C dX11_readWare_110 0 rfl ?_
    refine j_iconst (pc := 112) (v := 3) C dX11_readWare_112 (by decide) ?_
    obtain ⟨v_20, ev_20⟩ : ∃ z : Int32, v_7 + 3 = z := ⟨_, rfl⟩
    have el_3 : (3 : Int32).toInt = 3 := rfl
    have hv_20 : v_20.toInt = v_7.toInt + (3 : Int32).toInt := by rw [← ev_20]; exact fb_addI (by omega) (by omega)
    refine j_iadd (pc := 113) (v := v_20) C dX11_readWare_113 ev_20 ?_
    refine j_iload_n (pc := 114) C dX11_readWare_114 rfl 4 rfl ?_
    refine j_if_eq_t (pc := 115) (tgt := 122) C dX11_readWare_115 (by decide) (by decide) ?_
    refine j_aload_n (pc := 122) C dX11_readWare_122 rfl 3 rfl ?_
    refine j_bipush (pc := 123) (v := 9) C dX11_readWare_123 (by decide) ?_
    refine j_iconst (pc := 125) (v := 0) C dX11_readWare_125 (by decide) ?_
    refine j_sipush (pc := 126) (v := 999) C dX11_readWare_126 (by decide) ?_
    refine j_callV (pc := 129) (As := [.int 9, .int 0, .int 999]) (rest := [.int v_20, .ref mtold]) (wr := [(mhasHabit, .inl (cyZ, 12, .inl m_hasHabit)), (mtold, .inl (cyI, 240, .inl f_19)), (mnames, .inl (cyJ, 16, .inr (.inl m_names)))]) C (c_X11_takeAfter l D cyC cyI cyJ cyZ cyO m0 msort mplace mvalue mwords mtape mtold mop marg mnames mhasHabit mfactWords mfacts mpile mstates misMarked mrow mthr mmays mtall mweights mrowOfWare mneededOf mtried mbestRow mdigits 9 0 999 m_thrown m_taped m_size (u_17.2.1 1) (u_17.2.1 2) m_codes m_isNew m_inShelf m_inStack m_inPlace m_rowMany m_goShelf m_goStack m_goLeft m_bestCost m_bestMany m_bestShelf m_bestSet m_sort m_place m_value m_words T (by omega) (by omega) (by omega) (by omega) (by omega) (by omega) (by omega) (by omega) (by omega) (by omega) (by omega) (by omega) (by omega) (by decide) h_m_place (by omega) (by omega) hRT hWO) wd_691 wd_624 wd_692 wd_693 wd_694 ⟨by decide, by decide, rfl⟩ rfl ⟨rfl, rfl, by decide, by decide⟩ ⟨by decide, by decide⟩ [3, 4, 5, 6, 7] [0, 1, 2] rfl rfl ⟨by decide, by decide, by decide⟩ 3 rfl rfl rfl (Nat.le_of_ble_eq_true rfl) dX11_readWare_129 (fun u_21 hw_22 => ?_)
    refine j_eq (ws2 := [(mhasHabit, .inl (cyZ, 12, .inl m_hasHabit)), (mtold, .inl (cyI, 240, .inl f_19)), (mnames, .inl (cyJ, 16, .inr (.inl m_names))), (m0, .inr (11, [.int m_thrown, .ref mtape, .int m_taped, .int m_size, .ref msort, .ref mplace, .ref mvalue, .int (u_21.2.1 1), .int (u_21.2.1 2), .ref mwords, .ref mtold, .ref mop, .ref marg, .int m_codes, .ref mnames, .ref mhasHabit, .int m_isNew, .ref mfactWords, .ref mfacts, .ref mpile, .ref mstates, .ref misMarked, .int m_inShelf, .int m_inStack, .int m_inPlace, .ref mrow, .int m_rowMany, .ref mthr, .ref mmays, .ref mtall, .ref mweights, .ref mrowOfWare, .ref mneededOf, .int m_goShelf, .int m_goStack, .int m_goLeft, .ref mtried, .ref mbestRow, .int m_bestCost, .int m_bestMany, .int m_bestShelf, .int m_bestSet, .ref mdigits])), (msort, .inl (cyI, 1002, .inl m_sort)), (mplace, .inl (cyI, 1002, .inl m_place)), (mvalue, .inl (cyJ, 1002, .inr (.inl m_value))), (mwords, .inl (cyJ, 23, .inr (.inl m_words)))]) (pc2 := 132) (lv2 := [(5, .int v_7), (3, .long (u_4.2.2.2 0 0)), (2, .int v_1), (0, .ref m0), (1, .int 0)]) (st2 := [.int (u_21.2.1 0), .int v_20, .ref mtold]) rfl rfl rfl rfl ?_
    obtain ⟨hw_22_0, hw_22_1, hw_22_2, hw_22_3, hw_22_4, hw_22_5, hw_22_6⟩ := hw_22
    have el_9 : (9 : Int32).toInt = 9 := rfl
    have el_0 : (0 : Int32).toInt = 0 := rfl
    have el_999 : (999 : Int32).toInt = 999 := rfl
    obtain ⟨f_23, ef_23⟩ : ∃ z, z = upd f_19 (v_20).toInt.toNat (u_21.2.1 0) := ⟨_, rfl⟩
    have hf_23 : TV f_23 := by rw [ef_23]; exact TV.upd hf_19 (by omega) (Int.le_trans (show _ ≤ (999 : Int) from (by omega)) (hiT_k (by omega)))
    refine j_iast (pc := 132) (k := (v_20).toInt.toNat) (ws' := [(mhasHabit, .inl (cyZ, 12, .inl m_hasHabit)), (mtold, .inl (cyI, 240, .inl f_23)), (mnames, .inl (cyJ, 16, .inr (.inl m_names))), (m0, .inr (11, [.int m_thrown, .ref mtape, .int m_taped, .int m_size, .ref msort, .ref mplace, .ref mvalue, .int (u_21.2.1 1), .int (u_21.2.1 2), .ref mwords, .ref mtold, .ref mop, .ref marg, .int m_codes, .ref mnames, .ref mhasHabit, .int m_isNew, .ref mfactWords, .ref mfacts, .ref mpile, .ref mstates, .ref misMarked, .int m_inShelf, .int m_inStack, .int m_inPlace, .ref mrow, .int m_rowMany, .ref mthr, .ref mmays, .ref mtall, .ref mweights, .ref mrowOfWare, .ref mneededOf, .int m_goShelf, .int m_goStack, .int m_goLeft, .ref mtried, .ref mbestRow, .int m_bestCost, .int m_bestMany, .int m_bestShelf, .int m_bestSet, .ref mdigits])), (msort, .inl (cyI, 1002, .inl m_sort)), (mplace, .inl (cyI, 1002, .inl m_place)), (mvalue, .inl (cyJ, 1002, .inr (.inl m_value))), (mwords, .inl (cyJ, 23, .inr (.inl m_words)))]) C 1 1 rfl rfl (i_nn (by omega)) rfl (i_lt_n (by omega) (by omega)) dX11_readWare_132 (by rw [ef_23]; rfl) ?_
    refine j_aload_n (pc := 133) C dX11_readWare_133 rfl 3 rfl ?_
    refine j_get (pc := 134) (ci := 11) (v := .ref mtold) C inw_11 3 rfl rfl 10 (by decide) wd_669 rfl rfl dX11_readWare_134 ?_
    refine j_iload (pc := 137) C dX11_readWare_137 0 rfl ?_
    refine j_iconst (pc := 139) (v := 4) C dX11_readWare_139 (by decide) ?_
    obtain ⟨v_24, ev_24⟩ : ∃ z : Int32, v_7 + 4 = z := ⟨_, rfl⟩
    have el_4 : (4 : Int32).toInt = 4 := rfl
    have hv_24 : v_24.toInt = v_7.toInt + (4 : Int32).toInt := by rw [← ev_24]; exact fb_addI (by omega) (by omega)
    refine j_iadd (pc := 140) (v := v_24) C dX11_readWare_140 ev_24 ?_
    refine j_aload_n (pc := 141) C dX11_readWare_141 rfl 3 rfl ?_
    refine j_bipush (pc := 142) (v := 10) C dX11_readWare_142 (by decide) ?_
    refine j_iconst (pc := 144) (v := 0) C dX11_readWare_144 (by decide) ?_
    refine j_bipush (pc := 145) (v := 99) C dX11_readWare_145 (by decide) ?_
    refine j_callV (pc := 147) (As := [.int 10, .int 0, .int 99]) (rest := [.int v_24, .ref mtold]) (wr := [(mhasHabit, .inl (cyZ, 12, .inl m_hasHabit)), (mtold, .inl (cyI, 240, .inl f_23)), (mnames, .inl (cyJ, 16, .inr (.inl m_names)))]) C (c_X11_takeAfter l D cyC cyI cyJ cyZ cyO m0 msort mplace mvalue mwords mtape mtold mop marg mnames mhasHabit mfactWords mfacts mpile mstates misMarked mrow mthr mmays mtall mweights mrowOfWare mneededOf mtried mbestRow mdigits 10 0 99 m_thrown m_taped m_size (u_21.2.1 1) (u_21.2.1 2) m_codes m_isNew m_inShelf m_inStack m_inPlace m_rowMany m_goShelf m_goStack m_goLeft m_bestCost m_bestMany m_bestShelf m_bestSet m_sort m_place m_value m_words T (by omega) (by omega) (by omega) (by omega) (by omega) (by omega) (by omega) (by omega) (by omega) (by omega) (by omega) (by omega) (by omega) (by decide) h_m_place (by omega) (by omega) hRT hWO) wd_691 wd_624 wd_692 wd_693 wd_694 ⟨by decide, by decide, rfl⟩ rfl ⟨rfl, rfl, by decide, by decide⟩ ⟨by decide, by decide⟩ [3, 4, 5, 6, 7] [0, 1, 2] rfl rfl ⟨by decide, by decide, by decide⟩ 3 rfl rfl rfl (Nat.le_of_ble_eq_true rfl) dX11_readWare_147 (fun u_25 hw_26 => ?_)
    refine j_eq (ws2 := [(mhasHabit, .inl (cyZ, 12, .inl m_hasHabit)), (mtold, .inl (cyI, 240, .inl f_23)), (mnames, .inl (cyJ, 16, .inr (.inl m_names))), (m0, .inr (11, [.int m_thrown, .ref mtape, .int m_taped, .int m_size, .ref msort, .ref mplace, .ref mvalue, .int (u_25.2.1 1), .int (u_25.2.1 2), .ref mwords, .ref mtold, .ref mop, .ref marg, .int m_codes, .ref mnames, .ref mhasHabit, .int m_isNew, .ref mfactWords, .ref mfacts, .ref mpile, .ref mstates, .ref misMarked, .int m_inShelf, .int m_inStack, .int m_inPlace, .ref mrow, .int m_rowMany, .ref mthr, .ref mmays, .ref mtall, .ref mweights, .ref mrowOfWare, .ref mneededOf, .int m_goShelf, .int m_goStack, .int m_goLeft, .ref mtried, .ref mbestRow, .int m_bestCost, .int m_bestMany, .int m_bestShelf, .int m_bestSet, .ref mdigits])), (msort, .inl (cyI, 1002, .inl m_sort)), (mplace, .inl (cyI, 1002, .inl m_place)), (mvalue, .inl (cyJ, 1002, .inr (.inl m_value))), (mwords, .inl (cyJ, 23, .inr (.inl m_words)))]) (pc2 := 150) (lv2 := [(5, .int v_7), (3, .long (u_4.2.2.2 0 0)), (2, .int v_1), (0, .ref m0), (1, .int 0)]) (st2 := [.int (u_25.2.1 0), .int v_24, .ref mtold]) rfl rfl rfl rfl ?_
    obtain ⟨hw_26_0, hw_26_1, hw_26_2, hw_26_3, hw_26_4, hw_26_5, hw_26_6⟩ := hw_26
    have el_10 : (10 : Int32).toInt = 10 := rfl
    have el_0 : (0 : Int32).toInt = 0 := rfl
    have el_99 : (99 : Int32).toInt = 99 := rfl
    obtain ⟨f_27, ef_27⟩ : ∃ z, z = upd f_23 (v_24).toInt.toNat (u_25.2.1 0) := ⟨_, rfl⟩
    have hf_27 : TV f_27 := by rw [ef_27]; exact TV.upd hf_23 (by omega) (Int.le_trans (show _ ≤ (999 : Int) from (by omega)) (hiT_k (by omega)))
    refine j_iast (pc := 150) (k := (v_24).toInt.toNat) (ws' := [(mhasHabit, .inl (cyZ, 12, .inl m_hasHabit)), (mtold, .inl (cyI, 240, .inl f_27)), (mnames, .inl (cyJ, 16, .inr (.inl m_names))), (m0, .inr (11, [.int m_thrown, .ref mtape, .int m_taped, .int m_size, .ref msort, .ref mplace, .ref mvalue, .int (u_25.2.1 1), .int (u_25.2.1 2), .ref mwords, .ref mtold, .ref mop, .ref marg, .int m_codes, .ref mnames, .ref mhasHabit, .int m_isNew, .ref mfactWords, .ref mfacts, .ref mpile, .ref mstates, .ref misMarked, .int m_inShelf, .int m_inStack, .int m_inPlace, .ref mrow, .int m_rowMany, .ref mthr, .ref mmays, .ref mtall, .ref mweights, .ref mrowOfWare, .ref mneededOf, .int m_goShelf, .int m_goStack, .int m_goLeft, .ref mtried, .ref mbestRow, .int m_bestCost, .int m_bestMany, .int m_bestShelf, .int m_bestSet, .ref mdigits])), (msort, .inl (cyI, 1002, .inl m_sort)), (mplace, .inl (cyI, 1002, .inl m_place)), (mvalue, .inl (cyJ, 1002, .inr (.inl m_value))), (mwords, .inl (cyJ, 23, .inr (.inl m_words)))]) C 1 1 rfl rfl (i_nn (by omega)) rfl (i_lt_n (by omega) (by omega)) dX11_readWare_150 (by rw [ef_27]; rfl) ?_
    refine j_aload_n (pc := 151) C dX11_readWare_151 rfl 3 rfl ?_
    refine j_get (pc := 152) (ci := 11) (v := .ref mtold) C inw_11 3 rfl rfl 10 (by decide) wd_669 rfl rfl dX11_readWare_152 ?_
    refine j_iload (pc := 155) C dX11_readWare_155 0 rfl ?_
    refine j_bipush (pc := 157) (v := 6) C dX11_readWare_157 (by decide) ?_
    obtain ⟨v_28, ev_28⟩ : ∃ z : Int32, v_7 + 6 = z := ⟨_, rfl⟩
    have el_6 : (6 : Int32).toInt = 6 := rfl
    have hv_28 : v_28.toInt = v_7.toInt + (6 : Int32).toInt := by rw [← ev_28]; exact fb_addI (by omega) (by omega)
    refine j_iadd (pc := 159) (v := v_28) C dX11_readWare_159 ev_28 ?_
    refine j_iload_n (pc := 160) C dX11_readWare_160 rfl 4 rfl ?_
    refine j_if_eq_t (pc := 161) (tgt := 168) C dX11_readWare_161 (by decide) (by decide) ?_
    refine j_iconst (pc := 168) (v := 0) C dX11_readWare_168 (by decide) ?_
    obtain ⟨f_29, ef_29⟩ : ∃ z, z = upd f_27 (v_28).toInt.toNat 0 := ⟨_, rfl⟩
    have el_0 : (0 : Int32).toInt = 0 := rfl
    have hf_29 : TV f_29 := by rw [ef_29]; exact TV.upd hf_27 (by omega) (Int.le_trans (show _ ≤ (999 : Int) from (by omega)) (hiT_k (by omega)))
    refine j_iast (pc := 169) (k := (v_28).toInt.toNat) (ws' := [(mhasHabit, .inl (cyZ, 12, .inl m_hasHabit)), (mtold, .inl (cyI, 240, .inl f_29)), (mnames, .inl (cyJ, 16, .inr (.inl m_names))), (m0, .inr (11, [.int m_thrown, .ref mtape, .int m_taped, .int m_size, .ref msort, .ref mplace, .ref mvalue, .int (u_25.2.1 1), .int (u_25.2.1 2), .ref mwords, .ref mtold, .ref mop, .ref marg, .int m_codes, .ref mnames, .ref mhasHabit, .int m_isNew, .ref mfactWords, .ref mfacts, .ref mpile, .ref mstates, .ref misMarked, .int m_inShelf, .int m_inStack, .int m_inPlace, .ref mrow, .int m_rowMany, .ref mthr, .ref mmays, .ref mtall, .ref mweights, .ref mrowOfWare, .ref mneededOf, .int m_goShelf, .int m_goStack, .int m_goLeft, .ref mtried, .ref mbestRow, .int m_bestCost, .int m_bestMany, .int m_bestShelf, .int m_bestSet, .ref mdigits])), (msort, .inl (cyI, 1002, .inl m_sort)), (mplace, .inl (cyI, 1002, .inl m_place)), (mvalue, .inl (cyJ, 1002, .inr (.inl m_value))), (mwords, .inl (cyJ, 23, .inr (.inl m_words)))]) C 1 1 rfl rfl (i_nn (by omega)) rfl (i_lt_n (by omega) (by omega)) dX11_readWare_169 (by rw [ef_29]; rfl) ?_
    refine j_aload_n (pc := 170) C dX11_readWare_170 rfl 3 rfl ?_
    refine j_get (pc := 171) (ci := 11) (v := .ref mnames) C inw_11 3 rfl rfl 14 (by decide) wd_670 rfl rfl dX11_readWare_171 ?_
    refine j_iload_n (pc := 174) C dX11_readWare_174 rfl 2 rfl ?_
    refine j_lload_n (pc := 175) C dX11_readWare_175 rfl 1 rfl ?_
    obtain ⟨f_30, ef_30⟩ : ∃ z, z = vp_updL m_names (v_1).toInt.toNat (u_4.2.2.2 0 0) := ⟨_, rfl⟩
    refine j_last (pc := 176) (k := (v_1).toInt.toNat) (ws' := [(mhasHabit, .inl (cyZ, 12, .inl m_hasHabit)), (mtold, .inl (cyI, 240, .inl f_29)), (mnames, .inl (cyJ, 16, .inr (.inl f_30))), (m0, .inr (11, [.int m_thrown, .ref mtape, .int m_taped, .int m_size, .ref msort, .ref mplace, .ref mvalue, .int (u_25.2.1 1), .int (u_25.2.1 2), .ref mwords, .ref mtold, .ref mop, .ref marg, .int m_codes, .ref mnames, .ref mhasHabit, .int m_isNew, .ref mfactWords, .ref mfacts, .ref mpile, .ref mstates, .ref misMarked, .int m_inShelf, .int m_inStack, .int m_inPlace, .ref mrow, .int m_rowMany, .ref mthr, .ref mmays, .ref mtall, .ref mweights, .ref mrowOfWare, .ref mneededOf, .int m_goShelf, .int m_goStack, .int m_goLeft, .ref mtried, .ref mbestRow, .int m_bestCost, .int m_bestMany, .int m_bestShelf, .int m_bestSet, .ref mdigits])), (msort, .inl (cyI, 1002, .inl m_sort)), (mplace, .inl (cyI, 1002, .inl m_place)), (mvalue, .inl (cyJ, 1002, .inr (.inl m_value))), (mwords, .inl (cyJ, 23, .inr (.inl m_words)))]) C 2 2 rfl rfl (i_nn (by omega)) rfl (i_lt_n (by omega) (by omega)) dX11_readWare_176 (by rw [ef_30]; rfl) ?_
    refine j_aload_n (pc := 177) C dX11_readWare_177 rfl 3 rfl ?_
    refine j_get (pc := 178) (ci := 11) (v := .ref mtold) C inw_11 3 rfl rfl 10 (by decide) wd_669 rfl rfl dX11_readWare_178 ?_
    refine j_bipush (pc := 181) (v := 120) C dX11_readWare_181 (by decide) ?_
    refine j_dup2 (pc := 183) C dX11_readWare_183 rfl rfl ?_
    obtain ⟨v_31, ev_31⟩ : ∃ z, f_29 120 = z := ⟨_, rfl⟩
    have qv_31 : v_31 = v_1 := by rw [← ev_31]; exact (by rw [ef_29, pk_un (show ¬ 120 = (v_28).toInt.toNat from (by omega))]; exact (by rw [ef_27, pk_un (show ¬ 120 = (v_24).toInt.toNat from (by omega))]; exact (by rw [ef_23, pk_un (show ¬ 120 = (v_20).toInt.toNat from (by omega))]; exact (by rw [ef_19, pk_un (show ¬ 120 = (v_16).toInt.toNat from (by omega))]; exact (by rw [ef_15, pk_un (show ¬ 120 = (v_12).toInt.toNat from (by omega))]; exact (by rw [ef_11, pk_un (show ¬ 120 = (v_8).toInt.toNat from (by omega))]; exact ev_1))))))
    have env_31 : v_31.toInt = (v_1).toInt := by rw [qv_31]
    refine j_iald (pc := 184) (v := v_31) (k := 120) C 1 1 rfl rfl (by decide) (by decide) (by decide) ev_31 dX11_readWare_184 ?_
    refine j_iconst (pc := 185) (v := 1) C dX11_readWare_185 (by decide) ?_
    obtain ⟨v_32, ev_32⟩ : ∃ z : Int32, v_31 + 1 = z := ⟨_, rfl⟩
    have el_1 : (1 : Int32).toInt = 1 := rfl
    have hv_32 : v_32.toInt = v_31.toInt + (1 : Int32).toInt := by rw [← ev_32]; exact fb_addI (by omega) (by omega)
    refine j_iadd (pc := 186) (v := v_32) C dX11_readWare_186 ev_32 ?_
    obtain ⟨f_33, ef_33⟩ : ∃ z, z = upd f_29 120 v_32 := ⟨_, rfl⟩
    have hf_33 : TV f_33 := by rw [ef_33]; exact TV.upd hf_29 (by omega) (show _ ≤ (12 : Int) from (by omega))
    refine j_iast (pc := 187) (k := 120) (ws' := [(mhasHabit, .inl (cyZ, 12, .inl m_hasHabit)), (mtold, .inl (cyI, 240, .inl f_33)), (mnames, .inl (cyJ, 16, .inr (.inl f_30))), (m0, .inr (11, [.int m_thrown, .ref mtape, .int m_taped, .int m_size, .ref msort, .ref mplace, .ref mvalue, .int (u_25.2.1 1), .int (u_25.2.1 2), .ref mwords, .ref mtold, .ref mop, .ref marg, .int m_codes, .ref mnames, .ref mhasHabit, .int m_isNew, .ref mfactWords, .ref mfacts, .ref mpile, .ref mstates, .ref misMarked, .int m_inShelf, .int m_inStack, .int m_inPlace, .ref mrow, .int m_rowMany, .ref mthr, .ref mmays, .ref mtall, .ref mweights, .ref mrowOfWare, .ref mneededOf, .int m_goShelf, .int m_goStack, .int m_goLeft, .ref mtried, .ref mbestRow, .int m_bestCost, .int m_bestMany, .int m_bestShelf, .int m_bestSet, .ref mdigits])), (msort, .inl (cyI, 1002, .inl m_sort)), (mplace, .inl (cyI, 1002, .inl m_place)), (mvalue, .inl (cyJ, 1002, .inr (.inl m_value))), (mwords, .inl (cyJ, 23, .inr (.inl m_words)))]) C 1 1 rfl rfl (by decide) (by decide) (by decide) dX11_readWare_187 (by rw [ef_33]; rfl) ?_
    exact j_vret (pc := 188) C hr hk (fun i => [].getD i 0, fun i => [(u_25.2.1 1), (u_25.2.1 2)].getD i 0, fun i => [f_33].getD i (fun _ => 0), fun i => [f_30].getD i (fun _ => 0)) rfl (show (0 ≤ ((u_25.2.1 1)).toInt ∧ ((u_25.2.1 1)).toInt ≤ 1000) ∧ (0 ≤ ((u_25.2.1 2)).toInt ∧ ((u_25.2.1 2)).toInt ≤ 16005) ∧ (TV f_33) ∧ ((m_at).toInt ≤ ((u_25.2.1 1)).toInt) ∧ (((u_25.2.1 1)).toInt ≤ ((eN m_sort : Nat) : Int)) ∧ ((m_fault).toInt = 0 ∨ ¬ ((u_25.2.1 2)).toInt = 0) ∧ (∀ j : Nat, (j < 120 ∨ j = 122 ∨ 231 ≤ j) → f_33 j = m_told j) ∧ (RP m_place (m_fault).toInt (m_at).toInt ((u_25.2.1 2)).toInt ((u_25.2.1 1)).toInt (rBowl T S)) ∧ (((u_25.2.1 2)).toInt = 0 → MRb f_30 f_33 m_hasHabit (sWare T S (m_place (m_at).toInt.toNat).toInt.toNat)) from ⟨by omega, by omega, hf_33, by omega, by omega, by omega, (fun j hj => by rw [ef_33, pk_un (show ¬ j = 120 from (by omega)), ef_29, pk_un (show ¬ j = (v_28).toInt.toNat from (by omega)), ef_27, pk_un (show ¬ j = (v_24).toInt.toNat from (by omega)), ef_23, pk_un (show ¬ j = (v_20).toInt.toNat from (by omega)), ef_19, pk_un (show ¬ j = (v_16).toInt.toNat from (by omega)), ef_15, pk_un (show ¬ j = (v_12).toInt.toNat from (by omega)), ef_11, pk_un (show ¬ j = (v_8).toInt.toNat from (by omega))]), ((RP.bind (RP.bind (RP.bind (RP.bind (RP.bind (RP.nx (RP.go (fa := (m_fault).toInt) (fa' := (m_fault).toInt) (at' := (v_3).toInt) (g := fun p => (nx T p, 0)) hRT (by omega) (by omega) rfl (by omega) (fun z => rfl)) hw_5_5) hw_10_6) hw_14_6) hw_18_6) hw_22_6) hw_26_6).mv (fun z => by have c1 := hMR.1.1.1; unfold rBowl; rw [if_neg (by omega)]; rfl)), (fun hz => MRb.ware (n := (v_1).toInt.toNat) hMR (by omega) (by rw [ef_33, pk_us]; omega) (fun j hj => by rw [ef_33, pk_un (show ¬ j = 120 from (by omega)), ef_29, pk_un (show ¬ j = (v_28).toInt.toNat from (by omega)), ef_27, pk_un (show ¬ j = (v_24).toInt.toNat from (by omega)), ef_23, pk_un (show ¬ j = (v_20).toInt.toNat from (by omega)), ef_19, pk_un (show ¬ j = (v_16).toInt.toNat from (by omega)), ef_15, pk_un (show ¬ j = (v_12).toInt.toNat from (by omega)), ef_11, pk_un (show ¬ j = (v_8).toInt.toNat from (by omega))]) ef_30 (by rw [hw_5_6 (by omega), (show (m_place (v_3).toInt.toNat).toInt.toNat = nx T (m_place (m_at).toInt.toNat).toInt.toNat from (by have z8 := (hRT (m_at).toInt.toNat (by omega)).2.2 (by omega); rw [show (v_3).toInt.toNat = (m_at).toInt.toNat + 1 from (by omega)]; show _ = (T (m_place (m_at).toInt.toNat).toInt.toNat).2.2; omega))]) (by omega))⟩) [3, 4, 5, 6, 7, 1, 2, 0] (by decide) rfl (by decide) (by decide) dX11_readWare_188
  · skip
    have el_12 : (12 : Int32).toInt = 12 := rfl
    rw [i_eq] at c_2
    refine j_aload_n (pc := 14) C dX11_readWare_14 rfl 1 rfl ?_
    refine j_iconst (pc := 15) (v := 5) C dX11_readWare_15 (by decide) ?_
    refine j_callV (pc := 16) (As := [.int 5]) (rest := []) (wr := [(msort, .inl (cyI, 1002, .inl m_sort)), (mvalue, .inl (cyJ, 1002, .inr (.inl m_value))), (mwords, .inl (cyJ, 23, .inr (.inl m_words))), (mtold, .inl (cyI, 240, .inl m_told)), (mnames, .inl (cyJ, 16, .inr (.inl m_names))), (mhasHabit, .inl (cyZ, 12, .inl m_hasHabit))]) C (c_X11_wrong l D cyC cyI cyJ cyZ cyO m0 mplace mtape msort mvalue mwords mtold mop marg mnames mhasHabit mfactWords mfacts mpile mstates misMarked mrow mthr mmays mtall mweights mrowOfWare mneededOf mtried mbestRow mdigits 5 m_thrown m_taped m_size m_at m_fault m_codes m_isNew m_inShelf m_inStack m_inPlace m_rowMany m_goShelf m_goStack m_goLeft m_bestCost m_bestMany m_bestShelf m_bestSet m_place (by omega) (by omega) (by omega) (by omega) (by omega) (by omega) (by omega) (by omega) (by omega) (by omega) (by omega) (by omega) (by omega) (by decide) h_m_place) wd_657 wd_624 wd_658 wd_659 wd_660 ⟨by decide, by decide, rfl⟩ rfl ⟨rfl, rfl, by decide, by decide⟩ ⟨by decide, by decide⟩ [0, 2] [1, 3, 4, 5, 6, 7] rfl rfl ⟨by decide, by decide, by decide⟩ 0 rfl rfl rfl (Nat.le_of_ble_eq_true rfl) dX11_readWare_16 (fun u_34 hw_35 => ?_)
    refine j_eq (ws2 := [(msort, .inl (cyI, 1002, .inl m_sort)), (mvalue, .inl (cyJ, 1002, .inr (.inl m_value))), (mwords, .inl (cyJ, 23, .inr (.inl m_words))), (mtold, .inl (cyI, 240, .inl m_told)), (mnames, .inl (cyJ, 16, .inr (.inl m_names))), (mhasHabit, .inl (cyZ, 12, .inl m_hasHabit)), (m0, .inr (11, [.int m_thrown, .ref mtape, .int m_taped, .int m_size, .ref msort, .ref mplace, .ref mvalue, .int m_at, .int (u_34.2.1 0), .ref mwords, .ref mtold, .ref mop, .ref marg, .int m_codes, .ref mnames, .ref mhasHabit, .int m_isNew, .ref mfactWords, .ref mfacts, .ref mpile, .ref mstates, .ref misMarked, .int m_inShelf, .int m_inStack, .int m_inPlace, .ref mrow, .int m_rowMany, .ref mthr, .ref mmays, .ref mtall, .ref mweights, .ref mrowOfWare, .ref mneededOf, .int m_goShelf, .int m_goStack, .int m_goLeft, .ref mtried, .ref mbestRow, .int m_bestCost, .int m_bestMany, .int m_bestShelf, .int m_bestSet, .ref mdigits])), (mplace, .inl (cyI, 1002, .inl m_place))]) (pc2 := 19) (lv2 := [(2, .int v_1), (0, .ref m0), (1, .int 0)]) (st2 := []) rfl rfl rfl rfl ?_
    obtain ⟨hw_35_0, hw_35_1, hw_35_2⟩ := hw_35
    have el_5 : (5 : Int32).toInt = 5 := rfl
    exact j_vret (pc := 19) C hr hk (fun i => [].getD i 0, fun i => [m_at, (u_34.2.1 0)].getD i 0, fun i => [m_told].getD i (fun _ => 0), fun i => [m_names].getD i (fun _ => 0)) rfl (show (0 ≤ (m_at).toInt ∧ (m_at).toInt ≤ 1000) ∧ (0 ≤ ((u_34.2.1 0)).toInt ∧ ((u_34.2.1 0)).toInt ≤ 16005) ∧ (TV m_told) ∧ ((m_at).toInt ≤ (m_at).toInt) ∧ ((m_at).toInt ≤ ((eN m_sort : Nat) : Int)) ∧ ((m_fault).toInt = 0 ∨ ¬ ((u_34.2.1 0)).toInt = 0) ∧ (∀ j : Nat, (j < 120 ∨ j = 122 ∨ 231 ≤ j) → m_told j = m_told j) ∧ (RP m_place (m_fault).toInt (m_at).toInt ((u_34.2.1 0)).toInt (m_at).toInt (rBowl T S)) ∧ (((u_34.2.1 0)).toInt = 0 → MRb m_names m_told m_hasHabit (sWare T S (m_place (m_at).toInt.toNat).toInt.toNat)) from ⟨by omega, by omega, h_m_told, by omega, by omega, by omega, (fun j hj => rfl), (RP.wr 5 (fun z => by have z9 := hw_35_1 z; omega) (fun z => by have z9 := hw_35_2 z; omega) (h_m_place (m_at).toInt.toNat (by omega)).1 (by decide) (fun z => by have c1 := hMR.1.1.1; unfold rBowl; rw [if_pos (by omega)])), (fun h => absurd h (by omega))⟩) [6, 0, 7, 1, 2, 3, 4, 5] (by decide) rfl (by decide) (by decide) dX11_readWare_19
set_option maxHeartbeats 4000000 in
set_option maxRecDepth 100000 in
theorem c_X11_readWare_1 (l : Launch) (D : DG) (cyC cyI cyJ cyZ cyO : ClassId) (m0 : Nat) (msort : Nat) (mplace : Nat) (mvalue : Nat) (mwords : Nat) (mtold : Nat) (mnames : Nat) (mhasHabit : Nat) (mtape : Nat) (mop : Nat) (marg : Nat) (mfactWords : Nat) (mfacts : Nat) (mpile : Nat) (mstates : Nat) (misMarked : Nat) (mrow : Nat) (mthr : Nat) (mmays : Nat) (mtall : Nat) (mweights : Nat) (mrowOfWare : Nat) (mneededOf : Nat) (mtried : Nat) (mbestRow : Nat) (mdigits : Nat) (m_thrown : Int32) (m_taped : Int32) (m_size : Int32) (m_at : Int32) (m_fault : Int32) (m_codes : Int32) (m_isNew : Int32) (m_inShelf : Int32) (m_inStack : Int32) (m_inPlace : Int32) (m_rowMany : Int32) (m_goShelf : Int32) (m_goStack : Int32) (m_goLeft : Int32) (m_bestCost : Int32) (m_bestMany : Int32) (m_bestShelf : Int32) (m_bestSet : Int32) (m_sort : Nat → Int32) (m_place : Nat → Int32) (m_value : Nat → Int64) (m_words : Nat → Int64) (m_told : Nat → Int32) (m_names : Nat → Int64) (m_hasHabit : Nat → Int32) (T : Nat → Int × Int64 × Nat) (S : ((Nat → Int64) × Nat × (Nat → Int64) × Nat × (Nat → Bool) × (Nat → Bool) × Nat)) (h_m_taped : 0 ≤ (m_taped).toInt ∧ (m_taped).toInt ≤ 1000) (h_m_size : 0 ≤ (m_size).toInt ∧ (m_size).toInt ≤ 1000) (h_m_at : 0 ≤ (m_at).toInt ∧ (m_at).toInt ≤ 1000) (h_m_fault : 0 ≤ (m_fault).toInt ∧ (m_fault).toInt ≤ 16005) (h_m_codes : 0 ≤ (m_codes).toInt ∧ (m_codes).toInt ≤ 1000) (h_m_isNew : 0 ≤ (m_isNew).toInt ∧ (m_isNew).toInt ≤ 1) (h_m_inShelf : 0 ≤ (m_inShelf).toInt ∧ (m_inShelf).toInt ≤ 3) (h_m_inStack : 0 ≤ (m_inStack).toInt ∧ (m_inStack).toInt ≤ 7) (h_m_inPlace : 0 ≤ (m_inPlace).toInt ∧ (m_inPlace).toInt ≤ 11) (h_m_rowMany : 0 ≤ (m_rowMany).toInt ∧ (m_rowMany).toInt ≤ 12) (h_m_goShelf : -1 ≤ (m_goShelf).toInt ∧ (m_goShelf).toInt ≤ 3) (h_m_bestMany : 0 ≤ (m_bestMany).toInt ∧ (m_bestMany).toInt ≤ 7) (h_m_bestShelf : 0 ≤ (m_bestShelf).toInt ∧ (m_bestShelf).toInt ≤ 3) (h_m_place : Iv 1002 (0) (1000) m_place) (h_m_told : TV m_told) (hN1 : eN m_sort ≤ 1000) (hN2 : (m_at).toInt ≤ ((eN m_sort : Nat) : Int)) (hN3 : (m_at).toInt < ((eN m_sort : Nat) : Int)) (hRT : RWS m_sort m_place m_value T) (hWO : WRD m_words) (hMR : MRb m_names m_told m_hasHabit S) : KK l D (TY cyC cyI cyJ cyZ cyO) yX11_readWare cX11_readWare 6 none ({ frames := 4, cells := 0, slots := 0, locals := 87 } : Room) 0 0 [.ref m0, .int 1] [(m0, .inr (11, [.int m_thrown, .ref mtape, .int m_taped, .int m_size, .ref msort, .ref mplace, .ref mvalue, .int m_at, .int m_fault, .ref mwords, .ref mtold, .ref mop, .ref marg, .int m_codes, .ref mnames, .ref mhasHabit, .int m_isNew, .ref mfactWords, .ref mfacts, .ref mpile, .ref mstates, .ref misMarked, .int m_inShelf, .int m_inStack, .int m_inPlace, .ref mrow, .int m_rowMany, .ref mthr, .ref mmays, .ref mtall, .ref mweights, .ref mrowOfWare, .ref mneededOf, .int m_goShelf, .int m_goStack, .int m_goLeft, .ref mtried, .ref mbestRow, .int m_bestCost, .int m_bestMany, .int m_bestShelf, .int m_bestSet, .ref mdigits])), (msort, .inl (cyI, 1002, .inl m_sort)), (mplace, .inl (cyI, 1002, .inl m_place)), (mvalue, .inl (cyJ, 1002, .inr (.inl m_value))), (mwords, .inl (cyJ, 23, .inr (.inl m_words))), (mtold, .inl (cyI, 240, .inl m_told)), (mnames, .inl (cyJ, 16, .inr (.inl m_names))), (mhasHabit, .inl (cyZ, 12, .inl m_hasHabit))] (fun u => none) (fun u => (0 ≤ (u.2.1 0).toInt ∧ (u.2.1 0).toInt ≤ 1000) ∧ (0 ≤ (u.2.1 1).toInt ∧ (u.2.1 1).toInt ≤ 16005) ∧ (TV (u.2.2.1 0)) ∧ ((m_at).toInt ≤ ((u.2.1 0)).toInt) ∧ (((u.2.1 0)).toInt ≤ ((eN m_sort : Nat) : Int)) ∧ ((m_fault).toInt = 0 ∨ ¬ ((u.2.1 1)).toInt = 0) ∧ (∀ j : Nat, (j < 120 ∨ j = 122 ∨ 231 ≤ j) → (u.2.2.1 0) j = m_told j) ∧ (RP m_place (m_fault).toInt (m_at).toInt ((u.2.1 1)).toInt ((u.2.1 0)).toInt (rLid T S)) ∧ (((u.2.1 1)).toInt = 0 → MRb (u.2.2.2 0) (u.2.2.1 0) m_hasHabit (sWare T S (m_place (m_at).toInt.toNat).toInt.toNat))) (fun u => [(m0, .inr (11, [.int m_thrown, .ref mtape, .int m_taped, .int m_size, .ref msort, .ref mplace, .ref mvalue, .int (u.2.1 0), .int (u.2.1 1), .ref mwords, .ref mtold, .ref mop, .ref marg, .int m_codes, .ref mnames, .ref mhasHabit, .int m_isNew, .ref mfactWords, .ref mfacts, .ref mpile, .ref mstates, .ref misMarked, .int m_inShelf, .int m_inStack, .int m_inPlace, .ref mrow, .int m_rowMany, .ref mthr, .ref mmays, .ref mtall, .ref mweights, .ref mrowOfWare, .ref mneededOf, .int m_goShelf, .int m_goStack, .int m_goLeft, .ref mtried, .ref mbestRow, .int m_bestCost, .int m_bestMany, .int m_bestShelf, .int m_bestSet, .ref mdigits])), (msort, .inl (cyI, 1002, .inl m_sort)), (mplace, .inl (cyI, 1002, .inl m_place)), (mvalue, .inl (cyJ, 1002, .inr (.inl m_value))), (mwords, .inl (cyJ, 23, .inr (.inl m_words))), (mtold, .inl (cyI, 240, .inl (u.2.2.1 0))), (mnames, .inl (cyJ, 16, .inr (.inl (u.2.2.2 0)))), (mhasHabit, .inl (cyZ, 12, .inl m_hasHabit))]) := by
  refine KK.of (lv0 := [(0, .ref m0), (1, .int 1)]) (by decide) rfl (Nat.le_of_ble_eq_true rfl) ?_
  intro p e s m args below meth c A C hr hk hin
  refine j_aload_n (pc := 0) C dX11_readWare_0 rfl 0 rfl ?_
  refine j_get (pc := 1) (ci := 11) (v := .ref mtold) C inw_11 0 rfl rfl 10 (by decide) wd_669 rfl rfl dX11_readWare_1 ?_
  refine j_bipush (pc := 4) (v := 120) C dX11_readWare_4 (by decide) ?_
  obtain ⟨v_1, ev_1⟩ : ∃ z, m_told 120 = z := ⟨_, rfl⟩
  have env_1 : (m_told 120).toInt = v_1.toInt := by rw [ev_1]
  have hv_1 : 0 ≤ v_1.toInt ∧ v_1.toInt ≤ 12 := by have z := h_m_told 120 (by decide); rw [ev_1] at z; exact z
  refine j_iald (pc := 6) (v := v_1) (k := 120) C 5 1 rfl rfl (by decide) (by decide) (by decide) ev_1 dX11_readWare_6 ?_
  refine j_istore_n (pc := 7) (lv' := [(2, .int v_1), (0, .ref m0), (1, .int 1)]) C dX11_readWare_7 rfl (by decide) rfl ?_
  refine j_iload_n (pc := 8) C dX11_readWare_8 rfl 0 rfl ?_
  refine j_bipush (pc := 9) (v := 12) C dX11_readWare_9 (by decide) ?_
  refine j_icmp_ne (pc := 11) (tgt := 20) C dX11_readWare_11 (by decide) (fun c_2 => ?_) (fun c_2 => ?_)
  · skip
    have el_12 : (12 : Int32).toInt = 12 := rfl
    rw [i_eq] at c_2
    refine j_aload_n (pc := 20) C dX11_readWare_20 rfl 1 rfl ?_
    refine j_dup (pc := 21) C dX11_readWare_21 rfl ?_
    refine j_get (pc := 22) (ci := 11) (v := .int m_at) C inw_11 0 rfl rfl 7 (by decide) wd_637 rfl rfl dX11_readWare_22 ?_
    refine j_iconst (pc := 25) (v := 1) C dX11_readWare_25 (by decide) ?_
    obtain ⟨v_3, ev_3⟩ : ∃ z : Int32, m_at + 1 = z := ⟨_, rfl⟩
    have el_1 : (1 : Int32).toInt = 1 := rfl
    have hv_3 : v_3.toInt = m_at.toInt + (1 : Int32).toInt := by rw [← ev_3]; exact fb_addI (by omega) (by omega)
    refine j_iadd (pc := 26) (v := v_3) C dX11_readWare_26 ev_3 ?_
    refine j_put (pc := 27) (ci := 11) (v := .int v_3) (ws' := [(m0, .inr (11, [.int m_thrown, .ref mtape, .int m_taped, .int m_size, .ref msort, .ref mplace, .ref mvalue, .int v_3, .int m_fault, .ref mwords, .ref mtold, .ref mop, .ref marg, .int m_codes, .ref mnames, .ref mhasHabit, .int m_isNew, .ref mfactWords, .ref mfacts, .ref mpile, .ref mstates, .ref misMarked, .int m_inShelf, .int m_inStack, .int m_inPlace, .ref mrow, .int m_rowMany, .ref mthr, .ref mmays, .ref mtall, .ref mweights, .ref mrowOfWare, .ref mneededOf, .int m_goShelf, .int m_goStack, .int m_goLeft, .ref mtried, .ref mbestRow, .int m_bestCost, .int m_bestMany, .int m_bestShelf, .int m_bestSet, .ref mdigits])), (msort, .inl (cyI, 1002, .inl m_sort)), (mplace, .inl (cyI, 1002, .inl m_place)), (mvalue, .inl (cyJ, 1002, .inr (.inl m_value))), (mwords, .inl (cyJ, 23, .inr (.inl m_words))), (mtold, .inl (cyI, 240, .inl m_told)), (mnames, .inl (cyJ, 16, .inr (.inl m_names))), (mhasHabit, .inl (cyZ, 12, .inl m_hasHabit))]) C inw_11 0 rfl rfl 7 (by decide) wd_637 rfl tyX11_ok nmX11 rfl (tyX11_ok 7 (by decide)) rfl rfl (Nat.le_of_ble_eq_true rfl) dX11_readWare_27 rfl ?_
    refine j_aload_n (pc := 30) C dX11_readWare_30 rfl 1 rfl ?_
    refine j_callV (pc := 31) (As := []) (rest := []) (wr := [(mhasHabit, .inl (cyZ, 12, .inl m_hasHabit))]) C (c_X11_newName l D cyC cyI cyJ cyZ cyO m0 msort mplace mvalue mwords mtold mnames mtape mop marg mhasHabit mfactWords mfacts mpile mstates misMarked mrow mthr mmays mtall mweights mrowOfWare mneededOf mtried mbestRow mdigits m_thrown m_taped m_size v_3 m_fault m_codes m_isNew m_inShelf m_inStack m_inPlace m_rowMany m_goShelf m_goStack m_goLeft m_bestCost m_bestMany m_bestShelf m_bestSet m_sort m_place m_value m_words m_told m_names T S (by omega) (by omega) (by omega) (by omega) (by omega) (by omega) (by omega) (by omega) (by omega) (by omega) (by omega) (by omega) (by omega) h_m_place h_m_told (by omega) (by omega) hRT hWO hMR.1.1) wd_687 wd_624 wd_688 wd_689 wd_690 ⟨by decide, by decide, rfl⟩ rfl ⟨rfl, rfl, by decide, by decide⟩ ⟨by decide, by decide⟩ [0, 1, 2, 3, 4, 5, 6] [7] rfl rfl ⟨by decide, by decide, by decide⟩ 0 rfl rfl rfl (Nat.le_of_ble_eq_true rfl) dX11_readWare_31 (fun u_4 hw_5 => ?_)
    refine j_eq (ws2 := [(mhasHabit, .inl (cyZ, 12, .inl m_hasHabit)), (m0, .inr (11, [.int m_thrown, .ref mtape, .int m_taped, .int m_size, .ref msort, .ref mplace, .ref mvalue, .int (u_4.2.1 0), .int (u_4.2.1 1), .ref mwords, .ref mtold, .ref mop, .ref marg, .int m_codes, .ref mnames, .ref mhasHabit, .int m_isNew, .ref mfactWords, .ref mfacts, .ref mpile, .ref mstates, .ref misMarked, .int m_inShelf, .int m_inStack, .int m_inPlace, .ref mrow, .int m_rowMany, .ref mthr, .ref mmays, .ref mtall, .ref mweights, .ref mrowOfWare, .ref mneededOf, .int m_goShelf, .int m_goStack, .int m_goLeft, .ref mtried, .ref mbestRow, .int m_bestCost, .int m_bestMany, .int m_bestShelf, .int m_bestSet, .ref mdigits])), (msort, .inl (cyI, 1002, .inl m_sort)), (mplace, .inl (cyI, 1002, .inl m_place)), (mvalue, .inl (cyJ, 1002, .inr (.inl m_value))), (mwords, .inl (cyJ, 23, .inr (.inl m_words))), (mtold, .inl (cyI, 240, .inl m_told)), (mnames, .inl (cyJ, 16, .inr (.inl m_names)))]) (pc2 := 34) (lv2 := [(2, .int v_1), (0, .ref m0), (1, .int 1)]) (st2 := [.long (u_4.2.2.2 0 0)]) rfl rfl rfl rfl ?_
    obtain ⟨hw_5_0, hw_5_1, hw_5_2, hw_5_3, hw_5_4, hw_5_5, hw_5_6⟩ := hw_5
    refine j_lstore_n (pc := 34) (lv' := [(3, .long (u_4.2.2.2 0 0)), (2, .int v_1), (0, .ref m0), (1, .int 1)]) C dX11_readWare_34 rfl (by decide) rfl ?_
    refine j_bipush (pc := 35) (v := 123) C dX11_readWare_35 (by decide) ?_
    refine j_bipush (pc := 37) (v := 8) C dX11_readWare_37 (by decide) ?_
    refine j_iload_n (pc := 39) C dX11_readWare_39 rfl 1 rfl ?_
    obtain ⟨v_6, ev_6⟩ : ∃ z : Int32, 8 * v_1 = z := ⟨_, rfl⟩
    have el_8 : (8 : Int32).toInt = 8 := rfl
    have hv_6 : v_6.toInt = 8 * v_1.toInt := by rw [← ev_6]; exact mulL (c := 8) rfl (by omega) (by omega)
    refine j_imul (pc := 40) (v := v_6) C dX11_readWare_40 ev_6 ?_
    obtain ⟨v_7, ev_7⟩ : ∃ z : Int32, 123 + v_6 = z := ⟨_, rfl⟩
    have el_123 : (123 : Int32).toInt = 123 := rfl
    have hv_7 : v_7.toInt = (123 : Int32).toInt + v_6.toInt := by rw [← ev_7]; exact fb_addI (by omega) (by omega)
    refine j_iadd (pc := 41) (v := v_7) C dX11_readWare_41 ev_7 ?_
    refine j_istore (pc := 42) (lv' := [(5, .int v_7), (3, .long (u_4.2.2.2 0 0)), (2, .int v_1), (0, .ref m0), (1, .int 1)]) C dX11_readWare_42 (by decide) rfl ?_
    refine j_aload_n (pc := 44) C dX11_readWare_44 rfl 3 rfl ?_
    refine j_get (pc := 45) (ci := 11) (v := .ref mtold) C inw_11 1 rfl rfl 10 (by decide) wd_669 rfl rfl dX11_readWare_45 ?_
    refine j_iload (pc := 48) C dX11_readWare_48 0 rfl ?_
    refine j_iconst (pc := 50) (v := 0) C dX11_readWare_50 (by decide) ?_
    obtain ⟨v_8, ev_8⟩ : ∃ z : Int32, v_7 + 0 = z := ⟨_, rfl⟩
    have el_0 : (0 : Int32).toInt = 0 := rfl
    have hv_8 : v_8.toInt = v_7.toInt + (0 : Int32).toInt := by rw [← ev_8]; exact fb_addI (by omega) (by omega)
    refine j_iadd (pc := 51) (v := v_8) C dX11_readWare_51 ev_8 ?_
    refine j_aload_n (pc := 52) C dX11_readWare_52 rfl 3 rfl ?_
    refine j_bipush (pc := 53) (v := 6) C dX11_readWare_53 (by decide) ?_
    refine j_iconst (pc := 55) (v := 1) C dX11_readWare_55 (by decide) ?_
    refine j_bipush (pc := 56) (v := 99) C dX11_readWare_56 (by decide) ?_
    refine j_callV (pc := 58) (As := [.int 6, .int 1, .int 99]) (rest := [.int v_8, .ref mtold]) (wr := [(mhasHabit, .inl (cyZ, 12, .inl m_hasHabit)), (mtold, .inl (cyI, 240, .inl m_told)), (mnames, .inl (cyJ, 16, .inr (.inl m_names)))]) C (c_X11_takeAfter l D cyC cyI cyJ cyZ cyO m0 msort mplace mvalue mwords mtape mtold mop marg mnames mhasHabit mfactWords mfacts mpile mstates misMarked mrow mthr mmays mtall mweights mrowOfWare mneededOf mtried mbestRow mdigits 6 1 99 m_thrown m_taped m_size (u_4.2.1 0) (u_4.2.1 1) m_codes m_isNew m_inShelf m_inStack m_inPlace m_rowMany m_goShelf m_goStack m_goLeft m_bestCost m_bestMany m_bestShelf m_bestSet m_sort m_place m_value m_words T (by omega) (by omega) (by omega) (by omega) (by omega) (by omega) (by omega) (by omega) (by omega) (by omega) (by omega) (by omega) (by omega) (by decide) h_m_place (by omega) (by omega) hRT hWO) wd_691 wd_624 wd_692 wd_693 wd_694 ⟨by decide, by decide, rfl⟩ rfl ⟨rfl, rfl, by decide, by decide⟩ ⟨by decide, by decide⟩ [1, 2, 3, 4, 5] [0, 6, 7] rfl rfl ⟨by decide, by decide, by decide⟩ 1 rfl rfl rfl (Nat.le_of_ble_eq_true rfl) dX11_readWare_58 (fun u_9 hw_10 => ?_)
    refine j_eq (ws2 := [(mhasHabit, .inl (cyZ, 12, .inl m_hasHabit)), (mtold, .inl (cyI, 240, .inl m_told)), (mnames, .inl (cyJ, 16, .inr (.inl m_names))), (m0, .inr (11, [.int m_thrown, .ref mtape, .int m_taped, .int m_size, .ref msort, .ref mplace, .ref mvalue, .int (u_9.2.1 1), .int (u_9.2.1 2), .ref mwords, .ref mtold, .ref mop, .ref marg, .int m_codes, .ref mnames, .ref mhasHabit, .int m_isNew, .ref mfactWords, .ref mfacts, .ref mpile, .ref mstates, .ref misMarked, .int m_inShelf, .int m_inStack, .int m_inPlace, .ref mrow, .int m_rowMany, .ref mthr, .ref mmays, .ref mtall, .ref mweights, .ref mrowOfWare, .ref mneededOf, .int m_goShelf, .int m_goStack, .int m_goLeft, .ref mtried, .ref mbestRow, .int m_bestCost, .int m_bestMany, .int m_bestShelf, .int m_bestSet, .ref mdigits])), (msort, .inl (cyI, 1002, .inl m_sort)), (mplace, .inl (cyI, 1002, .inl m_place)), (mvalue, .inl (cyJ, 1002, .inr (.inl m_value))), (mwords, .inl (cyJ, 23, .inr (.inl m_words)))]) (pc2 := 61) (lv2 := [(5, .int v_7), (3, .long (u_4.2.2.2 0 0)), (2, .int v_1), (0, .ref m0), (1, .int 1)]) (st2 := [.int (u_9.2.1 0), .int v_8, .ref mtold]) rfl rfl rfl rfl ?_
    obtain ⟨hw_10_0, hw_10_1, hw_10_2, hw_10_3, hw_10_4, hw_10_5, hw_10_6⟩ := hw_10
    have el_6 : (6 : Int32).toInt = 6 := rfl
    have el_1 : (1 : Int32).toInt = 1 := rfl
    have el_99 : (99 : Int32).toInt = 99 := rfl
    obtain ⟨f_11, ef_11⟩ : ∃ z, z = upd m_told (v_8).toInt.toNat (u_9.2.1 0) := ⟨_, rfl⟩
    have hf_11 : TV f_11 := by rw [ef_11]; exact TV.upd h_m_told (by omega) (Int.le_trans (show _ ≤ (999 : Int) from (by omega)) (hiT_k (by omega)))
    refine j_iast (pc := 61) (k := (v_8).toInt.toNat) (ws' := [(mhasHabit, .inl (cyZ, 12, .inl m_hasHabit)), (mtold, .inl (cyI, 240, .inl f_11)), (mnames, .inl (cyJ, 16, .inr (.inl m_names))), (m0, .inr (11, [.int m_thrown, .ref mtape, .int m_taped, .int m_size, .ref msort, .ref mplace, .ref mvalue, .int (u_9.2.1 1), .int (u_9.2.1 2), .ref mwords, .ref mtold, .ref mop, .ref marg, .int m_codes, .ref mnames, .ref mhasHabit, .int m_isNew, .ref mfactWords, .ref mfacts, .ref mpile, .ref mstates, .ref misMarked, .int m_inShelf, .int m_inStack, .int m_inPlace, .ref mrow, .int m_rowMany, .ref mthr, .ref mmays, .ref mtall, .ref mweights, .ref mrowOfWare, .ref mneededOf, .int m_goShelf, .int m_goStack, .int m_goLeft, .ref mtried, .ref mbestRow, .int m_bestCost, .int m_bestMany, .int m_bestShelf, .int m_bestSet, .ref mdigits])), (msort, .inl (cyI, 1002, .inl m_sort)), (mplace, .inl (cyI, 1002, .inl m_place)), (mvalue, .inl (cyJ, 1002, .inr (.inl m_value))), (mwords, .inl (cyJ, 23, .inr (.inl m_words)))]) C 1 1 rfl rfl (i_nn (by omega)) rfl (i_lt_n (by omega) (by omega)) dX11_readWare_61 (by rw [ef_11]; rfl) ?_
    refine j_aload_n (pc := 62) C dX11_readWare_62 rfl 3 rfl ?_
    refine j_get (pc := 63) (ci := 11) (v := .ref mtold) C inw_11 3 rfl rfl 10 (by decide) wd_669 rfl rfl dX11_readWare_63 ?_
    refine j_iload (pc := 66) C dX11_readWare_66 0 rfl ?_
    refine j_iconst (pc := 68) (v := 1) C dX11_readWare_68 (by decide) ?_
    obtain ⟨v_12, ev_12⟩ : ∃ z : Int32, v_7 + 1 = z := ⟨_, rfl⟩
    have el_1 : (1 : Int32).toInt = 1 := rfl
    have hv_12 : v_12.toInt = v_7.toInt + (1 : Int32).toInt := by rw [← ev_12]; exact fb_addI (by omega) (by omega)
    refine j_iadd (pc := 69) (v := v_12) C dX11_readWare_69 ev_12 ?_
    refine j_iload_n (pc := 70) C dX11_readWare_70 rfl 4 rfl ?_
    refine j_if_eq_f (pc := 71) (tgt := 78) C dX11_readWare_71 (by decide) (by decide) ?_
    refine j_iconst (pc := 74) (v := 1) C dX11_readWare_74 (by decide) ?_
    refine j_goto (pc := 75) (tgt := 87) C dX11_readWare_75 (by decide) ?_
    obtain ⟨f_13, ef_13⟩ : ∃ z, z = upd f_11 (v_12).toInt.toNat 1 := ⟨_, rfl⟩
    have el_1 : (1 : Int32).toInt = 1 := rfl
    have hf_13 : TV f_13 := by rw [ef_13]; exact TV.upd hf_11 (by omega) (Int.le_trans (show _ ≤ (999 : Int) from (by omega)) (hiT_k (by omega)))
    refine j_iast (pc := 87) (k := (v_12).toInt.toNat) (ws' := [(mhasHabit, .inl (cyZ, 12, .inl m_hasHabit)), (mtold, .inl (cyI, 240, .inl f_13)), (mnames, .inl (cyJ, 16, .inr (.inl m_names))), (m0, .inr (11, [.int m_thrown, .ref mtape, .int m_taped, .int m_size, .ref msort, .ref mplace, .ref mvalue, .int (u_9.2.1 1), .int (u_9.2.1 2), .ref mwords, .ref mtold, .ref mop, .ref marg, .int m_codes, .ref mnames, .ref mhasHabit, .int m_isNew, .ref mfactWords, .ref mfacts, .ref mpile, .ref mstates, .ref misMarked, .int m_inShelf, .int m_inStack, .int m_inPlace, .ref mrow, .int m_rowMany, .ref mthr, .ref mmays, .ref mtall, .ref mweights, .ref mrowOfWare, .ref mneededOf, .int m_goShelf, .int m_goStack, .int m_goLeft, .ref mtried, .ref mbestRow, .int m_bestCost, .int m_bestMany, .int m_bestShelf, .int m_bestSet, .ref mdigits])), (msort, .inl (cyI, 1002, .inl m_sort)), (mplace, .inl (cyI, 1002, .inl m_place)), (mvalue, .inl (cyJ, 1002, .inr (.inl m_value))), (mwords, .inl (cyJ, 23, .inr (.inl m_words)))]) C 1 1 rfl rfl (i_nn (by omega)) rfl (i_lt_n (by omega) (by omega)) dX11_readWare_87 (by rw [ef_13]; rfl) ?_
    refine j_aload_n (pc := 88) C dX11_readWare_88 rfl 3 rfl ?_
    refine j_get (pc := 89) (ci := 11) (v := .ref mtold) C inw_11 3 rfl rfl 10 (by decide) wd_669 rfl rfl dX11_readWare_89 ?_
    refine j_iload (pc := 92) C dX11_readWare_92 0 rfl ?_
    refine j_iconst (pc := 94) (v := 2) C dX11_readWare_94 (by decide) ?_
    obtain ⟨v_14, ev_14⟩ : ∃ z : Int32, v_7 + 2 = z := ⟨_, rfl⟩
    have el_2 : (2 : Int32).toInt = 2 := rfl
    have hv_14 : v_14.toInt = v_7.toInt + (2 : Int32).toInt := by rw [← ev_14]; exact fb_addI (by omega) (by omega)
    refine j_iadd (pc := 95) (v := v_14) C dX11_readWare_95 ev_14 ?_
    refine j_aload_n (pc := 96) C dX11_readWare_96 rfl 3 rfl ?_
    refine j_bipush (pc := 97) (v := 8) C dX11_readWare_97 (by decide) ?_
    refine j_iconst (pc := 99) (v := 1) C dX11_readWare_99 (by decide) ?_
    refine j_bipush (pc := 100) (v := 99) C dX11_readWare_100 (by decide) ?_
    refine j_callV (pc := 102) (As := [.int 8, .int 1, .int 99]) (rest := [.int v_14, .ref mtold]) (wr := [(mhasHabit, .inl (cyZ, 12, .inl m_hasHabit)), (mtold, .inl (cyI, 240, .inl f_13)), (mnames, .inl (cyJ, 16, .inr (.inl m_names)))]) C (c_X11_takeAfter l D cyC cyI cyJ cyZ cyO m0 msort mplace mvalue mwords mtape mtold mop marg mnames mhasHabit mfactWords mfacts mpile mstates misMarked mrow mthr mmays mtall mweights mrowOfWare mneededOf mtried mbestRow mdigits 8 1 99 m_thrown m_taped m_size (u_9.2.1 1) (u_9.2.1 2) m_codes m_isNew m_inShelf m_inStack m_inPlace m_rowMany m_goShelf m_goStack m_goLeft m_bestCost m_bestMany m_bestShelf m_bestSet m_sort m_place m_value m_words T (by omega) (by omega) (by omega) (by omega) (by omega) (by omega) (by omega) (by omega) (by omega) (by omega) (by omega) (by omega) (by omega) (by decide) h_m_place (by omega) (by omega) hRT hWO) wd_691 wd_624 wd_692 wd_693 wd_694 ⟨by decide, by decide, rfl⟩ rfl ⟨rfl, rfl, by decide, by decide⟩ ⟨by decide, by decide⟩ [3, 4, 5, 6, 7] [0, 1, 2] rfl rfl ⟨by decide, by decide, by decide⟩ 3 rfl rfl rfl (Nat.le_of_ble_eq_true rfl) dX11_readWare_102 (fun u_15 hw_16 => ?_)
    refine j_eq (ws2 := [(mhasHabit, .inl (cyZ, 12, .inl m_hasHabit)), (mtold, .inl (cyI, 240, .inl f_13)), (mnames, .inl (cyJ, 16, .inr (.inl m_names))), (m0, .inr (11, [.int m_thrown, .ref mtape, .int m_taped, .int m_size, .ref msort, .ref mplace, .ref mvalue, .int (u_15.2.1 1), .int (u_15.2.1 2), .ref mwords, .ref mtold, .ref mop, .ref marg, .int m_codes, .ref mnames, .ref mhasHabit, .int m_isNew, .ref mfactWords, .ref mfacts, .ref mpile, .ref mstates, .ref misMarked, .int m_inShelf, .int m_inStack, .int m_inPlace, .ref mrow, .int m_rowMany, .ref mthr, .ref mmays, .ref mtall, .ref mweights, .ref mrowOfWare, .ref mneededOf, .int m_goShelf, .int m_goStack, .int m_goLeft, .ref mtried, .ref mbestRow, .int m_bestCost, .int m_bestMany, .int m_bestShelf, .int m_bestSet, .ref mdigits])), (msort, .inl (cyI, 1002, .inl m_sort)), (mplace, .inl (cyI, 1002, .inl m_place)), (mvalue, .inl (cyJ, 1002, .inr (.inl m_value))), (mwords, .inl (cyJ, 23, .inr (.inl m_words)))]) (pc2 := 105) (lv2 := [(5, .int v_7), (3, .long (u_4.2.2.2 0 0)), (2, .int v_1), (0, .ref m0), (1, .int 1)]) (st2 := [.int (u_15.2.1 0), .int v_14, .ref mtold]) rfl rfl rfl rfl ?_
    obtain ⟨hw_16_0, hw_16_1, hw_16_2, hw_16_3, hw_16_4, hw_16_5, hw_16_6⟩ := hw_16
    have el_8 : (8 : Int32).toInt = 8 := rfl
    have el_1 : (1 : Int32).toInt = 1 := rfl
    have el_99 : (99 : Int32).toInt = 99 := rfl
    obtain ⟨f_17, ef_17⟩ : ∃ z, z = upd f_13 (v_14).toInt.toNat (u_15.2.1 0) := ⟨_, rfl⟩
    have hf_17 : TV f_17 := by rw [ef_17]; exact TV.upd hf_13 (by omega) (Int.le_trans (show _ ≤ (999 : Int) from (by omega)) (hiT_k (by omega)))
    refine j_iast (pc := 105) (k := (v_14).toInt.toNat) (ws' := [(mhasHabit, .inl (cyZ, 12, .inl m_hasHabit)), (mtold, .inl (cyI, 240, .inl f_17)), (mnames, .inl (cyJ, 16, .inr (.inl m_names))), (m0, .inr (11, [.int m_thrown, .ref mtape, .int m_taped, .int m_size, .ref msort, .ref mplace, .ref mvalue, .int (u_15.2.1 1), .int (u_15.2.1 2), .ref mwords, .ref mtold, .ref mop, .ref marg, .int m_codes, .ref mnames, .ref mhasHabit, .int m_isNew, .ref mfactWords, .ref mfacts, .ref mpile, .ref mstates, .ref misMarked, .int m_inShelf, .int m_inStack, .int m_inPlace, .ref mrow, .int m_rowMany, .ref mthr, .ref mmays, .ref mtall, .ref mweights, .ref mrowOfWare, .ref mneededOf, .int m_goShelf, .int m_goStack, .int m_goLeft, .ref mtried, .ref mbestRow, .int m_bestCost, .int m_bestMany, .int m_bestShelf, .int m_bestSet, .ref mdigits])), (msort, .inl (cyI, 1002, .inl m_sort)), (mplace, .inl (cyI, 1002, .inl m_place)), (mvalue, .inl (cyJ, 1002, .inr (.inl m_value))), (mwords, .inl (cyJ, 23, .inr (.inl m_words)))]) C 1 1 rfl rfl (i_nn (by omega)) rfl (i_lt_n (by omega) (by omega)) dX11_readWare_105 (by rw [ef_17]; rfl) ?_
    refine j_aload_n (pc := 106) C dX11_readWare_106 rfl 3 rfl ?_
    refine j_get (pc := 107) (ci := 11) (v := .ref mtold) C inw_11 3 rfl rfl 10 (by decide) wd_669 rfl rfl dX11_readWare_107 ?_
    refine j_iload (pc := 110) C dX11_readWare_110 0 rfl ?_
    refine j_iconst (pc := 112) (v := 3) C dX11_readWare_112 (by decide) ?_
    obtain ⟨v_18, ev_18⟩ : ∃ z : Int32, v_7 + 3 = z := ⟨_, rfl⟩
    have el_3 : (3 : Int32).toInt = 3 := rfl
    have hv_18 : v_18.toInt = v_7.toInt + (3 : Int32).toInt := by rw [← ev_18]; exact fb_addI (by omega) (by omega)
    refine j_iadd (pc := 113) (v := v_18) C dX11_readWare_113 ev_18 ?_
    refine j_iload_n (pc := 114) C dX11_readWare_114 rfl 4 rfl ?_
    refine j_if_eq_f (pc := 115) (tgt := 122) C dX11_readWare_115 (by decide) (by decide) ?_
    refine j_iconst (pc := 118) (v := 0) C dX11_readWare_118 (by decide) ?_
    refine j_goto (pc := 119) (tgt := 132) C dX11_readWare_119 (by decide) ?_
    obtain ⟨f_19, ef_19⟩ : ∃ z, z = upd f_17 (v_18).toInt.toNat 0 := ⟨_, rfl⟩
    have el_0 : (0 : Int32).toInt = 0 := rfl
    have hf_19 : TV f_19 := by rw [ef_19]; exact TV.upd hf_17 (by omega) (Int.le_trans (show _ ≤ (999 : Int) from (by omega)) (hiT_k (by omega)))
    refine j_iast (pc := 132) (k := (v_18).toInt.toNat) (ws' := [(mhasHabit, .inl (cyZ, 12, .inl m_hasHabit)), (mtold, .inl (cyI, 240, .inl f_19)), (mnames, .inl (cyJ, 16, .inr (.inl m_names))), (m0, .inr (11, [.int m_thrown, .ref mtape, .int m_taped, .int m_size, .ref msort, .ref mplace, .ref mvalue, .int (u_15.2.1 1), .int (u_15.2.1 2), .ref mwords, .ref mtold, .ref mop, .ref marg, .int m_codes, .ref mnames, .ref mhasHabit, .int m_isNew, .ref mfactWords, .ref mfacts, .ref mpile, .ref mstates, .ref misMarked, .int m_inShelf, .int m_inStack, .int m_inPlace, .ref mrow, .int m_rowMany, .ref mthr, .ref mmays, .ref mtall, .ref mweights, .ref mrowOfWare, .ref mneededOf, .int m_goShelf, .int m_goStack, .int m_goLeft, .ref mtried, .ref mbestRow, .int m_bestCost, .int m_bestMany, .int m_bestShelf, .int m_bestSet, .ref mdigits])), (msort, .inl (cyI, 1002, .inl m_sort)), (mplace, .inl (cyI, 1002, .inl m_place)), (mvalue, .inl (cyJ, 1002, .inr (.inl m_value))), (mwords, .inl (cyJ, 23, .inr (.inl m_words)))]) C 1 1 rfl rfl (i_nn (by omega)) rfl (i_lt_n (by omega) (by omega)) dX11_readWare_132 (by rw [ef_19]; rfl) ?_
    refine j_aload_n (pc := 133) C dX11_readWare_133 rfl 3 rfl ?_
    refine j_get (pc := 134) (ci := 11) (v := .ref mtold) C inw_11 3 rfl rfl 10 (by decide) wd_669 rfl rfl dX11_readWare_134 ?_
    refine j_iload (pc := 137) C dX11_readWare_137 0 rfl ?_
    refine j_iconst (pc := 139) (v := 4) C dX11_readWare_139 (by decide) ?_
    obtain ⟨v_20, ev_20⟩ : ∃ z : Int32, v_7 + 4 = z := ⟨_, rfl⟩
    have el_4 : (4 : Int32).toInt = 4 := rfl
    have hv_20 : v_20.toInt = v_7.toInt + (4 : Int32).toInt := by rw [← ev_20]; exact fb_addI (by omega) (by omega)
    refine j_iadd (pc := 140) (v := v_20) C dX11_readWare_140 ev_20 ?_
    refine j_aload_n (pc := 141) C dX11_readWare_141 rfl 3 rfl ?_
    refine j_bipush (pc := 142) (v := 10) C dX11_readWare_142 (by decide) ?_
    refine j_iconst (pc := 144) (v := 0) C dX11_readWare_144 (by decide) ?_
    refine j_bipush (pc := 145) (v := 99) C dX11_readWare_145 (by decide) ?_
    refine j_callV (pc := 147) (As := [.int 10, .int 0, .int 99]) (rest := [.int v_20, .ref mtold]) (wr := [(mhasHabit, .inl (cyZ, 12, .inl m_hasHabit)), (mtold, .inl (cyI, 240, .inl f_19)), (mnames, .inl (cyJ, 16, .inr (.inl m_names)))]) C (c_X11_takeAfter l D cyC cyI cyJ cyZ cyO m0 msort mplace mvalue mwords mtape mtold mop marg mnames mhasHabit mfactWords mfacts mpile mstates misMarked mrow mthr mmays mtall mweights mrowOfWare mneededOf mtried mbestRow mdigits 10 0 99 m_thrown m_taped m_size (u_15.2.1 1) (u_15.2.1 2) m_codes m_isNew m_inShelf m_inStack m_inPlace m_rowMany m_goShelf m_goStack m_goLeft m_bestCost m_bestMany m_bestShelf m_bestSet m_sort m_place m_value m_words T (by omega) (by omega) (by omega) (by omega) (by omega) (by omega) (by omega) (by omega) (by omega) (by omega) (by omega) (by omega) (by omega) (by decide) h_m_place (by omega) (by omega) hRT hWO) wd_691 wd_624 wd_692 wd_693 wd_694 ⟨by decide, by decide, rfl⟩ rfl ⟨rfl, rfl, by decide, by decide⟩ ⟨by decide, by decide⟩ [3, 4, 5, 6, 7] [0, 1, 2] rfl rfl ⟨by decide, by decide, by decide⟩ 3 rfl rfl rfl (Nat.le_of_ble_eq_true rfl) dX11_readWare_147 (fun u_21 hw_22 => ?_)
    refine j_eq (ws2 := [(mhasHabit, .inl (cyZ, 12, .inl m_hasHabit)), (mtold, .inl (cyI, 240, .inl f_19)), (mnames, .inl (cyJ, 16, .inr (.inl m_names))), (m0, .inr (11, [.int m_thrown, .ref mtape, .int m_taped, .int m_size, .ref msort, .ref mplace, .ref mvalue, .int (u_21.2.1 1), .int (u_21.2.1 2), .ref mwords, .ref mtold, .ref mop, .ref marg, .int m_codes, .ref mnames, .ref mhasHabit, .int m_isNew, .ref mfactWords, .ref mfacts, .ref mpile, .ref mstates, .ref misMarked, .int m_inShelf, .int m_inStack, .int m_inPlace, .ref mrow, .int m_rowMany, .ref mthr, .ref mmays, .ref mtall, .ref mweights, .ref mrowOfWare, .ref mneededOf, .int m_goShelf, .int m_goStack, .int m_goLeft, .ref mtried, .ref mbestRow, .int m_bestCost, .int m_bestMany, .int m_bestShelf, .int m_bestSet, .ref mdigits])), (msort, .inl (cyI, 1002, .inl m_sort)), (mplace, .inl (cyI, 1002, .inl m_place)), (mvalue, .inl (cyJ, 1002, .inr (.inl m_value))), (mwords, .inl (cyJ, 23, .inr (.inl m_words)))]) (pc2 := 150) (lv2 := [(5, .int v_7), (3, .long (u_4.2.2.2 0 0)), (2, .int v_1), (0, .ref m0), (1, .int 1)]) (st2 := [.int (u_21.2.1 0), .int v_20, .ref mtold]) rfl rfl rfl rfl ?_
    obtain ⟨hw_22_0, hw_22_1, hw_22_2, hw_22_3, hw_22_4, hw_22_5, hw_22_6⟩ := hw_22
    have el_10 : (10 : Int32).toInt = 10 := rfl
    have el_0 : (0 : Int32).toInt = 0 := rfl
    have el_99 : (99 : Int32).toInt = 99 := rfl
    obtain ⟨f_23, ef_23⟩ : ∃ z, z = upd f_19 (v_20).toInt.toNat (u_21.2.1 0) := ⟨_, rfl⟩
    have hf_23 : TV f_23 := by rw [ef_23]; exact TV.upd hf_19 (by omega) (Int.le_trans (show _ ≤ (999 : Int) from (by omega)) (hiT_k (by omega)))
    refine j_iast (pc := 150) (k := (v_20).toInt.toNat) (ws' := [(mhasHabit, .inl (cyZ, 12, .inl m_hasHabit)), (mtold, .inl (cyI, 240, .inl f_23)), (mnames, .inl (cyJ, 16, .inr (.inl m_names))), (m0, .inr (11, [.int m_thrown, .ref mtape, .int m_taped, .int m_size, .ref msort, .ref mplace, .ref mvalue, .int (u_21.2.1 1), .int (u_21.2.1 2), .ref mwords, .ref mtold, .ref mop, .ref marg, .int m_codes, .ref mnames, .ref mhasHabit, .int m_isNew, .ref mfactWords, .ref mfacts, .ref mpile, .ref mstates, .ref misMarked, .int m_inShelf, .int m_inStack, .int m_inPlace, .ref mrow, .int m_rowMany, .ref mthr, .ref mmays, .ref mtall, .ref mweights, .ref mrowOfWare, .ref mneededOf, .int m_goShelf, .int m_goStack, .int m_goLeft, .ref mtried, .ref mbestRow, .int m_bestCost, .int m_bestMany, .int m_bestShelf, .int m_bestSet, .ref mdigits])), (msort, .inl (cyI, 1002, .inl m_sort)), (mplace, .inl (cyI, 1002, .inl m_place)), (mvalue, .inl (cyJ, 1002, .inr (.inl m_value))), (mwords, .inl (cyJ, 23, .inr (.inl m_words)))]) C 1 1 rfl rfl (i_nn (by omega)) rfl (i_lt_n (by omega) (by omega)) dX11_readWare_150 (by rw [ef_23]; rfl) ?_
    refine j_aload_n (pc := 151) C dX11_readWare_151 rfl 3 rfl ?_
    refine j_get (pc := 152) (ci := 11) (v := .ref mtold) C inw_11 3 rfl rfl 10 (by decide) wd_669 rfl rfl dX11_readWare_152 ?_
    refine j_iload (pc := 155) C dX11_readWare_155 0 rfl ?_
    refine j_bipush (pc := 157) (v := 6) C dX11_readWare_157 (by decide) ?_
    obtain ⟨v_24, ev_24⟩ : ∃ z : Int32, v_7 + 6 = z := ⟨_, rfl⟩
    have el_6 : (6 : Int32).toInt = 6 := rfl
    have hv_24 : v_24.toInt = v_7.toInt + (6 : Int32).toInt := by rw [← ev_24]; exact fb_addI (by omega) (by omega)
    refine j_iadd (pc := 159) (v := v_24) C dX11_readWare_159 ev_24 ?_
    refine j_iload_n (pc := 160) C dX11_readWare_160 rfl 4 rfl ?_
    refine j_if_eq_f (pc := 161) (tgt := 168) C dX11_readWare_161 (by decide) (by decide) ?_
    refine j_iconst (pc := 164) (v := 1) C dX11_readWare_164 (by decide) ?_
    refine j_goto (pc := 165) (tgt := 169) C dX11_readWare_165 (by decide) ?_
    obtain ⟨f_25, ef_25⟩ : ∃ z, z = upd f_23 (v_24).toInt.toNat 1 := ⟨_, rfl⟩
    have el_1 : (1 : Int32).toInt = 1 := rfl
    have hf_25 : TV f_25 := by rw [ef_25]; exact TV.upd hf_23 (by omega) (Int.le_trans (show _ ≤ (999 : Int) from (by omega)) (hiT_k (by omega)))
    refine j_iast (pc := 169) (k := (v_24).toInt.toNat) (ws' := [(mhasHabit, .inl (cyZ, 12, .inl m_hasHabit)), (mtold, .inl (cyI, 240, .inl f_25)), (mnames, .inl (cyJ, 16, .inr (.inl m_names))), (m0, .inr (11, [.int m_thrown, .ref mtape, .int m_taped, .int m_size, .ref msort, .ref mplace, .ref mvalue, .int (u_21.2.1 1), .int (u_21.2.1 2), .ref mwords, .ref mtold, .ref mop, .ref marg, .int m_codes, .ref mnames, .ref mhasHabit, .int m_isNew, .ref mfactWords, .ref mfacts, .ref mpile, .ref mstates, .ref misMarked, .int m_inShelf, .int m_inStack, .int m_inPlace, .ref mrow, .int m_rowMany, .ref mthr, .ref mmays, .ref mtall, .ref mweights, .ref mrowOfWare, .ref mneededOf, .int m_goShelf, .int m_goStack, .int m_goLeft, .ref mtried, .ref mbestRow, .int m_bestCost, .int m_bestMany, .int m_bestShelf, .int m_bestSet, .ref mdigits])), (msort, .inl (cyI, 1002, .inl m_sort)), (mplace, .inl (cyI, 1002, .inl m_place)), (mvalue, .inl (cyJ, 1002, .inr (.inl m_value))), (mwords, .inl (cyJ, 23, .inr (.inl m_words)))]) C 1 1 rfl rfl (i_nn (by omega)) rfl (i_lt_n (by omega) (by omega)) dX11_readWare_169 (by rw [ef_25]; rfl) ?_
    refine j_aload_n (pc := 170) C dX11_readWare_170 rfl 3 rfl ?_
    refine j_get (pc := 171) (ci := 11) (v := .ref mnames) C inw_11 3 rfl rfl 14 (by decide) wd_670 rfl rfl dX11_readWare_171 ?_
    refine j_iload_n (pc := 174) C dX11_readWare_174 rfl 2 rfl ?_
    refine j_lload_n (pc := 175) C dX11_readWare_175 rfl 1 rfl ?_
    obtain ⟨f_26, ef_26⟩ : ∃ z, z = vp_updL m_names (v_1).toInt.toNat (u_4.2.2.2 0 0) := ⟨_, rfl⟩
    refine j_last (pc := 176) (k := (v_1).toInt.toNat) (ws' := [(mhasHabit, .inl (cyZ, 12, .inl m_hasHabit)), (mtold, .inl (cyI, 240, .inl f_25)), (mnames, .inl (cyJ, 16, .inr (.inl f_26))), (m0, .inr (11, [.int m_thrown, .ref mtape, .int m_taped, .int m_size, .ref msort, .ref mplace, .ref mvalue, .int (u_21.2.1 1), .int (u_21.2.1 2), .ref mwords, .ref mtold, .ref mop, .ref marg, .int m_codes, .ref mnames, .ref mhasHabit, .int m_isNew, .ref mfactWords, .ref mfacts, .ref mpile, .ref mstates, .ref misMarked, .int m_inShelf, .int m_inStack, .int m_inPlace, .ref mrow, .int m_rowMany, .ref mthr, .ref mmays, .ref mtall, .ref mweights, .ref mrowOfWare, .ref mneededOf, .int m_goShelf, .int m_goStack, .int m_goLeft, .ref mtried, .ref mbestRow, .int m_bestCost, .int m_bestMany, .int m_bestShelf, .int m_bestSet, .ref mdigits])), (msort, .inl (cyI, 1002, .inl m_sort)), (mplace, .inl (cyI, 1002, .inl m_place)), (mvalue, .inl (cyJ, 1002, .inr (.inl m_value))), (mwords, .inl (cyJ, 23, .inr (.inl m_words)))]) C 2 2 rfl rfl (i_nn (by omega)) rfl (i_lt_n (by omega) (by omega)) dX11_readWare_176 (by rw [ef_26]; rfl) ?_
    refine j_aload_n (pc := 177) C dX11_readWare_177 rfl 3 rfl ?_
    refine j_get (pc := 178) (ci := 11) (v := .ref mtold) C inw_11 3 rfl rfl 10 (by decide) wd_669 rfl rfl dX11_readWare_178 ?_
    refine j_bipush (pc := 181) (v := 120) C dX11_readWare_181 (by decide) ?_
    refine j_dup2 (pc := 183) C dX11_readWare_183 rfl rfl ?_
    obtain ⟨v_27, ev_27⟩ : ∃ z, f_25 120 = z := ⟨_, rfl⟩
    have qv_27 : v_27 = v_1 := by rw [← ev_27]; exact (by rw [ef_25, pk_un (show ¬ 120 = (v_24).toInt.toNat from (by omega))]; exact (by rw [ef_23, pk_un (show ¬ 120 = (v_20).toInt.toNat from (by omega))]; exact (by rw [ef_19, pk_un (show ¬ 120 = (v_18).toInt.toNat from (by omega))]; exact (by rw [ef_17, pk_un (show ¬ 120 = (v_14).toInt.toNat from (by omega))]; exact (by rw [ef_13, pk_un (show ¬ 120 = (v_12).toInt.toNat from (by omega))]; exact (by rw [ef_11, pk_un (show ¬ 120 = (v_8).toInt.toNat from (by omega))]; exact ev_1))))))
    have env_27 : v_27.toInt = (v_1).toInt := by rw [qv_27]
    refine j_iald (pc := 184) (v := v_27) (k := 120) C 1 1 rfl rfl (by decide) (by decide) (by decide) ev_27 dX11_readWare_184 ?_
    refine j_iconst (pc := 185) (v := 1) C dX11_readWare_185 (by decide) ?_
    obtain ⟨v_28, ev_28⟩ : ∃ z : Int32, v_27 + 1 = z := ⟨_, rfl⟩
    have el_1 : (1 : Int32).toInt = 1 := rfl
    have hv_28 : v_28.toInt = v_27.toInt + (1 : Int32).toInt := by rw [← ev_28]; exact fb_addI (by omega) (by omega)
    refine j_iadd (pc := 186) (v := v_28) C dX11_readWare_186 ev_28 ?_
    obtain ⟨f_29, ef_29⟩ : ∃ z, z = upd f_25 120 v_28 := ⟨_, rfl⟩
    have hf_29 : TV f_29 := by rw [ef_29]; exact TV.upd hf_25 (by omega) (show _ ≤ (12 : Int) from (by omega))
    refine j_iast (pc := 187) (k := 120) (ws' := [(mhasHabit, .inl (cyZ, 12, .inl m_hasHabit)), (mtold, .inl (cyI, 240, .inl f_29)), (mnames, .inl (cyJ, 16, .inr (.inl f_26))), (m0, .inr (11, [.int m_thrown, .ref mtape, .int m_taped, .int m_size, .ref msort, .ref mplace, .ref mvalue, .int (u_21.2.1 1), .int (u_21.2.1 2), .ref mwords, .ref mtold, .ref mop, .ref marg, .int m_codes, .ref mnames, .ref mhasHabit, .int m_isNew, .ref mfactWords, .ref mfacts, .ref mpile, .ref mstates, .ref misMarked, .int m_inShelf, .int m_inStack, .int m_inPlace, .ref mrow, .int m_rowMany, .ref mthr, .ref mmays, .ref mtall, .ref mweights, .ref mrowOfWare, .ref mneededOf, .int m_goShelf, .int m_goStack, .int m_goLeft, .ref mtried, .ref mbestRow, .int m_bestCost, .int m_bestMany, .int m_bestShelf, .int m_bestSet, .ref mdigits])), (msort, .inl (cyI, 1002, .inl m_sort)), (mplace, .inl (cyI, 1002, .inl m_place)), (mvalue, .inl (cyJ, 1002, .inr (.inl m_value))), (mwords, .inl (cyJ, 23, .inr (.inl m_words)))]) C 1 1 rfl rfl (by decide) (by decide) (by decide) dX11_readWare_187 (by rw [ef_29]; rfl) ?_
    exact j_vret (pc := 188) C hr hk (fun i => [].getD i 0, fun i => [(u_21.2.1 1), (u_21.2.1 2)].getD i 0, fun i => [f_29].getD i (fun _ => 0), fun i => [f_26].getD i (fun _ => 0)) rfl (show (0 ≤ ((u_21.2.1 1)).toInt ∧ ((u_21.2.1 1)).toInt ≤ 1000) ∧ (0 ≤ ((u_21.2.1 2)).toInt ∧ ((u_21.2.1 2)).toInt ≤ 16005) ∧ (TV f_29) ∧ ((m_at).toInt ≤ ((u_21.2.1 1)).toInt) ∧ (((u_21.2.1 1)).toInt ≤ ((eN m_sort : Nat) : Int)) ∧ ((m_fault).toInt = 0 ∨ ¬ ((u_21.2.1 2)).toInt = 0) ∧ (∀ j : Nat, (j < 120 ∨ j = 122 ∨ 231 ≤ j) → f_29 j = m_told j) ∧ (RP m_place (m_fault).toInt (m_at).toInt ((u_21.2.1 2)).toInt ((u_21.2.1 1)).toInt (rLid T S)) ∧ (((u_21.2.1 2)).toInt = 0 → MRb f_26 f_29 m_hasHabit (sWare T S (m_place (m_at).toInt.toNat).toInt.toNat)) from ⟨by omega, by omega, hf_29, by omega, by omega, by omega, (fun j hj => by rw [ef_29, pk_un (show ¬ j = 120 from (by omega)), ef_25, pk_un (show ¬ j = (v_24).toInt.toNat from (by omega)), ef_23, pk_un (show ¬ j = (v_20).toInt.toNat from (by omega)), ef_19, pk_un (show ¬ j = (v_18).toInt.toNat from (by omega)), ef_17, pk_un (show ¬ j = (v_14).toInt.toNat from (by omega)), ef_13, pk_un (show ¬ j = (v_12).toInt.toNat from (by omega)), ef_11, pk_un (show ¬ j = (v_8).toInt.toNat from (by omega))]), ((RP.bind (RP.bind (RP.bind (RP.nx (RP.go (fa := (m_fault).toInt) (fa' := (m_fault).toInt) (at' := (v_3).toInt) (g := fun p => (nx T p, 0)) hRT (by omega) (by omega) rfl (by omega) (fun z => rfl)) hw_5_5) hw_10_6) hw_16_6) hw_22_6).mv (fun z => by have c1 := hMR.1.1.1; unfold rLid; rw [if_neg (by omega)]; rfl)), (fun hz => MRb.ware (n := (v_1).toInt.toNat) hMR (by omega) (by rw [ef_29, pk_us]; omega) (fun j hj => by rw [ef_29, pk_un (show ¬ j = 120 from (by omega)), ef_25, pk_un (show ¬ j = (v_24).toInt.toNat from (by omega)), ef_23, pk_un (show ¬ j = (v_20).toInt.toNat from (by omega)), ef_19, pk_un (show ¬ j = (v_18).toInt.toNat from (by omega)), ef_17, pk_un (show ¬ j = (v_14).toInt.toNat from (by omega)), ef_13, pk_un (show ¬ j = (v_12).toInt.toNat from (by omega)), ef_11, pk_un (show ¬ j = (v_8).toInt.toNat from (by omega))]) ef_26 (by rw [hw_5_6 (by omega), (show (m_place (v_3).toInt.toNat).toInt.toNat = nx T (m_place (m_at).toInt.toNat).toInt.toNat from (by have z8 := (hRT (m_at).toInt.toNat (by omega)).2.2 (by omega); rw [show (v_3).toInt.toNat = (m_at).toInt.toNat + 1 from (by omega)]; show _ = (T (m_place (m_at).toInt.toNat).toInt.toNat).2.2; omega))]) (by omega))⟩) [3, 4, 5, 6, 7, 1, 2, 0] (by decide) rfl (by decide) (by decide) dX11_readWare_188
  · skip
    have el_12 : (12 : Int32).toInt = 12 := rfl
    rw [i_eq] at c_2
    refine j_aload_n (pc := 14) C dX11_readWare_14 rfl 1 rfl ?_
    refine j_iconst (pc := 15) (v := 5) C dX11_readWare_15 (by decide) ?_
    refine j_callV (pc := 16) (As := [.int 5]) (rest := []) (wr := [(msort, .inl (cyI, 1002, .inl m_sort)), (mvalue, .inl (cyJ, 1002, .inr (.inl m_value))), (mwords, .inl (cyJ, 23, .inr (.inl m_words))), (mtold, .inl (cyI, 240, .inl m_told)), (mnames, .inl (cyJ, 16, .inr (.inl m_names))), (mhasHabit, .inl (cyZ, 12, .inl m_hasHabit))]) C (c_X11_wrong l D cyC cyI cyJ cyZ cyO m0 mplace mtape msort mvalue mwords mtold mop marg mnames mhasHabit mfactWords mfacts mpile mstates misMarked mrow mthr mmays mtall mweights mrowOfWare mneededOf mtried mbestRow mdigits 5 m_thrown m_taped m_size m_at m_fault m_codes m_isNew m_inShelf m_inStack m_inPlace m_rowMany m_goShelf m_goStack m_goLeft m_bestCost m_bestMany m_bestShelf m_bestSet m_place (by omega) (by omega) (by omega) (by omega) (by omega) (by omega) (by omega) (by omega) (by omega) (by omega) (by omega) (by omega) (by omega) (by decide) h_m_place) wd_657 wd_624 wd_658 wd_659 wd_660 ⟨by decide, by decide, rfl⟩ rfl ⟨rfl, rfl, by decide, by decide⟩ ⟨by decide, by decide⟩ [0, 2] [1, 3, 4, 5, 6, 7] rfl rfl ⟨by decide, by decide, by decide⟩ 0 rfl rfl rfl (Nat.le_of_ble_eq_true rfl) dX11_readWare_16 (fun u_30 hw_31 => ?_)
    refine j_eq (ws2 := [(msort, .inl (cyI, 1002, .inl m_sort)), (mvalue, .inl (cyJ, 1002, .inr (.inl m_value))), (mwords, .inl (cyJ, 23, .inr (.inl m_words))), (mtold, .inl (cyI, 240, .inl m_told)), (mnames, .inl (cyJ, 16, .inr (.inl m_names))), (mhasHabit, .inl (cyZ, 12, .inl m_hasHabit)), (m0, .inr (11, [.int m_thrown, .ref mtape, .int m_taped, .int m_size, .ref msort, .ref mplace, .ref mvalue, .int m_at, .int (u_30.2.1 0), .ref mwords, .ref mtold, .ref mop, .ref marg, .int m_codes, .ref mnames, .ref mhasHabit, .int m_isNew, .ref mfactWords, .ref mfacts, .ref mpile, .ref mstates, .ref misMarked, .int m_inShelf, .int m_inStack, .int m_inPlace, .ref mrow, .int m_rowMany, .ref mthr, .ref mmays, .ref mtall, .ref mweights, .ref mrowOfWare, .ref mneededOf, .int m_goShelf, .int m_goStack, .int m_goLeft, .ref mtried, .ref mbestRow, .int m_bestCost, .int m_bestMany, .int m_bestShelf, .int m_bestSet, .ref mdigits])), (mplace, .inl (cyI, 1002, .inl m_place))]) (pc2 := 19) (lv2 := [(2, .int v_1), (0, .ref m0), (1, .int 1)]) (st2 := []) rfl rfl rfl rfl ?_
    obtain ⟨hw_31_0, hw_31_1, hw_31_2⟩ := hw_31
    have el_5 : (5 : Int32).toInt = 5 := rfl
    exact j_vret (pc := 19) C hr hk (fun i => [].getD i 0, fun i => [m_at, (u_30.2.1 0)].getD i 0, fun i => [m_told].getD i (fun _ => 0), fun i => [m_names].getD i (fun _ => 0)) rfl (show (0 ≤ (m_at).toInt ∧ (m_at).toInt ≤ 1000) ∧ (0 ≤ ((u_30.2.1 0)).toInt ∧ ((u_30.2.1 0)).toInt ≤ 16005) ∧ (TV m_told) ∧ ((m_at).toInt ≤ (m_at).toInt) ∧ ((m_at).toInt ≤ ((eN m_sort : Nat) : Int)) ∧ ((m_fault).toInt = 0 ∨ ¬ ((u_30.2.1 0)).toInt = 0) ∧ (∀ j : Nat, (j < 120 ∨ j = 122 ∨ 231 ≤ j) → m_told j = m_told j) ∧ (RP m_place (m_fault).toInt (m_at).toInt ((u_30.2.1 0)).toInt (m_at).toInt (rLid T S)) ∧ (((u_30.2.1 0)).toInt = 0 → MRb m_names m_told m_hasHabit (sWare T S (m_place (m_at).toInt.toNat).toInt.toNat)) from ⟨by omega, by omega, h_m_told, by omega, by omega, by omega, (fun j hj => rfl), (RP.wr 5 (fun z => by have z9 := hw_31_1 z; omega) (fun z => by have z9 := hw_31_2 z; omega) (h_m_place (m_at).toInt.toNat (by omega)).1 (by decide) (fun z => by have c1 := hMR.1.1.1; unfold rLid; rw [if_pos (by omega)])), (fun h => absurd h (by omega))⟩) [6, 0, 7, 1, 2, 3, 4, 5] (by decide) rfl (by decide) (by decide) dX11_readWare_19
set_option maxHeartbeats 4000000 in
set_option maxRecDepth 100000 in
theorem c_X11_readShelf (l : Launch) (D : DG) (cyC cyI cyJ cyZ cyO : ClassId) (m0 : Nat) (msort : Nat) (mplace : Nat) (mvalue : Nat) (mwords : Nat) (mtold : Nat) (mnames : Nat) (mhasHabit : Nat) (mtape : Nat) (mop : Nat) (marg : Nat) (mfactWords : Nat) (mfacts : Nat) (mpile : Nat) (mstates : Nat) (misMarked : Nat) (mrow : Nat) (mthr : Nat) (mmays : Nat) (mtall : Nat) (mweights : Nat) (mrowOfWare : Nat) (mneededOf : Nat) (mtried : Nat) (mbestRow : Nat) (mdigits : Nat) (m_thrown : Int32) (m_taped : Int32) (m_size : Int32) (m_at : Int32) (m_fault : Int32) (m_codes : Int32) (m_isNew : Int32) (m_inShelf : Int32) (m_inStack : Int32) (m_inPlace : Int32) (m_rowMany : Int32) (m_goShelf : Int32) (m_goStack : Int32) (m_goLeft : Int32) (m_bestCost : Int32) (m_bestMany : Int32) (m_bestShelf : Int32) (m_bestSet : Int32) (m_sort : Nat → Int32) (m_place : Nat → Int32) (m_value : Nat → Int64) (m_words : Nat → Int64) (m_told : Nat → Int32) (m_names : Nat → Int64) (m_hasHabit : Nat → Int32) (T : Nat → Int × Int64 × Nat) (S : ((Nat → Int64) × Nat × (Nat → Int64) × Nat × (Nat → Bool) × (Nat → Bool) × Nat)) (h_m_taped : 0 ≤ (m_taped).toInt ∧ (m_taped).toInt ≤ 1000) (h_m_size : 0 ≤ (m_size).toInt ∧ (m_size).toInt ≤ 1000) (h_m_at : 0 ≤ (m_at).toInt ∧ (m_at).toInt ≤ 1000) (h_m_fault : 0 ≤ (m_fault).toInt ∧ (m_fault).toInt ≤ 16005) (h_m_codes : 0 ≤ (m_codes).toInt ∧ (m_codes).toInt ≤ 1000) (h_m_isNew : 0 ≤ (m_isNew).toInt ∧ (m_isNew).toInt ≤ 1) (h_m_inShelf : 0 ≤ (m_inShelf).toInt ∧ (m_inShelf).toInt ≤ 3) (h_m_inStack : 0 ≤ (m_inStack).toInt ∧ (m_inStack).toInt ≤ 7) (h_m_inPlace : 0 ≤ (m_inPlace).toInt ∧ (m_inPlace).toInt ≤ 11) (h_m_rowMany : 0 ≤ (m_rowMany).toInt ∧ (m_rowMany).toInt ≤ 12) (h_m_goShelf : -1 ≤ (m_goShelf).toInt ∧ (m_goShelf).toInt ≤ 3) (h_m_bestMany : 0 ≤ (m_bestMany).toInt ∧ (m_bestMany).toInt ≤ 7) (h_m_bestShelf : 0 ≤ (m_bestShelf).toInt ∧ (m_bestShelf).toInt ≤ 3) (h_m_place : Iv 1002 (0) (1000) m_place) (h_m_told : TV m_told) (hN1 : eN m_sort ≤ 1000) (hN2 : (m_at).toInt ≤ ((eN m_sort : Nat) : Int)) (hN3 : (m_at).toInt < ((eN m_sort : Nat) : Int)) (hRT : RWS m_sort m_place m_value T) (hWO : WRD m_words) (hMR : MRb m_names m_told m_hasHabit S) : KK l D (TY cyC cyI cyJ cyZ cyO) yX11_readShelf cX11_readShelf 5 none ({ frames := 4, cells := 0, slots := 0, locals := 87 } : Room) 0 0 [.ref m0] [(m0, .inr (11, [.int m_thrown, .ref mtape, .int m_taped, .int m_size, .ref msort, .ref mplace, .ref mvalue, .int m_at, .int m_fault, .ref mwords, .ref mtold, .ref mop, .ref marg, .int m_codes, .ref mnames, .ref mhasHabit, .int m_isNew, .ref mfactWords, .ref mfacts, .ref mpile, .ref mstates, .ref misMarked, .int m_inShelf, .int m_inStack, .int m_inPlace, .ref mrow, .int m_rowMany, .ref mthr, .ref mmays, .ref mtall, .ref mweights, .ref mrowOfWare, .ref mneededOf, .int m_goShelf, .int m_goStack, .int m_goLeft, .ref mtried, .ref mbestRow, .int m_bestCost, .int m_bestMany, .int m_bestShelf, .int m_bestSet, .ref mdigits])), (msort, .inl (cyI, 1002, .inl m_sort)), (mplace, .inl (cyI, 1002, .inl m_place)), (mvalue, .inl (cyJ, 1002, .inr (.inl m_value))), (mwords, .inl (cyJ, 23, .inr (.inl m_words))), (mtold, .inl (cyI, 240, .inl m_told)), (mnames, .inl (cyJ, 16, .inr (.inl m_names))), (mhasHabit, .inl (cyZ, 12, .inl m_hasHabit))] (fun u => none) (fun u => (0 ≤ (u.2.1 0).toInt ∧ (u.2.1 0).toInt ≤ 1000) ∧ (0 ≤ (u.2.1 1).toInt ∧ (u.2.1 1).toInt ≤ 16005) ∧ (TV (u.2.2.1 0)) ∧ ((m_at).toInt ≤ ((u.2.1 0)).toInt) ∧ (((u.2.1 0)).toInt ≤ ((eN m_sort : Nat) : Int)) ∧ ((m_fault).toInt = 0 ∨ ¬ ((u.2.1 1)).toInt = 0) ∧ (∀ j : Nat, (j < 120 ∨ j = 122 ∨ 231 ≤ j) → (u.2.2.1 0) j = m_told j) ∧ (RP m_place (m_fault).toInt (m_at).toInt ((u.2.1 1)).toInt ((u.2.1 0)).toInt (rShelf T S)) ∧ (((u.2.1 1)).toInt = 0 → MRb (u.2.2.2 0) (u.2.2.1 0) m_hasHabit (sShelf T S (m_place (m_at).toInt.toNat).toInt.toNat))) (fun u => [(m0, .inr (11, [.int m_thrown, .ref mtape, .int m_taped, .int m_size, .ref msort, .ref mplace, .ref mvalue, .int (u.2.1 0), .int (u.2.1 1), .ref mwords, .ref mtold, .ref mop, .ref marg, .int m_codes, .ref mnames, .ref mhasHabit, .int m_isNew, .ref mfactWords, .ref mfacts, .ref mpile, .ref mstates, .ref misMarked, .int m_inShelf, .int m_inStack, .int m_inPlace, .ref mrow, .int m_rowMany, .ref mthr, .ref mmays, .ref mtall, .ref mweights, .ref mrowOfWare, .ref mneededOf, .int m_goShelf, .int m_goStack, .int m_goLeft, .ref mtried, .ref mbestRow, .int m_bestCost, .int m_bestMany, .int m_bestShelf, .int m_bestSet, .ref mdigits])), (msort, .inl (cyI, 1002, .inl m_sort)), (mplace, .inl (cyI, 1002, .inl m_place)), (mvalue, .inl (cyJ, 1002, .inr (.inl m_value))), (mwords, .inl (cyJ, 23, .inr (.inl m_words))), (mtold, .inl (cyI, 240, .inl (u.2.2.1 0))), (mnames, .inl (cyJ, 16, .inr (.inl (u.2.2.2 0)))), (mhasHabit, .inl (cyZ, 12, .inl m_hasHabit))]) := by
  refine KK.of (lv0 := [(0, .ref m0)]) (by decide) rfl (Nat.le_of_ble_eq_true rfl) ?_
  intro p e s m args below meth c A C hr hk hin
  refine j_aload_n (pc := 0) C dX11_readShelf_0 rfl 0 rfl ?_
  refine j_get (pc := 1) (ci := 11) (v := .ref mtold) C inw_11 0 rfl rfl 10 (by decide) wd_669 rfl rfl dX11_readShelf_1 ?_
  refine j_bipush (pc := 4) (v := 121) C dX11_readShelf_4 (by decide) ?_
  obtain ⟨v_1, ev_1⟩ : ∃ z, m_told 121 = z := ⟨_, rfl⟩
  have env_1 : (m_told 121).toInt = v_1.toInt := by rw [ev_1]
  have hv_1 : 0 ≤ v_1.toInt ∧ v_1.toInt ≤ 4 := by have z := h_m_told 121 (by decide); rw [ev_1] at z; exact z
  refine j_iald (pc := 6) (v := v_1) (k := 121) C 5 1 rfl rfl (by decide) (by decide) (by decide) ev_1 dX11_readShelf_6 ?_
  refine j_istore_n (pc := 7) (lv' := [(1, .int v_1), (0, .ref m0)]) C dX11_readShelf_7 rfl (by decide) rfl ?_
  refine j_iload_n (pc := 8) C dX11_readShelf_8 rfl 0 rfl ?_
  refine j_iconst (pc := 9) (v := 4) C dX11_readShelf_9 (by decide) ?_
  refine j_icmp_ne (pc := 10) (tgt := 19) C dX11_readShelf_10 (by decide) (fun c_2 => ?_) (fun c_2 => ?_)
  · skip
    have el_4 : (4 : Int32).toInt = 4 := rfl
    rw [i_eq] at c_2
    refine j_aload_n (pc := 19) C dX11_readShelf_19 rfl 1 rfl ?_
    refine j_dup (pc := 20) C dX11_readShelf_20 rfl ?_
    refine j_get (pc := 21) (ci := 11) (v := .int m_at) C inw_11 0 rfl rfl 7 (by decide) wd_637 rfl rfl dX11_readShelf_21 ?_
    refine j_iconst (pc := 24) (v := 1) C dX11_readShelf_24 (by decide) ?_
    obtain ⟨v_3, ev_3⟩ : ∃ z : Int32, m_at + 1 = z := ⟨_, rfl⟩
    have el_1 : (1 : Int32).toInt = 1 := rfl
    have hv_3 : v_3.toInt = m_at.toInt + (1 : Int32).toInt := by rw [← ev_3]; exact fb_addI (by omega) (by omega)
    refine j_iadd (pc := 25) (v := v_3) C dX11_readShelf_25 ev_3 ?_
    refine j_put (pc := 26) (ci := 11) (v := .int v_3) (ws' := [(m0, .inr (11, [.int m_thrown, .ref mtape, .int m_taped, .int m_size, .ref msort, .ref mplace, .ref mvalue, .int v_3, .int m_fault, .ref mwords, .ref mtold, .ref mop, .ref marg, .int m_codes, .ref mnames, .ref mhasHabit, .int m_isNew, .ref mfactWords, .ref mfacts, .ref mpile, .ref mstates, .ref misMarked, .int m_inShelf, .int m_inStack, .int m_inPlace, .ref mrow, .int m_rowMany, .ref mthr, .ref mmays, .ref mtall, .ref mweights, .ref mrowOfWare, .ref mneededOf, .int m_goShelf, .int m_goStack, .int m_goLeft, .ref mtried, .ref mbestRow, .int m_bestCost, .int m_bestMany, .int m_bestShelf, .int m_bestSet, .ref mdigits])), (msort, .inl (cyI, 1002, .inl m_sort)), (mplace, .inl (cyI, 1002, .inl m_place)), (mvalue, .inl (cyJ, 1002, .inr (.inl m_value))), (mwords, .inl (cyJ, 23, .inr (.inl m_words))), (mtold, .inl (cyI, 240, .inl m_told)), (mnames, .inl (cyJ, 16, .inr (.inl m_names))), (mhasHabit, .inl (cyZ, 12, .inl m_hasHabit))]) C inw_11 0 rfl rfl 7 (by decide) wd_637 rfl tyX11_ok nmX11 rfl (tyX11_ok 7 (by decide)) rfl rfl (Nat.le_of_ble_eq_true rfl) dX11_readShelf_26 rfl ?_
    refine j_aload_n (pc := 29) C dX11_readShelf_29 rfl 1 rfl ?_
    refine j_callV (pc := 30) (As := []) (rest := []) (wr := [(mhasHabit, .inl (cyZ, 12, .inl m_hasHabit))]) C (c_X11_newName l D cyC cyI cyJ cyZ cyO m0 msort mplace mvalue mwords mtold mnames mtape mop marg mhasHabit mfactWords mfacts mpile mstates misMarked mrow mthr mmays mtall mweights mrowOfWare mneededOf mtried mbestRow mdigits m_thrown m_taped m_size v_3 m_fault m_codes m_isNew m_inShelf m_inStack m_inPlace m_rowMany m_goShelf m_goStack m_goLeft m_bestCost m_bestMany m_bestShelf m_bestSet m_sort m_place m_value m_words m_told m_names T S (by omega) (by omega) (by omega) (by omega) (by omega) (by omega) (by omega) (by omega) (by omega) (by omega) (by omega) (by omega) (by omega) h_m_place h_m_told (by omega) (by omega) hRT hWO hMR.1.1) wd_687 wd_624 wd_688 wd_689 wd_690 ⟨by decide, by decide, rfl⟩ rfl ⟨rfl, rfl, by decide, by decide⟩ ⟨by decide, by decide⟩ [0, 1, 2, 3, 4, 5, 6] [7] rfl rfl ⟨by decide, by decide, by decide⟩ 0 rfl rfl rfl (Nat.le_of_ble_eq_true rfl) dX11_readShelf_30 (fun u_4 hw_5 => ?_)
    refine j_eq (ws2 := [(mhasHabit, .inl (cyZ, 12, .inl m_hasHabit)), (m0, .inr (11, [.int m_thrown, .ref mtape, .int m_taped, .int m_size, .ref msort, .ref mplace, .ref mvalue, .int (u_4.2.1 0), .int (u_4.2.1 1), .ref mwords, .ref mtold, .ref mop, .ref marg, .int m_codes, .ref mnames, .ref mhasHabit, .int m_isNew, .ref mfactWords, .ref mfacts, .ref mpile, .ref mstates, .ref misMarked, .int m_inShelf, .int m_inStack, .int m_inPlace, .ref mrow, .int m_rowMany, .ref mthr, .ref mmays, .ref mtall, .ref mweights, .ref mrowOfWare, .ref mneededOf, .int m_goShelf, .int m_goStack, .int m_goLeft, .ref mtried, .ref mbestRow, .int m_bestCost, .int m_bestMany, .int m_bestShelf, .int m_bestSet, .ref mdigits])), (msort, .inl (cyI, 1002, .inl m_sort)), (mplace, .inl (cyI, 1002, .inl m_place)), (mvalue, .inl (cyJ, 1002, .inr (.inl m_value))), (mwords, .inl (cyJ, 23, .inr (.inl m_words))), (mtold, .inl (cyI, 240, .inl m_told)), (mnames, .inl (cyJ, 16, .inr (.inl m_names)))]) (pc2 := 33) (lv2 := [(1, .int v_1), (0, .ref m0)]) (st2 := [.long (u_4.2.2.2 0 0)]) rfl rfl rfl rfl ?_
    obtain ⟨hw_5_0, hw_5_1, hw_5_2, hw_5_3, hw_5_4, hw_5_5, hw_5_6⟩ := hw_5
    refine j_lstore_n (pc := 33) (lv' := [(2, .long (u_4.2.2.2 0 0)), (1, .int v_1), (0, .ref m0)]) C dX11_readShelf_33 rfl (by decide) rfl ?_
    refine j_sipush (pc := 34) (v := 219) C dX11_readShelf_34 (by decide) ?_
    refine j_iconst (pc := 37) (v := 3) C dX11_readShelf_37 (by decide) ?_
    refine j_iload_n (pc := 38) C dX11_readShelf_38 rfl 1 rfl ?_
    obtain ⟨v_6, ev_6⟩ : ∃ z : Int32, 3 * v_1 = z := ⟨_, rfl⟩
    have el_3 : (3 : Int32).toInt = 3 := rfl
    have hv_6 : v_6.toInt = 3 * v_1.toInt := by rw [← ev_6]; exact mulL (c := 3) rfl (by omega) (by omega)
    refine j_imul (pc := 39) (v := v_6) C dX11_readShelf_39 ev_6 ?_
    obtain ⟨v_7, ev_7⟩ : ∃ z : Int32, 219 + v_6 = z := ⟨_, rfl⟩
    have el_219 : (219 : Int32).toInt = 219 := rfl
    have hv_7 : v_7.toInt = (219 : Int32).toInt + v_6.toInt := by rw [← ev_7]; exact fb_addI (by omega) (by omega)
    refine j_iadd (pc := 40) (v := v_7) C dX11_readShelf_40 ev_7 ?_
    refine j_istore (pc := 41) (lv' := [(4, .int v_7), (2, .long (u_4.2.2.2 0 0)), (1, .int v_1), (0, .ref m0)]) C dX11_readShelf_41 (by decide) rfl ?_
    refine j_aload_n (pc := 43) C dX11_readShelf_43 rfl 3 rfl ?_
    refine j_get (pc := 44) (ci := 11) (v := .ref mtold) C inw_11 1 rfl rfl 10 (by decide) wd_669 rfl rfl dX11_readShelf_44 ?_
    refine j_iload (pc := 47) C dX11_readShelf_47 0 rfl ?_
    refine j_aload_n (pc := 49) C dX11_readShelf_49 rfl 3 rfl ?_
    refine j_bipush (pc := 50) (v := 11) C dX11_readShelf_50 (by decide) ?_
    refine j_iconst (pc := 52) (v := 1) C dX11_readShelf_52 (by decide) ?_
    refine j_sipush (pc := 53) (v := 999) C dX11_readShelf_53 (by decide) ?_
    refine j_callV (pc := 56) (As := [.int 11, .int 1, .int 999]) (rest := [.int v_7, .ref mtold]) (wr := [(mhasHabit, .inl (cyZ, 12, .inl m_hasHabit)), (mtold, .inl (cyI, 240, .inl m_told)), (mnames, .inl (cyJ, 16, .inr (.inl m_names)))]) C (c_X11_takeAfter l D cyC cyI cyJ cyZ cyO m0 msort mplace mvalue mwords mtape mtold mop marg mnames mhasHabit mfactWords mfacts mpile mstates misMarked mrow mthr mmays mtall mweights mrowOfWare mneededOf mtried mbestRow mdigits 11 1 999 m_thrown m_taped m_size (u_4.2.1 0) (u_4.2.1 1) m_codes m_isNew m_inShelf m_inStack m_inPlace m_rowMany m_goShelf m_goStack m_goLeft m_bestCost m_bestMany m_bestShelf m_bestSet m_sort m_place m_value m_words T (by omega) (by omega) (by omega) (by omega) (by omega) (by omega) (by omega) (by omega) (by omega) (by omega) (by omega) (by omega) (by omega) (by decide) h_m_place (by omega) (by omega) hRT hWO) wd_691 wd_624 wd_692 wd_693 wd_694 ⟨by decide, by decide, rfl⟩ rfl ⟨rfl, rfl, by decide, by decide⟩ ⟨by decide, by decide⟩ [1, 2, 3, 4, 5] [0, 6, 7] rfl rfl ⟨by decide, by decide, by decide⟩ 1 rfl rfl rfl (Nat.le_of_ble_eq_true rfl) dX11_readShelf_56 (fun u_8 hw_9 => ?_)
    refine j_eq (ws2 := [(mhasHabit, .inl (cyZ, 12, .inl m_hasHabit)), (mtold, .inl (cyI, 240, .inl m_told)), (mnames, .inl (cyJ, 16, .inr (.inl m_names))), (m0, .inr (11, [.int m_thrown, .ref mtape, .int m_taped, .int m_size, .ref msort, .ref mplace, .ref mvalue, .int (u_8.2.1 1), .int (u_8.2.1 2), .ref mwords, .ref mtold, .ref mop, .ref marg, .int m_codes, .ref mnames, .ref mhasHabit, .int m_isNew, .ref mfactWords, .ref mfacts, .ref mpile, .ref mstates, .ref misMarked, .int m_inShelf, .int m_inStack, .int m_inPlace, .ref mrow, .int m_rowMany, .ref mthr, .ref mmays, .ref mtall, .ref mweights, .ref mrowOfWare, .ref mneededOf, .int m_goShelf, .int m_goStack, .int m_goLeft, .ref mtried, .ref mbestRow, .int m_bestCost, .int m_bestMany, .int m_bestShelf, .int m_bestSet, .ref mdigits])), (msort, .inl (cyI, 1002, .inl m_sort)), (mplace, .inl (cyI, 1002, .inl m_place)), (mvalue, .inl (cyJ, 1002, .inr (.inl m_value))), (mwords, .inl (cyJ, 23, .inr (.inl m_words)))]) (pc2 := 59) (lv2 := [(4, .int v_7), (2, .long (u_4.2.2.2 0 0)), (1, .int v_1), (0, .ref m0)]) (st2 := [.int (u_8.2.1 0), .int v_7, .ref mtold]) rfl rfl rfl rfl ?_
    obtain ⟨hw_9_0, hw_9_1, hw_9_2, hw_9_3, hw_9_4, hw_9_5, hw_9_6⟩ := hw_9
    have el_11 : (11 : Int32).toInt = 11 := rfl
    have el_1 : (1 : Int32).toInt = 1 := rfl
    have el_999 : (999 : Int32).toInt = 999 := rfl
    obtain ⟨f_10, ef_10⟩ : ∃ z, z = upd m_told (v_7).toInt.toNat (u_8.2.1 0) := ⟨_, rfl⟩
    have hf_10 : TV f_10 := by rw [ef_10]; exact TV.upd h_m_told (by omega) (Int.le_trans (show _ ≤ (999 : Int) from (by omega)) (hiT_k (by omega)))
    refine j_iast (pc := 59) (k := (v_7).toInt.toNat) (ws' := [(mhasHabit, .inl (cyZ, 12, .inl m_hasHabit)), (mtold, .inl (cyI, 240, .inl f_10)), (mnames, .inl (cyJ, 16, .inr (.inl m_names))), (m0, .inr (11, [.int m_thrown, .ref mtape, .int m_taped, .int m_size, .ref msort, .ref mplace, .ref mvalue, .int (u_8.2.1 1), .int (u_8.2.1 2), .ref mwords, .ref mtold, .ref mop, .ref marg, .int m_codes, .ref mnames, .ref mhasHabit, .int m_isNew, .ref mfactWords, .ref mfacts, .ref mpile, .ref mstates, .ref misMarked, .int m_inShelf, .int m_inStack, .int m_inPlace, .ref mrow, .int m_rowMany, .ref mthr, .ref mmays, .ref mtall, .ref mweights, .ref mrowOfWare, .ref mneededOf, .int m_goShelf, .int m_goStack, .int m_goLeft, .ref mtried, .ref mbestRow, .int m_bestCost, .int m_bestMany, .int m_bestShelf, .int m_bestSet, .ref mdigits])), (msort, .inl (cyI, 1002, .inl m_sort)), (mplace, .inl (cyI, 1002, .inl m_place)), (mvalue, .inl (cyJ, 1002, .inr (.inl m_value))), (mwords, .inl (cyJ, 23, .inr (.inl m_words)))]) C 1 1 rfl rfl (i_nn (by omega)) rfl (i_lt_n (by omega) (by omega)) dX11_readShelf_59 (by rw [ef_10]; rfl) ?_
    refine j_aload_n (pc := 60) C dX11_readShelf_60 rfl 3 rfl ?_
    refine j_get (pc := 61) (ci := 11) (v := .ref mtold) C inw_11 3 rfl rfl 10 (by decide) wd_669 rfl rfl dX11_readShelf_61 ?_
    refine j_iload (pc := 64) C dX11_readShelf_64 0 rfl ?_
    refine j_iconst (pc := 66) (v := 1) C dX11_readShelf_66 (by decide) ?_
    obtain ⟨v_11, ev_11⟩ : ∃ z : Int32, v_7 + 1 = z := ⟨_, rfl⟩
    have el_1 : (1 : Int32).toInt = 1 := rfl
    have hv_11 : v_11.toInt = v_7.toInt + (1 : Int32).toInt := by rw [← ev_11]; exact fb_addI (by omega) (by omega)
    refine j_iadd (pc := 67) (v := v_11) C dX11_readShelf_67 ev_11 ?_
    refine j_aload_n (pc := 68) C dX11_readShelf_68 rfl 3 rfl ?_
    refine j_bipush (pc := 69) (v := 12) C dX11_readShelf_69 (by decide) ?_
    refine j_iconst (pc := 71) (v := 0) C dX11_readShelf_71 (by decide) ?_
    refine j_bipush (pc := 72) (v := 99) C dX11_readShelf_72 (by decide) ?_
    refine j_callV (pc := 74) (As := [.int 12, .int 0, .int 99]) (rest := [.int v_11, .ref mtold]) (wr := [(mhasHabit, .inl (cyZ, 12, .inl m_hasHabit)), (mtold, .inl (cyI, 240, .inl f_10)), (mnames, .inl (cyJ, 16, .inr (.inl m_names)))]) C (c_X11_takeAfter l D cyC cyI cyJ cyZ cyO m0 msort mplace mvalue mwords mtape mtold mop marg mnames mhasHabit mfactWords mfacts mpile mstates misMarked mrow mthr mmays mtall mweights mrowOfWare mneededOf mtried mbestRow mdigits 12 0 99 m_thrown m_taped m_size (u_8.2.1 1) (u_8.2.1 2) m_codes m_isNew m_inShelf m_inStack m_inPlace m_rowMany m_goShelf m_goStack m_goLeft m_bestCost m_bestMany m_bestShelf m_bestSet m_sort m_place m_value m_words T (by omega) (by omega) (by omega) (by omega) (by omega) (by omega) (by omega) (by omega) (by omega) (by omega) (by omega) (by omega) (by omega) (by decide) h_m_place (by omega) (by omega) hRT hWO) wd_691 wd_624 wd_692 wd_693 wd_694 ⟨by decide, by decide, rfl⟩ rfl ⟨rfl, rfl, by decide, by decide⟩ ⟨by decide, by decide⟩ [3, 4, 5, 6, 7] [0, 1, 2] rfl rfl ⟨by decide, by decide, by decide⟩ 3 rfl rfl rfl (Nat.le_of_ble_eq_true rfl) dX11_readShelf_74 (fun u_12 hw_13 => ?_)
    refine j_eq (ws2 := [(mhasHabit, .inl (cyZ, 12, .inl m_hasHabit)), (mtold, .inl (cyI, 240, .inl f_10)), (mnames, .inl (cyJ, 16, .inr (.inl m_names))), (m0, .inr (11, [.int m_thrown, .ref mtape, .int m_taped, .int m_size, .ref msort, .ref mplace, .ref mvalue, .int (u_12.2.1 1), .int (u_12.2.1 2), .ref mwords, .ref mtold, .ref mop, .ref marg, .int m_codes, .ref mnames, .ref mhasHabit, .int m_isNew, .ref mfactWords, .ref mfacts, .ref mpile, .ref mstates, .ref misMarked, .int m_inShelf, .int m_inStack, .int m_inPlace, .ref mrow, .int m_rowMany, .ref mthr, .ref mmays, .ref mtall, .ref mweights, .ref mrowOfWare, .ref mneededOf, .int m_goShelf, .int m_goStack, .int m_goLeft, .ref mtried, .ref mbestRow, .int m_bestCost, .int m_bestMany, .int m_bestShelf, .int m_bestSet, .ref mdigits])), (msort, .inl (cyI, 1002, .inl m_sort)), (mplace, .inl (cyI, 1002, .inl m_place)), (mvalue, .inl (cyJ, 1002, .inr (.inl m_value))), (mwords, .inl (cyJ, 23, .inr (.inl m_words)))]) (pc2 := 77) (lv2 := [(4, .int v_7), (2, .long (u_4.2.2.2 0 0)), (1, .int v_1), (0, .ref m0)]) (st2 := [.int (u_12.2.1 0), .int v_11, .ref mtold]) rfl rfl rfl rfl ?_
    obtain ⟨hw_13_0, hw_13_1, hw_13_2, hw_13_3, hw_13_4, hw_13_5, hw_13_6⟩ := hw_13
    have el_12 : (12 : Int32).toInt = 12 := rfl
    have el_0 : (0 : Int32).toInt = 0 := rfl
    have el_99 : (99 : Int32).toInt = 99 := rfl
    obtain ⟨f_14, ef_14⟩ : ∃ z, z = upd f_10 (v_11).toInt.toNat (u_12.2.1 0) := ⟨_, rfl⟩
    have hf_14 : TV f_14 := by rw [ef_14]; exact TV.upd hf_10 (by omega) (Int.le_trans (show _ ≤ (999 : Int) from (by omega)) (hiT_k (by omega)))
    refine j_iast (pc := 77) (k := (v_11).toInt.toNat) (ws' := [(mhasHabit, .inl (cyZ, 12, .inl m_hasHabit)), (mtold, .inl (cyI, 240, .inl f_14)), (mnames, .inl (cyJ, 16, .inr (.inl m_names))), (m0, .inr (11, [.int m_thrown, .ref mtape, .int m_taped, .int m_size, .ref msort, .ref mplace, .ref mvalue, .int (u_12.2.1 1), .int (u_12.2.1 2), .ref mwords, .ref mtold, .ref mop, .ref marg, .int m_codes, .ref mnames, .ref mhasHabit, .int m_isNew, .ref mfactWords, .ref mfacts, .ref mpile, .ref mstates, .ref misMarked, .int m_inShelf, .int m_inStack, .int m_inPlace, .ref mrow, .int m_rowMany, .ref mthr, .ref mmays, .ref mtall, .ref mweights, .ref mrowOfWare, .ref mneededOf, .int m_goShelf, .int m_goStack, .int m_goLeft, .ref mtried, .ref mbestRow, .int m_bestCost, .int m_bestMany, .int m_bestShelf, .int m_bestSet, .ref mdigits])), (msort, .inl (cyI, 1002, .inl m_sort)), (mplace, .inl (cyI, 1002, .inl m_place)), (mvalue, .inl (cyJ, 1002, .inr (.inl m_value))), (mwords, .inl (cyJ, 23, .inr (.inl m_words)))]) C 1 1 rfl rfl (i_nn (by omega)) rfl (i_lt_n (by omega) (by omega)) dX11_readShelf_77 (by rw [ef_14]; rfl) ?_
    refine j_aload_n (pc := 78) C dX11_readShelf_78 rfl 3 rfl ?_
    refine j_get (pc := 79) (ci := 11) (v := .ref mtold) C inw_11 3 rfl rfl 10 (by decide) wd_669 rfl rfl dX11_readShelf_79 ?_
    refine j_iload (pc := 82) C dX11_readShelf_82 0 rfl ?_
    refine j_iconst (pc := 84) (v := 2) C dX11_readShelf_84 (by decide) ?_
    obtain ⟨v_15, ev_15⟩ : ∃ z : Int32, v_7 + 2 = z := ⟨_, rfl⟩
    have el_2 : (2 : Int32).toInt = 2 := rfl
    have hv_15 : v_15.toInt = v_7.toInt + (2 : Int32).toInt := by rw [← ev_15]; exact fb_addI (by omega) (by omega)
    refine j_iadd (pc := 85) (v := v_15) C dX11_readShelf_85 ev_15 ?_
    refine j_aload_n (pc := 86) C dX11_readShelf_86 rfl 3 rfl ?_
    refine j_bipush (pc := 87) (v := 13) C dX11_readShelf_87 (by decide) ?_
    refine j_iconst (pc := 89) (v := 1) C dX11_readShelf_89 (by decide) ?_
    refine j_bipush (pc := 90) (v := 8) C dX11_readShelf_90 (by decide) ?_
    refine j_callV (pc := 92) (As := [.int 13, .int 1, .int 8]) (rest := [.int v_15, .ref mtold]) (wr := [(mhasHabit, .inl (cyZ, 12, .inl m_hasHabit)), (mtold, .inl (cyI, 240, .inl f_14)), (mnames, .inl (cyJ, 16, .inr (.inl m_names)))]) C (c_X11_takeAfter l D cyC cyI cyJ cyZ cyO m0 msort mplace mvalue mwords mtape mtold mop marg mnames mhasHabit mfactWords mfacts mpile mstates misMarked mrow mthr mmays mtall mweights mrowOfWare mneededOf mtried mbestRow mdigits 13 1 8 m_thrown m_taped m_size (u_12.2.1 1) (u_12.2.1 2) m_codes m_isNew m_inShelf m_inStack m_inPlace m_rowMany m_goShelf m_goStack m_goLeft m_bestCost m_bestMany m_bestShelf m_bestSet m_sort m_place m_value m_words T (by omega) (by omega) (by omega) (by omega) (by omega) (by omega) (by omega) (by omega) (by omega) (by omega) (by omega) (by omega) (by omega) (by decide) h_m_place (by omega) (by omega) hRT hWO) wd_691 wd_624 wd_692 wd_693 wd_694 ⟨by decide, by decide, rfl⟩ rfl ⟨rfl, rfl, by decide, by decide⟩ ⟨by decide, by decide⟩ [3, 4, 5, 6, 7] [0, 1, 2] rfl rfl ⟨by decide, by decide, by decide⟩ 3 rfl rfl rfl (Nat.le_of_ble_eq_true rfl) dX11_readShelf_92 (fun u_16 hw_17 => ?_)
    refine j_eq (ws2 := [(mhasHabit, .inl (cyZ, 12, .inl m_hasHabit)), (mtold, .inl (cyI, 240, .inl f_14)), (mnames, .inl (cyJ, 16, .inr (.inl m_names))), (m0, .inr (11, [.int m_thrown, .ref mtape, .int m_taped, .int m_size, .ref msort, .ref mplace, .ref mvalue, .int (u_16.2.1 1), .int (u_16.2.1 2), .ref mwords, .ref mtold, .ref mop, .ref marg, .int m_codes, .ref mnames, .ref mhasHabit, .int m_isNew, .ref mfactWords, .ref mfacts, .ref mpile, .ref mstates, .ref misMarked, .int m_inShelf, .int m_inStack, .int m_inPlace, .ref mrow, .int m_rowMany, .ref mthr, .ref mmays, .ref mtall, .ref mweights, .ref mrowOfWare, .ref mneededOf, .int m_goShelf, .int m_goStack, .int m_goLeft, .ref mtried, .ref mbestRow, .int m_bestCost, .int m_bestMany, .int m_bestShelf, .int m_bestSet, .ref mdigits])), (msort, .inl (cyI, 1002, .inl m_sort)), (mplace, .inl (cyI, 1002, .inl m_place)), (mvalue, .inl (cyJ, 1002, .inr (.inl m_value))), (mwords, .inl (cyJ, 23, .inr (.inl m_words)))]) (pc2 := 95) (lv2 := [(4, .int v_7), (2, .long (u_4.2.2.2 0 0)), (1, .int v_1), (0, .ref m0)]) (st2 := [.int (u_16.2.1 0), .int v_15, .ref mtold]) rfl rfl rfl rfl ?_
    obtain ⟨hw_17_0, hw_17_1, hw_17_2, hw_17_3, hw_17_4, hw_17_5, hw_17_6⟩ := hw_17
    have el_13 : (13 : Int32).toInt = 13 := rfl
    have el_1 : (1 : Int32).toInt = 1 := rfl
    have el_8 : (8 : Int32).toInt = 8 := rfl
    obtain ⟨f_18, ef_18⟩ : ∃ z, z = upd f_14 (v_15).toInt.toNat (u_16.2.1 0) := ⟨_, rfl⟩
    have hf_18 : TV f_18 := by rw [ef_18]; exact TV.upd hf_14 (by omega) (by rw [hiT_room (by omega)]; omega)
    refine j_iast (pc := 95) (k := (v_15).toInt.toNat) (ws' := [(mhasHabit, .inl (cyZ, 12, .inl m_hasHabit)), (mtold, .inl (cyI, 240, .inl f_18)), (mnames, .inl (cyJ, 16, .inr (.inl m_names))), (m0, .inr (11, [.int m_thrown, .ref mtape, .int m_taped, .int m_size, .ref msort, .ref mplace, .ref mvalue, .int (u_16.2.1 1), .int (u_16.2.1 2), .ref mwords, .ref mtold, .ref mop, .ref marg, .int m_codes, .ref mnames, .ref mhasHabit, .int m_isNew, .ref mfactWords, .ref mfacts, .ref mpile, .ref mstates, .ref misMarked, .int m_inShelf, .int m_inStack, .int m_inPlace, .ref mrow, .int m_rowMany, .ref mthr, .ref mmays, .ref mtall, .ref mweights, .ref mrowOfWare, .ref mneededOf, .int m_goShelf, .int m_goStack, .int m_goLeft, .ref mtried, .ref mbestRow, .int m_bestCost, .int m_bestMany, .int m_bestShelf, .int m_bestSet, .ref mdigits])), (msort, .inl (cyI, 1002, .inl m_sort)), (mplace, .inl (cyI, 1002, .inl m_place)), (mvalue, .inl (cyJ, 1002, .inr (.inl m_value))), (mwords, .inl (cyJ, 23, .inr (.inl m_words)))]) C 1 1 rfl rfl (i_nn (by omega)) rfl (i_lt_n (by omega) (by omega)) dX11_readShelf_95 (by rw [ef_18]; rfl) ?_
    refine j_aload_n (pc := 96) C dX11_readShelf_96 rfl 3 rfl ?_
    refine j_get (pc := 97) (ci := 11) (v := .ref mnames) C inw_11 3 rfl rfl 14 (by decide) wd_670 rfl rfl dX11_readShelf_97 ?_
    refine j_bipush (pc := 100) (v := 12) C dX11_readShelf_100 (by decide) ?_
    refine j_iload_n (pc := 102) C dX11_readShelf_102 rfl 2 rfl ?_
    obtain ⟨v_19, ev_19⟩ : ∃ z : Int32, 12 + v_1 = z := ⟨_, rfl⟩
    have el_12 : (12 : Int32).toInt = 12 := rfl
    have hv_19 : v_19.toInt = (12 : Int32).toInt + v_1.toInt := by rw [← ev_19]; exact fb_addI (by omega) (by omega)
    refine j_iadd (pc := 103) (v := v_19) C dX11_readShelf_103 ev_19 ?_
    refine j_lload_n (pc := 104) C dX11_readShelf_104 rfl 1 rfl ?_
    obtain ⟨f_20, ef_20⟩ : ∃ z, z = vp_updL m_names (v_19).toInt.toNat (u_4.2.2.2 0 0) := ⟨_, rfl⟩
    refine j_last (pc := 105) (k := (v_19).toInt.toNat) (ws' := [(mhasHabit, .inl (cyZ, 12, .inl m_hasHabit)), (mtold, .inl (cyI, 240, .inl f_18)), (mnames, .inl (cyJ, 16, .inr (.inl f_20))), (m0, .inr (11, [.int m_thrown, .ref mtape, .int m_taped, .int m_size, .ref msort, .ref mplace, .ref mvalue, .int (u_16.2.1 1), .int (u_16.2.1 2), .ref mwords, .ref mtold, .ref mop, .ref marg, .int m_codes, .ref mnames, .ref mhasHabit, .int m_isNew, .ref mfactWords, .ref mfacts, .ref mpile, .ref mstates, .ref misMarked, .int m_inShelf, .int m_inStack, .int m_inPlace, .ref mrow, .int m_rowMany, .ref mthr, .ref mmays, .ref mtall, .ref mweights, .ref mrowOfWare, .ref mneededOf, .int m_goShelf, .int m_goStack, .int m_goLeft, .ref mtried, .ref mbestRow, .int m_bestCost, .int m_bestMany, .int m_bestShelf, .int m_bestSet, .ref mdigits])), (msort, .inl (cyI, 1002, .inl m_sort)), (mplace, .inl (cyI, 1002, .inl m_place)), (mvalue, .inl (cyJ, 1002, .inr (.inl m_value))), (mwords, .inl (cyJ, 23, .inr (.inl m_words)))]) C 2 2 rfl rfl (i_nn (by omega)) rfl (i_lt_n (by omega) (by omega)) dX11_readShelf_105 (by rw [ef_20]; rfl) ?_
    refine j_aload_n (pc := 106) C dX11_readShelf_106 rfl 3 rfl ?_
    refine j_get (pc := 107) (ci := 11) (v := .ref mtold) C inw_11 3 rfl rfl 10 (by decide) wd_669 rfl rfl dX11_readShelf_107 ?_
    refine j_bipush (pc := 110) (v := 121) C dX11_readShelf_110 (by decide) ?_
    refine j_dup2 (pc := 112) C dX11_readShelf_112 rfl rfl ?_
    obtain ⟨v_21, ev_21⟩ : ∃ z, f_18 121 = z := ⟨_, rfl⟩
    have qv_21 : v_21 = v_1 := by rw [← ev_21]; exact (by rw [ef_18, pk_un (show ¬ 121 = (v_15).toInt.toNat from (by omega))]; exact (by rw [ef_14, pk_un (show ¬ 121 = (v_11).toInt.toNat from (by omega))]; exact (by rw [ef_10, pk_un (show ¬ 121 = (v_7).toInt.toNat from (by omega))]; exact ev_1)))
    have env_21 : v_21.toInt = (v_1).toInt := by rw [qv_21]
    refine j_iald (pc := 113) (v := v_21) (k := 121) C 1 1 rfl rfl (by decide) (by decide) (by decide) ev_21 dX11_readShelf_113 ?_
    refine j_iconst (pc := 114) (v := 1) C dX11_readShelf_114 (by decide) ?_
    obtain ⟨v_22, ev_22⟩ : ∃ z : Int32, v_21 + 1 = z := ⟨_, rfl⟩
    have el_1 : (1 : Int32).toInt = 1 := rfl
    have hv_22 : v_22.toInt = v_21.toInt + (1 : Int32).toInt := by rw [← ev_22]; exact fb_addI (by omega) (by omega)
    refine j_iadd (pc := 115) (v := v_22) C dX11_readShelf_115 ev_22 ?_
    obtain ⟨f_23, ef_23⟩ : ∃ z, z = upd f_18 121 v_22 := ⟨_, rfl⟩
    have hf_23 : TV f_23 := by rw [ef_23]; exact TV.upd hf_18 (by omega) (show _ ≤ (4 : Int) from (by omega))
    refine j_iast (pc := 116) (k := 121) (ws' := [(mhasHabit, .inl (cyZ, 12, .inl m_hasHabit)), (mtold, .inl (cyI, 240, .inl f_23)), (mnames, .inl (cyJ, 16, .inr (.inl f_20))), (m0, .inr (11, [.int m_thrown, .ref mtape, .int m_taped, .int m_size, .ref msort, .ref mplace, .ref mvalue, .int (u_16.2.1 1), .int (u_16.2.1 2), .ref mwords, .ref mtold, .ref mop, .ref marg, .int m_codes, .ref mnames, .ref mhasHabit, .int m_isNew, .ref mfactWords, .ref mfacts, .ref mpile, .ref mstates, .ref misMarked, .int m_inShelf, .int m_inStack, .int m_inPlace, .ref mrow, .int m_rowMany, .ref mthr, .ref mmays, .ref mtall, .ref mweights, .ref mrowOfWare, .ref mneededOf, .int m_goShelf, .int m_goStack, .int m_goLeft, .ref mtried, .ref mbestRow, .int m_bestCost, .int m_bestMany, .int m_bestShelf, .int m_bestSet, .ref mdigits])), (msort, .inl (cyI, 1002, .inl m_sort)), (mplace, .inl (cyI, 1002, .inl m_place)), (mvalue, .inl (cyJ, 1002, .inr (.inl m_value))), (mwords, .inl (cyJ, 23, .inr (.inl m_words)))]) C 1 1 rfl rfl (by decide) (by decide) (by decide) dX11_readShelf_116 (by rw [ef_23]; rfl) ?_
    exact j_vret (pc := 117) C hr hk (fun i => [].getD i 0, fun i => [(u_16.2.1 1), (u_16.2.1 2)].getD i 0, fun i => [f_23].getD i (fun _ => 0), fun i => [f_20].getD i (fun _ => 0)) rfl (show (0 ≤ ((u_16.2.1 1)).toInt ∧ ((u_16.2.1 1)).toInt ≤ 1000) ∧ (0 ≤ ((u_16.2.1 2)).toInt ∧ ((u_16.2.1 2)).toInt ≤ 16005) ∧ (TV f_23) ∧ ((m_at).toInt ≤ ((u_16.2.1 1)).toInt) ∧ (((u_16.2.1 1)).toInt ≤ ((eN m_sort : Nat) : Int)) ∧ ((m_fault).toInt = 0 ∨ ¬ ((u_16.2.1 2)).toInt = 0) ∧ (∀ j : Nat, (j < 120 ∨ j = 122 ∨ 231 ≤ j) → f_23 j = m_told j) ∧ (RP m_place (m_fault).toInt (m_at).toInt ((u_16.2.1 2)).toInt ((u_16.2.1 1)).toInt (rShelf T S)) ∧ (((u_16.2.1 2)).toInt = 0 → MRb f_20 f_23 m_hasHabit (sShelf T S (m_place (m_at).toInt.toNat).toInt.toNat)) from ⟨by omega, by omega, hf_23, by omega, by omega, by omega, (fun j hj => by rw [ef_23, pk_un (show ¬ j = 121 from (by omega)), ef_18, pk_un (show ¬ j = (v_15).toInt.toNat from (by omega)), ef_14, pk_un (show ¬ j = (v_11).toInt.toNat from (by omega)), ef_10, pk_un (show ¬ j = (v_7).toInt.toNat from (by omega))]), ((RP.bind (RP.bind (RP.bind (RP.nx (RP.go (fa := (m_fault).toInt) (fa' := (m_fault).toInt) (at' := (v_3).toInt) (g := fun p => (nx T p, 0)) hRT (by omega) (by omega) rfl (by omega) (fun z => rfl)) hw_5_5) hw_9_6) hw_13_6) hw_17_6).mv (fun z => by have c1 := hMR.1.1.2.1; unfold rShelf; rw [if_neg (by omega)]; rfl)), (fun hz => MRb.shelf (n := (v_1).toInt.toNat) hMR (by omega) (by rw [ef_23, pk_us]; omega) (fun j hj => by rw [ef_23, pk_un (show ¬ j = 121 from (by omega)), ef_18, pk_un (show ¬ j = (v_15).toInt.toNat from (by omega)), ef_14, pk_un (show ¬ j = (v_11).toInt.toNat from (by omega)), ef_10, pk_un (show ¬ j = (v_7).toInt.toNat from (by omega))]) (by rw [ef_20, show (v_19).toInt.toNat = 12 + (v_1).toInt.toNat from (by omega)]) (by rw [hw_5_6 (by omega), (show (m_place (v_3).toInt.toNat).toInt.toNat = nx T (m_place (m_at).toInt.toNat).toInt.toNat from (by have z8 := (hRT (m_at).toInt.toNat (by omega)).2.2 (by omega); rw [show (v_3).toInt.toNat = (m_at).toInt.toNat + 1 from (by omega)]; show _ = (T (m_place (m_at).toInt.toNat).toInt.toNat).2.2; omega))]) (by have c1 := hMR.1.1.1; have c3 := (h_m_told 120 (by decide)).2; have c4 : hiT 120 = 12 := (by decide); omega))⟩) [3, 4, 5, 6, 7, 1, 2, 0] (by decide) rfl (by decide) (by decide) dX11_readShelf_117
  · skip
    have el_4 : (4 : Int32).toInt = 4 := rfl
    rw [i_eq] at c_2
    refine j_aload_n (pc := 13) C dX11_readShelf_13 rfl 1 rfl ?_
    refine j_iconst (pc := 14) (v := 5) C dX11_readShelf_14 (by decide) ?_
    refine j_callV (pc := 15) (As := [.int 5]) (rest := []) (wr := [(msort, .inl (cyI, 1002, .inl m_sort)), (mvalue, .inl (cyJ, 1002, .inr (.inl m_value))), (mwords, .inl (cyJ, 23, .inr (.inl m_words))), (mtold, .inl (cyI, 240, .inl m_told)), (mnames, .inl (cyJ, 16, .inr (.inl m_names))), (mhasHabit, .inl (cyZ, 12, .inl m_hasHabit))]) C (c_X11_wrong l D cyC cyI cyJ cyZ cyO m0 mplace mtape msort mvalue mwords mtold mop marg mnames mhasHabit mfactWords mfacts mpile mstates misMarked mrow mthr mmays mtall mweights mrowOfWare mneededOf mtried mbestRow mdigits 5 m_thrown m_taped m_size m_at m_fault m_codes m_isNew m_inShelf m_inStack m_inPlace m_rowMany m_goShelf m_goStack m_goLeft m_bestCost m_bestMany m_bestShelf m_bestSet m_place (by omega) (by omega) (by omega) (by omega) (by omega) (by omega) (by omega) (by omega) (by omega) (by omega) (by omega) (by omega) (by omega) (by decide) h_m_place) wd_657 wd_624 wd_658 wd_659 wd_660 ⟨by decide, by decide, rfl⟩ rfl ⟨rfl, rfl, by decide, by decide⟩ ⟨by decide, by decide⟩ [0, 2] [1, 3, 4, 5, 6, 7] rfl rfl ⟨by decide, by decide, by decide⟩ 0 rfl rfl rfl (Nat.le_of_ble_eq_true rfl) dX11_readShelf_15 (fun u_24 hw_25 => ?_)
    refine j_eq (ws2 := [(msort, .inl (cyI, 1002, .inl m_sort)), (mvalue, .inl (cyJ, 1002, .inr (.inl m_value))), (mwords, .inl (cyJ, 23, .inr (.inl m_words))), (mtold, .inl (cyI, 240, .inl m_told)), (mnames, .inl (cyJ, 16, .inr (.inl m_names))), (mhasHabit, .inl (cyZ, 12, .inl m_hasHabit)), (m0, .inr (11, [.int m_thrown, .ref mtape, .int m_taped, .int m_size, .ref msort, .ref mplace, .ref mvalue, .int m_at, .int (u_24.2.1 0), .ref mwords, .ref mtold, .ref mop, .ref marg, .int m_codes, .ref mnames, .ref mhasHabit, .int m_isNew, .ref mfactWords, .ref mfacts, .ref mpile, .ref mstates, .ref misMarked, .int m_inShelf, .int m_inStack, .int m_inPlace, .ref mrow, .int m_rowMany, .ref mthr, .ref mmays, .ref mtall, .ref mweights, .ref mrowOfWare, .ref mneededOf, .int m_goShelf, .int m_goStack, .int m_goLeft, .ref mtried, .ref mbestRow, .int m_bestCost, .int m_bestMany, .int m_bestShelf, .int m_bestSet, .ref mdigits])), (mplace, .inl (cyI, 1002, .inl m_place))]) (pc2 := 18) (lv2 := [(1, .int v_1), (0, .ref m0)]) (st2 := []) rfl rfl rfl rfl ?_
    obtain ⟨hw_25_0, hw_25_1, hw_25_2⟩ := hw_25
    have el_5 : (5 : Int32).toInt = 5 := rfl
    exact j_vret (pc := 18) C hr hk (fun i => [].getD i 0, fun i => [m_at, (u_24.2.1 0)].getD i 0, fun i => [m_told].getD i (fun _ => 0), fun i => [m_names].getD i (fun _ => 0)) rfl (show (0 ≤ (m_at).toInt ∧ (m_at).toInt ≤ 1000) ∧ (0 ≤ ((u_24.2.1 0)).toInt ∧ ((u_24.2.1 0)).toInt ≤ 16005) ∧ (TV m_told) ∧ ((m_at).toInt ≤ (m_at).toInt) ∧ ((m_at).toInt ≤ ((eN m_sort : Nat) : Int)) ∧ ((m_fault).toInt = 0 ∨ ¬ ((u_24.2.1 0)).toInt = 0) ∧ (∀ j : Nat, (j < 120 ∨ j = 122 ∨ 231 ≤ j) → m_told j = m_told j) ∧ (RP m_place (m_fault).toInt (m_at).toInt ((u_24.2.1 0)).toInt (m_at).toInt (rShelf T S)) ∧ (((u_24.2.1 0)).toInt = 0 → MRb m_names m_told m_hasHabit (sShelf T S (m_place (m_at).toInt.toNat).toInt.toNat)) from ⟨by omega, by omega, h_m_told, by omega, by omega, by omega, (fun j hj => rfl), (RP.wr 5 (fun z => by have z9 := hw_25_1 z; omega) (fun z => by have z9 := hw_25_2 z; omega) (h_m_place (m_at).toInt.toNat (by omega)).1 (by decide) (fun z => by have c1 := hMR.1.1.2.1; unfold rShelf; rw [if_pos (by omega)])), (fun h => absurd h (by omega))⟩) [6, 0, 7, 1, 2, 3, 4, 5] (by decide) rfl (by decide) (by decide) dX11_readShelf_18
