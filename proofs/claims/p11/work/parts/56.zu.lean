theorem wd_898 : Cond.fieldLink RX11 127 "BowlShelfModel" "weights" "[I" ∈ WALL := wl_in (by decide +kernel) (by decide +kernel)
theorem wd_899 : Cond.constant RX11 363 (100000000) ∈ WALL := wl_in (by decide +kernel) (by decide +kernel)
theorem wd_900 : Cond.fieldLink RX11 120 "BowlShelfModel" "mays" "[Z" ∈ WALL := wl_in (by decide +kernel) (by decide +kernel)
theorem wd_901 : Cond.fieldLink RX11 124 "BowlShelfModel" "tall" "[I" ∈ WALL := wl_in (by decide +kernel) (by decide +kernel)
theorem wd_902 : Cond.code yX11_tallOn cX11_tallOn 7 (some .int) ∈ WALL := wl_in (by decide +kernel) (by decide +kernel)
theorem wd_903 : Cond.methodLink RX11 360 yX11_tallOn ∈ WALL := wl_in (by decide +kernel) (by decide +kernel)
theorem wd_904 : Cond.instanceMethod yX11_tallOn ∈ WALL := wl_in (by decide +kernel) (by decide +kernel)
theorem wd_905 : Cond.selects RX11 yX11_tallOn yX11_tallOn ∈ WALL := wl_in (by decide +kernel) (by decide +kernel)
theorem dX11_tallOn_0 : decode cX11_tallOn 0 = .ok (.aload_n 0, 1) := by decide +kernel
theorem dX11_tallOn_1 : decode cX11_tallOn 1 = .ok (.iload_n 1, 1) := by decide +kernel
theorem dX11_tallOn_2 : decode cX11_tallOn 2 = .ok (.iconst 1, 1) := by decide +kernel
theorem dX11_tallOn_3 : decode cX11_tallOn 3 = .ok (.invokevirtual 271, 3) := by decide +kernel
theorem dX11_tallOn_6 : decode cX11_tallOn 6 = .ok (.istore_n 3, 1) := by decide +kernel
theorem dX11_tallOn_7 : decode cX11_tallOn 7 = .ok (.iload_n 2, 1) := by decide +kernel
theorem dX11_tallOn_8 : decode cX11_tallOn 8 = .ok (.ifCond .ne 5, 3) := by decide +kernel
theorem dX11_tallOn_11 : decode cX11_tallOn 11 = .ok (.iload_n 3, 1) := by decide +kernel
theorem dX11_tallOn_12 : decode cX11_tallOn 12 = .ok (.ireturn, 1) := by decide +kernel
theorem dX11_tallOn_13 : decode cX11_tallOn 13 = .ok (.aload_n 0, 1) := by decide +kernel
theorem dX11_tallOn_14 : decode cX11_tallOn 14 = .ok (.getfield 127, 3) := by decide +kernel
theorem dX11_tallOn_17 : decode cX11_tallOn 17 = .ok (.iload_n 2, 1) := by decide +kernel
theorem dX11_tallOn_18 : decode cX11_tallOn 18 = .ok (.iaload, 1) := by decide +kernel
theorem dX11_tallOn_19 : decode cX11_tallOn 19 = .ok (.aload_n 0, 1) := by decide +kernel
theorem dX11_tallOn_20 : decode cX11_tallOn 20 = .ok (.iload_n 1, 1) := by decide +kernel
theorem dX11_tallOn_21 : decode cX11_tallOn 21 = .ok (.iconst 3, 1) := by decide +kernel
theorem dX11_tallOn_22 : decode cX11_tallOn 22 = .ok (.invokevirtual 271, 3) := by decide +kernel
theorem dX11_tallOn_25 : decode cX11_tallOn 25 = .ok (.if_icmp .le 7, 3) := by decide +kernel
theorem dX11_tallOn_28 : decode cX11_tallOn 28 = .ok (.ldc_w 363, 3) := by decide +kernel
theorem dX11_tallOn_31 : decode cX11_tallOn 31 = .ok (.ireturn, 1) := by decide +kernel
theorem dX11_tallOn_32 : decode cX11_tallOn 32 = .ok (.ldc_w 363, 3) := by decide +kernel
theorem dX11_tallOn_35 : decode cX11_tallOn 35 = .ok (.istore 4, 2) := by decide +kernel
theorem dX11_tallOn_37 : decode cX11_tallOn 37 = .ok (.iconst 0, 1) := by decide +kernel
theorem dX11_tallOn_38 : decode cX11_tallOn 38 = .ok (.istore 5, 2) := by decide +kernel
theorem dX11_tallOn_40 : decode cX11_tallOn 40 = .ok (.iload 5, 2) := by decide +kernel
theorem dX11_tallOn_42 : decode cX11_tallOn 42 = .ok (.aload_n 0, 1) := by decide +kernel
theorem dX11_tallOn_43 : decode cX11_tallOn 43 = .ok (.invokevirtual 264, 3) := by decide +kernel
theorem dX11_tallOn_46 : decode cX11_tallOn 46 = .ok (.if_icmp .ge 104, 3) := by decide +kernel
theorem dX11_tallOn_49 : decode cX11_tallOn 49 = .ok (.iload_n 2, 1) := by decide +kernel
theorem dX11_tallOn_50 : decode cX11_tallOn 50 = .ok (.iload 5, 2) := by decide +kernel
theorem dX11_tallOn_52 : decode cX11_tallOn 52 = .ok (.ishr, 1) := by decide +kernel
theorem dX11_tallOn_53 : decode cX11_tallOn 53 = .ok (.iconst 1, 1) := by decide +kernel
theorem dX11_tallOn_54 : decode cX11_tallOn 54 = .ok (.iand, 1) := by decide +kernel
theorem dX11_tallOn_55 : decode cX11_tallOn 55 = .ok (.iconst 1, 1) := by decide +kernel
theorem dX11_tallOn_56 : decode cX11_tallOn 56 = .ok (.if_icmp .ne 88, 3) := by decide +kernel
theorem dX11_tallOn_59 : decode cX11_tallOn 59 = .ok (.aload_n 0, 1) := by decide +kernel
theorem dX11_tallOn_60 : decode cX11_tallOn 60 = .ok (.getfield 120, 3) := by decide +kernel
theorem dX11_tallOn_63 : decode cX11_tallOn 63 = .ok (.bipush 12, 2) := by decide +kernel
theorem dX11_tallOn_65 : decode cX11_tallOn 65 = .ok (.iload 5, 2) := by decide +kernel
theorem dX11_tallOn_67 : decode cX11_tallOn 67 = .ok (.imul, 1) := by decide +kernel
theorem dX11_tallOn_68 : decode cX11_tallOn 68 = .ok (.iload_n 1, 1) := by decide +kernel
theorem dX11_tallOn_69 : decode cX11_tallOn 69 = .ok (.iadd, 1) := by decide +kernel
theorem dX11_tallOn_70 : decode cX11_tallOn 70 = .ok (.baload, 1) := by decide +kernel
theorem dX11_tallOn_71 : decode cX11_tallOn 71 = .ok (.ifCond .eq 73, 3) := by decide +kernel
theorem dX11_tallOn_74 : decode cX11_tallOn 74 = .ok (.aload_n 0, 1) := by decide +kernel
theorem dX11_tallOn_75 : decode cX11_tallOn 75 = .ok (.getfield 124, 3) := by decide +kernel
theorem dX11_tallOn_78 : decode cX11_tallOn 78 = .ok (.bipush 12, 2) := by decide +kernel
theorem dX11_tallOn_80 : decode cX11_tallOn 80 = .ok (.iload_n 2, 1) := by decide +kernel
theorem dX11_tallOn_81 : decode cX11_tallOn 81 = .ok (.imul, 1) := by decide +kernel
theorem dX11_tallOn_82 : decode cX11_tallOn 82 = .ok (.iload 5, 2) := by decide +kernel
theorem dX11_tallOn_84 : decode cX11_tallOn 84 = .ok (.iadd, 1) := by decide +kernel
theorem dX11_tallOn_85 : decode cX11_tallOn 85 = .ok (.iaload, 1) := by decide +kernel
theorem dX11_tallOn_86 : decode cX11_tallOn 86 = .ok (.ldc_w 363, 3) := by decide +kernel
theorem dX11_tallOn_89 : decode cX11_tallOn 89 = .ok (.if_icmp .ge 55, 3) := by decide +kernel
theorem dX11_tallOn_92 : decode cX11_tallOn 92 = .ok (.aload_n 0, 1) := by decide +kernel
theorem dX11_tallOn_93 : decode cX11_tallOn 93 = .ok (.iload 5, 2) := by decide +kernel
theorem dX11_tallOn_95 : decode cX11_tallOn 95 = .ok (.iload_n 1, 1) := by decide +kernel
theorem dX11_tallOn_96 : decode cX11_tallOn 96 = .ok (.invokevirtual 312, 3) := by decide +kernel
theorem dX11_tallOn_99 : decode cX11_tallOn 99 = .ok (.aload_n 0, 1) := by decide +kernel
theorem dX11_tallOn_100 : decode cX11_tallOn 100 = .ok (.getfield 124, 3) := by decide +kernel
theorem dX11_tallOn_103 : decode cX11_tallOn 103 = .ok (.bipush 12, 2) := by decide +kernel
theorem dX11_tallOn_105 : decode cX11_tallOn 105 = .ok (.iload_n 2, 1) := by decide +kernel
theorem dX11_tallOn_106 : decode cX11_tallOn 106 = .ok (.imul, 1) := by decide +kernel
theorem dX11_tallOn_107 : decode cX11_tallOn 107 = .ok (.iload 5, 2) := by decide +kernel
theorem dX11_tallOn_109 : decode cX11_tallOn 109 = .ok (.iadd, 1) := by decide +kernel
theorem dX11_tallOn_110 : decode cX11_tallOn 110 = .ok (.iaload, 1) := by decide +kernel
theorem dX11_tallOn_111 : decode cX11_tallOn 111 = .ok (.iadd, 1) := by decide +kernel
theorem dX11_tallOn_112 : decode cX11_tallOn 112 = .ok (.istore 6, 2) := by decide +kernel
theorem dX11_tallOn_114 : decode cX11_tallOn 114 = .ok (.iload 6, 2) := by decide +kernel
theorem dX11_tallOn_116 : decode cX11_tallOn 116 = .ok (.iload_n 3, 1) := by decide +kernel
theorem dX11_tallOn_117 : decode cX11_tallOn 117 = .ok (.if_icmp .ge 7, 3) := by decide +kernel
theorem dX11_tallOn_120 : decode cX11_tallOn 120 = .ok (.iload_n 3, 1) := by decide +kernel
theorem dX11_tallOn_121 : decode cX11_tallOn 121 = .ok (.goto 5, 3) := by decide +kernel
theorem dX11_tallOn_124 : decode cX11_tallOn 124 = .ok (.iload 6, 2) := by decide +kernel
theorem dX11_tallOn_126 : decode cX11_tallOn 126 = .ok (.istore 6, 2) := by decide +kernel
theorem dX11_tallOn_128 : decode cX11_tallOn 128 = .ok (.iload 6, 2) := by decide +kernel
theorem dX11_tallOn_130 : decode cX11_tallOn 130 = .ok (.iload 4, 2) := by decide +kernel
theorem dX11_tallOn_132 : decode cX11_tallOn 132 = .ok (.if_icmp .ge 8, 3) := by decide +kernel
theorem dX11_tallOn_135 : decode cX11_tallOn 135 = .ok (.iload 6, 2) := by decide +kernel
theorem dX11_tallOn_137 : decode cX11_tallOn 137 = .ok (.goto 5, 3) := by decide +kernel
theorem dX11_tallOn_140 : decode cX11_tallOn 140 = .ok (.iload 4, 2) := by decide +kernel
theorem dX11_tallOn_142 : decode cX11_tallOn 142 = .ok (.istore 4, 2) := by decide +kernel
theorem dX11_tallOn_144 : decode cX11_tallOn 144 = .ok (.iinc 5 1, 3) := by decide +kernel
theorem dX11_tallOn_147 : decode cX11_tallOn 147 = .ok (.goto (-107), 3) := by decide +kernel
theorem dX11_tallOn_150 : decode cX11_tallOn 150 = .ok (.iload 4, 2) := by decide +kernel
theorem dX11_tallOn_152 : decode cX11_tallOn 152 = .ok (.ireturn, 1) := by decide +kernel
theorem dX11_findTall_0 : decode cX11_findTall 0 = .ok (.iconst 0, 1) := by decide +kernel
theorem dX11_findTall_1 : decode cX11_findTall 1 = .ok (.istore_n 2, 1) := by decide +kernel
theorem dX11_findTall_2 : decode cX11_findTall 2 = .ok (.iload_n 1, 1) := by decide +kernel
theorem dX11_findTall_3 : decode cX11_findTall 3 = .ok (.iload_n 2, 1) := by decide +kernel
theorem dX11_findTall_4 : decode cX11_findTall 4 = .ok (.ishr, 1) := by decide +kernel
theorem dX11_findTall_5 : decode cX11_findTall 5 = .ok (.iconst 1, 1) := by decide +kernel
theorem dX11_findTall_6 : decode cX11_findTall 6 = .ok (.iand, 1) := by decide +kernel
theorem dX11_findTall_7 : decode cX11_findTall 7 = .ok (.ifCond .ne 9, 3) := by decide +kernel
theorem dX11_findTall_10 : decode cX11_findTall 10 = .ok (.iinc 2 1, 3) := by decide +kernel
theorem dX11_findTall_13 : decode cX11_findTall 13 = .ok (.goto (-11), 3) := by decide +kernel
theorem dX11_findTall_16 : decode cX11_findTall 16 = .ok (.aload_n 0, 1) := by decide +kernel
theorem dX11_findTall_17 : decode cX11_findTall 17 = .ok (.getfield 127, 3) := by decide +kernel
theorem dX11_findTall_20 : decode cX11_findTall 20 = .ok (.iload_n 1, 1) := by decide +kernel
theorem dX11_findTall_21 : decode cX11_findTall 21 = .ok (.aload_n 0, 1) := by decide +kernel
theorem dX11_findTall_22 : decode cX11_findTall 22 = .ok (.getfield 127, 3) := by decide +kernel
theorem dX11_findTall_25 : decode cX11_findTall 25 = .ok (.iload_n 1, 1) := by decide +kernel
theorem dX11_findTall_26 : decode cX11_findTall 26 = .ok (.iconst 1, 1) := by decide +kernel
theorem dX11_findTall_27 : decode cX11_findTall 27 = .ok (.iload_n 2, 1) := by decide +kernel
theorem dX11_findTall_28 : decode cX11_findTall 28 = .ok (.ishl, 1) := by decide +kernel
theorem dX11_findTall_29 : decode cX11_findTall 29 = .ok (.iconst (-1), 1) := by decide +kernel
theorem dX11_findTall_30 : decode cX11_findTall 30 = .ok (.ixor, 1) := by decide +kernel
theorem dX11_findTall_31 : decode cX11_findTall 31 = .ok (.iand, 1) := by decide +kernel
theorem dX11_findTall_32 : decode cX11_findTall 32 = .ok (.iaload, 1) := by decide +kernel
theorem dX11_findTall_33 : decode cX11_findTall 33 = .ok (.aload_n 0, 1) := by decide +kernel
theorem dX11_findTall_34 : decode cX11_findTall 34 = .ok (.iload_n 2, 1) := by decide +kernel
theorem dX11_findTall_35 : decode cX11_findTall 35 = .ok (.iconst 2, 1) := by decide +kernel
theorem dX11_findTall_36 : decode cX11_findTall 36 = .ok (.invokevirtual 271, 3) := by decide +kernel
theorem dX11_findTall_39 : decode cX11_findTall 39 = .ok (.iadd, 1) := by decide +kernel
theorem dX11_findTall_40 : decode cX11_findTall 40 = .ok (.iastore, 1) := by decide +kernel
theorem dX11_findTall_41 : decode cX11_findTall 41 = .ok (.iconst 0, 1) := by decide +kernel
theorem dX11_findTall_42 : decode cX11_findTall 42 = .ok (.istore_n 3, 1) := by decide +kernel
theorem dX11_findTall_43 : decode cX11_findTall 43 = .ok (.iload_n 3, 1) := by decide +kernel
theorem dX11_findTall_44 : decode cX11_findTall 44 = .ok (.aload_n 0, 1) := by decide +kernel
theorem dX11_findTall_45 : decode cX11_findTall 45 = .ok (.invokevirtual 264, 3) := by decide +kernel
theorem dX11_findTall_48 : decode cX11_findTall 48 = .ok (.if_icmp .ge 41, 3) := by decide +kernel
theorem dX11_findTall_51 : decode cX11_findTall 51 = .ok (.iload_n 1, 1) := by decide +kernel
theorem dX11_findTall_52 : decode cX11_findTall 52 = .ok (.iload_n 3, 1) := by decide +kernel
theorem dX11_findTall_53 : decode cX11_findTall 53 = .ok (.ishr, 1) := by decide +kernel
theorem dX11_findTall_54 : decode cX11_findTall 54 = .ok (.iconst 1, 1) := by decide +kernel
theorem dX11_findTall_55 : decode cX11_findTall 55 = .ok (.iand, 1) := by decide +kernel
theorem dX11_findTall_56 : decode cX11_findTall 56 = .ok (.iconst 1, 1) := by decide +kernel
theorem dX11_findTall_57 : decode cX11_findTall 57 = .ok (.if_icmp .ne 26, 3) := by decide +kernel
theorem dX11_findTall_60 : decode cX11_findTall 60 = .ok (.aload_n 0, 1) := by decide +kernel
theorem dX11_findTall_61 : decode cX11_findTall 61 = .ok (.getfield 124, 3) := by decide +kernel
theorem dX11_findTall_64 : decode cX11_findTall 64 = .ok (.bipush 12, 2) := by decide +kernel
theorem dX11_findTall_66 : decode cX11_findTall 66 = .ok (.iload_n 1, 1) := by decide +kernel
theorem dX11_findTall_67 : decode cX11_findTall 67 = .ok (.imul, 1) := by decide +kernel
theorem dX11_findTall_68 : decode cX11_findTall 68 = .ok (.iload_n 3, 1) := by decide +kernel
theorem dX11_findTall_69 : decode cX11_findTall 69 = .ok (.iadd, 1) := by decide +kernel
theorem dX11_findTall_70 : decode cX11_findTall 70 = .ok (.aload_n 0, 1) := by decide +kernel
theorem dX11_findTall_71 : decode cX11_findTall 71 = .ok (.iload_n 3, 1) := by decide +kernel
theorem dX11_findTall_72 : decode cX11_findTall 72 = .ok (.iload_n 1, 1) := by decide +kernel
theorem dX11_findTall_73 : decode cX11_findTall 73 = .ok (.iconst 1, 1) := by decide +kernel
theorem dX11_findTall_74 : decode cX11_findTall 74 = .ok (.iload_n 3, 1) := by decide +kernel
theorem dX11_findTall_75 : decode cX11_findTall 75 = .ok (.ishl, 1) := by decide +kernel
theorem dX11_findTall_76 : decode cX11_findTall 76 = .ok (.iconst (-1), 1) := by decide +kernel
theorem dX11_findTall_77 : decode cX11_findTall 77 = .ok (.ixor, 1) := by decide +kernel
theorem dX11_findTall_78 : decode cX11_findTall 78 = .ok (.iand, 1) := by decide +kernel
theorem dX11_findTall_79 : decode cX11_findTall 79 = .ok (.invokevirtual 360, 3) := by decide +kernel
theorem dX11_findTall_82 : decode cX11_findTall 82 = .ok (.iastore, 1) := by decide +kernel
theorem dX11_findTall_83 : decode cX11_findTall 83 = .ok (.iinc 3 1, 3) := by decide +kernel
theorem dX11_findTall_86 : decode cX11_findTall 86 = .ok (.goto (-43), 3) := by decide +kernel
theorem dX11_findTall_89 : decode cX11_findTall 89 = .ok (.return_, 1) := by decide +kernel
set_option maxHeartbeats 4000000 in
set_option maxRecDepth 100000 in
theorem c_X11_tallOn (l : Launch) (D : DG) (cyC cyI cyJ cyZ cyO : ClassId) (m0 : Nat) (mtold : Nat) (mmays : Nat) (mtall : Nat) (mweights : Nat) (mtape : Nat) (msort : Nat) (mplace : Nat) (mvalue : Nat) (mwords : Nat) (mop : Nat) (marg : Nat) (mnames : Nat) (mhasHabit : Nat) (mfactWords : Nat) (mfacts : Nat) (mpile : Nat) (mstates : Nat) (misMarked : Nat) (mrow : Nat) (mthr : Nat) (mrowOfWare : Nat) (mneededOf : Nat) (mtried : Nat) (mbestRow : Nat) (mdigits : Nat) (p0 : Int32) (p1 : Int32) (m_thrown : Int32) (m_taped : Int32) (m_size : Int32) (m_at : Int32) (m_fault : Int32) (m_codes : Int32) (m_isNew : Int32) (m_inShelf : Int32) (m_inStack : Int32) (m_inPlace : Int32) (m_rowMany : Int32) (m_goShelf : Int32) (m_goStack : Int32) (m_goLeft : Int32) (m_bestCost : Int32) (m_bestMany : Int32) (m_bestShelf : Int32) (m_bestSet : Int32) (m_told : Nat → Int32) (m_mays : Nat → Int32) (m_tall : Nat → Int32) (m_weights : Nat → Int32) (h_m_taped : 0 ≤ (m_taped).toInt ∧ (m_taped).toInt ≤ 1000) (h_m_size : 0 ≤ (m_size).toInt ∧ (m_size).toInt ≤ 1000) (h_m_at : 0 ≤ (m_at).toInt ∧ (m_at).toInt ≤ 1000) (h_m_fault : 0 ≤ (m_fault).toInt ∧ (m_fault).toInt ≤ 16005) (h_m_codes : 0 ≤ (m_codes).toInt ∧ (m_codes).toInt ≤ 1000) (h_m_isNew : 0 ≤ (m_isNew).toInt ∧ (m_isNew).toInt ≤ 1) (h_m_inShelf : 0 ≤ (m_inShelf).toInt ∧ (m_inShelf).toInt ≤ 3) (h_m_inStack : 0 ≤ (m_inStack).toInt ∧ (m_inStack).toInt ≤ 7) (h_m_inPlace : 0 ≤ (m_inPlace).toInt ∧ (m_inPlace).toInt ≤ 11) (h_m_rowMany : 0 ≤ (m_rowMany).toInt ∧ (m_rowMany).toInt ≤ 12) (h_m_goShelf : -1 ≤ (m_goShelf).toInt ∧ (m_goShelf).toInt ≤ 3) (h_m_bestMany : 0 ≤ (m_bestMany).toInt ∧ (m_bestMany).toInt ≤ 7) (h_m_bestShelf : 0 ≤ (m_bestShelf).toInt ∧ (m_bestShelf).toInt ≤ 3) (h_p0 : 0 ≤ (p0).toInt ∧ (p0).toInt ≤ 11) (h_p1 : 0 ≤ (p1).toInt ∧ (p1).toInt ≤ 4095) (h_m_told : TV m_told) (h_m_tall : Iv 49152 (0) (100000000) m_tall) : KK l D (TY cyC cyI cyJ cyZ cyO) yX11_tallOn cX11_tallOn 7 (some .int) ({ frames := 2, cells := 0, slots := 0, locals := 44 } : Room) 0 0 [.ref m0, .int p0, .int p1] [(m0, .inr (11, [.int m_thrown, .ref mtape, .int m_taped, .int m_size, .ref msort, .ref mplace, .ref mvalue, .int m_at, .int m_fault, .ref mwords, .ref mtold, .ref mop, .ref marg, .int m_codes, .ref mnames, .ref mhasHabit, .int m_isNew, .ref mfactWords, .ref mfacts, .ref mpile, .ref mstates, .ref misMarked, .int m_inShelf, .int m_inStack, .int m_inPlace, .ref mrow, .int m_rowMany, .ref mthr, .ref mmays, .ref mtall, .ref mweights, .ref mrowOfWare, .ref mneededOf, .int m_goShelf, .int m_goStack, .int m_goLeft, .ref mtried, .ref mbestRow, .int m_bestCost, .int m_bestMany, .int m_bestShelf, .int m_bestSet, .ref mdigits])), (mtold, .inl (cyI, 240, .inl m_told)), (mmays, .inl (cyZ, 144, .inl m_mays)), (mtall, .inl (cyI, 49152, .inl m_tall)), (mweights, .inl (cyI, 4096, .inl m_weights))] (fun u => some (.int (u.2.1 0))) (fun u => (0 ≤ (u.2.1 0).toInt ∧ (u.2.1 0).toInt ≤ 100000000) ∧ (TP m_told m_mays m_tall p0 p1 (u.2.1 0).toInt)) (fun u => [(m0, .inr (11, [.int m_thrown, .ref mtape, .int m_taped, .int m_size, .ref msort, .ref mplace, .ref mvalue, .int m_at, .int m_fault, .ref mwords, .ref mtold, .ref mop, .ref marg, .int m_codes, .ref mnames, .ref mhasHabit, .int m_isNew, .ref mfactWords, .ref mfacts, .ref mpile, .ref mstates, .ref misMarked, .int m_inShelf, .int m_inStack, .int m_inPlace, .ref mrow, .int m_rowMany, .ref mthr, .ref mmays, .ref mtall, .ref mweights, .ref mrowOfWare, .ref mneededOf, .int m_goShelf, .int m_goStack, .int m_goLeft, .ref mtried, .ref mbestRow, .int m_bestCost, .int m_bestMany, .int m_bestShelf, .int m_bestSet, .ref mdigits])), (mtold, .inl (cyI, 240, .inl m_told)), (mmays, .inl (cyZ, 144, .inl m_mays)), (mtall, .inl (cyI, 49152, .inl m_tall)), (mweights, .inl (cyI, 4096, .inl m_weights))]) := by
  refine KK.of (lv0 := [(0, .ref m0), (1, .int p0), (2, .int p1)]) (by decide) rfl (Nat.le_of_ble_eq_true rfl) ?_
  intro p e s m args below meth c A C hr hk hin
  refine j_aload_n (pc := 0) C dX11_tallOn_0 rfl 0 rfl ?_
  refine j_iload_n (pc := 1) C dX11_tallOn_1 rfl 1 rfl ?_
  refine j_iconst (pc := 2) (v := 1) C dX11_tallOn_2 (by decide) ?_
  refine j_callV (pc := 3) (As := [.int p0, .int 1]) (rest := []) (wr := [(mmays, .inl (cyZ, 144, .inl m_mays)), (mtall, .inl (cyI, 49152, .inl m_tall)), (mweights, .inl (cyI, 4096, .inl m_weights))]) C (c_X11_wareOf_1 l D cyC cyI cyJ cyZ cyO m0 mtold mtape msort mplace mvalue mwords mop marg mnames mhasHabit mfactWords mfacts mpile mstates misMarked mrow mthr mmays mtall mweights mrowOfWare mneededOf mtried mbestRow mdigits p0 m_thrown m_taped m_size m_at m_fault m_codes m_isNew m_inShelf m_inStack m_inPlace m_rowMany m_goShelf m_goStack m_goLeft m_bestCost m_bestMany m_bestShelf m_bestSet m_told h_m_taped h_m_size h_m_at h_m_fault h_m_codes h_m_isNew h_m_inShelf h_m_inStack h_m_inPlace h_m_rowMany h_m_goShelf h_m_bestMany h_m_bestShelf h_p0 h_m_told) wd_756 wd_624 wd_757 wd_758 wd_759 ⟨by decide, by decide, rfl⟩ rfl ⟨rfl, rfl, by decide, by decide⟩ ⟨by decide, by decide⟩ [0, 1] [2, 3, 4] rfl rfl ⟨by decide, by decide, by decide⟩ 0 rfl rfl rfl (Nat.le_of_ble_eq_true rfl) dX11_tallOn_3 (fun u_1 hw_2 => ?_)
  refine j_eq (ws2 := [(mmays, .inl (cyZ, 144, .inl m_mays)), (mtall, .inl (cyI, 49152, .inl m_tall)), (mweights, .inl (cyI, 4096, .inl m_weights)), (m0, .inr (11, [.int m_thrown, .ref mtape, .int m_taped, .int m_size, .ref msort, .ref mplace, .ref mvalue, .int m_at, .int m_fault, .ref mwords, .ref mtold, .ref mop, .ref marg, .int m_codes, .ref mnames, .ref mhasHabit, .int m_isNew, .ref mfactWords, .ref mfacts, .ref mpile, .ref mstates, .ref misMarked, .int m_inShelf, .int m_inStack, .int m_inPlace, .ref mrow, .int m_rowMany, .ref mthr, .ref mmays, .ref mtall, .ref mweights, .ref mrowOfWare, .ref mneededOf, .int m_goShelf, .int m_goStack, .int m_goLeft, .ref mtried, .ref mbestRow, .int m_bestCost, .int m_bestMany, .int m_bestShelf, .int m_bestSet, .ref mdigits])), (mtold, .inl (cyI, 240, .inl m_told))]) (pc2 := 6) (lv2 := [(0, .ref m0), (1, .int p0), (2, .int p1)]) (st2 := [.int (u_1.2.1 0)]) rfl rfl rfl rfl ?_
  obtain ⟨hw_2_0, hw_2_1⟩ := hw_2
  refine j_istore_n (pc := 6) (lv' := [(3, .int (u_1.2.1 0)), (0, .ref m0), (1, .int p0), (2, .int p1)]) C dX11_tallOn_6 rfl (by decide) rfl ?_
  refine j_iload_n (pc := 7) C dX11_tallOn_7 rfl 3 rfl ?_
  refine j_if_ne (pc := 8) (tgt := 13) C dX11_tallOn_8 (by decide) (fun c_3 => ?_) (fun c_3 => ?_)
  · skip
    have el_0 : (0 : Int32).toInt = 0 := rfl
    rw [i_eq] at c_3
    refine j_aload_n (pc := 13) C dX11_tallOn_13 rfl 1 rfl ?_
    refine j_get (pc := 14) (ci := 11) (v := .ref mweights) C inw_11 3 rfl rfl 30 (by decide) wd_898 rfl rfl dX11_tallOn_14 ?_
    refine j_iload_n (pc := 17) C dX11_tallOn_17 rfl 3 rfl ?_
    obtain ⟨v_4, ev_4⟩ : ∃ z, m_weights (p1).toInt.toNat = z := ⟨_, rfl⟩
    have env_4 : (m_weights (p1).toInt.toNat).toInt = v_4.toInt := by rw [ev_4]
    refine j_iald (pc := 18) (v := v_4) (k := (p1).toInt.toNat) C 2 1 rfl rfl (i_nn h_p1.1) rfl (i_lt_n h_p1.1 (Int.lt_of_le_of_lt h_p1.2 (by decide))) ev_4 dX11_tallOn_18 ?_
    refine j_aload_n (pc := 19) C dX11_tallOn_19 rfl 1 rfl ?_
    refine j_iload_n (pc := 20) C dX11_tallOn_20 rfl 2 rfl ?_
    refine j_iconst (pc := 21) (v := 3) C dX11_tallOn_21 (by decide) ?_
    refine j_callV (pc := 22) (As := [.int p0, .int 3]) (rest := [.int v_4]) (wr := [(mmays, .inl (cyZ, 144, .inl m_mays)), (mtall, .inl (cyI, 49152, .inl m_tall)), (mweights, .inl (cyI, 4096, .inl m_weights))]) C (c_X11_wareOf l D cyC cyI cyJ cyZ cyO m0 mtold mtape msort mplace mvalue mwords mop marg mnames mhasHabit mfactWords mfacts mpile mstates misMarked mrow mthr mmays mtall mweights mrowOfWare mneededOf mtried mbestRow mdigits p0 3 m_thrown m_taped m_size m_at m_fault m_codes m_isNew m_inShelf m_inStack m_inPlace m_rowMany m_goShelf m_goStack m_goLeft m_bestCost m_bestMany m_bestShelf m_bestSet m_told h_m_taped h_m_size h_m_at h_m_fault h_m_codes h_m_isNew h_m_inShelf h_m_inStack h_m_inPlace h_m_rowMany h_m_goShelf h_m_bestMany h_m_bestShelf h_p0 (by decide) h_m_told) wd_756 wd_624 wd_757 wd_758 wd_759 ⟨by decide, by decide, rfl⟩ rfl ⟨rfl, rfl, by decide, by decide⟩ ⟨by decide, by decide⟩ [3, 4] [0, 1, 2] rfl rfl ⟨by decide, by decide, by decide⟩ 3 rfl rfl rfl (Nat.le_of_ble_eq_true rfl) dX11_tallOn_22 (fun u_5 hw_6 => ?_)
    refine j_eq (ws2 := [(mmays, .inl (cyZ, 144, .inl m_mays)), (mtall, .inl (cyI, 49152, .inl m_tall)), (mweights, .inl (cyI, 4096, .inl m_weights)), (m0, .inr (11, [.int m_thrown, .ref mtape, .int m_taped, .int m_size, .ref msort, .ref mplace, .ref mvalue, .int m_at, .int m_fault, .ref mwords, .ref mtold, .ref mop, .ref marg, .int m_codes, .ref mnames, .ref mhasHabit, .int m_isNew, .ref mfactWords, .ref mfacts, .ref mpile, .ref mstates, .ref misMarked, .int m_inShelf, .int m_inStack, .int m_inPlace, .ref mrow, .int m_rowMany, .ref mthr, .ref mmays, .ref mtall, .ref mweights, .ref mrowOfWare, .ref mneededOf, .int m_goShelf, .int m_goStack, .int m_goLeft, .ref mtried, .ref mbestRow, .int m_bestCost, .int m_bestMany, .int m_bestShelf, .int m_bestSet, .ref mdigits])), (mtold, .inl (cyI, 240, .inl m_told))]) (pc2 := 25) (lv2 := [(3, .int (u_1.2.1 0)), (0, .ref m0), (1, .int p0), (2, .int p1)]) (st2 := [.int (u_5.2.1 0), .int v_4]) rfl rfl rfl rfl ?_
    obtain ⟨hw_6_0, hw_6_1⟩ := hw_6
    refine j_icmp_le (pc := 25) (tgt := 32) C dX11_tallOn_25 (by decide) (fun c_7 => ?_) (fun c_7 => ?_)
    · skip
      rw [i_le] at c_7
      refine j_ldcw (pc := 32) C wd_899 dX11_tallOn_32 ?_
      refine j_istore (pc := 35) (lv' := [(4, .int 100000000), (3, .int (u_1.2.1 0)), (0, .ref m0), (1, .int p0), (2, .int p1)]) C dX11_tallOn_35 (by decide) rfl ?_
      refine j_iconst (pc := 37) (v := 0) C dX11_tallOn_37 (by decide) ?_
      refine j_istore (pc := 38) (lv' := [(5, .int 0), (4, .int 100000000), (3, .int (u_1.2.1 0)), (0, .ref m0), (1, .int p0), (2, .int p1)]) C dX11_tallOn_38 (by decide) rfl ?_
      have loop_8 : ∀ (k_8 : Nat) (x8_5 : Int32) (x8_4 : Int32), (0 ≤ (x8_5).toInt ∧ (x8_5).toInt ≤ 12) → (0 ≤ (x8_4).toInt ∧ (x8_4).toInt ≤ 100000000) → (TQ m_told m_mays m_tall p0 p1 x8_4.toInt) → (12 - x8_5.toInt).toNat < k_8 → J p l e ({ frames := 2, cells := 0, slots := 0, locals := 44 } : Room) s m args below meth c D A 7 0 0 (QX below D (TY cyC cyI cyJ cyZ cyO) A (fun u => some (.int (u.2.1 0))) (fun u => (0 ≤ (u.2.1 0).toInt ∧ (u.2.1 0).toInt ≤ 100000000) ∧ (TP m_told m_mays m_tall p0 p1 (u.2.1 0).toInt)) (fun u => [(m0, .inr (11, [.int m_thrown, .ref mtape, .int m_taped, .int m_size, .ref msort, .ref mplace, .ref mvalue, .int m_at, .int m_fault, .ref mwords, .ref mtold, .ref mop, .ref marg, .int m_codes, .ref mnames, .ref mhasHabit, .int m_isNew, .ref mfactWords, .ref mfacts, .ref mpile, .ref mstates, .ref misMarked, .int m_inShelf, .int m_inStack, .int m_inPlace, .ref mrow, .int m_rowMany, .ref mthr, .ref mmays, .ref mtall, .ref mweights, .ref mrowOfWare, .ref mneededOf, .int m_goShelf, .int m_goStack, .int m_goLeft, .ref mtried, .ref mbestRow, .int m_bestCost, .int m_bestMany, .int m_bestShelf, .int m_bestSet, .ref mdigits])), (mtold, .inl (cyI, 240, .inl m_told)), (mmays, .inl (cyZ, 144, .inl m_mays)), (mtall, .inl (cyI, 49152, .inl m_tall)), (mweights, .inl (cyI, 4096, .inl m_weights))]) args s 0 0) [(mmays, .inl (cyZ, 144, .inl m_mays)), (mtall, .inl (cyI, 49152, .inl m_tall)), (mweights, .inl (cyI, 4096, .inl m_weights)), (m0, .inr (11, [.int m_thrown, .ref mtape, .int m_taped, .int m_size, .ref msort, .ref mplace, .ref mvalue, .int m_at, .int m_fault, .ref mwords, .ref mtold, .ref mop, .ref marg, .int m_codes, .ref mnames, .ref mhasHabit, .int m_isNew, .ref mfactWords, .ref mfacts, .ref mpile, .ref mstates, .ref misMarked, .int m_inShelf, .int m_inStack, .int m_inPlace, .ref mrow, .int m_rowMany, .ref mthr, .ref mmays, .ref mtall, .ref mweights, .ref mrowOfWare, .ref mneededOf, .int m_goShelf, .int m_goStack, .int m_goLeft, .ref mtried, .ref mbestRow, .int m_bestCost, .int m_bestMany, .int m_bestShelf, .int m_bestSet, .ref mdigits])), (mtold, .inl (cyI, 240, .inl m_told))] 40 [(5, .int x8_5), (4, .int x8_4), (3, .int (u_1.2.1 0)), (0, .ref m0), (1, .int p0), (2, .int p1)] [] := by
        intro k_8
        induction k_8 with
        | zero =>
          intro x8_5 x8_4 hi_8_0 hi_8_1 hq_8_0 hm_8
          exact absurd hm_8 (Nat.not_lt_zero _)
        | succ k_8 ih_8 =>
          intro x8_5 x8_4 hi_8_0 hi_8_1 hq_8_0 hm_8
          refine j_iload (pc := 40) C dX11_tallOn_40 0 rfl ?_
          refine j_aload_n (pc := 42) C dX11_tallOn_42 rfl 3 rfl ?_
          refine j_callV (pc := 43) (As := []) (rest := [.int x8_5]) (wr := [(mmays, .inl (cyZ, 144, .inl m_mays)), (mtall, .inl (cyI, 49152, .inl m_tall)), (mweights, .inl (cyI, 4096, .inl m_weights))]) C (c_X11_wares l D cyC cyI cyJ cyZ cyO m0 mtold mtape msort mplace mvalue mwords mop marg mnames mhasHabit mfactWords mfacts mpile mstates misMarked mrow mthr mmays mtall mweights mrowOfWare mneededOf mtried mbestRow mdigits m_thrown m_taped m_size m_at m_fault m_codes m_isNew m_inShelf m_inStack m_inPlace m_rowMany m_goShelf m_goStack m_goLeft m_bestCost m_bestMany m_bestShelf m_bestSet m_told h_m_taped h_m_size h_m_at h_m_fault h_m_codes h_m_isNew h_m_inShelf h_m_inStack h_m_inPlace h_m_rowMany h_m_goShelf h_m_bestMany h_m_bestShelf h_m_told) wd_748 wd_624 wd_749 wd_750 wd_751 ⟨by decide, by decide, rfl⟩ rfl ⟨rfl, rfl, by decide, by decide⟩ ⟨by decide, by decide⟩ [3, 4] [0, 1, 2] rfl rfl ⟨by decide, by decide, by decide⟩ 3 rfl rfl rfl (Nat.le_of_ble_eq_true rfl) dX11_tallOn_43 (fun u_9 hw_10 => ?_)
          refine j_eq (ws2 := [(mmays, .inl (cyZ, 144, .inl m_mays)), (mtall, .inl (cyI, 49152, .inl m_tall)), (mweights, .inl (cyI, 4096, .inl m_weights)), (m0, .inr (11, [.int m_thrown, .ref mtape, .int m_taped, .int m_size, .ref msort, .ref mplace, .ref mvalue, .int m_at, .int m_fault, .ref mwords, .ref mtold, .ref mop, .ref marg, .int m_codes, .ref mnames, .ref mhasHabit, .int m_isNew, .ref mfactWords, .ref mfacts, .ref mpile, .ref mstates, .ref misMarked, .int m_inShelf, .int m_inStack, .int m_inPlace, .ref mrow, .int m_rowMany, .ref mthr, .ref mmays, .ref mtall, .ref mweights, .ref mrowOfWare, .ref mneededOf, .int m_goShelf, .int m_goStack, .int m_goLeft, .ref mtried, .ref mbestRow, .int m_bestCost, .int m_bestMany, .int m_bestShelf, .int m_bestSet, .ref mdigits])), (mtold, .inl (cyI, 240, .inl m_told))]) (pc2 := 46) (lv2 := [(5, .int x8_5), (4, .int x8_4), (3, .int (u_1.2.1 0)), (0, .ref m0), (1, .int p0), (2, .int p1)]) (st2 := [.int (u_9.2.1 0), .int x8_5]) rfl rfl rfl rfl ?_
          obtain ⟨hw_10_0, hw_10_1⟩ := hw_10
          refine j_icmp_ge (pc := 46) (tgt := 150) C dX11_tallOn_46 (by decide) (fun c_11 => ?_) (fun c_11 => ?_)
          · skip
            rw [i_le] at c_11
            refine j_iload (pc := 150) C dX11_tallOn_150 1 rfl ?_
            exact j_iret (pc := 152) C hr hk (fun i => [].getD i 0, fun i => [x8_4].getD i 0, fun i => [].getD i (fun _ => 0), fun i => [].getD i (fun _ => 0)) rfl (show (0 ≤ (x8_4).toInt ∧ (x8_4).toInt ≤ 100000000) ∧ (TP m_told m_mays m_tall p0 p1 x8_4.toInt) from ⟨hi_8_1, Or.inr hq_8_0⟩) [3, 4, 0, 1, 2] (by decide) rfl (by decide) (by decide) dX11_tallOn_152
          · skip
            rw [i_le] at c_11
            refine j_iload_n (pc := 49) C dX11_tallOn_49 rfl 5 rfl ?_
            refine j_iload (pc := 50) C dX11_tallOn_50 0 rfl ?_
            obtain ⟨v_12, ev_12⟩ : ∃ z : Int32, p1 >>> (x8_5 &&& 31) = z := ⟨_, rfl⟩
            refine j_ishr (pc := 52) (v := v_12) C dX11_tallOn_52 ev_12 ?_
            refine j_iconst (pc := 53) (v := 1) C dX11_tallOn_53 (by decide) ?_
            obtain ⟨v_13, ev_13⟩ : ∃ z : Int32, v_12 &&& 1 = z := ⟨_, rfl⟩
            have el_1 : (1 : Int32).toInt = 1 := rfl
            have hv_13 : 0 ≤ v_13.toInt ∧ v_13.toInt ≤ 1 := by rw [← ev_13]; exact and1_r _
            refine j_iand (pc := 54) (v := v_13) C dX11_tallOn_54 ev_13 ?_
            refine j_iconst (pc := 55) (v := 1) C dX11_tallOn_55 (by decide) ?_
            refine j_icmp_ne (pc := 56) (tgt := 144) C dX11_tallOn_56 (by decide) (fun c_14 => ?_) (fun c_14 => ?_)
            · skip
              have el_1 : (1 : Int32).toInt = 1 := rfl
              rw [i_eq] at c_14
              have k0c_14 : v_13.toInt = 0 := by omega
              obtain ⟨v_15, ev_15⟩ : ∃ z : Int32, x8_5 + 1 = z := ⟨_, rfl⟩
              have el_1 : (1 : Int32).toInt = 1 := rfl
              have hv_15 : v_15.toInt = x8_5.toInt + (1 : Int32).toInt := by rw [← ev_15]; exact fb_addI (by omega) (by omega)
              refine j_iinc (pc := 144) (v := v_15) (lv' := [(5, .int v_15), (4, .int x8_4), (3, .int (u_1.2.1 0)), (0, .ref m0), (1, .int p0), (2, .int p1)]) C dX11_tallOn_144 0 rfl ev_15 (by decide) rfl ?_
              refine j_goto (pc := 147) (tgt := 40) C dX11_tallOn_147 (by decide) ?_
              exact j_lv [0, 1, 2, 3, 4, 5] rfl (ih_8 v_15 x8_4 (by omega) hi_8_1 hq_8_0 (by omega))
            · skip
              have el_1 : (1 : Int32).toInt = 1 := rfl
              rw [i_eq] at c_14
              refine j_aload_n (pc := 59) C dX11_tallOn_59 rfl 3 rfl ?_
              refine j_get (pc := 60) (ci := 11) (v := .ref mmays) C inw_11 3 rfl rfl 28 (by decide) wd_900 rfl rfl dX11_tallOn_60 ?_
              refine j_bipush (pc := 63) (v := 12) C dX11_tallOn_63 (by decide) ?_
              refine j_iload (pc := 65) C dX11_tallOn_65 0 rfl ?_
              obtain ⟨v_16, ev_16⟩ : ∃ z : Int32, 12 * x8_5 = z := ⟨_, rfl⟩
              have el_12 : (12 : Int32).toInt = 12 := rfl
              have hv_16 : v_16.toInt = 12 * x8_5.toInt := by rw [← ev_16]; exact mulL (c := 12) rfl (by omega) (by omega)
              refine j_imul (pc := 67) (v := v_16) C dX11_tallOn_67 ev_16 ?_
              refine j_iload_n (pc := 68) C dX11_tallOn_68 rfl 4 rfl ?_
              obtain ⟨v_17, ev_17⟩ : ∃ z : Int32, v_16 + p0 = z := ⟨_, rfl⟩
              have hv_17 : v_17.toInt = v_16.toInt + p0.toInt := by rw [← ev_17]; exact fb_addI (by omega) (by omega)
              refine j_iadd (pc := 69) (v := v_17) C dX11_tallOn_69 ev_17 ?_
              obtain ⟨v_18, ev_18⟩ : ∃ z, m_mays (v_17).toInt.toNat = z := ⟨_, rfl⟩
              have env_18 : (m_mays (v_17).toInt.toNat).toInt = v_18.toInt := by rw [ev_18]
              refine j_zald (pc := 70) (v := v_18) (k := (v_17).toInt.toNat) C 0 3 rfl rfl (i_nn (by omega)) rfl (i_lt_n (by omega) (by omega)) ev_18 dX11_tallOn_70 ?_
              refine j_if_eq (pc := 71) (tgt := 144) C dX11_tallOn_71 (by decide) (fun c_19 => ?_) (fun c_19 => ?_)
              · skip
                have el_0 : (0 : Int32).toInt = 0 := rfl
                rw [i_eq] at c_19
                obtain ⟨v_20, ev_20⟩ : ∃ z : Int32, x8_5 + 1 = z := ⟨_, rfl⟩
                have el_1 : (1 : Int32).toInt = 1 := rfl
                have hv_20 : v_20.toInt = x8_5.toInt + (1 : Int32).toInt := by rw [← ev_20]; exact fb_addI (by omega) (by omega)
                refine j_iinc (pc := 144) (v := v_20) (lv' := [(5, .int v_20), (4, .int x8_4), (3, .int (u_1.2.1 0)), (0, .ref m0), (1, .int p0), (2, .int p1)]) C dX11_tallOn_144 0 rfl ev_20 (by decide) rfl ?_
                refine j_goto (pc := 147) (tgt := 40) C dX11_tallOn_147 (by decide) ?_
                exact j_lv [0, 1, 2, 3, 4, 5] rfl (ih_8 v_20 x8_4 (by omega) hi_8_1 hq_8_0 (by omega))
              · skip
                have el_0 : (0 : Int32).toInt = 0 := rfl
                rw [i_eq] at c_19
                refine j_aload_n (pc := 74) C dX11_tallOn_74 rfl 3 rfl ?_
                refine j_get (pc := 75) (ci := 11) (v := .ref mtall) C inw_11 3 rfl rfl 29 (by decide) wd_901 rfl rfl dX11_tallOn_75 ?_
                refine j_bipush (pc := 78) (v := 12) C dX11_tallOn_78 (by decide) ?_
                refine j_iload_n (pc := 80) C dX11_tallOn_80 rfl 5 rfl ?_
                obtain ⟨v_21, ev_21⟩ : ∃ z : Int32, 12 * p1 = z := ⟨_, rfl⟩
                have el_12 : (12 : Int32).toInt = 12 := rfl
                have hv_21 : v_21.toInt = 12 * p1.toInt := by rw [← ev_21]; exact mulL (c := 12) rfl (by omega) (by omega)
                refine j_imul (pc := 81) (v := v_21) C dX11_tallOn_81 ev_21 ?_
                refine j_iload (pc := 82) C dX11_tallOn_82 0 rfl ?_
                obtain ⟨v_22, ev_22⟩ : ∃ z : Int32, v_21 + x8_5 = z := ⟨_, rfl⟩
                have hv_22 : v_22.toInt = v_21.toInt + x8_5.toInt := by rw [← ev_22]; exact fb_addI (by omega) (by omega)
                refine j_iadd (pc := 84) (v := v_22) C dX11_tallOn_84 ev_22 ?_
                obtain ⟨v_23, ev_23⟩ : ∃ z, m_tall (v_22).toInt.toNat = z := ⟨_, rfl⟩
                have env_23 : (m_tall (v_22).toInt.toNat).toInt = v_23.toInt := by rw [ev_23]
                have hv_23 := h_m_tall (v_22).toInt.toNat (i_lt_n (by omega) (by omega)); rw [ev_23] at hv_23
                refine j_iald (pc := 85) (v := v_23) (k := (v_22).toInt.toNat) C 1 1 rfl rfl (i_nn (by omega)) rfl (i_lt_n (by omega) (by omega)) ev_23 dX11_tallOn_85 ?_
                refine j_ldcw (pc := 86) C wd_899 dX11_tallOn_86 ?_
                refine j_icmp_ge (pc := 89) (tgt := 144) C dX11_tallOn_89 (by decide) (fun c_24 => ?_) (fun c_24 => ?_)
                · skip
                  have el_100000000 : (100000000 : Int32).toInt = 100000000 := rfl
                  rw [i_le] at c_24
                  have k0c_24 : v_23.toInt = 100000000 := by omega
                  obtain ⟨v_25, ev_25⟩ : ∃ z : Int32, x8_5 + 1 = z := ⟨_, rfl⟩
                  have el_1 : (1 : Int32).toInt = 1 := rfl
                  have hv_25 : v_25.toInt = x8_5.toInt + (1 : Int32).toInt := by rw [← ev_25]; exact fb_addI (by omega) (by omega)
                  refine j_iinc (pc := 144) (v := v_25) (lv' := [(5, .int v_25), (4, .int x8_4), (3, .int (u_1.2.1 0)), (0, .ref m0), (1, .int p0), (2, .int p1)]) C dX11_tallOn_144 0 rfl ev_25 (by decide) rfl ?_
                  refine j_goto (pc := 147) (tgt := 40) C dX11_tallOn_147 (by decide) ?_
                  exact j_lv [0, 1, 2, 3, 4, 5] rfl (ih_8 v_25 x8_4 (by omega) hi_8_1 hq_8_0 (by omega))
                · skip
                  have el_100000000 : (100000000 : Int32).toInt = 100000000 := rfl
                  rw [i_le] at c_24
                  refine j_aload_n (pc := 92) C dX11_tallOn_92 rfl 3 rfl ?_
                  refine j_iload (pc := 93) C dX11_tallOn_93 0 rfl ?_
                  refine j_iload_n (pc := 95) C dX11_tallOn_95 rfl 4 rfl ?_
                  refine j_callV (pc := 96) (As := [.int x8_5, .int p0]) (rest := []) (wr := [(mmays, .inl (cyZ, 144, .inl m_mays)), (mtall, .inl (cyI, 49152, .inl m_tall)), (mweights, .inl (cyI, 4096, .inl m_weights))]) C (c_X11_rises_f l D cyC cyI cyJ cyZ cyO m0 mtold mtape msort mplace mvalue mwords mop marg mnames mhasHabit mfactWords mfacts mpile mstates misMarked mrow mthr mmays mtall mweights mrowOfWare mneededOf mtried mbestRow mdigits x8_5 p0 m_thrown m_taped m_size m_at m_fault m_codes m_isNew m_inShelf m_inStack m_inPlace m_rowMany m_goShelf m_goStack m_goLeft m_bestCost m_bestMany m_bestShelf m_bestSet m_told h_m_taped h_m_size h_m_at h_m_fault h_m_codes h_m_isNew h_m_inShelf h_m_inStack h_m_inPlace h_m_rowMany h_m_goShelf h_m_bestMany h_m_bestShelf (by omega) h_p0 h_m_told) wd_789 wd_624 wd_790 wd_791 wd_792 ⟨by decide, by decide, rfl⟩ rfl ⟨rfl, rfl, by decide, by decide⟩ ⟨by decide, by decide⟩ [3, 4] [0, 1, 2] rfl rfl ⟨by decide, by decide, by decide⟩ 3 rfl rfl rfl (Nat.le_of_ble_eq_true rfl) dX11_tallOn_96 (fun u_26 hw_27 => ?_)
                  refine j_eq (ws2 := [(mmays, .inl (cyZ, 144, .inl m_mays)), (mtall, .inl (cyI, 49152, .inl m_tall)), (mweights, .inl (cyI, 4096, .inl m_weights)), (m0, .inr (11, [.int m_thrown, .ref mtape, .int m_taped, .int m_size, .ref msort, .ref mplace, .ref mvalue, .int m_at, .int m_fault, .ref mwords, .ref mtold, .ref mop, .ref marg, .int m_codes, .ref mnames, .ref mhasHabit, .int m_isNew, .ref mfactWords, .ref mfacts, .ref mpile, .ref mstates, .ref misMarked, .int m_inShelf, .int m_inStack, .int m_inPlace, .ref mrow, .int m_rowMany, .ref mthr, .ref mmays, .ref mtall, .ref mweights, .ref mrowOfWare, .ref mneededOf, .int m_goShelf, .int m_goStack, .int m_goLeft, .ref mtried, .ref mbestRow, .int m_bestCost, .int m_bestMany, .int m_bestShelf, .int m_bestSet, .ref mdigits])), (mtold, .inl (cyI, 240, .inl m_told))]) (pc2 := 99) (lv2 := [(5, .int x8_5), (4, .int x8_4), (3, .int (u_1.2.1 0)), (0, .ref m0), (1, .int p0), (2, .int p1)]) (st2 := [.int (u_26.2.1 0)]) rfl rfl rfl rfl ?_
                  obtain ⟨hw_27_0, hw_27_1⟩ := hw_27
                  refine j_aload_n (pc := 99) C dX11_tallOn_99 rfl 3 rfl ?_
                  refine j_get (pc := 100) (ci := 11) (v := .ref mtall) C inw_11 3 rfl rfl 29 (by decide) wd_901 rfl rfl dX11_tallOn_100 ?_
                  refine j_bipush (pc := 103) (v := 12) C dX11_tallOn_103 (by decide) ?_
                  refine j_iload_n (pc := 105) C dX11_tallOn_105 rfl 5 rfl ?_
                  obtain ⟨v_28, ev_28⟩ : ∃ z : Int32, 12 * p1 = z := ⟨_, rfl⟩
                  have el_12 : (12 : Int32).toInt = 12 := rfl
                  have hv_28 : v_28.toInt = 12 * p1.toInt := by rw [← ev_28]; exact mulL (c := 12) rfl (by omega) (by omega)
                  refine j_imul (pc := 106) (v := v_28) C dX11_tallOn_106 ev_28 ?_
                  refine j_iload (pc := 107) C dX11_tallOn_107 0 rfl ?_
                  obtain ⟨v_29, ev_29⟩ : ∃ z : Int32, v_28 + x8_5 = z := ⟨_, rfl⟩
                  have hv_29 : v_29.toInt = v_28.toInt + x8_5.toInt := by rw [← ev_29]; exact fb_addI (by omega) (by omega)
                  refine j_iadd (pc := 109) (v := v_29) C dX11_tallOn_109 ev_29 ?_
                  refine j_iald (pc := 110) (v := v_23) (k := (v_29).toInt.toNat) C 1 1 rfl rfl (i_nn (by omega)) rfl (i_lt_n (by omega) (by omega)) (by rw [show (v_29).toInt.toNat = (v_22).toInt.toNat from (by omega)]; exact ev_23) dX11_tallOn_110 ?_
                  obtain ⟨v_30, ev_30⟩ : ∃ z : Int32, (u_26.2.1 0) + v_23 = z := ⟨_, rfl⟩
                  have hv_30 : v_30.toInt = ((u_26.2.1 0)).toInt + v_23.toInt := by rw [← ev_30]; exact fb_addI (by omega) (by omega)
                  refine j_iadd (pc := 111) (v := v_30) C dX11_tallOn_111 ev_30 ?_
                  refine j_istore (pc := 112) (lv' := [(6, .int v_30), (5, .int x8_5), (4, .int x8_4), (3, .int (u_1.2.1 0)), (0, .ref m0), (1, .int p0), (2, .int p1)]) C dX11_tallOn_112 (by decide) rfl ?_
                  refine j_iload (pc := 114) C dX11_tallOn_114 0 rfl ?_
                  refine j_iload_n (pc := 116) C dX11_tallOn_116 rfl 3 rfl ?_
                  refine j_icmp_ge (pc := 117) (tgt := 124) C dX11_tallOn_117 (by decide) (fun c_31 => ?_) (fun c_31 => ?_)
                  · skip
                    rw [i_le] at c_31
                    refine j_iload (pc := 124) C dX11_tallOn_124 0 rfl ?_
                    refine j_istore (pc := 126) (lv' := [(6, .int v_30), (5, .int x8_5), (4, .int x8_4), (3, .int (u_1.2.1 0)), (0, .ref m0), (1, .int p0), (2, .int p1)]) C dX11_tallOn_126 (by decide) rfl ?_
                    refine j_iload (pc := 128) C dX11_tallOn_128 0 rfl ?_
                    refine j_iload (pc := 130) C dX11_tallOn_130 2 rfl ?_
                    refine j_icmp_ge (pc := 132) (tgt := 140) C dX11_tallOn_132 (by decide) (fun c_32 => ?_) (fun c_32 => ?_)
                    · skip
                      rw [i_le] at c_32
                      refine j_iload (pc := 140) C dX11_tallOn_140 2 rfl ?_
                      refine j_istore (pc := 142) (lv' := [(4, .int x8_4), (6, .int v_30), (5, .int x8_5), (3, .int (u_1.2.1 0)), (0, .ref m0), (1, .int p0), (2, .int p1)]) C dX11_tallOn_142 (by decide) rfl ?_
                      obtain ⟨v_33, ev_33⟩ : ∃ z : Int32, x8_5 + 1 = z := ⟨_, rfl⟩
                      have el_1 : (1 : Int32).toInt = 1 := rfl
                      have hv_33 : v_33.toInt = x8_5.toInt + (1 : Int32).toInt := by rw [← ev_33]; exact fb_addI (by omega) (by omega)
                      refine j_iinc (pc := 144) (v := v_33) (lv' := [(5, .int v_33), (4, .int x8_4), (6, .int v_30), (3, .int (u_1.2.1 0)), (0, .ref m0), (1, .int p0), (2, .int p1)]) C dX11_tallOn_144 2 rfl ev_33 (by decide) rfl ?_
                      refine j_goto (pc := 147) (tgt := 40) C dX11_tallOn_147 (by decide) ?_
                      exact j_lv [0, 1, 3, 4, 5, 6] rfl (ih_8 v_33 x8_4 (by omega) hi_8_1 hq_8_0 (by omega))
                    · skip
                      rw [i_le] at c_32
                      refine j_iload (pc := 135) C dX11_tallOn_135 0 rfl ?_
                      refine j_goto (pc := 137) (tgt := 142) C dX11_tallOn_137 (by decide) ?_
                      refine j_istore (pc := 142) (lv' := [(4, .int v_30), (6, .int v_30), (5, .int x8_5), (3, .int (u_1.2.1 0)), (0, .ref m0), (1, .int p0), (2, .int p1)]) C dX11_tallOn_142 (by decide) rfl ?_
                      obtain ⟨v_34, ev_34⟩ : ∃ z : Int32, x8_5 + 1 = z := ⟨_, rfl⟩
                      have el_1 : (1 : Int32).toInt = 1 := rfl
                      have hv_34 : v_34.toInt = x8_5.toInt + (1 : Int32).toInt := by rw [← ev_34]; exact fb_addI (by omega) (by omega)
                      refine j_iinc (pc := 144) (v := v_34) (lv' := [(5, .int v_34), (4, .int v_30), (6, .int v_30), (3, .int (u_1.2.1 0)), (0, .ref m0), (1, .int p0), (2, .int p1)]) C dX11_tallOn_144 2 rfl ev_34 (by decide) rfl ?_
                      refine j_goto (pc := 147) (tgt := 40) C dX11_tallOn_147 (by decide) ?_
                      exact j_lv [0, 1, 3, 4, 5, 6] rfl (ih_8 v_34 v_30 (by omega) (by omega) (fun _ => ⟨x8_5, by omega, by (have h9 := congrArg Int32.toInt hw_10_1; omega), by (unfold bI; rw [ev_12, ev_13]; omega), by (rw [show 12 * (x8_5).toInt.toNat + (p0).toInt.toNat = (v_17).toInt.toNat from (by omega), ev_18]; omega), by (rw [← hw_27_1, show 12 * (p1).toInt.toNat + (x8_5).toInt.toNat = (v_22).toInt.toNat from (by omega), ev_23]; omega)⟩) (by omega))
                  · skip
                    rw [i_le] at c_31
                    refine j_iload_n (pc := 120) C dX11_tallOn_120 rfl 3 rfl ?_
                    refine j_goto (pc := 121) (tgt := 126) C dX11_tallOn_121 (by decide) ?_
                    refine j_istore (pc := 126) (lv' := [(6, .int (u_1.2.1 0)), (5, .int x8_5), (4, .int x8_4), (3, .int (u_1.2.1 0)), (0, .ref m0), (1, .int p0), (2, .int p1)]) C dX11_tallOn_126 (by decide) rfl ?_
                    refine j_iload (pc := 128) C dX11_tallOn_128 0 rfl ?_
                    refine j_iload (pc := 130) C dX11_tallOn_130 2 rfl ?_
                    refine j_icmp_ge (pc := 132) (tgt := 140) C dX11_tallOn_132 (by decide) (fun c_35 => ?_) (fun c_35 => ?_)
                    · skip
                      rw [i_le] at c_35
                      refine j_iload (pc := 140) C dX11_tallOn_140 2 rfl ?_
                      refine j_istore (pc := 142) (lv' := [(4, .int x8_4), (6, .int (u_1.2.1 0)), (5, .int x8_5), (3, .int (u_1.2.1 0)), (0, .ref m0), (1, .int p0), (2, .int p1)]) C dX11_tallOn_142 (by decide) rfl ?_
                      obtain ⟨v_36, ev_36⟩ : ∃ z : Int32, x8_5 + 1 = z := ⟨_, rfl⟩
                      have el_1 : (1 : Int32).toInt = 1 := rfl
                      have hv_36 : v_36.toInt = x8_5.toInt + (1 : Int32).toInt := by rw [← ev_36]; exact fb_addI (by omega) (by omega)
                      refine j_iinc (pc := 144) (v := v_36) (lv' := [(5, .int v_36), (4, .int x8_4), (6, .int (u_1.2.1 0)), (3, .int (u_1.2.1 0)), (0, .ref m0), (1, .int p0), (2, .int p1)]) C dX11_tallOn_144 2 rfl ev_36 (by decide) rfl ?_
                      refine j_goto (pc := 147) (tgt := 40) C dX11_tallOn_147 (by decide) ?_
                      exact j_lv [0, 1, 3, 4, 5, 6] rfl (ih_8 v_36 x8_4 (by omega) hi_8_1 hq_8_0 (by omega))
                    · skip
                      rw [i_le] at c_35
                      refine j_iload (pc := 135) C dX11_tallOn_135 0 rfl ?_
                      refine j_goto (pc := 137) (tgt := 142) C dX11_tallOn_137 (by decide) ?_
                      refine j_istore (pc := 142) (lv' := [(4, .int (u_1.2.1 0)), (6, .int (u_1.2.1 0)), (5, .int x8_5), (3, .int (u_1.2.1 0)), (0, .ref m0), (1, .int p0), (2, .int p1)]) C dX11_tallOn_142 (by decide) rfl ?_
                      obtain ⟨v_37, ev_37⟩ : ∃ z : Int32, x8_5 + 1 = z := ⟨_, rfl⟩
                      have el_1 : (1 : Int32).toInt = 1 := rfl
                      have hv_37 : v_37.toInt = x8_5.toInt + (1 : Int32).toInt := by rw [← ev_37]; exact fb_addI (by omega) (by omega)
                      refine j_iinc (pc := 144) (v := v_37) (lv' := [(5, .int v_37), (4, .int (u_1.2.1 0)), (6, .int (u_1.2.1 0)), (3, .int (u_1.2.1 0)), (0, .ref m0), (1, .int p0), (2, .int p1)]) C dX11_tallOn_144 2 rfl ev_37 (by decide) rfl ?_
                      refine j_goto (pc := 147) (tgt := 40) C dX11_tallOn_147 (by decide) ?_
                      exact j_lv [0, 1, 3, 4, 5, 6] rfl (ih_8 v_37 (u_1.2.1 0) (by omega) (by omega) (fun _ => ⟨x8_5, by omega, by (have h9 := congrArg Int32.toInt hw_10_1; omega), by (unfold bI; rw [ev_12, ev_13]; omega), by (rw [show 12 * (x8_5).toInt.toNat + (p0).toInt.toNat = (v_17).toInt.toNat from (by omega), ev_18]; omega), by (rw [← hw_27_1, show 12 * (p1).toInt.toNat + (x8_5).toInt.toNat = (v_22).toInt.toNat from (by omega), ev_23]; omega)⟩) (by omega))
      have el_0 : (0 : Int32).toInt = 0 := rfl
      have el_100000000 : (100000000 : Int32).toInt = 100000000 := rfl
      exact j_lv [0, 1, 2, 3, 4, 5] rfl (loop_8 4096 0 100000000 (by decide) (by decide) (fun h => absurd h (by decide)) (by omega))
    · skip
      rw [i_le] at c_7
      refine j_ldcw (pc := 28) C wd_899 dX11_tallOn_28 ?_
      have el_100000000 : (100000000 : Int32).toInt = 100000000 := rfl
      have el_100000000 : (100000000 : Int32).toInt = 100000000 := rfl
      exact j_iret (pc := 31) C hr hk (fun i => [].getD i 0, fun i => [100000000].getD i 0, fun i => [].getD i (fun _ => 0), fun i => [].getD i (fun _ => 0)) rfl (show (0 ≤ ((100000000 : Int32)).toInt ∧ ((100000000 : Int32)).toInt ≤ 100000000) ∧ (TP m_told m_mays m_tall p0 p1 (100000000 : Int32).toInt) from ⟨by omega, Or.inr (fun h => absurd h (by decide))⟩) [3, 4, 0, 1, 2] (by decide) rfl (by decide) (by decide) dX11_tallOn_31
  · skip
    have el_0 : (0 : Int32).toInt = 0 := rfl
    rw [i_eq] at c_3
    refine j_iload_n (pc := 11) C dX11_tallOn_11 rfl 0 rfl ?_
    exact j_iret (pc := 12) C hr hk (fun i => [].getD i 0, fun i => [(u_1.2.1 0)].getD i 0, fun i => [].getD i (fun _ => 0), fun i => [].getD i (fun _ => 0)) rfl (show (0 ≤ ((u_1.2.1 0)).toInt ∧ ((u_1.2.1 0)).toInt ≤ 100000000) ∧ (TP m_told m_mays m_tall p0 p1 (u_1.2.1 0).toInt) from ⟨by omega, Or.inl ((i_eq _ _).mpr (by omega))⟩) [3, 4, 0, 1, 2] (by decide) rfl (by decide) (by decide) dX11_tallOn_12
set_option maxHeartbeats 4000000 in
set_option maxRecDepth 100000 in
theorem c_X11_findTall (l : Launch) (D : DG) (cyC cyI cyJ cyZ cyO : ClassId) (m0 : Nat) (mtold : Nat) (mmays : Nat) (mtall : Nat) (mweights : Nat) (mtape : Nat) (msort : Nat) (mplace : Nat) (mvalue : Nat) (mwords : Nat) (mop : Nat) (marg : Nat) (mnames : Nat) (mhasHabit : Nat) (mfactWords : Nat) (mfacts : Nat) (mpile : Nat) (mstates : Nat) (misMarked : Nat) (mrow : Nat) (mthr : Nat) (mrowOfWare : Nat) (mneededOf : Nat) (mtried : Nat) (mbestRow : Nat) (mdigits : Nat) (p0 : Int32) (m_thrown : Int32) (m_taped : Int32) (m_size : Int32) (m_at : Int32) (m_fault : Int32) (m_codes : Int32) (m_isNew : Int32) (m_inShelf : Int32) (m_inStack : Int32) (m_inPlace : Int32) (m_rowMany : Int32) (m_goShelf : Int32) (m_goStack : Int32) (m_goLeft : Int32) (m_bestCost : Int32) (m_bestMany : Int32) (m_bestShelf : Int32) (m_bestSet : Int32) (m_told : Nat → Int32) (m_mays : Nat → Int32) (m_tall : Nat → Int32) (m_weights : Nat → Int32) (h_m_taped : 0 ≤ (m_taped).toInt ∧ (m_taped).toInt ≤ 1000) (h_m_size : 0 ≤ (m_size).toInt ∧ (m_size).toInt ≤ 1000) (h_m_at : 0 ≤ (m_at).toInt ∧ (m_at).toInt ≤ 1000) (h_m_fault : 0 ≤ (m_fault).toInt ∧ (m_fault).toInt ≤ 16005) (h_m_codes : 0 ≤ (m_codes).toInt ∧ (m_codes).toInt ≤ 1000) (h_m_isNew : 0 ≤ (m_isNew).toInt ∧ (m_isNew).toInt ≤ 1) (h_m_inShelf : 0 ≤ (m_inShelf).toInt ∧ (m_inShelf).toInt ≤ 3) (h_m_inStack : 0 ≤ (m_inStack).toInt ∧ (m_inStack).toInt ≤ 7) (h_m_inPlace : 0 ≤ (m_inPlace).toInt ∧ (m_inPlace).toInt ≤ 11) (h_m_rowMany : 0 ≤ (m_rowMany).toInt ∧ (m_rowMany).toInt ≤ 12) (h_m_goShelf : -1 ≤ (m_goShelf).toInt ∧ (m_goShelf).toInt ≤ 3) (h_m_bestMany : 0 ≤ (m_bestMany).toInt ∧ (m_bestMany).toInt ≤ 7) (h_m_bestShelf : 0 ≤ (m_bestShelf).toInt ∧ (m_bestShelf).toInt ≤ 3) (h_p0 : 1 ≤ (p0).toInt ∧ (p0).toInt ≤ 4095) (h_m_told : TV m_told) (h_m_tall : Iv 49152 (0) (100000000) m_tall) : KK l D (TY cyC cyI cyJ cyZ cyO) yX11_findTall cX11_findTall 4 none ({ frames := 3, cells := 0, slots := 0, locals := 70 } : Room) 0 0 [.ref m0, .int p0] [(m0, .inr (11, [.int m_thrown, .ref mtape, .int m_taped, .int m_size, .ref msort, .ref mplace, .ref mvalue, .int m_at, .int m_fault, .ref mwords, .ref mtold, .ref mop, .ref marg, .int m_codes, .ref mnames, .ref mhasHabit, .int m_isNew, .ref mfactWords, .ref mfacts, .ref mpile, .ref mstates, .ref misMarked, .int m_inShelf, .int m_inStack, .int m_inPlace, .ref mrow, .int m_rowMany, .ref mthr, .ref mmays, .ref mtall, .ref mweights, .ref mrowOfWare, .ref mneededOf, .int m_goShelf, .int m_goStack, .int m_goLeft, .ref mtried, .ref mbestRow, .int m_bestCost, .int m_bestMany, .int m_bestShelf, .int m_bestSet, .ref mdigits])), (mtold, .inl (cyI, 240, .inl m_told)), (mmays, .inl (cyZ, 144, .inl m_mays)), (mtall, .inl (cyI, 49152, .inl m_tall)), (mweights, .inl (cyI, 4096, .inl m_weights))] (fun u => none) (fun u => (Iv 49152 (0) (100000000) (u.2.2.1 0)) ∧ (∀ j : Nat, ((j : Int) < 12 * (p0).toInt ∨ 12 * (p0).toInt + 12 ≤ (j : Int)) → (u.2.2.1 0) j = m_tall j) ∧ (TS m_told m_mays (u.2.2.1 0) p0)) (fun u => [(m0, .inr (11, [.int m_thrown, .ref mtape, .int m_taped, .int m_size, .ref msort, .ref mplace, .ref mvalue, .int m_at, .int m_fault, .ref mwords, .ref mtold, .ref mop, .ref marg, .int m_codes, .ref mnames, .ref mhasHabit, .int m_isNew, .ref mfactWords, .ref mfacts, .ref mpile, .ref mstates, .ref misMarked, .int m_inShelf, .int m_inStack, .int m_inPlace, .ref mrow, .int m_rowMany, .ref mthr, .ref mmays, .ref mtall, .ref mweights, .ref mrowOfWare, .ref mneededOf, .int m_goShelf, .int m_goStack, .int m_goLeft, .ref mtried, .ref mbestRow, .int m_bestCost, .int m_bestMany, .int m_bestShelf, .int m_bestSet, .ref mdigits])), (mtold, .inl (cyI, 240, .inl m_told)), (mmays, .inl (cyZ, 144, .inl m_mays)), (mtall, .inl (cyI, 49152, .inl (u.2.2.1 0))), (mweights, .inl (cyI, 4096, .inl (u.2.2.1 1)))]) := by
  refine KK.of (lv0 := [(0, .ref m0), (1, .int p0)]) (by decide) rfl (Nat.le_of_ble_eq_true rfl) ?_
  intro p e s m args below meth c A C hr hk hin
  refine j_iconst (pc := 0) (v := 0) C dX11_findTall_0 (by decide) ?_
  refine j_istore_n (pc := 1) (lv' := [(2, .int 0), (0, .ref m0), (1, .int p0)]) C dX11_findTall_1 rfl (by decide) rfl ?_
  have loop_1 : ∀ (k_1 : Nat) (x1_2 : Int32), (0 ≤ (x1_2).toInt ∧ (x1_2).toInt ≤ 11) → (∃ k : Nat, x1_2.toInt ≤ (k : Int) ∧ k < 12 ∧ bI p0 (nI k) = 1) → (12 - x1_2.toInt).toNat < k_1 → J p l e ({ frames := 3, cells := 0, slots := 0, locals := 70 } : Room) s m args below meth c D A 4 0 0 (QX below D (TY cyC cyI cyJ cyZ cyO) A (fun u => none) (fun u => (Iv 49152 (0) (100000000) (u.2.2.1 0)) ∧ (∀ j : Nat, ((j : Int) < 12 * (p0).toInt ∨ 12 * (p0).toInt + 12 ≤ (j : Int)) → (u.2.2.1 0) j = m_tall j) ∧ (TS m_told m_mays (u.2.2.1 0) p0)) (fun u => [(m0, .inr (11, [.int m_thrown, .ref mtape, .int m_taped, .int m_size, .ref msort, .ref mplace, .ref mvalue, .int m_at, .int m_fault, .ref mwords, .ref mtold, .ref mop, .ref marg, .int m_codes, .ref mnames, .ref mhasHabit, .int m_isNew, .ref mfactWords, .ref mfacts, .ref mpile, .ref mstates, .ref misMarked, .int m_inShelf, .int m_inStack, .int m_inPlace, .ref mrow, .int m_rowMany, .ref mthr, .ref mmays, .ref mtall, .ref mweights, .ref mrowOfWare, .ref mneededOf, .int m_goShelf, .int m_goStack, .int m_goLeft, .ref mtried, .ref mbestRow, .int m_bestCost, .int m_bestMany, .int m_bestShelf, .int m_bestSet, .ref mdigits])), (mtold, .inl (cyI, 240, .inl m_told)), (mmays, .inl (cyZ, 144, .inl m_mays)), (mtall, .inl (cyI, 49152, .inl (u.2.2.1 0))), (mweights, .inl (cyI, 4096, .inl (u.2.2.1 1)))]) args s 0 0) [(m0, .inr (11, [.int m_thrown, .ref mtape, .int m_taped, .int m_size, .ref msort, .ref mplace, .ref mvalue, .int m_at, .int m_fault, .ref mwords, .ref mtold, .ref mop, .ref marg, .int m_codes, .ref mnames, .ref mhasHabit, .int m_isNew, .ref mfactWords, .ref mfacts, .ref mpile, .ref mstates, .ref misMarked, .int m_inShelf, .int m_inStack, .int m_inPlace, .ref mrow, .int m_rowMany, .ref mthr, .ref mmays, .ref mtall, .ref mweights, .ref mrowOfWare, .ref mneededOf, .int m_goShelf, .int m_goStack, .int m_goLeft, .ref mtried, .ref mbestRow, .int m_bestCost, .int m_bestMany, .int m_bestShelf, .int m_bestSet, .ref mdigits])), (mtold, .inl (cyI, 240, .inl m_told)), (mmays, .inl (cyZ, 144, .inl m_mays)), (mtall, .inl (cyI, 49152, .inl m_tall)), (mweights, .inl (cyI, 4096, .inl m_weights))] 2 [(2, .int x1_2), (0, .ref m0), (1, .int p0)] [] := by
    intro k_1
    induction k_1 with
    | zero =>
      intro x1_2 hi_1_0 hq_1_0 hm_1
      exact absurd hm_1 (Nat.not_lt_zero _)
    | succ k_1 ih_1 =>
      intro x1_2 hi_1_0 hq_1_0 hm_1
      refine j_iload_n (pc := 2) C dX11_findTall_2 rfl 2 rfl ?_
      refine j_iload_n (pc := 3) C dX11_findTall_3 rfl 0 rfl ?_
      obtain ⟨v_2, ev_2⟩ : ∃ z : Int32, p0 >>> (x1_2 &&& 31) = z := ⟨_, rfl⟩
      refine j_ishr (pc := 4) (v := v_2) C dX11_findTall_4 ev_2 ?_
      refine j_iconst (pc := 5) (v := 1) C dX11_findTall_5 (by decide) ?_
      obtain ⟨v_3, ev_3⟩ : ∃ z : Int32, v_2 &&& 1 = z := ⟨_, rfl⟩
      have el_1 : (1 : Int32).toInt = 1 := rfl
      have hv_3 : 0 ≤ v_3.toInt ∧ v_3.toInt ≤ 1 := by rw [← ev_3]; exact and1_r _
      refine j_iand (pc := 6) (v := v_3) C dX11_findTall_6 ev_3 ?_
      refine j_if_ne (pc := 7) (tgt := 16) C dX11_findTall_7 (by decide) (fun c_4 => ?_) (fun c_4 => ?_)
      · skip
        have el_0 : (0 : Int32).toInt = 0 := rfl
        rw [i_eq] at c_4
        have k0c_4 : v_3.toInt = 1 := by omega
        refine j_aload_n (pc := 16) C dX11_findTall_16 rfl 1 rfl ?_
        refine j_get (pc := 17) (ci := 11) (v := .ref mweights) C inw_11 0 rfl rfl 30 (by decide) wd_898 rfl rfl dX11_findTall_17 ?_
        refine j_iload_n (pc := 20) C dX11_findTall_20 rfl 2 rfl ?_
        refine j_aload_n (pc := 21) C dX11_findTall_21 rfl 1 rfl ?_
        refine j_get (pc := 22) (ci := 11) (v := .ref mweights) C inw_11 0 rfl rfl 30 (by decide) wd_898 rfl rfl dX11_findTall_22 ?_
        refine j_iload_n (pc := 25) C dX11_findTall_25 rfl 2 rfl ?_
        refine j_iconst (pc := 26) (v := 1) C dX11_findTall_26 (by decide) ?_
        refine j_iload_n (pc := 27) C dX11_findTall_27 rfl 0 rfl ?_
        obtain ⟨v_5, ev_5⟩ : ∃ z : Int32, 1 <<< (x1_2 &&& 31) = z := ⟨_, rfl⟩
        have el_1 : (1 : Int32).toInt = 1 := rfl
        have hv_5 : 1 ≤ v_5.toInt ∧ v_5.toInt ≤ 2048 := by rw [← ev_5]; exact shl1_iv 0 11 (by omega) (by omega) (by omega)
        refine j_ishl (pc := 28) (v := v_5) C dX11_findTall_28 ev_5 ?_
        refine j_iconst (pc := 29) (v := (-1)) C dX11_findTall_29 (by decide) ?_
        obtain ⟨v_6, ev_6⟩ : ∃ z : Int32, v_5 ^^^ (-1) = z := ⟨_, rfl⟩
        have el_m1 : ((-1) : Int32).toInt = (-1) := rfl
        refine j_ixor (pc := 30) (v := v_6) C dX11_findTall_30 ev_6 ?_
        obtain ⟨v_7, ev_7⟩ : ∃ z : Int32, p0 &&& v_6 = z := ⟨_, rfl⟩
        have hv_7 : 0 ≤ v_7.toInt ∧ v_7.toInt ≤ p0.toInt := by rw [← ev_7]; exact andb_l (by omega)
        refine j_iand (pc := 31) (v := v_7) C dX11_findTall_31 ev_7 ?_
        obtain ⟨v_8, ev_8⟩ : ∃ z, m_weights (v_7).toInt.toNat = z := ⟨_, rfl⟩
        have env_8 : (m_weights (v_7).toInt.toNat).toInt = v_8.toInt := by rw [ev_8]
        refine j_iald (pc := 32) (v := v_8) (k := (v_7).toInt.toNat) C 4 1 rfl rfl (i_nn (by omega)) rfl (i_lt_n (by omega) (by omega)) ev_8 dX11_findTall_32 ?_
        refine j_aload_n (pc := 33) C dX11_findTall_33 rfl 1 rfl ?_
        refine j_iload_n (pc := 34) C dX11_findTall_34 rfl 0 rfl ?_
        refine j_iconst (pc := 35) (v := 2) C dX11_findTall_35 (by decide) ?_
        refine j_callV (pc := 36) (As := [.int x1_2, .int 2]) (rest := [.int v_8, .int p0, .ref mweights]) (wr := [(mmays, .inl (cyZ, 144, .inl m_mays)), (mtall, .inl (cyI, 49152, .inl m_tall)), (mweights, .inl (cyI, 4096, .inl m_weights))]) C (c_X11_wareOf l D cyC cyI cyJ cyZ cyO m0 mtold mtape msort mplace mvalue mwords mop marg mnames mhasHabit mfactWords mfacts mpile mstates misMarked mrow mthr mmays mtall mweights mrowOfWare mneededOf mtried mbestRow mdigits x1_2 2 m_thrown m_taped m_size m_at m_fault m_codes m_isNew m_inShelf m_inStack m_inPlace m_rowMany m_goShelf m_goStack m_goLeft m_bestCost m_bestMany m_bestShelf m_bestSet m_told h_m_taped h_m_size h_m_at h_m_fault h_m_codes h_m_isNew h_m_inShelf h_m_inStack h_m_inPlace h_m_rowMany h_m_goShelf h_m_bestMany h_m_bestShelf hi_1_0 (by decide) h_m_told) wd_756 wd_624 wd_757 wd_758 wd_759 ⟨by decide, by decide, rfl⟩ rfl ⟨rfl, rfl, by decide, by decide⟩ ⟨by decide, by decide⟩ [0, 1] [2, 3, 4] rfl rfl ⟨by decide, by decide, by decide⟩ 0 rfl rfl rfl (Nat.le_of_ble_eq_true rfl) dX11_findTall_36 (fun u_9 hw_10 => ?_)
        refine j_eq (ws2 := [(mmays, .inl (cyZ, 144, .inl m_mays)), (mtall, .inl (cyI, 49152, .inl m_tall)), (mweights, .inl (cyI, 4096, .inl m_weights)), (m0, .inr (11, [.int m_thrown, .ref mtape, .int m_taped, .int m_size, .ref msort, .ref mplace, .ref mvalue, .int m_at, .int m_fault, .ref mwords, .ref mtold, .ref mop, .ref marg, .int m_codes, .ref mnames, .ref mhasHabit, .int m_isNew, .ref mfactWords, .ref mfacts, .ref mpile, .ref mstates, .ref misMarked, .int m_inShelf, .int m_inStack, .int m_inPlace, .ref mrow, .int m_rowMany, .ref mthr, .ref mmays, .ref mtall, .ref mweights, .ref mrowOfWare, .ref mneededOf, .int m_goShelf, .int m_goStack, .int m_goLeft, .ref mtried, .ref mbestRow, .int m_bestCost, .int m_bestMany, .int m_bestShelf, .int m_bestSet, .ref mdigits])), (mtold, .inl (cyI, 240, .inl m_told))]) (pc2 := 39) (lv2 := [(2, .int x1_2), (0, .ref m0), (1, .int p0)]) (st2 := [.int (u_9.2.1 0), .int v_8, .int p0, .ref mweights]) rfl rfl rfl rfl ?_
        obtain ⟨hw_10_0, hw_10_1⟩ := hw_10
        obtain ⟨v_11, ev_11⟩ : ∃ z : Int32, v_8 + (u_9.2.1 0) = z := ⟨_, rfl⟩
        refine j_iadd (pc := 39) (v := v_11) C dX11_findTall_39 ev_11 ?_
        obtain ⟨f_12, ef_12⟩ : ∃ z, z = upd m_weights (p0).toInt.toNat v_11 := ⟨_, rfl⟩
        refine j_iast (pc := 40) (k := (p0).toInt.toNat) (ws' := [(mmays, .inl (cyZ, 144, .inl m_mays)), (mtall, .inl (cyI, 49152, .inl m_tall)), (mweights, .inl (cyI, 4096, .inl f_12)), (m0, .inr (11, [.int m_thrown, .ref mtape, .int m_taped, .int m_size, .ref msort, .ref mplace, .ref mvalue, .int m_at, .int m_fault, .ref mwords, .ref mtold, .ref mop, .ref marg, .int m_codes, .ref mnames, .ref mhasHabit, .int m_isNew, .ref mfactWords, .ref mfacts, .ref mpile, .ref mstates, .ref misMarked, .int m_inShelf, .int m_inStack, .int m_inPlace, .ref mrow, .int m_rowMany, .ref mthr, .ref mmays, .ref mtall, .ref mweights, .ref mrowOfWare, .ref mneededOf, .int m_goShelf, .int m_goStack, .int m_goLeft, .ref mtried, .ref mbestRow, .int m_bestCost, .int m_bestMany, .int m_bestShelf, .int m_bestSet, .ref mdigits])), (mtold, .inl (cyI, 240, .inl m_told))]) C 2 1 rfl rfl (i_nn (Int.le_trans (by decide) h_p0.1)) rfl (i_lt_n (Int.le_trans (by decide) h_p0.1) (Int.lt_of_le_of_lt h_p0.2 (by decide))) dX11_findTall_40 (by rw [ef_12]; rfl) ?_
        refine j_iconst (pc := 41) (v := 0) C dX11_findTall_41 (by decide) ?_
        refine j_istore_n (pc := 42) (lv' := [(3, .int 0), (2, .int x1_2), (0, .ref m0), (1, .int p0)]) C dX11_findTall_42 rfl (by decide) rfl ?_
        have loop_13 : ∀ (k_13 : Nat) (x13_3 : Int32) (g13_mtall : Nat → Int32), (0 ≤ (x13_3).toInt ∧ (x13_3).toInt ≤ 12) → (Iv 49152 (0) (100000000) g13_mtall) → (∀ j : Nat, ((j : Int) < 12 * (p0).toInt ∨ 12 * (p0).toInt + 12 ≤ (j : Int)) → g13_mtall j = m_tall j) → (∀ w : Int32, 0 ≤ w.toInt → w.toInt < x13_3.toInt → bI p0 w = 1 → TP m_told m_mays m_tall w (cl p0 w) (g13_mtall (12 * (p0).toInt.toNat + w.toInt.toNat)).toInt) → (12 - x13_3.toInt).toNat < k_13 → J p l e ({ frames := 3, cells := 0, slots := 0, locals := 70 } : Room) s m args below meth c D A 4 0 0 (QX below D (TY cyC cyI cyJ cyZ cyO) A (fun u => none) (fun u => (Iv 49152 (0) (100000000) (u.2.2.1 0)) ∧ (∀ j : Nat, ((j : Int) < 12 * (p0).toInt ∨ 12 * (p0).toInt + 12 ≤ (j : Int)) → (u.2.2.1 0) j = m_tall j) ∧ (TS m_told m_mays (u.2.2.1 0) p0)) (fun u => [(m0, .inr (11, [.int m_thrown, .ref mtape, .int m_taped, .int m_size, .ref msort, .ref mplace, .ref mvalue, .int m_at, .int m_fault, .ref mwords, .ref mtold, .ref mop, .ref marg, .int m_codes, .ref mnames, .ref mhasHabit, .int m_isNew, .ref mfactWords, .ref mfacts, .ref mpile, .ref mstates, .ref misMarked, .int m_inShelf, .int m_inStack, .int m_inPlace, .ref mrow, .int m_rowMany, .ref mthr, .ref mmays, .ref mtall, .ref mweights, .ref mrowOfWare, .ref mneededOf, .int m_goShelf, .int m_goStack, .int m_goLeft, .ref mtried, .ref mbestRow, .int m_bestCost, .int m_bestMany, .int m_bestShelf, .int m_bestSet, .ref mdigits])), (mtold, .inl (cyI, 240, .inl m_told)), (mmays, .inl (cyZ, 144, .inl m_mays)), (mtall, .inl (cyI, 49152, .inl (u.2.2.1 0))), (mweights, .inl (cyI, 4096, .inl (u.2.2.1 1)))]) args s 0 0) [(mmays, .inl (cyZ, 144, .inl m_mays)), (mtall, .inl (cyI, 49152, .inl g13_mtall)), (mweights, .inl (cyI, 4096, .inl f_12)), (m0, .inr (11, [.int m_thrown, .ref mtape, .int m_taped, .int m_size, .ref msort, .ref mplace, .ref mvalue, .int m_at, .int m_fault, .ref mwords, .ref mtold, .ref mop, .ref marg, .int m_codes, .ref mnames, .ref mhasHabit, .int m_isNew, .ref mfactWords, .ref mfacts, .ref mpile, .ref mstates, .ref misMarked, .int m_inShelf, .int m_inStack, .int m_inPlace, .ref mrow, .int m_rowMany, .ref mthr, .ref mmays, .ref mtall, .ref mweights, .ref mrowOfWare, .ref mneededOf, .int m_goShelf, .int m_goStack, .int m_goLeft, .ref mtried, .ref mbestRow, .int m_bestCost, .int m_bestMany, .int m_bestShelf, .int m_bestSet, .ref mdigits])), (mtold, .inl (cyI, 240, .inl m_told))] 43 [(3, .int x13_3), (2, .int x1_2), (0, .ref m0), (1, .int p0)] [] := by
          intro k_13
          induction k_13 with
          | zero =>
            intro x13_3 g13_mtall hi_13_0 hi_13_1 hq_13_0 hq_13_1 hm_13
            exact absurd hm_13 (Nat.not_lt_zero _)
          | succ k_13 ih_13 =>
            intro x13_3 g13_mtall hi_13_0 hi_13_1 hq_13_0 hq_13_1 hm_13
            refine j_iload_n (pc := 43) C dX11_findTall_43 rfl 0 rfl ?_
            refine j_aload_n (pc := 44) C dX11_findTall_44 rfl 2 rfl ?_
            refine j_callV (pc := 45) (As := []) (rest := [.int x13_3]) (wr := [(mmays, .inl (cyZ, 144, .inl m_mays)), (mtall, .inl (cyI, 49152, .inl g13_mtall)), (mweights, .inl (cyI, 4096, .inl f_12))]) C (c_X11_wares l D cyC cyI cyJ cyZ cyO m0 mtold mtape msort mplace mvalue mwords mop marg mnames mhasHabit mfactWords mfacts mpile mstates misMarked mrow mthr mmays mtall mweights mrowOfWare mneededOf mtried mbestRow mdigits m_thrown m_taped m_size m_at m_fault m_codes m_isNew m_inShelf m_inStack m_inPlace m_rowMany m_goShelf m_goStack m_goLeft m_bestCost m_bestMany m_bestShelf m_bestSet m_told h_m_taped h_m_size h_m_at h_m_fault h_m_codes h_m_isNew h_m_inShelf h_m_inStack h_m_inPlace h_m_rowMany h_m_goShelf h_m_bestMany h_m_bestShelf h_m_told) wd_748 wd_624 wd_749 wd_750 wd_751 ⟨by decide, by decide, rfl⟩ rfl ⟨rfl, rfl, by decide, by decide⟩ ⟨by decide, by decide⟩ [3, 4] [0, 1, 2] rfl rfl ⟨by decide, by decide, by decide⟩ 3 rfl rfl rfl (Nat.le_of_ble_eq_true rfl) dX11_findTall_45 (fun u_14 hw_15 => ?_)
            refine j_eq (ws2 := [(mmays, .inl (cyZ, 144, .inl m_mays)), (mtall, .inl (cyI, 49152, .inl g13_mtall)), (mweights, .inl (cyI, 4096, .inl f_12)), (m0, .inr (11, [.int m_thrown, .ref mtape, .int m_taped, .int m_size, .ref msort, .ref mplace, .ref mvalue, .int m_at, .int m_fault, .ref mwords, .ref mtold, .ref mop, .ref marg, .int m_codes, .ref mnames, .ref mhasHabit, .int m_isNew, .ref mfactWords, .ref mfacts, .ref mpile, .ref mstates, .ref misMarked, .int m_inShelf, .int m_inStack, .int m_inPlace, .ref mrow, .int m_rowMany, .ref mthr, .ref mmays, .ref mtall, .ref mweights, .ref mrowOfWare, .ref mneededOf, .int m_goShelf, .int m_goStack, .int m_goLeft, .ref mtried, .ref mbestRow, .int m_bestCost, .int m_bestMany, .int m_bestShelf, .int m_bestSet, .ref mdigits])), (mtold, .inl (cyI, 240, .inl m_told))]) (pc2 := 48) (lv2 := [(3, .int x13_3), (2, .int x1_2), (0, .ref m0), (1, .int p0)]) (st2 := [.int (u_14.2.1 0), .int x13_3]) rfl rfl rfl rfl ?_
            obtain ⟨hw_15_0, hw_15_1⟩ := hw_15
            refine j_icmp_ge (pc := 48) (tgt := 89) C dX11_findTall_48 (by decide) (fun c_16 => ?_) (fun c_16 => ?_)
            · skip
              rw [i_le] at c_16
              exact j_vret (pc := 89) C hr hk (fun i => [].getD i 0, fun i => [].getD i 0, fun i => [g13_mtall, f_12].getD i (fun _ => 0), fun i => [].getD i (fun _ => 0)) rfl (show (Iv 49152 (0) (100000000) g13_mtall) ∧ (∀ j : Nat, ((j : Int) < 12 * (p0).toInt ∨ 12 * (p0).toInt + 12 ≤ (j : Int)) → g13_mtall j = m_tall j) ∧ (TS m_told m_mays g13_mtall p0) from ⟨hi_13_1, hq_13_0, (fun w w0 w1 wb => by have hc := cl_lt (x := p0) (l := w) (by omega) w0 (by have := (h_m_told 0 (by decide)).2; have h9 : hiT 0 = 12 := rfl; omega) wb; exact TP.fr (hq_13_1 w w0 (by have h9 := congrArg Int32.toInt hw_15_1; omega) wb) (h_m_told 0 (by decide)).2 (fun j j1 j2 => hq_13_0 j (by omega)))⟩) [3, 4, 0, 1, 2] (by decide) rfl (by decide) (by decide) dX11_findTall_89
            · skip
              rw [i_le] at c_16
              refine j_iload_n (pc := 51) C dX11_findTall_51 rfl 3 rfl ?_
              refine j_iload_n (pc := 52) C dX11_findTall_52 rfl 0 rfl ?_
              obtain ⟨v_17, ev_17⟩ : ∃ z : Int32, p0 >>> (x13_3 &&& 31) = z := ⟨_, rfl⟩
              refine j_ishr (pc := 53) (v := v_17) C dX11_findTall_53 ev_17 ?_
              refine j_iconst (pc := 54) (v := 1) C dX11_findTall_54 (by decide) ?_
              obtain ⟨v_18, ev_18⟩ : ∃ z : Int32, v_17 &&& 1 = z := ⟨_, rfl⟩
              have el_1 : (1 : Int32).toInt = 1 := rfl
              have hv_18 : 0 ≤ v_18.toInt ∧ v_18.toInt ≤ 1 := by rw [← ev_18]; exact and1_r _
              refine j_iand (pc := 55) (v := v_18) C dX11_findTall_55 ev_18 ?_
              refine j_iconst (pc := 56) (v := 1) C dX11_findTall_56 (by decide) ?_
              refine j_icmp_ne (pc := 57) (tgt := 83) C dX11_findTall_57 (by decide) (fun c_19 => ?_) (fun c_19 => ?_)
              · skip
                have el_1 : (1 : Int32).toInt = 1 := rfl
                rw [i_eq] at c_19
                have k0c_19 : v_18.toInt = 0 := by omega
                obtain ⟨v_20, ev_20⟩ : ∃ z : Int32, x13_3 + 1 = z := ⟨_, rfl⟩
                have el_1 : (1 : Int32).toInt = 1 := rfl
                have hv_20 : v_20.toInt = x13_3.toInt + (1 : Int32).toInt := by rw [← ev_20]; exact fb_addI (by omega) (by omega)
                refine j_iinc (pc := 83) (v := v_20) (lv' := [(3, .int v_20), (2, .int x1_2), (0, .ref m0), (1, .int p0)]) C dX11_findTall_83 0 rfl ev_20 (by decide) rfl ?_
                refine j_goto (pc := 86) (tgt := 43) C dX11_findTall_86 (by decide) ?_
                exact j_lv [0, 1, 2, 3] rfl (ih_13 v_20 g13_mtall (by omega) hi_13_1 hq_13_0 (fun w w0 w1 wb => by rcases Int.lt_or_le (w).toInt (x13_3).toInt with q | q; (exact hq_13_1 w w0 q wb); (exfalso; have ew : w = x13_3 := (i_eq _ _).mpr (by omega); rw [ew] at wb; unfold bI at wb; rw [ev_17, ev_18] at wb; omega)) (by omega))
              · skip
                have el_1 : (1 : Int32).toInt = 1 := rfl
                rw [i_eq] at c_19
                refine j_aload_n (pc := 60) C dX11_findTall_60 rfl 2 rfl ?_
                refine j_get (pc := 61) (ci := 11) (v := .ref mtall) C inw_11 3 rfl rfl 29 (by decide) wd_901 rfl rfl dX11_findTall_61 ?_
                refine j_bipush (pc := 64) (v := 12) C dX11_findTall_64 (by decide) ?_
                refine j_iload_n (pc := 66) C dX11_findTall_66 rfl 3 rfl ?_
                obtain ⟨v_21, ev_21⟩ : ∃ z : Int32, 12 * p0 = z := ⟨_, rfl⟩
                have el_12 : (12 : Int32).toInt = 12 := rfl
                have hv_21 : v_21.toInt = 12 * p0.toInt := by rw [← ev_21]; exact mulL (c := 12) rfl (by omega) (by omega)
                refine j_imul (pc := 67) (v := v_21) C dX11_findTall_67 ev_21 ?_
                refine j_iload_n (pc := 68) C dX11_findTall_68 rfl 0 rfl ?_
                obtain ⟨v_22, ev_22⟩ : ∃ z : Int32, v_21 + x13_3 = z := ⟨_, rfl⟩
                have hv_22 : v_22.toInt = v_21.toInt + x13_3.toInt := by rw [← ev_22]; exact fb_addI (by omega) (by omega)
                refine j_iadd (pc := 69) (v := v_22) C dX11_findTall_69 ev_22 ?_
                refine j_aload_n (pc := 70) C dX11_findTall_70 rfl 2 rfl ?_
                refine j_iload_n (pc := 71) C dX11_findTall_71 rfl 0 rfl ?_
                refine j_iload_n (pc := 72) C dX11_findTall_72 rfl 3 rfl ?_
                refine j_iconst (pc := 73) (v := 1) C dX11_findTall_73 (by decide) ?_
                refine j_iload_n (pc := 74) C dX11_findTall_74 rfl 0 rfl ?_
                obtain ⟨v_23, ev_23⟩ : ∃ z : Int32, 1 <<< (x13_3 &&& 31) = z := ⟨_, rfl⟩
                have el_1 : (1 : Int32).toInt = 1 := rfl
                have hv_23 : 1 ≤ v_23.toInt ∧ v_23.toInt ≤ 2048 := by rw [← ev_23]; exact shl1_iv 0 11 (by omega) (by omega) (by omega)
                refine j_ishl (pc := 75) (v := v_23) C dX11_findTall_75 ev_23 ?_
                refine j_iconst (pc := 76) (v := (-1)) C dX11_findTall_76 (by decide) ?_
                obtain ⟨v_24, ev_24⟩ : ∃ z : Int32, v_23 ^^^ (-1) = z := ⟨_, rfl⟩
                have el_m1 : ((-1) : Int32).toInt = (-1) := rfl
                refine j_ixor (pc := 77) (v := v_24) C dX11_findTall_77 ev_24 ?_
                obtain ⟨v_25, ev_25⟩ : ∃ z : Int32, p0 &&& v_24 = z := ⟨_, rfl⟩
                have hv_25 : 0 ≤ v_25.toInt ∧ v_25.toInt ≤ p0.toInt := by rw [← ev_25]; exact andb_l (by omega)
                refine j_iand (pc := 78) (v := v_25) C dX11_findTall_78 ev_25 ?_
                refine j_callV (pc := 79) (As := [.int x13_3, .int v_25]) (rest := [.int v_22, .ref mtall]) (wr := []) C (c_X11_tallOn l D cyC cyI cyJ cyZ cyO m0 mtold mmays mtall mweights mtape msort mplace mvalue mwords mop marg mnames mhasHabit mfactWords mfacts mpile mstates misMarked mrow mthr mrowOfWare mneededOf mtried mbestRow mdigits x13_3 v_25 m_thrown m_taped m_size m_at m_fault m_codes m_isNew m_inShelf m_inStack m_inPlace m_rowMany m_goShelf m_goStack m_goLeft m_bestCost m_bestMany m_bestShelf m_bestSet m_told m_mays g13_mtall f_12 h_m_taped h_m_size h_m_at h_m_fault h_m_codes h_m_isNew h_m_inShelf h_m_inStack h_m_inPlace h_m_rowMany h_m_goShelf h_m_bestMany h_m_bestShelf (by omega) (by omega) h_m_told hi_13_1) wd_902 wd_624 wd_903 wd_904 wd_905 ⟨by decide, by decide, rfl⟩ rfl ⟨rfl, rfl, by decide, by decide⟩ ⟨by decide, by decide⟩ [3, 4, 0, 1, 2] [] rfl rfl ⟨by decide, by decide, by decide⟩ 3 rfl rfl rfl (Nat.le_of_ble_eq_true rfl) dX11_findTall_79 (fun u_26 hw_27 => ?_)
                refine j_eq (ws2 := [(m0, .inr (11, [.int m_thrown, .ref mtape, .int m_taped, .int m_size, .ref msort, .ref mplace, .ref mvalue, .int m_at, .int m_fault, .ref mwords, .ref mtold, .ref mop, .ref marg, .int m_codes, .ref mnames, .ref mhasHabit, .int m_isNew, .ref mfactWords, .ref mfacts, .ref mpile, .ref mstates, .ref misMarked, .int m_inShelf, .int m_inStack, .int m_inPlace, .ref mrow, .int m_rowMany, .ref mthr, .ref mmays, .ref mtall, .ref mweights, .ref mrowOfWare, .ref mneededOf, .int m_goShelf, .int m_goStack, .int m_goLeft, .ref mtried, .ref mbestRow, .int m_bestCost, .int m_bestMany, .int m_bestShelf, .int m_bestSet, .ref mdigits])), (mtold, .inl (cyI, 240, .inl m_told)), (mmays, .inl (cyZ, 144, .inl m_mays)), (mtall, .inl (cyI, 49152, .inl g13_mtall)), (mweights, .inl (cyI, 4096, .inl f_12))]) (pc2 := 82) (lv2 := [(3, .int x13_3), (2, .int x1_2), (0, .ref m0), (1, .int p0)]) (st2 := [.int (u_26.2.1 0), .int v_22, .ref mtall]) rfl rfl rfl rfl ?_
                obtain ⟨hw_27_0, hw_27_1⟩ := hw_27
                obtain ⟨f_28, ef_28⟩ : ∃ z, z = upd g13_mtall (v_22).toInt.toNat (u_26.2.1 0) := ⟨_, rfl⟩
                have hf_28 : Iv 49152 (0) (100000000) f_28 := by rw [ef_28]; exact Iv.upd hi_13_1 (by omega) (by omega)
                refine j_iast (pc := 82) (k := (v_22).toInt.toNat) (ws' := [(m0, .inr (11, [.int m_thrown, .ref mtape, .int m_taped, .int m_size, .ref msort, .ref mplace, .ref mvalue, .int m_at, .int m_fault, .ref mwords, .ref mtold, .ref mop, .ref marg, .int m_codes, .ref mnames, .ref mhasHabit, .int m_isNew, .ref mfactWords, .ref mfacts, .ref mpile, .ref mstates, .ref misMarked, .int m_inShelf, .int m_inStack, .int m_inPlace, .ref mrow, .int m_rowMany, .ref mthr, .ref mmays, .ref mtall, .ref mweights, .ref mrowOfWare, .ref mneededOf, .int m_goShelf, .int m_goStack, .int m_goLeft, .ref mtried, .ref mbestRow, .int m_bestCost, .int m_bestMany, .int m_bestShelf, .int m_bestSet, .ref mdigits])), (mtold, .inl (cyI, 240, .inl m_told)), (mmays, .inl (cyZ, 144, .inl m_mays)), (mtall, .inl (cyI, 49152, .inl f_28)), (mweights, .inl (cyI, 4096, .inl f_12))]) C 3 1 rfl rfl (i_nn (by omega)) rfl (i_lt_n (by omega) (by omega)) dX11_findTall_82 (by rw [ef_28]; rfl) ?_
                obtain ⟨v_29, ev_29⟩ : ∃ z : Int32, x13_3 + 1 = z := ⟨_, rfl⟩
                have el_1 : (1 : Int32).toInt = 1 := rfl
                have hv_29 : v_29.toInt = x13_3.toInt + (1 : Int32).toInt := by rw [← ev_29]; exact fb_addI (by omega) (by omega)
                refine j_iinc (pc := 83) (v := v_29) (lv' := [(3, .int v_29), (2, .int x1_2), (0, .ref m0), (1, .int p0)]) C dX11_findTall_83 0 rfl ev_29 (by decide) rfl ?_
                refine j_goto (pc := 86) (tgt := 43) C dX11_findTall_86 (by decide) ?_
                refine j_subG (ws' := [(mmays, .inl (cyZ, 144, .inl m_mays)), (mtall, .inl (cyI, 49152, .inl f_28)), (mweights, .inl (cyI, 4096, .inl f_12)), (m0, .inr (11, [.int m_thrown, .ref mtape, .int m_taped, .int m_size, .ref msort, .ref mplace, .ref mvalue, .int m_at, .int m_fault, .ref mwords, .ref mtold, .ref mop, .ref marg, .int m_codes, .ref mnames, .ref mhasHabit, .int m_isNew, .ref mfactWords, .ref mfacts, .ref mpile, .ref mstates, .ref misMarked, .int m_inShelf, .int m_inStack, .int m_inPlace, .ref mrow, .int m_rowMany, .ref mthr, .ref mmays, .ref mtall, .ref mweights, .ref mrowOfWare, .ref mneededOf, .int m_goShelf, .int m_goStack, .int m_goLeft, .ref mtried, .ref mbestRow, .int m_bestCost, .int m_bestMany, .int m_bestShelf, .int m_bestSet, .ref mdigits])), (mtold, .inl (cyI, 240, .inl m_told))]) [2, 3, 4, 0, 1] (by decide) rfl ?_
                exact j_lv [0, 1, 2, 3] rfl (ih_13 v_29 f_28 (by omega) hf_28 (fun j hj => by rw [ef_28, pk_un (show ¬ j = (v_22).toInt.toNat from (by omega))]; exact hq_13_0 j hj) (fun w w0 w1 wb => by rcases Int.lt_or_le (w).toInt (x13_3).toInt with q | q; (rw [ef_28, pk_un (show ¬ 12 * (p0).toInt.toNat + (w).toInt.toNat = (v_22).toInt.toNat from (by omega))]; exact hq_13_1 w w0 q wb); (have ew : w = x13_3 := (i_eq _ _).mpr (by omega); subst ew; have ec : cl p0 w = v_25 := (by unfold cl; rw [ev_23, ev_24, ev_25]); have hc := cl_lt (x := p0) (l := w) (by omega) (by omega) (by omega) wb; rw [ec] at hc ⊢; rw [ef_28, show 12 * (p0).toInt.toNat + (w).toInt.toNat = (v_22).toInt.toNat from (by omega), pk_us]; exact TP.fr hw_27_1 (h_m_told 0 (by decide)).2 (fun j j1 j2 => (hq_13_0 j (by omega)).symm))) (by omega))
        have el_0 : (0 : Int32).toInt = 0 := rfl
        exact j_lv [0, 1, 2, 3] rfl (loop_13 4096 0 m_tall (by decide) h_m_tall (fun j _ => rfl) (fun w w0 w1 => absurd w1 (by omega)) (by omega))
      · skip
        have el_0 : (0 : Int32).toInt = 0 := rfl
        rw [i_eq] at c_4
        obtain ⟨k9, hk1, hk2, hk3⟩ := hq_1_0
        have hk4 : (x1_2).toInt < (k9 : Int) := by rcases Int.lt_or_le (x1_2).toInt (k9 : Int) with q | q; exact q; (exfalso; have ek : nI k9 = x1_2 := (i_eq _ _).mpr (by rw [nI_toInt (by omega)]; omega); rw [ek] at hk3; unfold bI at hk3; rw [ev_2, ev_3] at hk3; omega)
        obtain ⟨v_30, ev_30⟩ : ∃ z : Int32, x1_2 + 1 = z := ⟨_, rfl⟩
        have el_1 : (1 : Int32).toInt = 1 := rfl
        have hv_30 : v_30.toInt = x1_2.toInt + (1 : Int32).toInt := by rw [← ev_30]; exact fb_addI (by omega) (by omega)
        refine j_iinc (pc := 10) (v := v_30) (lv' := [(2, .int v_30), (0, .ref m0), (1, .int p0)]) C dX11_findTall_10 0 rfl ev_30 (by decide) rfl ?_
        refine j_goto (pc := 13) (tgt := 2) C dX11_findTall_13 (by decide) ?_
        exact j_lv [0, 1, 2] rfl (ih_1 v_30 (by omega) ⟨k9, by omega, hk2, hk3⟩ (by omega))
  have el_0 : (0 : Int32).toInt = 0 := rfl
  exact j_lv [0, 1, 2] rfl (loop_1 4096 0 (by decide) (ex_bit (by omega)) (by omega))
