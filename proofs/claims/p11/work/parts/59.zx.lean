theorem wd_940 : Cond.fieldLink RX11 133 "BowlShelfModel" "neededOf" "[I" ∈ WALL := wl_in (by decide +kernel) (by decide +kernel)
theorem wd_941 : Cond.code yX11_canStand cX11_canStand 5 (some .boolean) ∈ WALL := wl_in (by decide +kernel) (by decide +kernel)
theorem wd_942 : Cond.methodLink RX11 385 yX11_canStand ∈ WALL := wl_in (by decide +kernel) (by decide +kernel)
theorem wd_943 : Cond.instanceMethod yX11_canStand ∈ WALL := wl_in (by decide +kernel) (by decide +kernel)
theorem wd_944 : Cond.selects RX11 yX11_canStand yX11_canStand ∈ WALL := wl_in (by decide +kernel) (by decide +kernel)
theorem dX11_canStand_0 : decode cX11_canStand 0 = .ok (.iconst 0, 1) := by decide +kernel
theorem dX11_canStand_1 : decode cX11_canStand 1 = .ok (.istore_n 3, 1) := by decide +kernel
theorem dX11_canStand_2 : decode cX11_canStand 2 = .ok (.iconst 0, 1) := by decide +kernel
theorem dX11_canStand_3 : decode cX11_canStand 3 = .ok (.istore 4, 2) := by decide +kernel
theorem dX11_canStand_5 : decode cX11_canStand 5 = .ok (.iload 4, 2) := by decide +kernel
theorem dX11_canStand_7 : decode cX11_canStand 7 = .ok (.aload_n 0, 1) := by decide +kernel
theorem dX11_canStand_8 : decode cX11_canStand 8 = .ok (.invokevirtual 264, 3) := by decide +kernel
theorem dX11_canStand_11 : decode cX11_canStand 11 = .ok (.if_icmp .ge 45, 3) := by decide +kernel
theorem dX11_canStand_14 : decode cX11_canStand 14 = .ok (.iload_n 3, 1) := by decide +kernel
theorem dX11_canStand_15 : decode cX11_canStand 15 = .ok (.ifCond .ne 29, 3) := by decide +kernel
theorem dX11_canStand_18 : decode cX11_canStand 18 = .ok (.iload_n 1, 1) := by decide +kernel
theorem dX11_canStand_19 : decode cX11_canStand 19 = .ok (.iload 4, 2) := by decide +kernel
theorem dX11_canStand_21 : decode cX11_canStand 21 = .ok (.ishr, 1) := by decide +kernel
theorem dX11_canStand_22 : decode cX11_canStand 22 = .ok (.iconst 1, 1) := by decide +kernel
theorem dX11_canStand_23 : decode cX11_canStand 23 = .ok (.iand, 1) := by decide +kernel
theorem dX11_canStand_24 : decode cX11_canStand 24 = .ok (.iconst 1, 1) := by decide +kernel
theorem dX11_canStand_25 : decode cX11_canStand 25 = .ok (.if_icmp .ne 23, 3) := by decide +kernel
theorem dX11_canStand_28 : decode cX11_canStand 28 = .ok (.aload_n 0, 1) := by decide +kernel
theorem dX11_canStand_29 : decode cX11_canStand 29 = .ok (.getfield 124, 3) := by decide +kernel
theorem dX11_canStand_32 : decode cX11_canStand 32 = .ok (.bipush 12, 2) := by decide +kernel
theorem dX11_canStand_34 : decode cX11_canStand 34 = .ok (.iload_n 1, 1) := by decide +kernel
theorem dX11_canStand_35 : decode cX11_canStand 35 = .ok (.imul, 1) := by decide +kernel
theorem dX11_canStand_36 : decode cX11_canStand 36 = .ok (.iload 4, 2) := by decide +kernel
theorem dX11_canStand_38 : decode cX11_canStand 38 = .ok (.iadd, 1) := by decide +kernel
theorem dX11_canStand_39 : decode cX11_canStand 39 = .ok (.iaload, 1) := by decide +kernel
theorem dX11_canStand_40 : decode cX11_canStand 40 = .ok (.iload_n 2, 1) := by decide +kernel
theorem dX11_canStand_41 : decode cX11_canStand 41 = .ok (.if_icmp .gt 7, 3) := by decide +kernel
theorem dX11_canStand_44 : decode cX11_canStand 44 = .ok (.iconst 1, 1) := by decide +kernel
theorem dX11_canStand_45 : decode cX11_canStand 45 = .ok (.goto 4, 3) := by decide +kernel
theorem dX11_canStand_48 : decode cX11_canStand 48 = .ok (.iconst 0, 1) := by decide +kernel
theorem dX11_canStand_49 : decode cX11_canStand 49 = .ok (.istore_n 3, 1) := by decide +kernel
theorem dX11_canStand_50 : decode cX11_canStand 50 = .ok (.iinc 4 1, 3) := by decide +kernel
theorem dX11_canStand_53 : decode cX11_canStand 53 = .ok (.goto (-48), 3) := by decide +kernel
theorem dX11_canStand_56 : decode cX11_canStand 56 = .ok (.iload_n 3, 1) := by decide +kernel
theorem dX11_canStand_57 : decode cX11_canStand 57 = .ok (.ireturn, 1) := by decide +kernel
theorem dX11_needed_0 : decode cX11_needed 0 = .ok (.aload_n 0, 1) := by decide +kernel
theorem dX11_needed_1 : decode cX11_needed 1 = .ok (.iconst 0, 1) := by decide +kernel
theorem dX11_needed_2 : decode cX11_needed 2 = .ok (.putfield 1, 3) := by decide +kernel
theorem dX11_needed_5 : decode cX11_needed 5 = .ok (.iload_n 1, 1) := by decide +kernel
theorem dX11_needed_6 : decode cX11_needed 6 = .ok (.iconst 1, 1) := by decide +kernel
theorem dX11_needed_7 : decode cX11_needed 7 = .ok (.sipush 999, 3) := by decide +kernel
theorem dX11_needed_10 : decode cX11_needed 10 = .ok (.invokestatic 280, 3) := by decide +kernel
theorem dX11_needed_13 : decode cX11_needed 13 = .ok (.ifCond .ne 5, 3) := by decide +kernel
theorem dX11_needed_16 : decode cX11_needed 16 = .ok (.iconst (-1), 1) := by decide +kernel
theorem dX11_needed_17 : decode cX11_needed 17 = .ok (.ireturn, 1) := by decide +kernel
theorem dX11_needed_18 : decode cX11_needed 18 = .ok (.aload_n 0, 1) := by decide +kernel
theorem dX11_needed_19 : decode cX11_needed 19 = .ok (.invokevirtual 364, 3) := by decide +kernel
theorem dX11_needed_22 : decode cX11_needed 22 = .ok (.aload_n 0, 1) := by decide +kernel
theorem dX11_needed_23 : decode cX11_needed 23 = .ok (.getfield 133, 3) := by decide +kernel
theorem dX11_needed_26 : decode cX11_needed 26 = .ok (.iconst 0, 1) := by decide +kernel
theorem dX11_needed_27 : decode cX11_needed 27 = .ok (.iconst 0, 1) := by decide +kernel
theorem dX11_needed_28 : decode cX11_needed 28 = .ok (.iastore, 1) := by decide +kernel
theorem dX11_needed_29 : decode cX11_needed 29 = .ok (.iconst 1, 1) := by decide +kernel
theorem dX11_needed_30 : decode cX11_needed 30 = .ok (.istore_n 2, 1) := by decide +kernel
theorem dX11_needed_31 : decode cX11_needed 31 = .ok (.iload_n 2, 1) := by decide +kernel
theorem dX11_needed_32 : decode cX11_needed 32 = .ok (.iconst 1, 1) := by decide +kernel
theorem dX11_needed_33 : decode cX11_needed 33 = .ok (.aload_n 0, 1) := by decide +kernel
theorem dX11_needed_34 : decode cX11_needed 34 = .ok (.invokevirtual 264, 3) := by decide +kernel
theorem dX11_needed_37 : decode cX11_needed 37 = .ok (.ishl, 1) := by decide +kernel
theorem dX11_needed_38 : decode cX11_needed 38 = .ok (.if_icmp .ge 110, 3) := by decide +kernel
theorem dX11_needed_41 : decode cX11_needed 41 = .ok (.iload_n 2, 1) := by decide +kernel
theorem dX11_needed_42 : decode cX11_needed 42 = .ok (.iload_n 2, 1) := by decide +kernel
theorem dX11_needed_43 : decode cX11_needed 43 = .ok (.ineg, 1) := by decide +kernel
theorem dX11_needed_44 : decode cX11_needed 44 = .ok (.iand, 1) := by decide +kernel
theorem dX11_needed_45 : decode cX11_needed 45 = .ok (.istore_n 3, 1) := by decide +kernel
theorem dX11_needed_46 : decode cX11_needed 46 = .ok (.iload_n 2, 1) := by decide +kernel
theorem dX11_needed_47 : decode cX11_needed 47 = .ok (.iload_n 3, 1) := by decide +kernel
theorem dX11_needed_48 : decode cX11_needed 48 = .ok (.iconst (-1), 1) := by decide +kernel
theorem dX11_needed_49 : decode cX11_needed 49 = .ok (.ixor, 1) := by decide +kernel
theorem dX11_needed_50 : decode cX11_needed 50 = .ok (.iand, 1) := by decide +kernel
theorem dX11_needed_51 : decode cX11_needed 51 = .ok (.istore 4, 2) := by decide +kernel
theorem dX11_needed_53 : decode cX11_needed 53 = .ok (.ldc_w 363, 3) := by decide +kernel
theorem dX11_needed_56 : decode cX11_needed 56 = .ok (.istore 5, 2) := by decide +kernel
theorem dX11_needed_58 : decode cX11_needed 58 = .ok (.iload 4, 2) := by decide +kernel
theorem dX11_needed_60 : decode cX11_needed 60 = .ok (.istore 6, 2) := by decide +kernel
theorem dX11_needed_62 : decode cX11_needed 62 = .ok (.iload 6, 2) := by decide +kernel
theorem dX11_needed_64 : decode cX11_needed 64 = .ok (.ifCond .lt 70, 3) := by decide +kernel
theorem dX11_needed_67 : decode cX11_needed 67 = .ok (.aload_n 0, 1) := by decide +kernel
theorem dX11_needed_68 : decode cX11_needed 68 = .ok (.getfield 133, 3) := by decide +kernel
theorem dX11_needed_71 : decode cX11_needed 71 = .ok (.iload 4, 2) := by decide +kernel
theorem dX11_needed_73 : decode cX11_needed 73 = .ok (.iload 6, 2) := by decide +kernel
theorem dX11_needed_75 : decode cX11_needed 75 = .ok (.iconst (-1), 1) := by decide +kernel
theorem dX11_needed_76 : decode cX11_needed 76 = .ok (.ixor, 1) := by decide +kernel
theorem dX11_needed_77 : decode cX11_needed 77 = .ok (.iand, 1) := by decide +kernel
theorem dX11_needed_78 : decode cX11_needed 78 = .ok (.iaload, 1) := by decide +kernel
theorem dX11_needed_79 : decode cX11_needed 79 = .ok (.istore 7, 2) := by decide +kernel
theorem dX11_needed_81 : decode cX11_needed 81 = .ok (.iload 7, 2) := by decide +kernel
theorem dX11_needed_83 : decode cX11_needed 83 = .ok (.iconst 1, 1) := by decide +kernel
theorem dX11_needed_84 : decode cX11_needed 84 = .ok (.iadd, 1) := by decide +kernel
theorem dX11_needed_85 : decode cX11_needed 85 = .ok (.iload 5, 2) := by decide +kernel
theorem dX11_needed_87 : decode cX11_needed 87 = .ok (.if_icmp .ge 22, 3) := by decide +kernel
theorem dX11_needed_90 : decode cX11_needed 90 = .ok (.aload_n 0, 1) := by decide +kernel
theorem dX11_needed_91 : decode cX11_needed 91 = .ok (.iload 6, 2) := by decide +kernel
theorem dX11_needed_93 : decode cX11_needed 93 = .ok (.iload_n 3, 1) := by decide +kernel
theorem dX11_needed_94 : decode cX11_needed 94 = .ok (.ior, 1) := by decide +kernel
theorem dX11_needed_95 : decode cX11_needed 95 = .ok (.iload_n 1, 1) := by decide +kernel
theorem dX11_needed_96 : decode cX11_needed 96 = .ok (.invokevirtual 385, 3) := by decide +kernel
theorem dX11_needed_99 : decode cX11_needed 99 = .ok (.ifCond .eq 10, 3) := by decide +kernel
theorem dX11_needed_102 : decode cX11_needed 102 = .ok (.iload 7, 2) := by decide +kernel
theorem dX11_needed_104 : decode cX11_needed 104 = .ok (.iconst 1, 1) := by decide +kernel
theorem dX11_needed_105 : decode cX11_needed 105 = .ok (.iadd, 1) := by decide +kernel
theorem dX11_needed_106 : decode cX11_needed 106 = .ok (.goto 5, 3) := by decide +kernel
theorem dX11_needed_109 : decode cX11_needed 109 = .ok (.iload 5, 2) := by decide +kernel
theorem dX11_needed_111 : decode cX11_needed 111 = .ok (.istore 5, 2) := by decide +kernel
theorem dX11_needed_113 : decode cX11_needed 113 = .ok (.iload 6, 2) := by decide +kernel
theorem dX11_needed_115 : decode cX11_needed 115 = .ok (.ifCond .ne 7, 3) := by decide +kernel
theorem dX11_needed_118 : decode cX11_needed 118 = .ok (.iconst (-1), 1) := by decide +kernel
theorem dX11_needed_119 : decode cX11_needed 119 = .ok (.goto 10, 3) := by decide +kernel
theorem dX11_needed_122 : decode cX11_needed 122 = .ok (.iload 6, 2) := by decide +kernel
theorem dX11_needed_124 : decode cX11_needed 124 = .ok (.iconst 1, 1) := by decide +kernel
theorem dX11_needed_125 : decode cX11_needed 125 = .ok (.isub, 1) := by decide +kernel
theorem dX11_needed_126 : decode cX11_needed 126 = .ok (.iload 4, 2) := by decide +kernel
theorem dX11_needed_128 : decode cX11_needed 128 = .ok (.iand, 1) := by decide +kernel
theorem dX11_needed_129 : decode cX11_needed 129 = .ok (.istore 6, 2) := by decide +kernel
theorem dX11_needed_131 : decode cX11_needed 131 = .ok (.goto (-69), 3) := by decide +kernel
theorem dX11_needed_134 : decode cX11_needed 134 = .ok (.aload_n 0, 1) := by decide +kernel
theorem dX11_needed_135 : decode cX11_needed 135 = .ok (.getfield 133, 3) := by decide +kernel
theorem dX11_needed_138 : decode cX11_needed 138 = .ok (.iload_n 2, 1) := by decide +kernel
theorem dX11_needed_139 : decode cX11_needed 139 = .ok (.iload 5, 2) := by decide +kernel
theorem dX11_needed_141 : decode cX11_needed 141 = .ok (.iastore, 1) := by decide +kernel
theorem dX11_needed_142 : decode cX11_needed 142 = .ok (.iinc 2 1, 3) := by decide +kernel
theorem dX11_needed_145 : decode cX11_needed 145 = .ok (.goto (-114), 3) := by decide +kernel
theorem dX11_needed_148 : decode cX11_needed 148 = .ok (.aload_n 0, 1) := by decide +kernel
theorem dX11_needed_149 : decode cX11_needed 149 = .ok (.getfield 133, 3) := by decide +kernel
theorem dX11_needed_152 : decode cX11_needed 152 = .ok (.iconst 1, 1) := by decide +kernel
theorem dX11_needed_153 : decode cX11_needed 153 = .ok (.aload_n 0, 1) := by decide +kernel
theorem dX11_needed_154 : decode cX11_needed 154 = .ok (.invokevirtual 264, 3) := by decide +kernel
theorem dX11_needed_157 : decode cX11_needed 157 = .ok (.ishl, 1) := by decide +kernel
theorem dX11_needed_158 : decode cX11_needed 158 = .ok (.iconst 1, 1) := by decide +kernel
theorem dX11_needed_159 : decode cX11_needed 159 = .ok (.isub, 1) := by decide +kernel
theorem dX11_needed_160 : decode cX11_needed 160 = .ok (.iaload, 1) := by decide +kernel
theorem dX11_needed_161 : decode cX11_needed 161 = .ok (.istore_n 2, 1) := by decide +kernel
theorem dX11_needed_162 : decode cX11_needed 162 = .ok (.iload_n 2, 1) := by decide +kernel
theorem dX11_needed_163 : decode cX11_needed 163 = .ok (.ldc_w 363, 3) := by decide +kernel
theorem dX11_needed_166 : decode cX11_needed 166 = .ok (.if_icmp .ge 7, 3) := by decide +kernel
theorem dX11_needed_169 : decode cX11_needed 169 = .ok (.iload_n 2, 1) := by decide +kernel
theorem dX11_needed_170 : decode cX11_needed 170 = .ok (.goto 4, 3) := by decide +kernel
theorem dX11_needed_173 : decode cX11_needed 173 = .ok (.iconst (-1), 1) := by decide +kernel
theorem dX11_needed_174 : decode cX11_needed 174 = .ok (.ireturn, 1) := by decide +kernel
theorem dX11_mayFollow_0 : decode cX11_mayFollow 0 = .ok (.iload_n 2, 1) := by decide +kernel
theorem dX11_mayFollow_1 : decode cX11_mayFollow 1 = .ok (.iload_n 1, 1) := by decide +kernel
theorem dX11_mayFollow_2 : decode cX11_mayFollow 2 = .ok (.ishr, 1) := by decide +kernel
theorem dX11_mayFollow_3 : decode cX11_mayFollow 3 = .ok (.iconst 1, 1) := by decide +kernel
theorem dX11_mayFollow_4 : decode cX11_mayFollow 4 = .ok (.iand, 1) := by decide +kernel
theorem dX11_mayFollow_5 : decode cX11_mayFollow 5 = .ok (.ifCond .eq 21, 3) := by decide +kernel
theorem dX11_mayFollow_8 : decode cX11_mayFollow 8 = .ok (.iload_n 3, 1) := by decide +kernel
theorem dX11_mayFollow_9 : decode cX11_mayFollow 9 = .ok (.ifCond .lt 19, 3) := by decide +kernel
theorem dX11_mayFollow_12 : decode cX11_mayFollow 12 = .ok (.aload_n 0, 1) := by decide +kernel
theorem dX11_mayFollow_13 : decode cX11_mayFollow 13 = .ok (.getfield 120, 3) := by decide +kernel
theorem dX11_mayFollow_16 : decode cX11_mayFollow 16 = .ok (.bipush 12, 2) := by decide +kernel
theorem dX11_mayFollow_18 : decode cX11_mayFollow 18 = .ok (.iload_n 1, 1) := by decide +kernel
theorem dX11_mayFollow_19 : decode cX11_mayFollow 19 = .ok (.imul, 1) := by decide +kernel
theorem dX11_mayFollow_20 : decode cX11_mayFollow 20 = .ok (.iload_n 3, 1) := by decide +kernel
theorem dX11_mayFollow_21 : decode cX11_mayFollow 21 = .ok (.iadd, 1) := by decide +kernel
theorem dX11_mayFollow_22 : decode cX11_mayFollow 22 = .ok (.baload, 1) := by decide +kernel
theorem dX11_mayFollow_23 : decode cX11_mayFollow 23 = .ok (.ifCond .ne 5, 3) := by decide +kernel
theorem dX11_mayFollow_26 : decode cX11_mayFollow 26 = .ok (.iconst 0, 1) := by decide +kernel
theorem dX11_mayFollow_27 : decode cX11_mayFollow 27 = .ok (.ireturn, 1) := by decide +kernel
theorem dX11_mayFollow_28 : decode cX11_mayFollow 28 = .ok (.iload 4, 2) := by decide +kernel
theorem dX11_mayFollow_30 : decode cX11_mayFollow 30 = .ok (.iload_n 3, 1) := by decide +kernel
theorem dX11_mayFollow_31 : decode cX11_mayFollow 31 = .ok (.ifCond .ge 7, 3) := by decide +kernel
theorem dX11_mayFollow_34 : decode cX11_mayFollow 34 = .ok (.iconst 0, 1) := by decide +kernel
theorem dX11_mayFollow_35 : decode cX11_mayFollow 35 = .ok (.goto 9, 3) := by decide +kernel
theorem dX11_mayFollow_38 : decode cX11_mayFollow 38 = .ok (.aload_n 0, 1) := by decide +kernel
theorem dX11_mayFollow_39 : decode cX11_mayFollow 39 = .ok (.iload_n 1, 1) := by decide +kernel
theorem dX11_mayFollow_40 : decode cX11_mayFollow 40 = .ok (.iload_n 3, 1) := by decide +kernel
theorem dX11_mayFollow_41 : decode cX11_mayFollow 41 = .ok (.invokevirtual 312, 3) := by decide +kernel
theorem dX11_mayFollow_44 : decode cX11_mayFollow 44 = .ok (.iadd, 1) := by decide +kernel
theorem dX11_mayFollow_45 : decode cX11_mayFollow 45 = .ok (.aload_n 0, 1) := by decide +kernel
theorem dX11_mayFollow_46 : decode cX11_mayFollow 46 = .ok (.getfield 124, 3) := by decide +kernel
theorem dX11_mayFollow_49 : decode cX11_mayFollow 49 = .ok (.bipush 12, 2) := by decide +kernel
theorem dX11_mayFollow_51 : decode cX11_mayFollow 51 = .ok (.iload_n 2, 1) := by decide +kernel
theorem dX11_mayFollow_52 : decode cX11_mayFollow 52 = .ok (.imul, 1) := by decide +kernel
theorem dX11_mayFollow_53 : decode cX11_mayFollow 53 = .ok (.iload_n 1, 1) := by decide +kernel
theorem dX11_mayFollow_54 : decode cX11_mayFollow 54 = .ok (.iadd, 1) := by decide +kernel
theorem dX11_mayFollow_55 : decode cX11_mayFollow 55 = .ok (.iaload, 1) := by decide +kernel
theorem dX11_mayFollow_56 : decode cX11_mayFollow 56 = .ok (.iadd, 1) := by decide +kernel
theorem dX11_mayFollow_57 : decode cX11_mayFollow 57 = .ok (.iload 5, 2) := by decide +kernel
theorem dX11_mayFollow_59 : decode cX11_mayFollow 59 = .ok (.if_icmp .gt 7, 3) := by decide +kernel
theorem dX11_mayFollow_62 : decode cX11_mayFollow 62 = .ok (.iconst 1, 1) := by decide +kernel
theorem dX11_mayFollow_63 : decode cX11_mayFollow 63 = .ok (.goto 4, 3) := by decide +kernel
theorem dX11_mayFollow_66 : decode cX11_mayFollow 66 = .ok (.iconst 0, 1) := by decide +kernel
theorem dX11_mayFollow_67 : decode cX11_mayFollow 67 = .ok (.ireturn, 1) := by decide +kernel
def CSd (t ta : Nat → Int32) (x h : Int32) : Prop := ∃ l : Int32, 0 ≤ l.toInt ∧ l.toInt < (t 0).toInt ∧ bI x l = 1 ∧ (ta (12 * x.toInt.toNat + l.toInt.toNat)).toInt ≤ h.toInt
def FL (t my ta : Nat → Int32) (lo : Int) (left below foot height : Int32) : Prop := ∃ l : Int32, lo ≤ l.toInt ∧ l.toInt < (t 0).toInt ∧ FO t my ta l left below foot height
set_option maxHeartbeats 4000000 in
set_option maxRecDepth 100000 in
theorem c_X11_canStand (l : Launch) (D : DG) (cyC cyI cyJ cyZ cyO : ClassId) (m0 : Nat) (mtold : Nat) (mtall : Nat) (mtape : Nat) (msort : Nat) (mplace : Nat) (mvalue : Nat) (mwords : Nat) (mop : Nat) (marg : Nat) (mnames : Nat) (mhasHabit : Nat) (mfactWords : Nat) (mfacts : Nat) (mpile : Nat) (mstates : Nat) (misMarked : Nat) (mrow : Nat) (mthr : Nat) (mmays : Nat) (mweights : Nat) (mrowOfWare : Nat) (mneededOf : Nat) (mtried : Nat) (mbestRow : Nat) (mdigits : Nat) (p0 : Int32) (p1 : Int32) (m_thrown : Int32) (m_taped : Int32) (m_size : Int32) (m_at : Int32) (m_fault : Int32) (m_codes : Int32) (m_isNew : Int32) (m_inShelf : Int32) (m_inStack : Int32) (m_inPlace : Int32) (m_rowMany : Int32) (m_goShelf : Int32) (m_goStack : Int32) (m_goLeft : Int32) (m_bestCost : Int32) (m_bestMany : Int32) (m_bestShelf : Int32) (m_bestSet : Int32) (m_told : Nat → Int32) (m_tall : Nat → Int32) (h_m_taped : 0 ≤ (m_taped).toInt ∧ (m_taped).toInt ≤ 1000) (h_m_size : 0 ≤ (m_size).toInt ∧ (m_size).toInt ≤ 1000) (h_m_at : 0 ≤ (m_at).toInt ∧ (m_at).toInt ≤ 1000) (h_m_fault : 0 ≤ (m_fault).toInt ∧ (m_fault).toInt ≤ 16005) (h_m_codes : 0 ≤ (m_codes).toInt ∧ (m_codes).toInt ≤ 1000) (h_m_isNew : 0 ≤ (m_isNew).toInt ∧ (m_isNew).toInt ≤ 1) (h_m_inShelf : 0 ≤ (m_inShelf).toInt ∧ (m_inShelf).toInt ≤ 3) (h_m_inStack : 0 ≤ (m_inStack).toInt ∧ (m_inStack).toInt ≤ 7) (h_m_inPlace : 0 ≤ (m_inPlace).toInt ∧ (m_inPlace).toInt ≤ 11) (h_m_rowMany : 0 ≤ (m_rowMany).toInt ∧ (m_rowMany).toInt ≤ 12) (h_m_goShelf : -1 ≤ (m_goShelf).toInt ∧ (m_goShelf).toInt ≤ 3) (h_m_bestMany : 0 ≤ (m_bestMany).toInt ∧ (m_bestMany).toInt ≤ 7) (h_m_bestShelf : 0 ≤ (m_bestShelf).toInt ∧ (m_bestShelf).toInt ≤ 3) (h_p0 : 0 ≤ (p0).toInt ∧ (p0).toInt ≤ 4095) (h_m_told : TV m_told) (h_m_tall : Iv 49152 (0) (100000000) m_tall) : KK l D (TY cyC cyI cyJ cyZ cyO) yX11_canStand cX11_canStand 5 (some .boolean) ({ frames := 1, cells := 0, slots := 0, locals := 20 } : Room) 0 0 [.ref m0, .int p0, .int p1] [(m0, .inr (11, [.int m_thrown, .ref mtape, .int m_taped, .int m_size, .ref msort, .ref mplace, .ref mvalue, .int m_at, .int m_fault, .ref mwords, .ref mtold, .ref mop, .ref marg, .int m_codes, .ref mnames, .ref mhasHabit, .int m_isNew, .ref mfactWords, .ref mfacts, .ref mpile, .ref mstates, .ref misMarked, .int m_inShelf, .int m_inStack, .int m_inPlace, .ref mrow, .int m_rowMany, .ref mthr, .ref mmays, .ref mtall, .ref mweights, .ref mrowOfWare, .ref mneededOf, .int m_goShelf, .int m_goStack, .int m_goLeft, .ref mtried, .ref mbestRow, .int m_bestCost, .int m_bestMany, .int m_bestShelf, .int m_bestSet, .ref mdigits])), (mtold, .inl (cyI, 240, .inl m_told)), (mtall, .inl (cyI, 49152, .inl m_tall))] (fun u => some (.int (u.2.1 0))) (fun u => (0 ≤ (u.2.1 0).toInt ∧ (u.2.1 0).toInt ≤ 1) ∧ ((u.2.1 0).toInt = 0 ∨ CSd m_told m_tall p0 p1)) (fun u => [(m0, .inr (11, [.int m_thrown, .ref mtape, .int m_taped, .int m_size, .ref msort, .ref mplace, .ref mvalue, .int m_at, .int m_fault, .ref mwords, .ref mtold, .ref mop, .ref marg, .int m_codes, .ref mnames, .ref mhasHabit, .int m_isNew, .ref mfactWords, .ref mfacts, .ref mpile, .ref mstates, .ref misMarked, .int m_inShelf, .int m_inStack, .int m_inPlace, .ref mrow, .int m_rowMany, .ref mthr, .ref mmays, .ref mtall, .ref mweights, .ref mrowOfWare, .ref mneededOf, .int m_goShelf, .int m_goStack, .int m_goLeft, .ref mtried, .ref mbestRow, .int m_bestCost, .int m_bestMany, .int m_bestShelf, .int m_bestSet, .ref mdigits])), (mtold, .inl (cyI, 240, .inl m_told)), (mtall, .inl (cyI, 49152, .inl m_tall))]) := by
  refine KK.of (lv0 := [(0, .ref m0), (1, .int p0), (2, .int p1)]) (by decide) rfl (Nat.le_of_ble_eq_true rfl) ?_
  intro p e s m args below meth c A C hr hk hin
  refine j_iconst (pc := 0) (v := 0) C dX11_canStand_0 (by decide) ?_
  refine j_istore_n (pc := 1) (lv' := [(3, .int 0), (0, .ref m0), (1, .int p0), (2, .int p1)]) C dX11_canStand_1 rfl (by decide) rfl ?_
  refine j_iconst (pc := 2) (v := 0) C dX11_canStand_2 (by decide) ?_
  refine j_istore (pc := 3) (lv' := [(4, .int 0), (3, .int 0), (0, .ref m0), (1, .int p0), (2, .int p1)]) C dX11_canStand_3 (by decide) rfl ?_
  have loop_1 : ∀ (k_1 : Nat) (x1_4 : Int32) (x1_3 : Int32), (0 ≤ (x1_4).toInt ∧ (x1_4).toInt ≤ 12) → (0 ≤ (x1_3).toInt ∧ (x1_3).toInt ≤ 1) → (x1_3.toInt = 0 ∨ CSd m_told m_tall p0 p1) → (12 - x1_4.toInt).toNat < k_1 → J p l e ({ frames := 1, cells := 0, slots := 0, locals := 20 } : Room) s m args below meth c D A 5 0 0 (QX below D (TY cyC cyI cyJ cyZ cyO) A (fun u => some (.int (u.2.1 0))) (fun u => (0 ≤ (u.2.1 0).toInt ∧ (u.2.1 0).toInt ≤ 1) ∧ ((u.2.1 0).toInt = 0 ∨ CSd m_told m_tall p0 p1)) (fun u => [(m0, .inr (11, [.int m_thrown, .ref mtape, .int m_taped, .int m_size, .ref msort, .ref mplace, .ref mvalue, .int m_at, .int m_fault, .ref mwords, .ref mtold, .ref mop, .ref marg, .int m_codes, .ref mnames, .ref mhasHabit, .int m_isNew, .ref mfactWords, .ref mfacts, .ref mpile, .ref mstates, .ref misMarked, .int m_inShelf, .int m_inStack, .int m_inPlace, .ref mrow, .int m_rowMany, .ref mthr, .ref mmays, .ref mtall, .ref mweights, .ref mrowOfWare, .ref mneededOf, .int m_goShelf, .int m_goStack, .int m_goLeft, .ref mtried, .ref mbestRow, .int m_bestCost, .int m_bestMany, .int m_bestShelf, .int m_bestSet, .ref mdigits])), (mtold, .inl (cyI, 240, .inl m_told)), (mtall, .inl (cyI, 49152, .inl m_tall))]) args s 0 0) [(m0, .inr (11, [.int m_thrown, .ref mtape, .int m_taped, .int m_size, .ref msort, .ref mplace, .ref mvalue, .int m_at, .int m_fault, .ref mwords, .ref mtold, .ref mop, .ref marg, .int m_codes, .ref mnames, .ref mhasHabit, .int m_isNew, .ref mfactWords, .ref mfacts, .ref mpile, .ref mstates, .ref misMarked, .int m_inShelf, .int m_inStack, .int m_inPlace, .ref mrow, .int m_rowMany, .ref mthr, .ref mmays, .ref mtall, .ref mweights, .ref mrowOfWare, .ref mneededOf, .int m_goShelf, .int m_goStack, .int m_goLeft, .ref mtried, .ref mbestRow, .int m_bestCost, .int m_bestMany, .int m_bestShelf, .int m_bestSet, .ref mdigits])), (mtold, .inl (cyI, 240, .inl m_told)), (mtall, .inl (cyI, 49152, .inl m_tall))] 5 [(4, .int x1_4), (3, .int x1_3), (0, .ref m0), (1, .int p0), (2, .int p1)] [] := by
    intro k_1
    induction k_1 with
    | zero =>
      intro x1_4 x1_3 hi_1_0 hi_1_1 hq_1_0 hm_1
      exact absurd hm_1 (Nat.not_lt_zero _)
    | succ k_1 ih_1 =>
      intro x1_4 x1_3 hi_1_0 hi_1_1 hq_1_0 hm_1
      refine j_iload (pc := 5) C dX11_canStand_5 0 rfl ?_
      refine j_aload_n (pc := 7) C dX11_canStand_7 rfl 2 rfl ?_
      refine j_callV (pc := 8) (As := []) (rest := [.int x1_4]) (wr := [(mtall, .inl (cyI, 49152, .inl m_tall))]) C (c_X11_wares l D cyC cyI cyJ cyZ cyO m0 mtold mtape msort mplace mvalue mwords mop marg mnames mhasHabit mfactWords mfacts mpile mstates misMarked mrow mthr mmays mtall mweights mrowOfWare mneededOf mtried mbestRow mdigits m_thrown m_taped m_size m_at m_fault m_codes m_isNew m_inShelf m_inStack m_inPlace m_rowMany m_goShelf m_goStack m_goLeft m_bestCost m_bestMany m_bestShelf m_bestSet m_told h_m_taped h_m_size h_m_at h_m_fault h_m_codes h_m_isNew h_m_inShelf h_m_inStack h_m_inPlace h_m_rowMany h_m_goShelf h_m_bestMany h_m_bestShelf h_m_told) wd_748 wd_624 wd_749 wd_750 wd_751 ⟨by decide, by decide, rfl⟩ rfl ⟨rfl, rfl, by decide, by decide⟩ ⟨by decide, by decide⟩ [0, 1] [2] rfl rfl ⟨by decide, by decide, by decide⟩ 0 rfl rfl rfl (Nat.le_of_ble_eq_true rfl) dX11_canStand_8 (fun u_2 hw_3 => ?_)
      refine j_eq (ws2 := [(mtall, .inl (cyI, 49152, .inl m_tall)), (m0, .inr (11, [.int m_thrown, .ref mtape, .int m_taped, .int m_size, .ref msort, .ref mplace, .ref mvalue, .int m_at, .int m_fault, .ref mwords, .ref mtold, .ref mop, .ref marg, .int m_codes, .ref mnames, .ref mhasHabit, .int m_isNew, .ref mfactWords, .ref mfacts, .ref mpile, .ref mstates, .ref misMarked, .int m_inShelf, .int m_inStack, .int m_inPlace, .ref mrow, .int m_rowMany, .ref mthr, .ref mmays, .ref mtall, .ref mweights, .ref mrowOfWare, .ref mneededOf, .int m_goShelf, .int m_goStack, .int m_goLeft, .ref mtried, .ref mbestRow, .int m_bestCost, .int m_bestMany, .int m_bestShelf, .int m_bestSet, .ref mdigits])), (mtold, .inl (cyI, 240, .inl m_told))]) (pc2 := 11) (lv2 := [(4, .int x1_4), (3, .int x1_3), (0, .ref m0), (1, .int p0), (2, .int p1)]) (st2 := [.int (u_2.2.1 0), .int x1_4]) rfl rfl rfl rfl ?_
      obtain ⟨hw_3_0, hw_3_1⟩ := hw_3
      refine j_icmp_ge (pc := 11) (tgt := 56) C dX11_canStand_11 (by decide) (fun c_4 => ?_) (fun c_4 => ?_)
      · skip
        rw [i_le] at c_4
        refine j_iload_n (pc := 56) C dX11_canStand_56 rfl 1 rfl ?_
        exact j_zret (pc := 57) C hr (nb_01 ⟨by omega, by omega⟩).1 hk (fun i => [].getD i 0, fun i => [x1_3].getD i 0, fun i => [].getD i (fun _ => 0), fun i => [].getD i (fun _ => 0)) rfl (show (0 ≤ (x1_3).toInt ∧ (x1_3).toInt ≤ 1) ∧ (x1_3.toInt = 0 ∨ CSd m_told m_tall p0 p1) from ⟨hi_1_1, hq_1_0⟩) [1, 2, 0] (by decide) rfl (by decide) (by decide) dX11_canStand_57
      · skip
        rw [i_le] at c_4
        refine j_iload_n (pc := 14) C dX11_canStand_14 rfl 1 rfl ?_
        refine j_if_ne (pc := 15) (tgt := 44) C dX11_canStand_15 (by decide) (fun c_5 => ?_) (fun c_5 => ?_)
        · skip
          have el_0 : (0 : Int32).toInt = 0 := rfl
          rw [i_eq] at c_5
          have k0c_5 : x1_3.toInt = 1 := by omega
          refine j_iconst (pc := 44) (v := 1) C dX11_canStand_44 (by decide) ?_
          refine j_goto (pc := 45) (tgt := 49) C dX11_canStand_45 (by decide) ?_
          refine j_istore_n (pc := 49) (lv' := [(3, .int 1), (4, .int x1_4), (0, .ref m0), (1, .int p0), (2, .int p1)]) C dX11_canStand_49 rfl (by decide) rfl ?_
          obtain ⟨v_6, ev_6⟩ : ∃ z : Int32, x1_4 + 1 = z := ⟨_, rfl⟩
          have el_1 : (1 : Int32).toInt = 1 := rfl
          have hv_6 : v_6.toInt = x1_4.toInt + (1 : Int32).toInt := by rw [← ev_6]; exact fb_addI (by omega) (by omega)
          refine j_iinc (pc := 50) (v := v_6) (lv' := [(4, .int v_6), (3, .int 1), (0, .ref m0), (1, .int p0), (2, .int p1)]) C dX11_canStand_50 1 rfl ev_6 (by decide) rfl ?_
          refine j_goto (pc := 53) (tgt := 5) C dX11_canStand_53 (by decide) ?_
          have el_1 : (1 : Int32).toInt = 1 := rfl
          refine j_subG (ws' := [(m0, .inr (11, [.int m_thrown, .ref mtape, .int m_taped, .int m_size, .ref msort, .ref mplace, .ref mvalue, .int m_at, .int m_fault, .ref mwords, .ref mtold, .ref mop, .ref marg, .int m_codes, .ref mnames, .ref mhasHabit, .int m_isNew, .ref mfactWords, .ref mfacts, .ref mpile, .ref mstates, .ref misMarked, .int m_inShelf, .int m_inStack, .int m_inPlace, .ref mrow, .int m_rowMany, .ref mthr, .ref mmays, .ref mtall, .ref mweights, .ref mrowOfWare, .ref mneededOf, .int m_goShelf, .int m_goStack, .int m_goLeft, .ref mtried, .ref mbestRow, .int m_bestCost, .int m_bestMany, .int m_bestShelf, .int m_bestSet, .ref mdigits])), (mtold, .inl (cyI, 240, .inl m_told)), (mtall, .inl (cyI, 49152, .inl m_tall))]) [1, 2, 0] (by decide) rfl ?_
          exact j_lv [0, 1, 2, 3, 4] rfl (ih_1 v_6 1 (by omega) (by decide) (by rcases hq_1_0 with z | z; (exfalso; omega); exact Or.inr z) (by omega))
        · skip
          have el_0 : (0 : Int32).toInt = 0 := rfl
          rw [i_eq] at c_5
          refine j_iload_n (pc := 18) C dX11_canStand_18 rfl 3 rfl ?_
          refine j_iload (pc := 19) C dX11_canStand_19 0 rfl ?_
          obtain ⟨v_7, ev_7⟩ : ∃ z : Int32, p0 >>> (x1_4 &&& 31) = z := ⟨_, rfl⟩
          refine j_ishr (pc := 21) (v := v_7) C dX11_canStand_21 ev_7 ?_
          refine j_iconst (pc := 22) (v := 1) C dX11_canStand_22 (by decide) ?_
          obtain ⟨v_8, ev_8⟩ : ∃ z : Int32, v_7 &&& 1 = z := ⟨_, rfl⟩
          have el_1 : (1 : Int32).toInt = 1 := rfl
          have hv_8 : 0 ≤ v_8.toInt ∧ v_8.toInt ≤ 1 := by rw [← ev_8]; exact and1_r _
          refine j_iand (pc := 23) (v := v_8) C dX11_canStand_23 ev_8 ?_
          refine j_iconst (pc := 24) (v := 1) C dX11_canStand_24 (by decide) ?_
          refine j_icmp_ne (pc := 25) (tgt := 48) C dX11_canStand_25 (by decide) (fun c_9 => ?_) (fun c_9 => ?_)
          · skip
            have el_1 : (1 : Int32).toInt = 1 := rfl
            rw [i_eq] at c_9
            have k0c_9 : v_8.toInt = 0 := by omega
            refine j_iconst (pc := 48) (v := 0) C dX11_canStand_48 (by decide) ?_
            refine j_istore_n (pc := 49) (lv' := [(3, .int 0), (4, .int x1_4), (0, .ref m0), (1, .int p0), (2, .int p1)]) C dX11_canStand_49 rfl (by decide) rfl ?_
            obtain ⟨v_10, ev_10⟩ : ∃ z : Int32, x1_4 + 1 = z := ⟨_, rfl⟩
            have el_1 : (1 : Int32).toInt = 1 := rfl
            have hv_10 : v_10.toInt = x1_4.toInt + (1 : Int32).toInt := by rw [← ev_10]; exact fb_addI (by omega) (by omega)
            refine j_iinc (pc := 50) (v := v_10) (lv' := [(4, .int v_10), (3, .int 0), (0, .ref m0), (1, .int p0), (2, .int p1)]) C dX11_canStand_50 1 rfl ev_10 (by decide) rfl ?_
            refine j_goto (pc := 53) (tgt := 5) C dX11_canStand_53 (by decide) ?_
            have el_0 : (0 : Int32).toInt = 0 := rfl
            refine j_subG (ws' := [(m0, .inr (11, [.int m_thrown, .ref mtape, .int m_taped, .int m_size, .ref msort, .ref mplace, .ref mvalue, .int m_at, .int m_fault, .ref mwords, .ref mtold, .ref mop, .ref marg, .int m_codes, .ref mnames, .ref mhasHabit, .int m_isNew, .ref mfactWords, .ref mfacts, .ref mpile, .ref mstates, .ref misMarked, .int m_inShelf, .int m_inStack, .int m_inPlace, .ref mrow, .int m_rowMany, .ref mthr, .ref mmays, .ref mtall, .ref mweights, .ref mrowOfWare, .ref mneededOf, .int m_goShelf, .int m_goStack, .int m_goLeft, .ref mtried, .ref mbestRow, .int m_bestCost, .int m_bestMany, .int m_bestShelf, .int m_bestSet, .ref mdigits])), (mtold, .inl (cyI, 240, .inl m_told)), (mtall, .inl (cyI, 49152, .inl m_tall))]) [1, 2, 0] (by decide) rfl ?_
            exact j_lv [0, 1, 2, 3, 4] rfl (ih_1 v_10 0 (by omega) (by decide) (Or.inl rfl) (by omega))
          · skip
            have el_1 : (1 : Int32).toInt = 1 := rfl
            rw [i_eq] at c_9
            refine j_aload_n (pc := 28) C dX11_canStand_28 rfl 2 rfl ?_
            refine j_get (pc := 29) (ci := 11) (v := .ref mtall) C inw_11 1 rfl rfl 29 (by decide) wd_901 rfl rfl dX11_canStand_29 ?_
            refine j_bipush (pc := 32) (v := 12) C dX11_canStand_32 (by decide) ?_
            refine j_iload_n (pc := 34) C dX11_canStand_34 rfl 3 rfl ?_
            obtain ⟨v_11, ev_11⟩ : ∃ z : Int32, 12 * p0 = z := ⟨_, rfl⟩
            have el_12 : (12 : Int32).toInt = 12 := rfl
            have hv_11 : v_11.toInt = 12 * p0.toInt := by rw [← ev_11]; exact mulL (c := 12) rfl (by omega) (by omega)
            refine j_imul (pc := 35) (v := v_11) C dX11_canStand_35 ev_11 ?_
            refine j_iload (pc := 36) C dX11_canStand_36 0 rfl ?_
            obtain ⟨v_12, ev_12⟩ : ∃ z : Int32, v_11 + x1_4 = z := ⟨_, rfl⟩
            have hv_12 : v_12.toInt = v_11.toInt + x1_4.toInt := by rw [← ev_12]; exact fb_addI (by omega) (by omega)
            refine j_iadd (pc := 38) (v := v_12) C dX11_canStand_38 ev_12 ?_
            obtain ⟨v_13, ev_13⟩ : ∃ z, m_tall (v_12).toInt.toNat = z := ⟨_, rfl⟩
            have env_13 : (m_tall (v_12).toInt.toNat).toInt = v_13.toInt := by rw [ev_13]
            have hv_13 := h_m_tall (v_12).toInt.toNat (i_lt_n (by omega) (by omega)); rw [ev_13] at hv_13
            refine j_iald (pc := 39) (v := v_13) (k := (v_12).toInt.toNat) C 0 1 rfl rfl (i_nn (by omega)) rfl (i_lt_n (by omega) (by omega)) ev_13 dX11_canStand_39 ?_
            refine j_iload_n (pc := 40) C dX11_canStand_40 rfl 4 rfl ?_
            refine j_icmp_gt (pc := 41) (tgt := 48) C dX11_canStand_41 (by decide) (fun c_14 => ?_) (fun c_14 => ?_)
            · skip
              rw [i_lt] at c_14
              refine j_iconst (pc := 48) (v := 0) C dX11_canStand_48 (by decide) ?_
              refine j_istore_n (pc := 49) (lv' := [(3, .int 0), (4, .int x1_4), (0, .ref m0), (1, .int p0), (2, .int p1)]) C dX11_canStand_49 rfl (by decide) rfl ?_
              obtain ⟨v_15, ev_15⟩ : ∃ z : Int32, x1_4 + 1 = z := ⟨_, rfl⟩
              have el_1 : (1 : Int32).toInt = 1 := rfl
              have hv_15 : v_15.toInt = x1_4.toInt + (1 : Int32).toInt := by rw [← ev_15]; exact fb_addI (by omega) (by omega)
              refine j_iinc (pc := 50) (v := v_15) (lv' := [(4, .int v_15), (3, .int 0), (0, .ref m0), (1, .int p0), (2, .int p1)]) C dX11_canStand_50 1 rfl ev_15 (by decide) rfl ?_
              refine j_goto (pc := 53) (tgt := 5) C dX11_canStand_53 (by decide) ?_
              have el_0 : (0 : Int32).toInt = 0 := rfl
              refine j_subG (ws' := [(m0, .inr (11, [.int m_thrown, .ref mtape, .int m_taped, .int m_size, .ref msort, .ref mplace, .ref mvalue, .int m_at, .int m_fault, .ref mwords, .ref mtold, .ref mop, .ref marg, .int m_codes, .ref mnames, .ref mhasHabit, .int m_isNew, .ref mfactWords, .ref mfacts, .ref mpile, .ref mstates, .ref misMarked, .int m_inShelf, .int m_inStack, .int m_inPlace, .ref mrow, .int m_rowMany, .ref mthr, .ref mmays, .ref mtall, .ref mweights, .ref mrowOfWare, .ref mneededOf, .int m_goShelf, .int m_goStack, .int m_goLeft, .ref mtried, .ref mbestRow, .int m_bestCost, .int m_bestMany, .int m_bestShelf, .int m_bestSet, .ref mdigits])), (mtold, .inl (cyI, 240, .inl m_told)), (mtall, .inl (cyI, 49152, .inl m_tall))]) [1, 2, 0] (by decide) rfl ?_
              exact j_lv [0, 1, 2, 3, 4] rfl (ih_1 v_15 0 (by omega) (by decide) (Or.inl rfl) (by omega))
            · skip
              rw [i_lt] at c_14
              refine j_iconst (pc := 44) (v := 1) C dX11_canStand_44 (by decide) ?_
              refine j_goto (pc := 45) (tgt := 49) C dX11_canStand_45 (by decide) ?_
              refine j_istore_n (pc := 49) (lv' := [(3, .int 1), (4, .int x1_4), (0, .ref m0), (1, .int p0), (2, .int p1)]) C dX11_canStand_49 rfl (by decide) rfl ?_
              obtain ⟨v_16, ev_16⟩ : ∃ z : Int32, x1_4 + 1 = z := ⟨_, rfl⟩
              have el_1 : (1 : Int32).toInt = 1 := rfl
              have hv_16 : v_16.toInt = x1_4.toInt + (1 : Int32).toInt := by rw [← ev_16]; exact fb_addI (by omega) (by omega)
              refine j_iinc (pc := 50) (v := v_16) (lv' := [(4, .int v_16), (3, .int 1), (0, .ref m0), (1, .int p0), (2, .int p1)]) C dX11_canStand_50 1 rfl ev_16 (by decide) rfl ?_
              refine j_goto (pc := 53) (tgt := 5) C dX11_canStand_53 (by decide) ?_
              have el_1 : (1 : Int32).toInt = 1 := rfl
              refine j_subG (ws' := [(m0, .inr (11, [.int m_thrown, .ref mtape, .int m_taped, .int m_size, .ref msort, .ref mplace, .ref mvalue, .int m_at, .int m_fault, .ref mwords, .ref mtold, .ref mop, .ref marg, .int m_codes, .ref mnames, .ref mhasHabit, .int m_isNew, .ref mfactWords, .ref mfacts, .ref mpile, .ref mstates, .ref misMarked, .int m_inShelf, .int m_inStack, .int m_inPlace, .ref mrow, .int m_rowMany, .ref mthr, .ref mmays, .ref mtall, .ref mweights, .ref mrowOfWare, .ref mneededOf, .int m_goShelf, .int m_goStack, .int m_goLeft, .ref mtried, .ref mbestRow, .int m_bestCost, .int m_bestMany, .int m_bestShelf, .int m_bestSet, .ref mdigits])), (mtold, .inl (cyI, 240, .inl m_told)), (mtall, .inl (cyI, 49152, .inl m_tall))]) [1, 2, 0] (by decide) rfl ?_
              exact j_lv [0, 1, 2, 3, 4] rfl (ih_1 v_16 1 (by omega) (by decide) (Or.inr ⟨x1_4, by omega, by (have h9 := congrArg Int32.toInt hw_3_1; omega), by (unfold bI; rw [ev_7, ev_8]; omega), by (rw [show 12 * (p0).toInt.toNat + (x1_4).toInt.toNat = (v_12).toInt.toNat from (by omega), ev_13]; omega)⟩) (by omega))
  have el_0 : (0 : Int32).toInt = 0 := rfl
  have el_0 : (0 : Int32).toInt = 0 := rfl
  exact j_lv [0, 1, 2, 3, 4] rfl (loop_1 4096 0 0 (by decide) (by decide) (Or.inl rfl) (by omega))
set_option maxHeartbeats 4000000 in
set_option maxRecDepth 100000 in
theorem c_X11_needed (l : Launch) (D : DG) (cyC cyI cyJ cyZ cyO : ClassId) (m0 : Nat) (mtold : Nat) (mop : Nat) (marg : Nat) (mfacts : Nat) (mpile : Nat) (mthr : Nat) (mmays : Nat) (mtall : Nat) (mweights : Nat) (mneededOf : Nat) (mtape : Nat) (msort : Nat) (mplace : Nat) (mvalue : Nat) (mwords : Nat) (mnames : Nat) (mhasHabit : Nat) (mfactWords : Nat) (mstates : Nat) (misMarked : Nat) (mrow : Nat) (mrowOfWare : Nat) (mtried : Nat) (mbestRow : Nat) (mdigits : Nat) (p0 : Int32) (m_thrown : Int32) (m_taped : Int32) (m_size : Int32) (m_at : Int32) (m_fault : Int32) (m_codes : Int32) (m_isNew : Int32) (m_inShelf : Int32) (m_inStack : Int32) (m_inPlace : Int32) (m_rowMany : Int32) (m_goShelf : Int32) (m_goStack : Int32) (m_goLeft : Int32) (m_bestCost : Int32) (m_bestMany : Int32) (m_bestShelf : Int32) (m_bestSet : Int32) (m_told : Nat → Int32) (m_op : Nat → Int32) (m_arg : Nat → Int32) (m_facts : Nat → Int32) (m_pile : Nat → Int32) (m_thr : Nat → Int32) (m_mays : Nat → Int32) (m_tall : Nat → Int32) (m_weights : Nat → Int32) (m_neededOf : Nat → Int32) (h_m_taped : 0 ≤ (m_taped).toInt ∧ (m_taped).toInt ≤ 1000) (h_m_size : 0 ≤ (m_size).toInt ∧ (m_size).toInt ≤ 1000) (h_m_at : 0 ≤ (m_at).toInt ∧ (m_at).toInt ≤ 1000) (h_m_fault : 0 ≤ (m_fault).toInt ∧ (m_fault).toInt ≤ 16005) (h_m_codes : 0 ≤ (m_codes).toInt ∧ (m_codes).toInt ≤ 1000) (h_m_isNew : 0 ≤ (m_isNew).toInt ∧ (m_isNew).toInt ≤ 1) (h_m_inShelf : 0 ≤ (m_inShelf).toInt ∧ (m_inShelf).toInt ≤ 3) (h_m_inStack : 0 ≤ (m_inStack).toInt ∧ (m_inStack).toInt ≤ 7) (h_m_inPlace : 0 ≤ (m_inPlace).toInt ∧ (m_inPlace).toInt ≤ 11) (h_m_rowMany : 0 ≤ (m_rowMany).toInt ∧ (m_rowMany).toInt ≤ 12) (h_m_goShelf : -1 ≤ (m_goShelf).toInt ∧ (m_goShelf).toInt ≤ 3) (h_m_bestMany : 0 ≤ (m_bestMany).toInt ∧ (m_bestMany).toInt ≤ 7) (h_m_bestShelf : 0 ≤ (m_bestShelf).toInt ∧ (m_bestShelf).toInt ≤ 3) (h_m_told : TV m_told) (h_m_tall : Iv 49152 (0) (100000000) m_tall) (hwf : WFm m_told m_op m_arg) (hTA : (m_isNew).toInt = 0 → TALL m_told m_mays m_tall) : KK l D (TY cyC cyI cyJ cyZ cyO) yX11_needed cX11_needed 8 (some .int) ({ frames := 5, cells := 0, slots := 0, locals := 117 } : Room) 0 0 [.ref m0, .int p0] [(m0, .inr (11, [.int m_thrown, .ref mtape, .int m_taped, .int m_size, .ref msort, .ref mplace, .ref mvalue, .int m_at, .int m_fault, .ref mwords, .ref mtold, .ref mop, .ref marg, .int m_codes, .ref mnames, .ref mhasHabit, .int m_isNew, .ref mfactWords, .ref mfacts, .ref mpile, .ref mstates, .ref misMarked, .int m_inShelf, .int m_inStack, .int m_inPlace, .ref mrow, .int m_rowMany, .ref mthr, .ref mmays, .ref mtall, .ref mweights, .ref mrowOfWare, .ref mneededOf, .int m_goShelf, .int m_goStack, .int m_goLeft, .ref mtried, .ref mbestRow, .int m_bestCost, .int m_bestMany, .int m_bestShelf, .int m_bestSet, .ref mdigits])), (mtold, .inl (cyI, 240, .inl m_told)), (mop, .inl (cyI, 2200, .inl m_op)), (marg, .inl (cyI, 2200, .inl m_arg)), (mfacts, .inl (cyI, 8, .inl m_facts)), (mpile, .inl (cyI, 1100, .inl m_pile)), (mthr, .inl (cyZ, 144, .inl m_thr)), (mmays, .inl (cyZ, 144, .inl m_mays)), (mtall, .inl (cyI, 49152, .inl m_tall)), (mweights, .inl (cyI, 4096, .inl m_weights)), (mneededOf, .inl (cyI, 4096, .inl m_neededOf))] (fun u => some (.int (u.2.1 0))) (fun u => (0 ≤ (u.2.1 1).toInt ∧ (u.2.1 1).toInt ≤ 1) ∧ (Iv 49152 (0) (100000000) (u.2.2.1 4)) ∧ (((u.2.1 1)).toInt = 0 → TALL m_told (u.2.2.1 3) (u.2.2.1 4))) (fun u => [(m0, .inr (11, [.int 0, .ref mtape, .int m_taped, .int m_size, .ref msort, .ref mplace, .ref mvalue, .int m_at, .int m_fault, .ref mwords, .ref mtold, .ref mop, .ref marg, .int m_codes, .ref mnames, .ref mhasHabit, .int (u.2.1 1), .ref mfactWords, .ref mfacts, .ref mpile, .ref mstates, .ref misMarked, .int m_inShelf, .int m_inStack, .int m_inPlace, .ref mrow, .int m_rowMany, .ref mthr, .ref mmays, .ref mtall, .ref mweights, .ref mrowOfWare, .ref mneededOf, .int m_goShelf, .int m_goStack, .int m_goLeft, .ref mtried, .ref mbestRow, .int m_bestCost, .int m_bestMany, .int m_bestShelf, .int m_bestSet, .ref mdigits])), (mtold, .inl (cyI, 240, .inl m_told)), (mop, .inl (cyI, 2200, .inl m_op)), (marg, .inl (cyI, 2200, .inl m_arg)), (mfacts, .inl (cyI, 8, .inl (u.2.2.1 0))), (mpile, .inl (cyI, 1100, .inl (u.2.2.1 1))), (mthr, .inl (cyZ, 144, .inl (u.2.2.1 2))), (mmays, .inl (cyZ, 144, .inl (u.2.2.1 3))), (mtall, .inl (cyI, 49152, .inl (u.2.2.1 4))), (mweights, .inl (cyI, 4096, .inl (u.2.2.1 5))), (mneededOf, .inl (cyI, 4096, .inl (u.2.2.1 6)))]) := by
  refine KK.of (lv0 := [(0, .ref m0), (1, .int p0)]) (by decide) rfl (Nat.le_of_ble_eq_true rfl) ?_
  intro p e s m args below meth c A C hr hk hin
  refine j_aload_n (pc := 0) C dX11_needed_0 rfl 0 rfl ?_
  refine j_iconst (pc := 1) (v := 0) C dX11_needed_1 (by decide) ?_
  refine j_put (pc := 2) (ci := 11) (v := .int 0) (ws' := [(m0, .inr (11, [.int 0, .ref mtape, .int m_taped, .int m_size, .ref msort, .ref mplace, .ref mvalue, .int m_at, .int m_fault, .ref mwords, .ref mtold, .ref mop, .ref marg, .int m_codes, .ref mnames, .ref mhasHabit, .int m_isNew, .ref mfactWords, .ref mfacts, .ref mpile, .ref mstates, .ref misMarked, .int m_inShelf, .int m_inStack, .int m_inPlace, .ref mrow, .int m_rowMany, .ref mthr, .ref mmays, .ref mtall, .ref mweights, .ref mrowOfWare, .ref mneededOf, .int m_goShelf, .int m_goStack, .int m_goLeft, .ref mtried, .ref mbestRow, .int m_bestCost, .int m_bestMany, .int m_bestShelf, .int m_bestSet, .ref mdigits])), (mtold, .inl (cyI, 240, .inl m_told)), (mop, .inl (cyI, 2200, .inl m_op)), (marg, .inl (cyI, 2200, .inl m_arg)), (mfacts, .inl (cyI, 8, .inl m_facts)), (mpile, .inl (cyI, 1100, .inl m_pile)), (mthr, .inl (cyZ, 144, .inl m_thr)), (mmays, .inl (cyZ, 144, .inl m_mays)), (mtall, .inl (cyI, 49152, .inl m_tall)), (mweights, .inl (cyI, 4096, .inl m_weights)), (mneededOf, .inl (cyI, 4096, .inl m_neededOf))]) C inw_11 0 rfl rfl 0 (by decide) wd_629 rfl tyX11_ok nmX11 rfl (tyX11_ok 0 (by decide)) rfl rfl (Nat.le_of_ble_eq_true rfl) dX11_needed_2 rfl ?_
  refine j_iload_n (pc := 5) C dX11_needed_5 rfl 1 rfl ?_
  refine j_iconst (pc := 6) (v := 1) C dX11_needed_6 (by decide) ?_
  refine j_sipush (pc := 7) (v := 999) C dX11_needed_7 (by decide) ?_
  refine j_callS (pc := 10) (As := [.int p0, .int 1, .int 999]) (rest := []) (wr := [(m0, .inr (11, [.int 0, .ref mtape, .int m_taped, .int m_size, .ref msort, .ref mplace, .ref mvalue, .int m_at, .int m_fault, .ref mwords, .ref mtold, .ref mop, .ref marg, .int m_codes, .ref mnames, .ref mhasHabit, .int m_isNew, .ref mfactWords, .ref mfacts, .ref mpile, .ref mstates, .ref misMarked, .int m_inShelf, .int m_inStack, .int m_inPlace, .ref mrow, .int m_rowMany, .ref mthr, .ref mmays, .ref mtall, .ref mweights, .ref mrowOfWare, .ref mneededOf, .int m_goShelf, .int m_goStack, .int m_goLeft, .ref mtried, .ref mbestRow, .int m_bestCost, .int m_bestMany, .int m_bestShelf, .int m_bestSet, .ref mdigits])), (mtold, .inl (cyI, 240, .inl m_told)), (mop, .inl (cyI, 2200, .inl m_op)), (marg, .inl (cyI, 2200, .inl m_arg)), (mfacts, .inl (cyI, 8, .inl m_facts)), (mpile, .inl (cyI, 1100, .inl m_pile)), (mthr, .inl (cyZ, 144, .inl m_thr)), (mmays, .inl (cyZ, 144, .inl m_mays)), (mtall, .inl (cyI, 49152, .inl m_tall)), (mweights, .inl (cyI, 4096, .inl m_weights)), (mneededOf, .inl (cyI, 4096, .inl m_neededOf))]) C (c_X11_within_f l D cyC cyI cyJ cyZ cyO p0 1 999) wd_818 wd_624 wd_819 wd_820 ⟨by decide, by decide, rfl⟩ rfl ⟨rfl, rfl, by decide, by decide⟩ ⟨by decide, by decide⟩ [] [0, 1, 2, 3, 4, 5, 6, 7, 8, 9, 10] rfl rfl ⟨by decide, by decide, by decide⟩ rfl (Nat.le_of_ble_eq_true rfl) dX11_needed_10 (fun u_1 hw_2 => ?_)
  refine j_eq (ws2 := [(m0, .inr (11, [.int 0, .ref mtape, .int m_taped, .int m_size, .ref msort, .ref mplace, .ref mvalue, .int m_at, .int m_fault, .ref mwords, .ref mtold, .ref mop, .ref marg, .int m_codes, .ref mnames, .ref mhasHabit, .int m_isNew, .ref mfactWords, .ref mfacts, .ref mpile, .ref mstates, .ref misMarked, .int m_inShelf, .int m_inStack, .int m_inPlace, .ref mrow, .int m_rowMany, .ref mthr, .ref mmays, .ref mtall, .ref mweights, .ref mrowOfWare, .ref mneededOf, .int m_goShelf, .int m_goStack, .int m_goLeft, .ref mtried, .ref mbestRow, .int m_bestCost, .int m_bestMany, .int m_bestShelf, .int m_bestSet, .ref mdigits])), (mtold, .inl (cyI, 240, .inl m_told)), (mop, .inl (cyI, 2200, .inl m_op)), (marg, .inl (cyI, 2200, .inl m_arg)), (mfacts, .inl (cyI, 8, .inl m_facts)), (mpile, .inl (cyI, 1100, .inl m_pile)), (mthr, .inl (cyZ, 144, .inl m_thr)), (mmays, .inl (cyZ, 144, .inl m_mays)), (mtall, .inl (cyI, 49152, .inl m_tall)), (mweights, .inl (cyI, 4096, .inl m_weights)), (mneededOf, .inl (cyI, 4096, .inl m_neededOf))]) (pc2 := 13) (lv2 := [(0, .ref m0), (1, .int p0)]) (st2 := [.int (u_1.2.1 0)]) rfl rfl rfl rfl ?_
  obtain ⟨hw_2_0, hw_2_1, hw_2_2⟩ := hw_2
  have el_1 : (1 : Int32).toInt = 1 := rfl
  have el_999 : (999 : Int32).toInt = 999 := rfl
  refine j_if_ne (pc := 13) (tgt := 18) C dX11_needed_13 (by decide) (fun c_3 => ?_) (fun c_3 => ?_)
  · skip
    have el_0 : (0 : Int32).toInt = 0 := rfl
    rw [i_eq] at c_3
    have k0c_3 : ((u_1.2.1 0)).toInt = 1 := by omega
    refine j_aload_n (pc := 18) C dX11_needed_18 rfl 0 rfl ?_
    refine j_callV (pc := 19) (As := []) (rest := []) (wr := [(mneededOf, .inl (cyI, 4096, .inl m_neededOf))]) C (c_X11_find l D cyC cyI cyJ cyZ cyO m0 mtold mop marg mfacts mpile mthr mmays mtall mweights mtape msort mplace mvalue mwords mnames mhasHabit mfactWords mstates misMarked mrow mrowOfWare mneededOf mtried mbestRow mdigits 0 m_taped m_size m_at m_fault m_codes m_isNew m_inShelf m_inStack m_inPlace m_rowMany m_goShelf m_goStack m_goLeft m_bestCost m_bestMany m_bestShelf m_bestSet m_told m_op m_arg m_facts m_pile m_thr m_mays m_tall m_weights h_m_taped h_m_size h_m_at h_m_fault h_m_codes h_m_isNew h_m_inShelf h_m_inStack h_m_inPlace h_m_rowMany h_m_goShelf h_m_bestMany h_m_bestShelf h_m_told h_m_tall hwf hTA) wd_923 wd_624 wd_924 wd_925 wd_926 ⟨by decide, by decide, rfl⟩ rfl ⟨rfl, rfl, by decide, by decide⟩ ⟨by decide, by decide⟩ [0, 1, 2, 3, 4, 5, 6, 7, 8, 9] [10] rfl rfl ⟨by decide, by decide, by decide⟩ 0 rfl rfl rfl (Nat.le_of_ble_eq_true rfl) dX11_needed_19 (fun u_4 hw_5 => ?_)
    refine j_eq (ws2 := [(mneededOf, .inl (cyI, 4096, .inl m_neededOf)), (m0, .inr (11, [.int 0, .ref mtape, .int m_taped, .int m_size, .ref msort, .ref mplace, .ref mvalue, .int m_at, .int m_fault, .ref mwords, .ref mtold, .ref mop, .ref marg, .int m_codes, .ref mnames, .ref mhasHabit, .int (u_4.2.1 0), .ref mfactWords, .ref mfacts, .ref mpile, .ref mstates, .ref misMarked, .int m_inShelf, .int m_inStack, .int m_inPlace, .ref mrow, .int m_rowMany, .ref mthr, .ref mmays, .ref mtall, .ref mweights, .ref mrowOfWare, .ref mneededOf, .int m_goShelf, .int m_goStack, .int m_goLeft, .ref mtried, .ref mbestRow, .int m_bestCost, .int m_bestMany, .int m_bestShelf, .int m_bestSet, .ref mdigits])), (mtold, .inl (cyI, 240, .inl m_told)), (mop, .inl (cyI, 2200, .inl m_op)), (marg, .inl (cyI, 2200, .inl m_arg)), (mfacts, .inl (cyI, 8, .inl (u_4.2.2.1 0))), (mpile, .inl (cyI, 1100, .inl (u_4.2.2.1 1))), (mthr, .inl (cyZ, 144, .inl (u_4.2.2.1 2))), (mmays, .inl (cyZ, 144, .inl (u_4.2.2.1 3))), (mtall, .inl (cyI, 49152, .inl (u_4.2.2.1 4))), (mweights, .inl (cyI, 4096, .inl (u_4.2.2.1 5)))]) (pc2 := 22) (lv2 := [(0, .ref m0), (1, .int p0)]) (st2 := []) rfl rfl rfl rfl ?_
    obtain ⟨hw_5_0, hw_5_1, hw_5_2⟩ := hw_5
    refine j_aload_n (pc := 22) C dX11_needed_22 rfl 0 rfl ?_
    refine j_get (pc := 23) (ci := 11) (v := .ref mneededOf) C inw_11 1 rfl rfl 32 (by decide) wd_940 rfl rfl dX11_needed_23 ?_
    refine j_iconst (pc := 26) (v := 0) C dX11_needed_26 (by decide) ?_
    refine j_iconst (pc := 27) (v := 0) C dX11_needed_27 (by decide) ?_
    obtain ⟨f_6, ef_6⟩ : ∃ z, z = upd m_neededOf 0 0 := ⟨_, rfl⟩
    refine j_iast (pc := 28) (k := 0) (ws' := [(mneededOf, .inl (cyI, 4096, .inl f_6)), (m0, .inr (11, [.int 0, .ref mtape, .int m_taped, .int m_size, .ref msort, .ref mplace, .ref mvalue, .int m_at, .int m_fault, .ref mwords, .ref mtold, .ref mop, .ref marg, .int m_codes, .ref mnames, .ref mhasHabit, .int (u_4.2.1 0), .ref mfactWords, .ref mfacts, .ref mpile, .ref mstates, .ref misMarked, .int m_inShelf, .int m_inStack, .int m_inPlace, .ref mrow, .int m_rowMany, .ref mthr, .ref mmays, .ref mtall, .ref mweights, .ref mrowOfWare, .ref mneededOf, .int m_goShelf, .int m_goStack, .int m_goLeft, .ref mtried, .ref mbestRow, .int m_bestCost, .int m_bestMany, .int m_bestShelf, .int m_bestSet, .ref mdigits])), (mtold, .inl (cyI, 240, .inl m_told)), (mop, .inl (cyI, 2200, .inl m_op)), (marg, .inl (cyI, 2200, .inl m_arg)), (mfacts, .inl (cyI, 8, .inl (u_4.2.2.1 0))), (mpile, .inl (cyI, 1100, .inl (u_4.2.2.1 1))), (mthr, .inl (cyZ, 144, .inl (u_4.2.2.1 2))), (mmays, .inl (cyZ, 144, .inl (u_4.2.2.1 3))), (mtall, .inl (cyI, 49152, .inl (u_4.2.2.1 4))), (mweights, .inl (cyI, 4096, .inl (u_4.2.2.1 5)))]) C 0 1 rfl rfl (by decide) (by decide) (by decide) dX11_needed_28 (by rw [ef_6]; rfl) ?_
    refine j_iconst (pc := 29) (v := 1) C dX11_needed_29 (by decide) ?_
    refine j_istore_n (pc := 30) (lv' := [(2, .int 1), (0, .ref m0), (1, .int p0)]) C dX11_needed_30 rfl (by decide) rfl ?_
    have loop_7 : ∀ (k_7 : Nat) (x7_2 : Int32) (g7_mneededOf : Nat → Int32), (1 ≤ (x7_2).toInt ∧ (x7_2).toInt ≤ 4096) → (4096 - x7_2.toInt).toNat < k_7 → J p l e ({ frames := 5, cells := 0, slots := 0, locals := 117 } : Room) s m args below meth c D A 8 0 0 (QX below D (TY cyC cyI cyJ cyZ cyO) A (fun u => some (.int (u.2.1 0))) (fun u => (0 ≤ (u.2.1 1).toInt ∧ (u.2.1 1).toInt ≤ 1) ∧ (Iv 49152 (0) (100000000) (u.2.2.1 4)) ∧ (((u.2.1 1)).toInt = 0 → TALL m_told (u.2.2.1 3) (u.2.2.1 4))) (fun u => [(m0, .inr (11, [.int 0, .ref mtape, .int m_taped, .int m_size, .ref msort, .ref mplace, .ref mvalue, .int m_at, .int m_fault, .ref mwords, .ref mtold, .ref mop, .ref marg, .int m_codes, .ref mnames, .ref mhasHabit, .int (u.2.1 1), .ref mfactWords, .ref mfacts, .ref mpile, .ref mstates, .ref misMarked, .int m_inShelf, .int m_inStack, .int m_inPlace, .ref mrow, .int m_rowMany, .ref mthr, .ref mmays, .ref mtall, .ref mweights, .ref mrowOfWare, .ref mneededOf, .int m_goShelf, .int m_goStack, .int m_goLeft, .ref mtried, .ref mbestRow, .int m_bestCost, .int m_bestMany, .int m_bestShelf, .int m_bestSet, .ref mdigits])), (mtold, .inl (cyI, 240, .inl m_told)), (mop, .inl (cyI, 2200, .inl m_op)), (marg, .inl (cyI, 2200, .inl m_arg)), (mfacts, .inl (cyI, 8, .inl (u.2.2.1 0))), (mpile, .inl (cyI, 1100, .inl (u.2.2.1 1))), (mthr, .inl (cyZ, 144, .inl (u.2.2.1 2))), (mmays, .inl (cyZ, 144, .inl (u.2.2.1 3))), (mtall, .inl (cyI, 49152, .inl (u.2.2.1 4))), (mweights, .inl (cyI, 4096, .inl (u.2.2.1 5))), (mneededOf, .inl (cyI, 4096, .inl (u.2.2.1 6)))]) args s 0 0) [(mneededOf, .inl (cyI, 4096, .inl g7_mneededOf)), (m0, .inr (11, [.int 0, .ref mtape, .int m_taped, .int m_size, .ref msort, .ref mplace, .ref mvalue, .int m_at, .int m_fault, .ref mwords, .ref mtold, .ref mop, .ref marg, .int m_codes, .ref mnames, .ref mhasHabit, .int (u_4.2.1 0), .ref mfactWords, .ref mfacts, .ref mpile, .ref mstates, .ref misMarked, .int m_inShelf, .int m_inStack, .int m_inPlace, .ref mrow, .int m_rowMany, .ref mthr, .ref mmays, .ref mtall, .ref mweights, .ref mrowOfWare, .ref mneededOf, .int m_goShelf, .int m_goStack, .int m_goLeft, .ref mtried, .ref mbestRow, .int m_bestCost, .int m_bestMany, .int m_bestShelf, .int m_bestSet, .ref mdigits])), (mtold, .inl (cyI, 240, .inl m_told)), (mop, .inl (cyI, 2200, .inl m_op)), (marg, .inl (cyI, 2200, .inl m_arg)), (mfacts, .inl (cyI, 8, .inl (u_4.2.2.1 0))), (mpile, .inl (cyI, 1100, .inl (u_4.2.2.1 1))), (mthr, .inl (cyZ, 144, .inl (u_4.2.2.1 2))), (mmays, .inl (cyZ, 144, .inl (u_4.2.2.1 3))), (mtall, .inl (cyI, 49152, .inl (u_4.2.2.1 4))), (mweights, .inl (cyI, 4096, .inl (u_4.2.2.1 5)))] 31 [(2, .int x7_2), (0, .ref m0), (1, .int p0)] [] := by
      intro k_7
      induction k_7 with
      | zero =>
        intro x7_2 g7_mneededOf hi_7_0 hm_7
        exact absurd hm_7 (Nat.not_lt_zero _)
      | succ k_7 ih_7 =>
        intro x7_2 g7_mneededOf hi_7_0 hm_7
        refine j_iload_n (pc := 31) C dX11_needed_31 rfl 0 rfl ?_
        refine j_iconst (pc := 32) (v := 1) C dX11_needed_32 (by decide) ?_
        refine j_aload_n (pc := 33) C dX11_needed_33 rfl 1 rfl ?_
        refine j_callV (pc := 34) (As := []) (rest := [.int 1, .int x7_2]) (wr := [(mneededOf, .inl (cyI, 4096, .inl g7_mneededOf)), (mop, .inl (cyI, 2200, .inl m_op)), (marg, .inl (cyI, 2200, .inl m_arg)), (mfacts, .inl (cyI, 8, .inl (u_4.2.2.1 0))), (mpile, .inl (cyI, 1100, .inl (u_4.2.2.1 1))), (mthr, .inl (cyZ, 144, .inl (u_4.2.2.1 2))), (mmays, .inl (cyZ, 144, .inl (u_4.2.2.1 3))), (mtall, .inl (cyI, 49152, .inl (u_4.2.2.1 4))), (mweights, .inl (cyI, 4096, .inl (u_4.2.2.1 5)))]) C (c_X11_wares l D cyC cyI cyJ cyZ cyO m0 mtold mtape msort mplace mvalue mwords mop marg mnames mhasHabit mfactWords mfacts mpile mstates misMarked mrow mthr mmays mtall mweights mrowOfWare mneededOf mtried mbestRow mdigits 0 m_taped m_size m_at m_fault m_codes (u_4.2.1 0) m_inShelf m_inStack m_inPlace m_rowMany m_goShelf m_goStack m_goLeft m_bestCost m_bestMany m_bestShelf m_bestSet m_told h_m_taped h_m_size h_m_at h_m_fault h_m_codes (by omega) h_m_inShelf h_m_inStack h_m_inPlace h_m_rowMany h_m_goShelf h_m_bestMany h_m_bestShelf h_m_told) wd_748 wd_624 wd_749 wd_750 wd_751 ⟨by decide, by decide, rfl⟩ rfl ⟨rfl, rfl, by decide, by decide⟩ ⟨by decide, by decide⟩ [1, 2] [0, 3, 4, 5, 6, 7, 8, 9, 10] rfl rfl ⟨by decide, by decide, by decide⟩ 1 rfl rfl rfl (Nat.le_of_ble_eq_true rfl) dX11_needed_34 (fun u_8 hw_9 => ?_)
        refine j_eq (ws2 := [(mneededOf, .inl (cyI, 4096, .inl g7_mneededOf)), (mop, .inl (cyI, 2200, .inl m_op)), (marg, .inl (cyI, 2200, .inl m_arg)), (mfacts, .inl (cyI, 8, .inl (u_4.2.2.1 0))), (mpile, .inl (cyI, 1100, .inl (u_4.2.2.1 1))), (mthr, .inl (cyZ, 144, .inl (u_4.2.2.1 2))), (mmays, .inl (cyZ, 144, .inl (u_4.2.2.1 3))), (mtall, .inl (cyI, 49152, .inl (u_4.2.2.1 4))), (mweights, .inl (cyI, 4096, .inl (u_4.2.2.1 5))), (m0, .inr (11, [.int 0, .ref mtape, .int m_taped, .int m_size, .ref msort, .ref mplace, .ref mvalue, .int m_at, .int m_fault, .ref mwords, .ref mtold, .ref mop, .ref marg, .int m_codes, .ref mnames, .ref mhasHabit, .int (u_4.2.1 0), .ref mfactWords, .ref mfacts, .ref mpile, .ref mstates, .ref misMarked, .int m_inShelf, .int m_inStack, .int m_inPlace, .ref mrow, .int m_rowMany, .ref mthr, .ref mmays, .ref mtall, .ref mweights, .ref mrowOfWare, .ref mneededOf, .int m_goShelf, .int m_goStack, .int m_goLeft, .ref mtried, .ref mbestRow, .int m_bestCost, .int m_bestMany, .int m_bestShelf, .int m_bestSet, .ref mdigits])), (mtold, .inl (cyI, 240, .inl m_told))]) (pc2 := 37) (lv2 := [(2, .int x7_2), (0, .ref m0), (1, .int p0)]) (st2 := [.int (u_8.2.1 0), .int 1, .int x7_2]) rfl rfl rfl rfl ?_
        obtain ⟨hw_9_0, hw_9_1⟩ := hw_9
        obtain ⟨v_10, ev_10⟩ : ∃ z : Int32, 1 <<< ((u_8.2.1 0) &&& 31) = z := ⟨_, rfl⟩
        have el_1 : (1 : Int32).toInt = 1 := rfl
        have hv_10 : 1 ≤ v_10.toInt ∧ v_10.toInt ≤ 4096 := by rw [← ev_10]; exact shl1_iv 0 12 (by omega) (by omega) (by omega)
        refine j_ishl (pc := 37) (v := v_10) C dX11_needed_37 ev_10 ?_
        refine j_icmp_ge (pc := 38) (tgt := 148) C dX11_needed_38 (by decide) (fun c_11 => ?_) (fun c_11 => ?_)
        · skip
          rw [i_le] at c_11
          refine j_aload_n (pc := 148) C dX11_needed_148 rfl 1 rfl ?_
          refine j_get (pc := 149) (ci := 11) (v := .ref mneededOf) C inw_11 9 rfl rfl 32 (by decide) wd_940 rfl rfl dX11_needed_149 ?_
          refine j_iconst (pc := 152) (v := 1) C dX11_needed_152 (by decide) ?_
          refine j_aload_n (pc := 153) C dX11_needed_153 rfl 1 rfl ?_
          refine j_callV (pc := 154) (As := []) (rest := [.int 1, .ref mneededOf]) (wr := [(mneededOf, .inl (cyI, 4096, .inl g7_mneededOf)), (mop, .inl (cyI, 2200, .inl m_op)), (marg, .inl (cyI, 2200, .inl m_arg)), (mfacts, .inl (cyI, 8, .inl (u_4.2.2.1 0))), (mpile, .inl (cyI, 1100, .inl (u_4.2.2.1 1))), (mthr, .inl (cyZ, 144, .inl (u_4.2.2.1 2))), (mmays, .inl (cyZ, 144, .inl (u_4.2.2.1 3))), (mtall, .inl (cyI, 49152, .inl (u_4.2.2.1 4))), (mweights, .inl (cyI, 4096, .inl (u_4.2.2.1 5)))]) C (c_X11_wares l D cyC cyI cyJ cyZ cyO m0 mtold mtape msort mplace mvalue mwords mop marg mnames mhasHabit mfactWords mfacts mpile mstates misMarked mrow mthr mmays mtall mweights mrowOfWare mneededOf mtried mbestRow mdigits 0 m_taped m_size m_at m_fault m_codes (u_4.2.1 0) m_inShelf m_inStack m_inPlace m_rowMany m_goShelf m_goStack m_goLeft m_bestCost m_bestMany m_bestShelf m_bestSet m_told h_m_taped h_m_size h_m_at h_m_fault h_m_codes (by omega) h_m_inShelf h_m_inStack h_m_inPlace h_m_rowMany h_m_goShelf h_m_bestMany h_m_bestShelf h_m_told) wd_748 wd_624 wd_749 wd_750 wd_751 ⟨by decide, by decide, rfl⟩ rfl ⟨rfl, rfl, by decide, by decide⟩ ⟨by decide, by decide⟩ [9, 10] [0, 1, 2, 3, 4, 5, 6, 7, 8] rfl rfl ⟨by decide, by decide, by decide⟩ 9 rfl rfl rfl (Nat.le_of_ble_eq_true rfl) dX11_needed_154 (fun u_12 hw_13 => ?_)
          refine j_eq (ws2 := [(mneededOf, .inl (cyI, 4096, .inl g7_mneededOf)), (mop, .inl (cyI, 2200, .inl m_op)), (marg, .inl (cyI, 2200, .inl m_arg)), (mfacts, .inl (cyI, 8, .inl (u_4.2.2.1 0))), (mpile, .inl (cyI, 1100, .inl (u_4.2.2.1 1))), (mthr, .inl (cyZ, 144, .inl (u_4.2.2.1 2))), (mmays, .inl (cyZ, 144, .inl (u_4.2.2.1 3))), (mtall, .inl (cyI, 49152, .inl (u_4.2.2.1 4))), (mweights, .inl (cyI, 4096, .inl (u_4.2.2.1 5))), (m0, .inr (11, [.int 0, .ref mtape, .int m_taped, .int m_size, .ref msort, .ref mplace, .ref mvalue, .int m_at, .int m_fault, .ref mwords, .ref mtold, .ref mop, .ref marg, .int m_codes, .ref mnames, .ref mhasHabit, .int (u_4.2.1 0), .ref mfactWords, .ref mfacts, .ref mpile, .ref mstates, .ref misMarked, .int m_inShelf, .int m_inStack, .int m_inPlace, .ref mrow, .int m_rowMany, .ref mthr, .ref mmays, .ref mtall, .ref mweights, .ref mrowOfWare, .ref mneededOf, .int m_goShelf, .int m_goStack, .int m_goLeft, .ref mtried, .ref mbestRow, .int m_bestCost, .int m_bestMany, .int m_bestShelf, .int m_bestSet, .ref mdigits])), (mtold, .inl (cyI, 240, .inl m_told))]) (pc2 := 157) (lv2 := [(2, .int x7_2), (0, .ref m0), (1, .int p0)]) (st2 := [.int (u_12.2.1 0), .int 1, .ref mneededOf]) rfl rfl rfl rfl ?_
          obtain ⟨hw_13_0, hw_13_1⟩ := hw_13
          obtain ⟨v_14, ev_14⟩ : ∃ z : Int32, 1 <<< ((u_12.2.1 0) &&& 31) = z := ⟨_, rfl⟩
          have el_1 : (1 : Int32).toInt = 1 := rfl
          have hv_14 : 1 ≤ v_14.toInt ∧ v_14.toInt ≤ 4096 := by rw [← ev_14]; exact shl1_iv 0 12 (by omega) (by omega) (by omega)
          refine j_ishl (pc := 157) (v := v_14) C dX11_needed_157 ev_14 ?_
          refine j_iconst (pc := 158) (v := 1) C dX11_needed_158 (by decide) ?_
          obtain ⟨v_15, ev_15⟩ : ∃ z : Int32, v_14 - 1 = z := ⟨_, rfl⟩
          have el_1 : (1 : Int32).toInt = 1 := rfl
          have hv_15 : v_15.toInt = v_14.toInt - (1 : Int32).toInt := by rw [← ev_15]; exact fb_subI (by omega) (by omega)
          refine j_isub (pc := 159) (v := v_15) C dX11_needed_159 ev_15 ?_
          obtain ⟨v_16, ev_16⟩ : ∃ z, g7_mneededOf (v_15).toInt.toNat = z := ⟨_, rfl⟩
          have env_16 : (g7_mneededOf (v_15).toInt.toNat).toInt = v_16.toInt := by rw [ev_16]
          refine j_iald (pc := 160) (v := v_16) (k := (v_15).toInt.toNat) C 0 1 rfl rfl (i_nn (by omega)) rfl (i_lt_n (by omega) (by omega)) ev_16 dX11_needed_160 ?_
          refine j_istore_n (pc := 161) (lv' := [(2, .int v_16), (0, .ref m0), (1, .int p0)]) C dX11_needed_161 rfl (by decide) rfl ?_
          refine j_iload_n (pc := 162) C dX11_needed_162 rfl 0 rfl ?_
          refine j_ldcw (pc := 163) C wd_899 dX11_needed_163 ?_
          refine j_icmp_ge (pc := 166) (tgt := 173) C dX11_needed_166 (by decide) (fun c_17 => ?_) (fun c_17 => ?_)
          · skip
            have el_100000000 : (100000000 : Int32).toInt = 100000000 := rfl
            rw [i_le] at c_17
            refine j_iconst (pc := 173) (v := (-1)) C dX11_needed_173 (by decide) ?_
            have el_m1 : ((-1) : Int32).toInt = (-1) := rfl
            exact j_iret (pc := 174) C hr hk (fun i => [].getD i 0, fun i => [(-1), (u_4.2.1 0)].getD i 0, fun i => [(u_4.2.2.1 0), (u_4.2.2.1 1), (u_4.2.2.1 2), (u_4.2.2.1 3), (u_4.2.2.1 4), (u_4.2.2.1 5), g7_mneededOf].getD i (fun _ => 0), fun i => [].getD i (fun _ => 0)) rfl (show (0 ≤ ((u_4.2.1 0)).toInt ∧ ((u_4.2.1 0)).toInt ≤ 1) ∧ (Iv 49152 (0) (100000000) (u_4.2.2.1 4)) ∧ (((u_4.2.1 0)).toInt = 0 → TALL m_told (u_4.2.2.1 3) (u_4.2.2.1 4)) from ⟨by omega, hw_5_1, (fun _ => hw_5_2)⟩) [9, 10, 1, 2, 3, 4, 5, 6, 7, 8, 0] (by decide) rfl (by decide) (by decide) dX11_needed_174
          · skip
            have el_100000000 : (100000000 : Int32).toInt = 100000000 := rfl
            rw [i_le] at c_17
            refine j_iload_n (pc := 169) C dX11_needed_169 rfl 0 rfl ?_
            refine j_goto (pc := 170) (tgt := 174) C dX11_needed_170 (by decide) ?_
            exact j_iret (pc := 174) C hr hk (fun i => [].getD i 0, fun i => [v_16, (u_4.2.1 0)].getD i 0, fun i => [(u_4.2.2.1 0), (u_4.2.2.1 1), (u_4.2.2.1 2), (u_4.2.2.1 3), (u_4.2.2.1 4), (u_4.2.2.1 5), g7_mneededOf].getD i (fun _ => 0), fun i => [].getD i (fun _ => 0)) rfl (show (0 ≤ ((u_4.2.1 0)).toInt ∧ ((u_4.2.1 0)).toInt ≤ 1) ∧ (Iv 49152 (0) (100000000) (u_4.2.2.1 4)) ∧ (((u_4.2.1 0)).toInt = 0 → TALL m_told (u_4.2.2.1 3) (u_4.2.2.1 4)) from ⟨by omega, hw_5_1, (fun _ => hw_5_2)⟩) [9, 10, 1, 2, 3, 4, 5, 6, 7, 8, 0] (by decide) rfl (by decide) (by decide) dX11_needed_174
        · skip
          rw [i_le] at c_11
          refine j_iload_n (pc := 41) C dX11_needed_41 rfl 0 rfl ?_
          refine j_iload_n (pc := 42) C dX11_needed_42 rfl 0 rfl ?_
          obtain ⟨v_18, ev_18⟩ : ∃ z : Int32, -x7_2 = z := ⟨_, rfl⟩
          refine j_ineg (pc := 43) (v := v_18) C dX11_needed_43 ev_18 ?_
          obtain ⟨v_19, ev_19⟩ : ∃ z : Int32, x7_2 &&& v_18 = z := ⟨_, rfl⟩
          have hv_19 : 0 ≤ v_19.toInt ∧ v_19.toInt ≤ x7_2.toInt := by rw [← ev_19]; exact andb_l (by omega)
          refine j_iand (pc := 44) (v := v_19) C dX11_needed_44 ev_19 ?_
          refine j_istore_n (pc := 45) (lv' := [(3, .int v_19), (2, .int x7_2), (0, .ref m0), (1, .int p0)]) C dX11_needed_45 rfl (by decide) rfl ?_
          refine j_iload_n (pc := 46) C dX11_needed_46 rfl 1 rfl ?_
          refine j_iload_n (pc := 47) C dX11_needed_47 rfl 0 rfl ?_
          refine j_iconst (pc := 48) (v := (-1)) C dX11_needed_48 (by decide) ?_
          obtain ⟨v_20, ev_20⟩ : ∃ z : Int32, v_19 ^^^ (-1) = z := ⟨_, rfl⟩
          have el_m1 : ((-1) : Int32).toInt = (-1) := rfl
          refine j_ixor (pc := 49) (v := v_20) C dX11_needed_49 ev_20 ?_
          obtain ⟨v_21, ev_21⟩ : ∃ z : Int32, x7_2 &&& v_20 = z := ⟨_, rfl⟩
          have hv_21 : 0 ≤ v_21.toInt ∧ v_21.toInt ≤ x7_2.toInt := by rw [← ev_21]; exact andb_l (by omega)
          refine j_iand (pc := 50) (v := v_21) C dX11_needed_50 ev_21 ?_
          refine j_istore (pc := 51) (lv' := [(4, .int v_21), (3, .int v_19), (2, .int x7_2), (0, .ref m0), (1, .int p0)]) C dX11_needed_51 (by decide) rfl ?_
          refine j_ldcw (pc := 53) C wd_899 dX11_needed_53 ?_
          refine j_istore (pc := 56) (lv' := [(5, .int 100000000), (4, .int v_21), (3, .int v_19), (2, .int x7_2), (0, .ref m0), (1, .int p0)]) C dX11_needed_56 (by decide) rfl ?_
          refine j_iload (pc := 58) C dX11_needed_58 1 rfl ?_
          refine j_istore (pc := 60) (lv' := [(6, .int v_21), (5, .int 100000000), (4, .int v_21), (3, .int v_19), (2, .int x7_2), (0, .ref m0), (1, .int p0)]) C dX11_needed_60 (by decide) rfl ?_
          have loop_22 : ∀ (k_22 : Nat) (x22_6 : Int32) (x22_5 : Int32), (-1 ≤ (x22_6).toInt ∧ (x22_6).toInt ≤ 4095) → (x22_6.toInt + 1).toNat < k_22 → J p l e ({ frames := 5, cells := 0, slots := 0, locals := 117 } : Room) s m args below meth c D A 8 0 0 (QX below D (TY cyC cyI cyJ cyZ cyO) A (fun u => some (.int (u.2.1 0))) (fun u => (0 ≤ (u.2.1 1).toInt ∧ (u.2.1 1).toInt ≤ 1) ∧ (Iv 49152 (0) (100000000) (u.2.2.1 4)) ∧ (((u.2.1 1)).toInt = 0 → TALL m_told (u.2.2.1 3) (u.2.2.1 4))) (fun u => [(m0, .inr (11, [.int 0, .ref mtape, .int m_taped, .int m_size, .ref msort, .ref mplace, .ref mvalue, .int m_at, .int m_fault, .ref mwords, .ref mtold, .ref mop, .ref marg, .int m_codes, .ref mnames, .ref mhasHabit, .int (u.2.1 1), .ref mfactWords, .ref mfacts, .ref mpile, .ref mstates, .ref misMarked, .int m_inShelf, .int m_inStack, .int m_inPlace, .ref mrow, .int m_rowMany, .ref mthr, .ref mmays, .ref mtall, .ref mweights, .ref mrowOfWare, .ref mneededOf, .int m_goShelf, .int m_goStack, .int m_goLeft, .ref mtried, .ref mbestRow, .int m_bestCost, .int m_bestMany, .int m_bestShelf, .int m_bestSet, .ref mdigits])), (mtold, .inl (cyI, 240, .inl m_told)), (mop, .inl (cyI, 2200, .inl m_op)), (marg, .inl (cyI, 2200, .inl m_arg)), (mfacts, .inl (cyI, 8, .inl (u.2.2.1 0))), (mpile, .inl (cyI, 1100, .inl (u.2.2.1 1))), (mthr, .inl (cyZ, 144, .inl (u.2.2.1 2))), (mmays, .inl (cyZ, 144, .inl (u.2.2.1 3))), (mtall, .inl (cyI, 49152, .inl (u.2.2.1 4))), (mweights, .inl (cyI, 4096, .inl (u.2.2.1 5))), (mneededOf, .inl (cyI, 4096, .inl (u.2.2.1 6)))]) args s 0 0) [(mneededOf, .inl (cyI, 4096, .inl g7_mneededOf)), (mop, .inl (cyI, 2200, .inl m_op)), (marg, .inl (cyI, 2200, .inl m_arg)), (mfacts, .inl (cyI, 8, .inl (u_4.2.2.1 0))), (mpile, .inl (cyI, 1100, .inl (u_4.2.2.1 1))), (mthr, .inl (cyZ, 144, .inl (u_4.2.2.1 2))), (mmays, .inl (cyZ, 144, .inl (u_4.2.2.1 3))), (mtall, .inl (cyI, 49152, .inl (u_4.2.2.1 4))), (mweights, .inl (cyI, 4096, .inl (u_4.2.2.1 5))), (m0, .inr (11, [.int 0, .ref mtape, .int m_taped, .int m_size, .ref msort, .ref mplace, .ref mvalue, .int m_at, .int m_fault, .ref mwords, .ref mtold, .ref mop, .ref marg, .int m_codes, .ref mnames, .ref mhasHabit, .int (u_4.2.1 0), .ref mfactWords, .ref mfacts, .ref mpile, .ref mstates, .ref misMarked, .int m_inShelf, .int m_inStack, .int m_inPlace, .ref mrow, .int m_rowMany, .ref mthr, .ref mmays, .ref mtall, .ref mweights, .ref mrowOfWare, .ref mneededOf, .int m_goShelf, .int m_goStack, .int m_goLeft, .ref mtried, .ref mbestRow, .int m_bestCost, .int m_bestMany, .int m_bestShelf, .int m_bestSet, .ref mdigits])), (mtold, .inl (cyI, 240, .inl m_told))] 62 [(6, .int x22_6), (5, .int x22_5), (4, .int v_21), (3, .int v_19), (2, .int x7_2), (0, .ref m0), (1, .int p0)] [] := by
            intro k_22
            induction k_22 with
            | zero =>
              intro x22_6 x22_5 hi_22_0 hm_22
              exact absurd hm_22 (Nat.not_lt_zero _)
            | succ k_22 ih_22 =>
              intro x22_6 x22_5 hi_22_0 hm_22
              refine j_iload (pc := 62) C dX11_needed_62 0 rfl ?_
              refine j_if_lt (pc := 64) (tgt := 134) C dX11_needed_64 (by decide) (fun c_23 => ?_) (fun c_23 => ?_)
              · skip
                have el_0 : (0 : Int32).toInt = 0 := rfl
                rw [i_lt] at c_23
                have k0c_23 : x22_6.toInt = -1 := by omega
                refine j_aload_n (pc := 134) C dX11_needed_134 rfl 5 rfl ?_
                refine j_get (pc := 135) (ci := 11) (v := .ref mneededOf) C inw_11 9 rfl rfl 32 (by decide) wd_940 rfl rfl dX11_needed_135 ?_
                refine j_iload_n (pc := 138) C dX11_needed_138 rfl 4 rfl ?_
                refine j_iload (pc := 139) C dX11_needed_139 1 rfl ?_
                obtain ⟨f_24, ef_24⟩ : ∃ z, z = upd g7_mneededOf (x7_2).toInt.toNat x22_5 := ⟨_, rfl⟩
                refine j_iast (pc := 141) (k := (x7_2).toInt.toNat) (ws' := [(mneededOf, .inl (cyI, 4096, .inl f_24)), (mop, .inl (cyI, 2200, .inl m_op)), (marg, .inl (cyI, 2200, .inl m_arg)), (mfacts, .inl (cyI, 8, .inl (u_4.2.2.1 0))), (mpile, .inl (cyI, 1100, .inl (u_4.2.2.1 1))), (mthr, .inl (cyZ, 144, .inl (u_4.2.2.1 2))), (mmays, .inl (cyZ, 144, .inl (u_4.2.2.1 3))), (mtall, .inl (cyI, 49152, .inl (u_4.2.2.1 4))), (mweights, .inl (cyI, 4096, .inl (u_4.2.2.1 5))), (m0, .inr (11, [.int 0, .ref mtape, .int m_taped, .int m_size, .ref msort, .ref mplace, .ref mvalue, .int m_at, .int m_fault, .ref mwords, .ref mtold, .ref mop, .ref marg, .int m_codes, .ref mnames, .ref mhasHabit, .int (u_4.2.1 0), .ref mfactWords, .ref mfacts, .ref mpile, .ref mstates, .ref misMarked, .int m_inShelf, .int m_inStack, .int m_inPlace, .ref mrow, .int m_rowMany, .ref mthr, .ref mmays, .ref mtall, .ref mweights, .ref mrowOfWare, .ref mneededOf, .int m_goShelf, .int m_goStack, .int m_goLeft, .ref mtried, .ref mbestRow, .int m_bestCost, .int m_bestMany, .int m_bestShelf, .int m_bestSet, .ref mdigits])), (mtold, .inl (cyI, 240, .inl m_told))]) C 0 1 rfl rfl (i_nn (Int.le_trans (by decide) hi_7_0.1)) rfl (i_lt_n (Int.le_trans (by decide) hi_7_0.1) (by omega)) dX11_needed_141 (by rw [ef_24]; rfl) ?_
                obtain ⟨v_25, ev_25⟩ : ∃ z : Int32, x7_2 + 1 = z := ⟨_, rfl⟩
                have el_1 : (1 : Int32).toInt = 1 := rfl
                have hv_25 : v_25.toInt = x7_2.toInt + (1 : Int32).toInt := by rw [← ev_25]; exact fb_addI (by omega) (by omega)
                refine j_iinc (pc := 142) (v := v_25) (lv' := [(2, .int v_25), (6, .int x22_6), (5, .int x22_5), (4, .int v_21), (3, .int v_19), (0, .ref m0), (1, .int p0)]) C dX11_needed_142 4 rfl ev_25 (by decide) rfl ?_
                refine j_goto (pc := 145) (tgt := 31) C dX11_needed_145 (by decide) ?_
                refine j_subG (ws' := [(mneededOf, .inl (cyI, 4096, .inl f_24)), (m0, .inr (11, [.int 0, .ref mtape, .int m_taped, .int m_size, .ref msort, .ref mplace, .ref mvalue, .int m_at, .int m_fault, .ref mwords, .ref mtold, .ref mop, .ref marg, .int m_codes, .ref mnames, .ref mhasHabit, .int (u_4.2.1 0), .ref mfactWords, .ref mfacts, .ref mpile, .ref mstates, .ref misMarked, .int m_inShelf, .int m_inStack, .int m_inPlace, .ref mrow, .int m_rowMany, .ref mthr, .ref mmays, .ref mtall, .ref mweights, .ref mrowOfWare, .ref mneededOf, .int m_goShelf, .int m_goStack, .int m_goLeft, .ref mtried, .ref mbestRow, .int m_bestCost, .int m_bestMany, .int m_bestShelf, .int m_bestSet, .ref mdigits])), (mtold, .inl (cyI, 240, .inl m_told)), (mop, .inl (cyI, 2200, .inl m_op)), (marg, .inl (cyI, 2200, .inl m_arg)), (mfacts, .inl (cyI, 8, .inl (u_4.2.2.1 0))), (mpile, .inl (cyI, 1100, .inl (u_4.2.2.1 1))), (mthr, .inl (cyZ, 144, .inl (u_4.2.2.1 2))), (mmays, .inl (cyZ, 144, .inl (u_4.2.2.1 3))), (mtall, .inl (cyI, 49152, .inl (u_4.2.2.1 4))), (mweights, .inl (cyI, 4096, .inl (u_4.2.2.1 5)))]) [0, 9, 10, 1, 2, 3, 4, 5, 6, 7, 8] (by decide) rfl ?_
                exact j_lv [0, 5, 6] rfl (ih_7 v_25 f_24 (by omega) (by omega))
              · skip
                have el_0 : (0 : Int32).toInt = 0 := rfl
                rw [i_lt] at c_23
                refine j_aload_n (pc := 67) C dX11_needed_67 rfl 5 rfl ?_
                refine j_get (pc := 68) (ci := 11) (v := .ref mneededOf) C inw_11 9 rfl rfl 32 (by decide) wd_940 rfl rfl dX11_needed_68 ?_
                refine j_iload (pc := 71) C dX11_needed_71 2 rfl ?_
                refine j_iload (pc := 73) C dX11_needed_73 0 rfl ?_
                refine j_iconst (pc := 75) (v := (-1)) C dX11_needed_75 (by decide) ?_
                obtain ⟨v_26, ev_26⟩ : ∃ z : Int32, x22_6 ^^^ (-1) = z := ⟨_, rfl⟩
                have el_m1 : ((-1) : Int32).toInt = (-1) := rfl
                refine j_ixor (pc := 76) (v := v_26) C dX11_needed_76 ev_26 ?_
                obtain ⟨v_27, ev_27⟩ : ∃ z : Int32, v_21 &&& v_26 = z := ⟨_, rfl⟩
                have hv_27 : 0 ≤ v_27.toInt ∧ v_27.toInt ≤ v_21.toInt := by rw [← ev_27]; exact andb_l (by omega)
                refine j_iand (pc := 77) (v := v_27) C dX11_needed_77 ev_27 ?_
                obtain ⟨v_28, ev_28⟩ : ∃ z, g7_mneededOf (v_27).toInt.toNat = z := ⟨_, rfl⟩
                have env_28 : (g7_mneededOf (v_27).toInt.toNat).toInt = v_28.toInt := by rw [ev_28]
                refine j_iald (pc := 78) (v := v_28) (k := (v_27).toInt.toNat) C 0 1 rfl rfl (i_nn (by omega)) rfl (i_lt_n (by omega) (by omega)) ev_28 dX11_needed_78 ?_
                refine j_istore (pc := 79) (lv' := [(7, .int v_28), (6, .int x22_6), (5, .int x22_5), (4, .int v_21), (3, .int v_19), (2, .int x7_2), (0, .ref m0), (1, .int p0)]) C dX11_needed_79 (by decide) rfl ?_
                refine j_iload (pc := 81) C dX11_needed_81 0 rfl ?_
                refine j_iconst (pc := 83) (v := 1) C dX11_needed_83 (by decide) ?_
                obtain ⟨v_29, ev_29⟩ : ∃ z : Int32, v_28 + 1 = z := ⟨_, rfl⟩
                have el_1 : (1 : Int32).toInt = 1 := rfl
                refine j_iadd (pc := 84) (v := v_29) C dX11_needed_84 ev_29 ?_
                refine j_iload (pc := 85) C dX11_needed_85 2 rfl ?_
                refine j_icmp_ge (pc := 87) (tgt := 109) C dX11_needed_87 (by decide) (fun c_30 => ?_) (fun c_30 => ?_)
                · skip
                  rw [i_le] at c_30
                  refine j_iload (pc := 109) C dX11_needed_109 2 rfl ?_
                  refine j_istore (pc := 111) (lv' := [(5, .int x22_5), (7, .int v_28), (6, .int x22_6), (4, .int v_21), (3, .int v_19), (2, .int x7_2), (0, .ref m0), (1, .int p0)]) C dX11_needed_111 (by decide) rfl ?_
                  refine j_iload (pc := 113) C dX11_needed_113 2 rfl ?_
                  refine j_if_ne (pc := 115) (tgt := 122) C dX11_needed_115 (by decide) (fun c_31 => ?_) (fun c_31 => ?_)
                  · skip
                    have el_0 : (0 : Int32).toInt = 0 := rfl
                    rw [i_eq] at c_31
                    refine j_iload (pc := 122) C dX11_needed_122 2 rfl ?_
                    refine j_iconst (pc := 124) (v := 1) C dX11_needed_124 (by decide) ?_
                    obtain ⟨v_32, ev_32⟩ : ∃ z : Int32, x22_6 - 1 = z := ⟨_, rfl⟩
                    have el_1 : (1 : Int32).toInt = 1 := rfl
                    have hv_32 : v_32.toInt = x22_6.toInt - (1 : Int32).toInt := by rw [← ev_32]; exact fb_subI (by omega) (by omega)
                    refine j_isub (pc := 125) (v := v_32) C dX11_needed_125 ev_32 ?_
                    refine j_iload (pc := 126) C dX11_needed_126 3 rfl ?_
                    obtain ⟨v_33, ev_33⟩ : ∃ z : Int32, v_32 &&& v_21 = z := ⟨_, rfl⟩
                    have hv_33 : 0 ≤ v_33.toInt ∧ v_33.toInt ≤ v_21.toInt := by rw [← ev_33]; exact andb_r (by omega)
                    have hv_33l : v_33.toInt ≤ v_32.toInt := by rw [← ev_33]; exact (andb_l (by omega)).2
                    refine j_iand (pc := 128) (v := v_33) C dX11_needed_128 ev_33 ?_
                    refine j_istore (pc := 129) (lv' := [(6, .int v_33), (5, .int x22_5), (7, .int v_28), (4, .int v_21), (3, .int v_19), (2, .int x7_2), (0, .ref m0), (1, .int p0)]) C dX11_needed_129 (by decide) rfl ?_
                    refine j_goto (pc := 131) (tgt := 62) C dX11_needed_131 (by decide) ?_
                    exact j_lv [0, 1, 3, 4, 5, 6, 7] rfl (ih_22 v_33 x22_5 (by omega) (by omega))
                  · skip
                    have el_0 : (0 : Int32).toInt = 0 := rfl
                    rw [i_eq] at c_31
                    refine j_iconst (pc := 118) (v := (-1)) C dX11_needed_118 (by decide) ?_
                    refine j_goto (pc := 119) (tgt := 129) C dX11_needed_119 (by decide) ?_
                    refine j_istore (pc := 129) (lv' := [(6, .int (-1)), (5, .int x22_5), (7, .int v_28), (4, .int v_21), (3, .int v_19), (2, .int x7_2), (0, .ref m0), (1, .int p0)]) C dX11_needed_129 (by decide) rfl ?_
                    refine j_goto (pc := 131) (tgt := 62) C dX11_needed_131 (by decide) ?_
                    have el_m1 : ((-1) : Int32).toInt = (-1) := rfl
                    exact j_lv [0, 1, 3, 4, 5, 6, 7] rfl (ih_22 (-1) x22_5 (by decide) (by omega))
                · skip
                  rw [i_le] at c_30
                  refine j_aload_n (pc := 90) C dX11_needed_90 rfl 6 rfl ?_
                  refine j_iload (pc := 91) C dX11_needed_91 1 rfl ?_
                  refine j_iload_n (pc := 93) C dX11_needed_93 rfl 4 rfl ?_
                  obtain ⟨v_34, ev_34⟩ : ∃ z : Int32, x22_6 ||| v_19 = z := ⟨_, rfl⟩
                  have hv_34 : 0 ≤ v_34.toInt ∧ v_34.toInt ≤ 4095 := by rw [← ev_34]; exact orb 12 (by decide) (by omega) (by omega) (by omega) (by omega)
                  refine j_ior (pc := 94) (v := v_34) C dX11_needed_94 ev_34 ?_
                  refine j_iload_n (pc := 95) C dX11_needed_95 rfl 7 rfl ?_
                  refine j_callV (pc := 96) (As := [.int v_34, .int p0]) (rest := []) (wr := [(mneededOf, .inl (cyI, 4096, .inl g7_mneededOf)), (mop, .inl (cyI, 2200, .inl m_op)), (marg, .inl (cyI, 2200, .inl m_arg)), (mfacts, .inl (cyI, 8, .inl (u_4.2.2.1 0))), (mpile, .inl (cyI, 1100, .inl (u_4.2.2.1 1))), (mthr, .inl (cyZ, 144, .inl (u_4.2.2.1 2))), (mmays, .inl (cyZ, 144, .inl (u_4.2.2.1 3))), (mweights, .inl (cyI, 4096, .inl (u_4.2.2.1 5)))]) C (c_X11_canStand l D cyC cyI cyJ cyZ cyO m0 mtold mtall mtape msort mplace mvalue mwords mop marg mnames mhasHabit mfactWords mfacts mpile mstates misMarked mrow mthr mmays mweights mrowOfWare mneededOf mtried mbestRow mdigits v_34 p0 0 m_taped m_size m_at m_fault m_codes (u_4.2.1 0) m_inShelf m_inStack m_inPlace m_rowMany m_goShelf m_goStack m_goLeft m_bestCost m_bestMany m_bestShelf m_bestSet m_told (u_4.2.2.1 4) h_m_taped h_m_size h_m_at h_m_fault h_m_codes (by omega) h_m_inShelf h_m_inStack h_m_inPlace h_m_rowMany h_m_goShelf h_m_bestMany h_m_bestShelf (by omega) h_m_told hw_5_1) wd_941 wd_624 wd_942 wd_943 wd_944 ⟨by decide, by decide, rfl⟩ rfl ⟨rfl, rfl, by decide, by decide⟩ ⟨by decide, by decide⟩ [9, 10, 7] [0, 1, 2, 3, 4, 5, 6, 8] rfl rfl ⟨by decide, by decide, by decide⟩ 9 rfl rfl rfl (Nat.le_of_ble_eq_true rfl) dX11_needed_96 (fun u_35 hw_36 => ?_)
                  refine j_eq (ws2 := [(mneededOf, .inl (cyI, 4096, .inl g7_mneededOf)), (mop, .inl (cyI, 2200, .inl m_op)), (marg, .inl (cyI, 2200, .inl m_arg)), (mfacts, .inl (cyI, 8, .inl (u_4.2.2.1 0))), (mpile, .inl (cyI, 1100, .inl (u_4.2.2.1 1))), (mthr, .inl (cyZ, 144, .inl (u_4.2.2.1 2))), (mmays, .inl (cyZ, 144, .inl (u_4.2.2.1 3))), (mweights, .inl (cyI, 4096, .inl (u_4.2.2.1 5))), (m0, .inr (11, [.int 0, .ref mtape, .int m_taped, .int m_size, .ref msort, .ref mplace, .ref mvalue, .int m_at, .int m_fault, .ref mwords, .ref mtold, .ref mop, .ref marg, .int m_codes, .ref mnames, .ref mhasHabit, .int (u_4.2.1 0), .ref mfactWords, .ref mfacts, .ref mpile, .ref mstates, .ref misMarked, .int m_inShelf, .int m_inStack, .int m_inPlace, .ref mrow, .int m_rowMany, .ref mthr, .ref mmays, .ref mtall, .ref mweights, .ref mrowOfWare, .ref mneededOf, .int m_goShelf, .int m_goStack, .int m_goLeft, .ref mtried, .ref mbestRow, .int m_bestCost, .int m_bestMany, .int m_bestShelf, .int m_bestSet, .ref mdigits])), (mtold, .inl (cyI, 240, .inl m_told)), (mtall, .inl (cyI, 49152, .inl (u_4.2.2.1 4)))]) (pc2 := 99) (lv2 := [(7, .int v_28), (6, .int x22_6), (5, .int x22_5), (4, .int v_21), (3, .int v_19), (2, .int x7_2), (0, .ref m0), (1, .int p0)]) (st2 := [.int (u_35.2.1 0)]) rfl rfl rfl rfl ?_
                  obtain ⟨hw_36_0, hw_36_1⟩ := hw_36
                  refine j_if_eq (pc := 99) (tgt := 109) C dX11_needed_99 (by decide) (fun c_37 => ?_) (fun c_37 => ?_)
                  · skip
                    have el_0 : (0 : Int32).toInt = 0 := rfl
                    rw [i_eq] at c_37
                    refine j_iload (pc := 109) C dX11_needed_109 2 rfl ?_
                    refine j_istore (pc := 111) (lv' := [(5, .int x22_5), (7, .int v_28), (6, .int x22_6), (4, .int v_21), (3, .int v_19), (2, .int x7_2), (0, .ref m0), (1, .int p0)]) C dX11_needed_111 (by decide) rfl ?_
                    refine j_iload (pc := 113) C dX11_needed_113 2 rfl ?_
                    refine j_if_ne (pc := 115) (tgt := 122) C dX11_needed_115 (by decide) (fun c_38 => ?_) (fun c_38 => ?_)
                    · skip
                      have el_0 : (0 : Int32).toInt = 0 := rfl
                      rw [i_eq] at c_38
                      refine j_iload (pc := 122) C dX11_needed_122 2 rfl ?_
                      refine j_iconst (pc := 124) (v := 1) C dX11_needed_124 (by decide) ?_
                      obtain ⟨v_39, ev_39⟩ : ∃ z : Int32, x22_6 - 1 = z := ⟨_, rfl⟩
                      have el_1 : (1 : Int32).toInt = 1 := rfl
                      have hv_39 : v_39.toInt = x22_6.toInt - (1 : Int32).toInt := by rw [← ev_39]; exact fb_subI (by omega) (by omega)
                      refine j_isub (pc := 125) (v := v_39) C dX11_needed_125 ev_39 ?_
                      refine j_iload (pc := 126) C dX11_needed_126 3 rfl ?_
                      obtain ⟨v_40, ev_40⟩ : ∃ z : Int32, v_39 &&& v_21 = z := ⟨_, rfl⟩
                      have hv_40 : 0 ≤ v_40.toInt ∧ v_40.toInt ≤ v_21.toInt := by rw [← ev_40]; exact andb_r (by omega)
                      have hv_40l : v_40.toInt ≤ v_39.toInt := by rw [← ev_40]; exact (andb_l (by omega)).2
                      refine j_iand (pc := 128) (v := v_40) C dX11_needed_128 ev_40 ?_
                      refine j_istore (pc := 129) (lv' := [(6, .int v_40), (5, .int x22_5), (7, .int v_28), (4, .int v_21), (3, .int v_19), (2, .int x7_2), (0, .ref m0), (1, .int p0)]) C dX11_needed_129 (by decide) rfl ?_
                      refine j_goto (pc := 131) (tgt := 62) C dX11_needed_131 (by decide) ?_
                      refine j_subG (ws' := [(mneededOf, .inl (cyI, 4096, .inl g7_mneededOf)), (mop, .inl (cyI, 2200, .inl m_op)), (marg, .inl (cyI, 2200, .inl m_arg)), (mfacts, .inl (cyI, 8, .inl (u_4.2.2.1 0))), (mpile, .inl (cyI, 1100, .inl (u_4.2.2.1 1))), (mthr, .inl (cyZ, 144, .inl (u_4.2.2.1 2))), (mmays, .inl (cyZ, 144, .inl (u_4.2.2.1 3))), (mtall, .inl (cyI, 49152, .inl (u_4.2.2.1 4))), (mweights, .inl (cyI, 4096, .inl (u_4.2.2.1 5))), (m0, .inr (11, [.int 0, .ref mtape, .int m_taped, .int m_size, .ref msort, .ref mplace, .ref mvalue, .int m_at, .int m_fault, .ref mwords, .ref mtold, .ref mop, .ref marg, .int m_codes, .ref mnames, .ref mhasHabit, .int (u_4.2.1 0), .ref mfactWords, .ref mfacts, .ref mpile, .ref mstates, .ref misMarked, .int m_inShelf, .int m_inStack, .int m_inPlace, .ref mrow, .int m_rowMany, .ref mthr, .ref mmays, .ref mtall, .ref mweights, .ref mrowOfWare, .ref mneededOf, .int m_goShelf, .int m_goStack, .int m_goLeft, .ref mtried, .ref mbestRow, .int m_bestCost, .int m_bestMany, .int m_bestShelf, .int m_bestSet, .ref mdigits])), (mtold, .inl (cyI, 240, .inl m_told))]) [0, 1, 2, 3, 4, 5, 6, 10, 7, 8, 9] (by decide) rfl ?_
                      exact j_lv [0, 1, 3, 4, 5, 6, 7] rfl (ih_22 v_40 x22_5 (by omega) (by omega))
                    · skip
                      have el_0 : (0 : Int32).toInt = 0 := rfl
                      rw [i_eq] at c_38
                      refine j_iconst (pc := 118) (v := (-1)) C dX11_needed_118 (by decide) ?_
                      refine j_goto (pc := 119) (tgt := 129) C dX11_needed_119 (by decide) ?_
                      refine j_istore (pc := 129) (lv' := [(6, .int (-1)), (5, .int x22_5), (7, .int v_28), (4, .int v_21), (3, .int v_19), (2, .int x7_2), (0, .ref m0), (1, .int p0)]) C dX11_needed_129 (by decide) rfl ?_
                      refine j_goto (pc := 131) (tgt := 62) C dX11_needed_131 (by decide) ?_
                      have el_m1 : ((-1) : Int32).toInt = (-1) := rfl
                      refine j_subG (ws' := [(mneededOf, .inl (cyI, 4096, .inl g7_mneededOf)), (mop, .inl (cyI, 2200, .inl m_op)), (marg, .inl (cyI, 2200, .inl m_arg)), (mfacts, .inl (cyI, 8, .inl (u_4.2.2.1 0))), (mpile, .inl (cyI, 1100, .inl (u_4.2.2.1 1))), (mthr, .inl (cyZ, 144, .inl (u_4.2.2.1 2))), (mmays, .inl (cyZ, 144, .inl (u_4.2.2.1 3))), (mtall, .inl (cyI, 49152, .inl (u_4.2.2.1 4))), (mweights, .inl (cyI, 4096, .inl (u_4.2.2.1 5))), (m0, .inr (11, [.int 0, .ref mtape, .int m_taped, .int m_size, .ref msort, .ref mplace, .ref mvalue, .int m_at, .int m_fault, .ref mwords, .ref mtold, .ref mop, .ref marg, .int m_codes, .ref mnames, .ref mhasHabit, .int (u_4.2.1 0), .ref mfactWords, .ref mfacts, .ref mpile, .ref mstates, .ref misMarked, .int m_inShelf, .int m_inStack, .int m_inPlace, .ref mrow, .int m_rowMany, .ref mthr, .ref mmays, .ref mtall, .ref mweights, .ref mrowOfWare, .ref mneededOf, .int m_goShelf, .int m_goStack, .int m_goLeft, .ref mtried, .ref mbestRow, .int m_bestCost, .int m_bestMany, .int m_bestShelf, .int m_bestSet, .ref mdigits])), (mtold, .inl (cyI, 240, .inl m_told))]) [0, 1, 2, 3, 4, 5, 6, 10, 7, 8, 9] (by decide) rfl ?_
                      exact j_lv [0, 1, 3, 4, 5, 6, 7] rfl (ih_22 (-1) x22_5 (by decide) (by omega))
                  · skip
                    have el_0 : (0 : Int32).toInt = 0 := rfl
                    rw [i_eq] at c_37
                    have k0c_37 : ((u_35.2.1 0)).toInt = 1 := by omega
                    refine j_iload (pc := 102) C dX11_needed_102 0 rfl ?_
                    refine j_iconst (pc := 104) (v := 1) C dX11_needed_104 (by decide) ?_
                    obtain ⟨v_41, ev_41⟩ : ∃ z : Int32, v_28 + 1 = z := ⟨_, rfl⟩
                    have el_1 : (1 : Int32).toInt = 1 := rfl
                    refine j_iadd (pc := 105) (v := v_41) C dX11_needed_105 ev_41 ?_
                    refine j_goto (pc := 106) (tgt := 111) C dX11_needed_106 (by decide) ?_
                    refine j_istore (pc := 111) (lv' := [(5, .int v_41), (7, .int v_28), (6, .int x22_6), (4, .int v_21), (3, .int v_19), (2, .int x7_2), (0, .ref m0), (1, .int p0)]) C dX11_needed_111 (by decide) rfl ?_
                    refine j_iload (pc := 113) C dX11_needed_113 2 rfl ?_
                    refine j_if_ne (pc := 115) (tgt := 122) C dX11_needed_115 (by decide) (fun c_42 => ?_) (fun c_42 => ?_)
                    · skip
                      have el_0 : (0 : Int32).toInt = 0 := rfl
                      rw [i_eq] at c_42
                      refine j_iload (pc := 122) C dX11_needed_122 2 rfl ?_
                      refine j_iconst (pc := 124) (v := 1) C dX11_needed_124 (by decide) ?_
                      obtain ⟨v_43, ev_43⟩ : ∃ z : Int32, x22_6 - 1 = z := ⟨_, rfl⟩
                      have el_1 : (1 : Int32).toInt = 1 := rfl
                      have hv_43 : v_43.toInt = x22_6.toInt - (1 : Int32).toInt := by rw [← ev_43]; exact fb_subI (by omega) (by omega)
                      refine j_isub (pc := 125) (v := v_43) C dX11_needed_125 ev_43 ?_
                      refine j_iload (pc := 126) C dX11_needed_126 3 rfl ?_
                      obtain ⟨v_44, ev_44⟩ : ∃ z : Int32, v_43 &&& v_21 = z := ⟨_, rfl⟩
                      have hv_44 : 0 ≤ v_44.toInt ∧ v_44.toInt ≤ v_21.toInt := by rw [← ev_44]; exact andb_r (by omega)
                      have hv_44l : v_44.toInt ≤ v_43.toInt := by rw [← ev_44]; exact (andb_l (by omega)).2
                      refine j_iand (pc := 128) (v := v_44) C dX11_needed_128 ev_44 ?_
                      refine j_istore (pc := 129) (lv' := [(6, .int v_44), (5, .int v_41), (7, .int v_28), (4, .int v_21), (3, .int v_19), (2, .int x7_2), (0, .ref m0), (1, .int p0)]) C dX11_needed_129 (by decide) rfl ?_
                      refine j_goto (pc := 131) (tgt := 62) C dX11_needed_131 (by decide) ?_
                      refine j_subG (ws' := [(mneededOf, .inl (cyI, 4096, .inl g7_mneededOf)), (mop, .inl (cyI, 2200, .inl m_op)), (marg, .inl (cyI, 2200, .inl m_arg)), (mfacts, .inl (cyI, 8, .inl (u_4.2.2.1 0))), (mpile, .inl (cyI, 1100, .inl (u_4.2.2.1 1))), (mthr, .inl (cyZ, 144, .inl (u_4.2.2.1 2))), (mmays, .inl (cyZ, 144, .inl (u_4.2.2.1 3))), (mtall, .inl (cyI, 49152, .inl (u_4.2.2.1 4))), (mweights, .inl (cyI, 4096, .inl (u_4.2.2.1 5))), (m0, .inr (11, [.int 0, .ref mtape, .int m_taped, .int m_size, .ref msort, .ref mplace, .ref mvalue, .int m_at, .int m_fault, .ref mwords, .ref mtold, .ref mop, .ref marg, .int m_codes, .ref mnames, .ref mhasHabit, .int (u_4.2.1 0), .ref mfactWords, .ref mfacts, .ref mpile, .ref mstates, .ref misMarked, .int m_inShelf, .int m_inStack, .int m_inPlace, .ref mrow, .int m_rowMany, .ref mthr, .ref mmays, .ref mtall, .ref mweights, .ref mrowOfWare, .ref mneededOf, .int m_goShelf, .int m_goStack, .int m_goLeft, .ref mtried, .ref mbestRow, .int m_bestCost, .int m_bestMany, .int m_bestShelf, .int m_bestSet, .ref mdigits])), (mtold, .inl (cyI, 240, .inl m_told))]) [0, 1, 2, 3, 4, 5, 6, 10, 7, 8, 9] (by decide) rfl ?_
                      exact j_lv [0, 1, 3, 4, 5, 6, 7] rfl (ih_22 v_44 v_41 (by omega) (by omega))
                    · skip
                      have el_0 : (0 : Int32).toInt = 0 := rfl
                      rw [i_eq] at c_42
                      refine j_iconst (pc := 118) (v := (-1)) C dX11_needed_118 (by decide) ?_
                      refine j_goto (pc := 119) (tgt := 129) C dX11_needed_119 (by decide) ?_
                      refine j_istore (pc := 129) (lv' := [(6, .int (-1)), (5, .int v_41), (7, .int v_28), (4, .int v_21), (3, .int v_19), (2, .int x7_2), (0, .ref m0), (1, .int p0)]) C dX11_needed_129 (by decide) rfl ?_
                      refine j_goto (pc := 131) (tgt := 62) C dX11_needed_131 (by decide) ?_
                      have el_m1 : ((-1) : Int32).toInt = (-1) := rfl
                      refine j_subG (ws' := [(mneededOf, .inl (cyI, 4096, .inl g7_mneededOf)), (mop, .inl (cyI, 2200, .inl m_op)), (marg, .inl (cyI, 2200, .inl m_arg)), (mfacts, .inl (cyI, 8, .inl (u_4.2.2.1 0))), (mpile, .inl (cyI, 1100, .inl (u_4.2.2.1 1))), (mthr, .inl (cyZ, 144, .inl (u_4.2.2.1 2))), (mmays, .inl (cyZ, 144, .inl (u_4.2.2.1 3))), (mtall, .inl (cyI, 49152, .inl (u_4.2.2.1 4))), (mweights, .inl (cyI, 4096, .inl (u_4.2.2.1 5))), (m0, .inr (11, [.int 0, .ref mtape, .int m_taped, .int m_size, .ref msort, .ref mplace, .ref mvalue, .int m_at, .int m_fault, .ref mwords, .ref mtold, .ref mop, .ref marg, .int m_codes, .ref mnames, .ref mhasHabit, .int (u_4.2.1 0), .ref mfactWords, .ref mfacts, .ref mpile, .ref mstates, .ref misMarked, .int m_inShelf, .int m_inStack, .int m_inPlace, .ref mrow, .int m_rowMany, .ref mthr, .ref mmays, .ref mtall, .ref mweights, .ref mrowOfWare, .ref mneededOf, .int m_goShelf, .int m_goStack, .int m_goLeft, .ref mtried, .ref mbestRow, .int m_bestCost, .int m_bestMany, .int m_bestShelf, .int m_bestSet, .ref mdigits])), (mtold, .inl (cyI, 240, .inl m_told))]) [0, 1, 2, 3, 4, 5, 6, 10, 7, 8, 9] (by decide) rfl ?_
                      exact j_lv [0, 1, 3, 4, 5, 6, 7] rfl (ih_22 (-1) v_41 (by decide) (by omega))
          have el_100000000 : (100000000 : Int32).toInt = 100000000 := rfl
          exact j_lv [0, 1, 2, 3, 4, 5, 6] rfl (loop_22 5000 v_21 100000000 (by omega) (by omega))
    have el_1 : (1 : Int32).toInt = 1 := rfl
    exact j_lv [0, 1, 2] rfl (loop_7 5000 1 f_6 (by decide) (by omega))
  · skip
    have el_0 : (0 : Int32).toInt = 0 := rfl
    rw [i_eq] at c_3
    refine j_iconst (pc := 16) (v := (-1)) C dX11_needed_16 (by decide) ?_
    have el_m1 : ((-1) : Int32).toInt = (-1) := rfl
    exact j_iret (pc := 17) C hr hk (fun i => [].getD i 0, fun i => [(-1), m_isNew].getD i 0, fun i => [m_facts, m_pile, m_thr, m_mays, m_tall, m_weights, m_neededOf].getD i (fun _ => 0), fun i => [].getD i (fun _ => 0)) rfl (show (0 ≤ (m_isNew).toInt ∧ (m_isNew).toInt ≤ 1) ∧ (Iv 49152 (0) (100000000) m_tall) ∧ ((m_isNew).toInt = 0 → TALL m_told m_mays m_tall) from ⟨h_m_isNew, h_m_tall, hTA⟩) [0, 1, 2, 3, 4, 5, 6, 7, 8, 9, 10] (by decide) rfl (by decide) (by decide) dX11_needed_17
set_option maxHeartbeats 4000000 in
set_option maxRecDepth 100000 in
theorem c_X11_mayFollow (l : Launch) (D : DG) (cyC cyI cyJ cyZ cyO : ClassId) (m0 : Nat) (mtold : Nat) (mmays : Nat) (mtall : Nat) (mtape : Nat) (msort : Nat) (mplace : Nat) (mvalue : Nat) (mwords : Nat) (mop : Nat) (marg : Nat) (mnames : Nat) (mhasHabit : Nat) (mfactWords : Nat) (mfacts : Nat) (mpile : Nat) (mstates : Nat) (misMarked : Nat) (mrow : Nat) (mthr : Nat) (mweights : Nat) (mrowOfWare : Nat) (mneededOf : Nat) (mtried : Nat) (mbestRow : Nat) (mdigits : Nat) (p0 : Int32) (p1 : Int32) (p2 : Int32) (p3 : Int32) (p4 : Int32) (m_thrown : Int32) (m_taped : Int32) (m_size : Int32) (m_at : Int32) (m_fault : Int32) (m_codes : Int32) (m_isNew : Int32) (m_inShelf : Int32) (m_inStack : Int32) (m_inPlace : Int32) (m_rowMany : Int32) (m_goShelf : Int32) (m_goStack : Int32) (m_goLeft : Int32) (m_bestCost : Int32) (m_bestMany : Int32) (m_bestShelf : Int32) (m_bestSet : Int32) (m_told : Nat → Int32) (m_mays : Nat → Int32) (m_tall : Nat → Int32) (h_m_taped : 0 ≤ (m_taped).toInt ∧ (m_taped).toInt ≤ 1000) (h_m_size : 0 ≤ (m_size).toInt ∧ (m_size).toInt ≤ 1000) (h_m_at : 0 ≤ (m_at).toInt ∧ (m_at).toInt ≤ 1000) (h_m_fault : 0 ≤ (m_fault).toInt ∧ (m_fault).toInt ≤ 16005) (h_m_codes : 0 ≤ (m_codes).toInt ∧ (m_codes).toInt ≤ 1000) (h_m_isNew : 0 ≤ (m_isNew).toInt ∧ (m_isNew).toInt ≤ 1) (h_m_inShelf : 0 ≤ (m_inShelf).toInt ∧ (m_inShelf).toInt ≤ 3) (h_m_inStack : 0 ≤ (m_inStack).toInt ∧ (m_inStack).toInt ≤ 7) (h_m_inPlace : 0 ≤ (m_inPlace).toInt ∧ (m_inPlace).toInt ≤ 11) (h_m_rowMany : 0 ≤ (m_rowMany).toInt ∧ (m_rowMany).toInt ≤ 12) (h_m_goShelf : -1 ≤ (m_goShelf).toInt ∧ (m_goShelf).toInt ≤ 3) (h_m_bestMany : 0 ≤ (m_bestMany).toInt ∧ (m_bestMany).toInt ≤ 7) (h_m_bestShelf : 0 ≤ (m_bestShelf).toInt ∧ (m_bestShelf).toInt ≤ 3) (h_p0 : 0 ≤ (p0).toInt ∧ (p0).toInt ≤ 11) (h_p1 : 0 ≤ (p1).toInt ∧ (p1).toInt ≤ 4095) (h_p2 : -1 ≤ (p2).toInt ∧ (p2).toInt ≤ 11) (h_p3 : 0 ≤ (p3).toInt ∧ (p3).toInt ≤ 999) (h_p4 : 1 ≤ (p4).toInt ∧ (p4).toInt ≤ 999) (h_m_told : TV m_told) (h_m_tall : Iv 49152 (0) (100000000) m_tall) : KK l D (TY cyC cyI cyJ cyZ cyO) yX11_mayFollow cX11_mayFollow 6 (some .boolean) ({ frames := 2, cells := 0, slots := 0, locals := 44 } : Room) 0 0 [.ref m0, .int p0, .int p1, .int p2, .int p3, .int p4] [(m0, .inr (11, [.int m_thrown, .ref mtape, .int m_taped, .int m_size, .ref msort, .ref mplace, .ref mvalue, .int m_at, .int m_fault, .ref mwords, .ref mtold, .ref mop, .ref marg, .int m_codes, .ref mnames, .ref mhasHabit, .int m_isNew, .ref mfactWords, .ref mfacts, .ref mpile, .ref mstates, .ref misMarked, .int m_inShelf, .int m_inStack, .int m_inPlace, .ref mrow, .int m_rowMany, .ref mthr, .ref mmays, .ref mtall, .ref mweights, .ref mrowOfWare, .ref mneededOf, .int m_goShelf, .int m_goStack, .int m_goLeft, .ref mtried, .ref mbestRow, .int m_bestCost, .int m_bestMany, .int m_bestShelf, .int m_bestSet, .ref mdigits])), (mtold, .inl (cyI, 240, .inl m_told)), (mmays, .inl (cyZ, 144, .inl m_mays)), (mtall, .inl (cyI, 49152, .inl m_tall))] (fun u => some (.int (u.2.1 0))) (fun u => (0 ≤ (u.2.1 0).toInt ∧ (u.2.1 0).toInt ≤ 1) ∧ ((u.2.1 0).toInt = 1 → FO m_told m_mays m_tall p0 p1 p2 p3 p4) ∧ ((u.2.1 0).toInt = 0 → ¬ FO m_told m_mays m_tall p0 p1 p2 p3 p4)) (fun u => [(m0, .inr (11, [.int m_thrown, .ref mtape, .int m_taped, .int m_size, .ref msort, .ref mplace, .ref mvalue, .int m_at, .int m_fault, .ref mwords, .ref mtold, .ref mop, .ref marg, .int m_codes, .ref mnames, .ref mhasHabit, .int m_isNew, .ref mfactWords, .ref mfacts, .ref mpile, .ref mstates, .ref misMarked, .int m_inShelf, .int m_inStack, .int m_inPlace, .ref mrow, .int m_rowMany, .ref mthr, .ref mmays, .ref mtall, .ref mweights, .ref mrowOfWare, .ref mneededOf, .int m_goShelf, .int m_goStack, .int m_goLeft, .ref mtried, .ref mbestRow, .int m_bestCost, .int m_bestMany, .int m_bestShelf, .int m_bestSet, .ref mdigits])), (mtold, .inl (cyI, 240, .inl m_told)), (mmays, .inl (cyZ, 144, .inl m_mays)), (mtall, .inl (cyI, 49152, .inl m_tall))]) := by
  refine KK.of (lv0 := [(0, .ref m0), (1, .int p0), (2, .int p1), (3, .int p2), (4, .int p3), (5, .int p4)]) (by decide) rfl (Nat.le_of_ble_eq_true rfl) ?_
  intro p e s m args below meth c A C hr hk hin
  refine j_iload_n (pc := 0) C dX11_mayFollow_0 rfl 2 rfl ?_
  refine j_iload_n (pc := 1) C dX11_mayFollow_1 rfl 1 rfl ?_
  obtain ⟨v_1, ev_1⟩ : ∃ z : Int32, p1 >>> (p0 &&& 31) = z := ⟨_, rfl⟩
  refine j_ishr (pc := 2) (v := v_1) C dX11_mayFollow_2 ev_1 ?_
  refine j_iconst (pc := 3) (v := 1) C dX11_mayFollow_3 (by decide) ?_
  obtain ⟨v_2, ev_2⟩ : ∃ z : Int32, v_1 &&& 1 = z := ⟨_, rfl⟩
  have el_1 : (1 : Int32).toInt = 1 := rfl
  have hv_2 : 0 ≤ v_2.toInt ∧ v_2.toInt ≤ 1 := by rw [← ev_2]; exact and1_r _
  refine j_iand (pc := 4) (v := v_2) C dX11_mayFollow_4 ev_2 ?_
  refine j_if_eq (pc := 5) (tgt := 26) C dX11_mayFollow_5 (by decide) (fun c_3 => ?_) (fun c_3 => ?_)
  · skip
    have el_0 : (0 : Int32).toInt = 0 := rfl
    rw [i_eq] at c_3
    refine j_iconst (pc := 26) (v := 0) C dX11_mayFollow_26 (by decide) ?_
    have el_0 : (0 : Int32).toInt = 0 := rfl
    have el_0 : (0 : Int32).toInt = 0 := rfl
    have el_0 : (0 : Int32).toInt = 0 := rfl
    exact j_zret (pc := 27) C hr rfl hk (fun i => [].getD i 0, fun i => [0].getD i 0, fun i => [].getD i (fun _ => 0), fun i => [].getD i (fun _ => 0)) rfl (show (0 ≤ ((0 : Int32)).toInt ∧ ((0 : Int32)).toInt ≤ 1) ∧ ((0 : Int32).toInt = 1 → FO m_told m_mays m_tall p0 p1 p2 p3 p4) ∧ ((0 : Int32).toInt = 0 → ¬ FO m_told m_mays m_tall p0 p1 p2 p3 p4) from ⟨by omega, (fun h => absurd h (by decide)), (fun _ z => by (have z1 := z.1; unfold bI at z1; rw [ev_1, ev_2] at z1; omega))⟩) [0, 1, 2, 3] (by decide) rfl (by decide) (by decide) dX11_mayFollow_27
  · skip
    have el_0 : (0 : Int32).toInt = 0 := rfl
    rw [i_eq] at c_3
    have k0c_3 : v_2.toInt = 1 := by omega
    refine j_iload_n (pc := 8) C dX11_mayFollow_8 rfl 3 rfl ?_
    refine j_if_lt (pc := 9) (tgt := 28) C dX11_mayFollow_9 (by decide) (fun c_4 => ?_) (fun c_4 => ?_)
    · skip
      have el_0 : (0 : Int32).toInt = 0 := rfl
      rw [i_lt] at c_4
      have k0c_4 : p2.toInt = -1 := by omega
      refine j_iload (pc := 28) C dX11_mayFollow_28 4 rfl ?_
      refine j_iload_n (pc := 30) C dX11_mayFollow_30 rfl 3 rfl ?_
      have el_0 : (0 : Int32).toInt = 0 := rfl
      refine j_if_ge_f (pc := 31) (tgt := 38) C dX11_mayFollow_31 (by decide) (by rw [i_le]; omega) ?_
      refine j_iconst (pc := 34) (v := 0) C dX11_mayFollow_34 (by decide) ?_
      refine j_goto (pc := 35) (tgt := 44) C dX11_mayFollow_35 (by decide) ?_
      obtain ⟨v_5, ev_5⟩ : ∃ z : Int32, p3 + 0 = z := ⟨_, rfl⟩
      have el_0 : (0 : Int32).toInt = 0 := rfl
      have hv_5 : v_5.toInt = p3.toInt + (0 : Int32).toInt := by rw [← ev_5]; exact fb_addI (by omega) (by omega)
      refine j_iadd (pc := 44) (v := v_5) C dX11_mayFollow_44 ev_5 ?_
      refine j_aload_n (pc := 45) C dX11_mayFollow_45 rfl 0 rfl ?_
      refine j_get (pc := 46) (ci := 11) (v := .ref mtall) C inw_11 0 rfl rfl 29 (by decide) wd_901 rfl rfl dX11_mayFollow_46 ?_
      refine j_bipush (pc := 49) (v := 12) C dX11_mayFollow_49 (by decide) ?_
      refine j_iload_n (pc := 51) C dX11_mayFollow_51 rfl 2 rfl ?_
      obtain ⟨v_6, ev_6⟩ : ∃ z : Int32, 12 * p1 = z := ⟨_, rfl⟩
      have el_12 : (12 : Int32).toInt = 12 := rfl
      have hv_6 : v_6.toInt = 12 * p1.toInt := by rw [← ev_6]; exact mulL (c := 12) rfl (by omega) (by omega)
      refine j_imul (pc := 52) (v := v_6) C dX11_mayFollow_52 ev_6 ?_
      refine j_iload_n (pc := 53) C dX11_mayFollow_53 rfl 1 rfl ?_
      obtain ⟨v_7, ev_7⟩ : ∃ z : Int32, v_6 + p0 = z := ⟨_, rfl⟩
      have hv_7 : v_7.toInt = v_6.toInt + p0.toInt := by rw [← ev_7]; exact fb_addI (by omega) (by omega)
      refine j_iadd (pc := 54) (v := v_7) C dX11_mayFollow_54 ev_7 ?_
      obtain ⟨v_8, ev_8⟩ : ∃ z, m_tall (v_7).toInt.toNat = z := ⟨_, rfl⟩
      have env_8 : (m_tall (v_7).toInt.toNat).toInt = v_8.toInt := by rw [ev_8]
      have hv_8 := h_m_tall (v_7).toInt.toNat (i_lt_n (by omega) (by omega)); rw [ev_8] at hv_8
      refine j_iald (pc := 55) (v := v_8) (k := (v_7).toInt.toNat) C 3 1 rfl rfl (i_nn (by omega)) rfl (i_lt_n (by omega) (by omega)) ev_8 dX11_mayFollow_55 ?_
      obtain ⟨v_9, ev_9⟩ : ∃ z : Int32, v_5 + v_8 = z := ⟨_, rfl⟩
      have hv_9 : v_9.toInt = v_5.toInt + v_8.toInt := by rw [← ev_9]; exact fb_addI (by omega) (by omega)
      refine j_iadd (pc := 56) (v := v_9) C dX11_mayFollow_56 ev_9 ?_
      refine j_iload (pc := 57) C dX11_mayFollow_57 5 rfl ?_
      refine j_icmp_gt (pc := 59) (tgt := 66) C dX11_mayFollow_59 (by decide) (fun c_10 => ?_) (fun c_10 => ?_)
      · skip
        rw [i_lt] at c_10
        refine j_iconst (pc := 66) (v := 0) C dX11_mayFollow_66 (by decide) ?_
        have el_0 : (0 : Int32).toInt = 0 := rfl
        have el_0 : (0 : Int32).toInt = 0 := rfl
        have el_0 : (0 : Int32).toInt = 0 := rfl
        exact j_zret (pc := 67) C hr rfl hk (fun i => [].getD i 0, fun i => [0].getD i 0, fun i => [].getD i (fun _ => 0), fun i => [].getD i (fun _ => 0)) rfl (show (0 ≤ ((0 : Int32)).toInt ∧ ((0 : Int32)).toInt ≤ 1) ∧ ((0 : Int32).toInt = 1 → FO m_told m_mays m_tall p0 p1 p2 p3 p4) ∧ ((0 : Int32).toInt = 0 → ¬ FO m_told m_mays m_tall p0 p1 p2 p3 p4) from ⟨by omega, (fun h => absurd h (by decide)), (fun _ z => by (have z3 := z.2.2; rw [show 12 * (p1).toInt.toNat + (p0).toInt.toNat = (v_7).toInt.toNat from (by omega), ev_8, if_pos (by omega)] at z3; omega))⟩) [0, 1, 2, 3] (by decide) rfl (by decide) (by decide) dX11_mayFollow_67
      · skip
        rw [i_lt] at c_10
        refine j_iconst (pc := 62) (v := 1) C dX11_mayFollow_62 (by decide) ?_
        refine j_goto (pc := 63) (tgt := 67) C dX11_mayFollow_63 (by decide) ?_
        have el_1 : (1 : Int32).toInt = 1 := rfl
        have el_1 : (1 : Int32).toInt = 1 := rfl
        have el_1 : (1 : Int32).toInt = 1 := rfl
        exact j_zret (pc := 67) C hr rfl hk (fun i => [].getD i 0, fun i => [1].getD i 0, fun i => [].getD i (fun _ => 0), fun i => [].getD i (fun _ => 0)) rfl (show (0 ≤ ((1 : Int32)).toInt ∧ ((1 : Int32)).toInt ≤ 1) ∧ ((1 : Int32).toInt = 1 → FO m_told m_mays m_tall p0 p1 p2 p3 p4) ∧ ((1 : Int32).toInt = 0 → ¬ FO m_told m_mays m_tall p0 p1 p2 p3 p4) from ⟨by omega, (fun _ => ⟨by (unfold bI; rw [ev_1, ev_2]; omega), fun h => absurd h (by omega), by (rw [show 12 * (p1).toInt.toNat + (p0).toInt.toNat = (v_7).toInt.toNat from (by omega), ev_8, if_pos (by omega)]; omega)⟩), (fun h => absurd h (by decide))⟩) [0, 1, 2, 3] (by decide) rfl (by decide) (by decide) dX11_mayFollow_67
    · skip
      have el_0 : (0 : Int32).toInt = 0 := rfl
      rw [i_lt] at c_4
      refine j_aload_n (pc := 12) C dX11_mayFollow_12 rfl 0 rfl ?_
      refine j_get (pc := 13) (ci := 11) (v := .ref mmays) C inw_11 0 rfl rfl 28 (by decide) wd_900 rfl rfl dX11_mayFollow_13 ?_
      refine j_bipush (pc := 16) (v := 12) C dX11_mayFollow_16 (by decide) ?_
      refine j_iload_n (pc := 18) C dX11_mayFollow_18 rfl 1 rfl ?_
      obtain ⟨v_11, ev_11⟩ : ∃ z : Int32, 12 * p0 = z := ⟨_, rfl⟩
      have el_12 : (12 : Int32).toInt = 12 := rfl
      have hv_11 : v_11.toInt = 12 * p0.toInt := by rw [← ev_11]; exact mulL (c := 12) rfl (by omega) (by omega)
      refine j_imul (pc := 19) (v := v_11) C dX11_mayFollow_19 ev_11 ?_
      refine j_iload_n (pc := 20) C dX11_mayFollow_20 rfl 3 rfl ?_
      obtain ⟨v_12, ev_12⟩ : ∃ z : Int32, v_11 + p2 = z := ⟨_, rfl⟩
      have hv_12 : v_12.toInt = v_11.toInt + p2.toInt := by rw [← ev_12]; exact fb_addI (by omega) (by omega)
      refine j_iadd (pc := 21) (v := v_12) C dX11_mayFollow_21 ev_12 ?_
      obtain ⟨v_13, ev_13⟩ : ∃ z, m_mays (v_12).toInt.toNat = z := ⟨_, rfl⟩
      have env_13 : (m_mays (v_12).toInt.toNat).toInt = v_13.toInt := by rw [ev_13]
      refine j_zald (pc := 22) (v := v_13) (k := (v_12).toInt.toNat) C 2 3 rfl rfl (i_nn (by omega)) rfl (i_lt_n (by omega) (by omega)) ev_13 dX11_mayFollow_22 ?_
      refine j_if_ne (pc := 23) (tgt := 28) C dX11_mayFollow_23 (by decide) (fun c_14 => ?_) (fun c_14 => ?_)
      · skip
        have el_0 : (0 : Int32).toInt = 0 := rfl
        rw [i_eq] at c_14
        refine j_iload (pc := 28) C dX11_mayFollow_28 4 rfl ?_
        refine j_iload_n (pc := 30) C dX11_mayFollow_30 rfl 3 rfl ?_
        have el_0 : (0 : Int32).toInt = 0 := rfl
        refine j_if_ge_t (pc := 31) (tgt := 38) C dX11_mayFollow_31 (by decide) (by rw [i_le]; omega) ?_
        refine j_aload_n (pc := 38) C dX11_mayFollow_38 rfl 0 rfl ?_
        refine j_iload_n (pc := 39) C dX11_mayFollow_39 rfl 1 rfl ?_
        refine j_iload_n (pc := 40) C dX11_mayFollow_40 rfl 3 rfl ?_
        refine j_callV (pc := 41) (As := [.int p0, .int p2]) (rest := [.int p3]) (wr := [(mmays, .inl (cyZ, 144, .inl m_mays)), (mtall, .inl (cyI, 49152, .inl m_tall))]) C (c_X11_rises_f l D cyC cyI cyJ cyZ cyO m0 mtold mtape msort mplace mvalue mwords mop marg mnames mhasHabit mfactWords mfacts mpile mstates misMarked mrow mthr mmays mtall mweights mrowOfWare mneededOf mtried mbestRow mdigits p0 p2 m_thrown m_taped m_size m_at m_fault m_codes m_isNew m_inShelf m_inStack m_inPlace m_rowMany m_goShelf m_goStack m_goLeft m_bestCost m_bestMany m_bestShelf m_bestSet m_told h_m_taped h_m_size h_m_at h_m_fault h_m_codes h_m_isNew h_m_inShelf h_m_inStack h_m_inPlace h_m_rowMany h_m_goShelf h_m_bestMany h_m_bestShelf h_p0 (by omega) h_m_told) wd_789 wd_624 wd_790 wd_791 wd_792 ⟨by decide, by decide, rfl⟩ rfl ⟨rfl, rfl, by decide, by decide⟩ ⟨by decide, by decide⟩ [0, 1] [2, 3] rfl rfl ⟨by decide, by decide, by decide⟩ 0 rfl rfl rfl (Nat.le_of_ble_eq_true rfl) dX11_mayFollow_41 (fun u_15 hw_16 => ?_)
        refine j_eq (ws2 := [(mmays, .inl (cyZ, 144, .inl m_mays)), (mtall, .inl (cyI, 49152, .inl m_tall)), (m0, .inr (11, [.int m_thrown, .ref mtape, .int m_taped, .int m_size, .ref msort, .ref mplace, .ref mvalue, .int m_at, .int m_fault, .ref mwords, .ref mtold, .ref mop, .ref marg, .int m_codes, .ref mnames, .ref mhasHabit, .int m_isNew, .ref mfactWords, .ref mfacts, .ref mpile, .ref mstates, .ref misMarked, .int m_inShelf, .int m_inStack, .int m_inPlace, .ref mrow, .int m_rowMany, .ref mthr, .ref mmays, .ref mtall, .ref mweights, .ref mrowOfWare, .ref mneededOf, .int m_goShelf, .int m_goStack, .int m_goLeft, .ref mtried, .ref mbestRow, .int m_bestCost, .int m_bestMany, .int m_bestShelf, .int m_bestSet, .ref mdigits])), (mtold, .inl (cyI, 240, .inl m_told))]) (pc2 := 44) (lv2 := [(0, .ref m0), (1, .int p0), (2, .int p1), (3, .int p2), (4, .int p3), (5, .int p4)]) (st2 := [.int (u_15.2.1 0), .int p3]) rfl rfl rfl rfl ?_
        obtain ⟨hw_16_0, hw_16_1⟩ := hw_16
        obtain ⟨v_17, ev_17⟩ : ∃ z : Int32, p3 + (u_15.2.1 0) = z := ⟨_, rfl⟩
        have hv_17 : v_17.toInt = p3.toInt + ((u_15.2.1 0)).toInt := by rw [← ev_17]; exact fb_addI (by omega) (by omega)
        refine j_iadd (pc := 44) (v := v_17) C dX11_mayFollow_44 ev_17 ?_
        refine j_aload_n (pc := 45) C dX11_mayFollow_45 rfl 0 rfl ?_
        refine j_get (pc := 46) (ci := 11) (v := .ref mtall) C inw_11 2 rfl rfl 29 (by decide) wd_901 rfl rfl dX11_mayFollow_46 ?_
        refine j_bipush (pc := 49) (v := 12) C dX11_mayFollow_49 (by decide) ?_
        refine j_iload_n (pc := 51) C dX11_mayFollow_51 rfl 2 rfl ?_
        obtain ⟨v_18, ev_18⟩ : ∃ z : Int32, 12 * p1 = z := ⟨_, rfl⟩
        have el_12 : (12 : Int32).toInt = 12 := rfl
        have hv_18 : v_18.toInt = 12 * p1.toInt := by rw [← ev_18]; exact mulL (c := 12) rfl (by omega) (by omega)
        refine j_imul (pc := 52) (v := v_18) C dX11_mayFollow_52 ev_18 ?_
        refine j_iload_n (pc := 53) C dX11_mayFollow_53 rfl 1 rfl ?_
        obtain ⟨v_19, ev_19⟩ : ∃ z : Int32, v_18 + p0 = z := ⟨_, rfl⟩
        have hv_19 : v_19.toInt = v_18.toInt + p0.toInt := by rw [← ev_19]; exact fb_addI (by omega) (by omega)
        refine j_iadd (pc := 54) (v := v_19) C dX11_mayFollow_54 ev_19 ?_
        obtain ⟨v_20, ev_20⟩ : ∃ z, m_tall (v_19).toInt.toNat = z := ⟨_, rfl⟩
        have env_20 : (m_tall (v_19).toInt.toNat).toInt = v_20.toInt := by rw [ev_20]
        have hv_20 := h_m_tall (v_19).toInt.toNat (i_lt_n (by omega) (by omega)); rw [ev_20] at hv_20
        refine j_iald (pc := 55) (v := v_20) (k := (v_19).toInt.toNat) C 1 1 rfl rfl (i_nn (by omega)) rfl (i_lt_n (by omega) (by omega)) ev_20 dX11_mayFollow_55 ?_
        obtain ⟨v_21, ev_21⟩ : ∃ z : Int32, v_17 + v_20 = z := ⟨_, rfl⟩
        have hv_21 : v_21.toInt = v_17.toInt + v_20.toInt := by rw [← ev_21]; exact fb_addI (by omega) (by omega)
        refine j_iadd (pc := 56) (v := v_21) C dX11_mayFollow_56 ev_21 ?_
        refine j_iload (pc := 57) C dX11_mayFollow_57 5 rfl ?_
        refine j_icmp_gt (pc := 59) (tgt := 66) C dX11_mayFollow_59 (by decide) (fun c_22 => ?_) (fun c_22 => ?_)
        · skip
          rw [i_lt] at c_22
          refine j_iconst (pc := 66) (v := 0) C dX11_mayFollow_66 (by decide) ?_
          have el_0 : (0 : Int32).toInt = 0 := rfl
          have el_0 : (0 : Int32).toInt = 0 := rfl
          have el_0 : (0 : Int32).toInt = 0 := rfl
          exact j_zret (pc := 67) C hr rfl hk (fun i => [].getD i 0, fun i => [0].getD i 0, fun i => [].getD i (fun _ => 0), fun i => [].getD i (fun _ => 0)) rfl (show (0 ≤ ((0 : Int32)).toInt ∧ ((0 : Int32)).toInt ≤ 1) ∧ ((0 : Int32).toInt = 1 → FO m_told m_mays m_tall p0 p1 p2 p3 p4) ∧ ((0 : Int32).toInt = 0 → ¬ FO m_told m_mays m_tall p0 p1 p2 p3 p4) from ⟨by omega, (fun h => absurd h (by decide)), (fun _ z => by (have z3 := z.2.2; rw [show 12 * (p1).toInt.toNat + (p0).toInt.toNat = (v_19).toInt.toNat from (by omega), ev_20, if_neg (by omega), ← hw_16_1] at z3; omega))⟩) [2, 3, 0, 1] (by decide) rfl (by decide) (by decide) dX11_mayFollow_67
        · skip
          rw [i_lt] at c_22
          refine j_iconst (pc := 62) (v := 1) C dX11_mayFollow_62 (by decide) ?_
          refine j_goto (pc := 63) (tgt := 67) C dX11_mayFollow_63 (by decide) ?_
          have el_1 : (1 : Int32).toInt = 1 := rfl
          have el_1 : (1 : Int32).toInt = 1 := rfl
          have el_1 : (1 : Int32).toInt = 1 := rfl
          exact j_zret (pc := 67) C hr rfl hk (fun i => [].getD i 0, fun i => [1].getD i 0, fun i => [].getD i (fun _ => 0), fun i => [].getD i (fun _ => 0)) rfl (show (0 ≤ ((1 : Int32)).toInt ∧ ((1 : Int32)).toInt ≤ 1) ∧ ((1 : Int32).toInt = 1 → FO m_told m_mays m_tall p0 p1 p2 p3 p4) ∧ ((1 : Int32).toInt = 0 → ¬ FO m_told m_mays m_tall p0 p1 p2 p3 p4) from ⟨by omega, (fun _ => ⟨by (unfold bI; rw [ev_1, ev_2]; omega), fun _ => by (rw [show 12 * (p0).toInt.toNat + (p2).toInt.toNat = (v_12).toInt.toNat from (by omega), ev_13]; omega), by (rw [show 12 * (p1).toInt.toNat + (p0).toInt.toNat = (v_19).toInt.toNat from (by omega), ev_20, if_neg (by omega), ← hw_16_1]; omega)⟩), (fun h => absurd h (by decide))⟩) [2, 3, 0, 1] (by decide) rfl (by decide) (by decide) dX11_mayFollow_67
      · skip
        have el_0 : (0 : Int32).toInt = 0 := rfl
        rw [i_eq] at c_14
        refine j_iconst (pc := 26) (v := 0) C dX11_mayFollow_26 (by decide) ?_
        have el_0 : (0 : Int32).toInt = 0 := rfl
        have el_0 : (0 : Int32).toInt = 0 := rfl
        have el_0 : (0 : Int32).toInt = 0 := rfl
        exact j_zret (pc := 27) C hr rfl hk (fun i => [].getD i 0, fun i => [0].getD i 0, fun i => [].getD i (fun _ => 0), fun i => [].getD i (fun _ => 0)) rfl (show (0 ≤ ((0 : Int32)).toInt ∧ ((0 : Int32)).toInt ≤ 1) ∧ ((0 : Int32).toInt = 1 → FO m_told m_mays m_tall p0 p1 p2 p3 p4) ∧ ((0 : Int32).toInt = 0 → ¬ FO m_told m_mays m_tall p0 p1 p2 p3 p4) from ⟨by omega, (fun h => absurd h (by decide)), (fun _ z => by (have z2 := z.2.1 (by omega); rw [show 12 * (p0).toInt.toNat + (p2).toInt.toNat = (v_12).toInt.toNat from (by omega), ev_13] at z2; omega))⟩) [0, 1, 2, 3] (by decide) rfl (by decide) (by decide) dX11_mayFollow_27
