theorem wd_891 : Cond.code yX11_lifted cX11_lifted 6 (some .int) ∈ WALL := wl_in (by decide +kernel) (by decide +kernel)
theorem wd_892 : Cond.methodLink RX11 431 yX11_lifted ∈ WALL := wl_in (by decide +kernel) (by decide +kernel)
theorem wd_893 : Cond.instanceMethod yX11_lifted ∈ WALL := wl_in (by decide +kernel) (by decide +kernel)
theorem wd_894 : Cond.selects RX11 yX11_lifted yX11_lifted ∈ WALL := wl_in (by decide +kernel) (by decide +kernel)
theorem wd_895 : Cond.fieldLink RX11 142 "BowlShelfModel" "digits" "[J" ∈ WALL := wl_in (by decide +kernel) (by decide +kernel)
theorem wd_896 : Cond.constantLong RX11 434 (100) ∈ WALL := wl_in (by decide +kernel) (by decide +kernel)
theorem wd_897 : Cond.constantLong RX11 436 (1000000000) ∈ WALL := wl_in (by decide +kernel) (by decide +kernel)
theorem dX11_habit_0 : decode cX11_habit 0 = .ok (.aload_n 0, 1) := by decide +kernel
theorem dX11_habit_1 : decode cX11_habit 1 = .ok (.iconst 0, 1) := by decide +kernel
theorem dX11_habit_2 : decode cX11_habit 2 = .ok (.putfield 1, 3) := by decide +kernel
theorem dX11_habit_5 : decode cX11_habit 5 = .ok (.iconst 0, 1) := by decide +kernel
theorem dX11_habit_6 : decode cX11_habit 6 = .ok (.istore_n 2, 1) := by decide +kernel
theorem dX11_habit_7 : decode cX11_habit 7 = .ok (.iconst 0, 1) := by decide +kernel
theorem dX11_habit_8 : decode cX11_habit 8 = .ok (.istore_n 3, 1) := by decide +kernel
theorem dX11_habit_9 : decode cX11_habit 9 = .ok (.iconst 0, 1) := by decide +kernel
theorem dX11_habit_10 : decode cX11_habit 10 = .ok (.istore 4, 2) := by decide +kernel
theorem dX11_habit_12 : decode cX11_habit 12 = .ok (.iload 4, 2) := by decide +kernel
theorem dX11_habit_14 : decode cX11_habit 14 = .ok (.aload_n 0, 1) := by decide +kernel
theorem dX11_habit_15 : decode cX11_habit 15 = .ok (.invokevirtual 264, 3) := by decide +kernel
theorem dX11_habit_18 : decode cX11_habit 18 = .ok (.if_icmp .ge 49, 3) := by decide +kernel
theorem dX11_habit_21 : decode cX11_habit 21 = .ok (.iload_n 2, 1) := by decide +kernel
theorem dX11_habit_22 : decode cX11_habit 22 = .ok (.aload_n 0, 1) := by decide +kernel
theorem dX11_habit_23 : decode cX11_habit 23 = .ok (.iload 4, 2) := by decide +kernel
theorem dX11_habit_25 : decode cX11_habit 25 = .ok (.iconst 5, 1) := by decide +kernel
theorem dX11_habit_26 : decode cX11_habit 26 = .ok (.invokevirtual 271, 3) := by decide +kernel
theorem dX11_habit_29 : decode cX11_habit 29 = .ok (.iadd, 1) := by decide +kernel
theorem dX11_habit_30 : decode cX11_habit 30 = .ok (.istore_n 2, 1) := by decide +kernel
theorem dX11_habit_31 : decode cX11_habit 31 = .ok (.iload_n 3, 1) := by decide +kernel
theorem dX11_habit_32 : decode cX11_habit 32 = .ok (.aload_n 0, 1) := by decide +kernel
theorem dX11_habit_33 : decode cX11_habit 33 = .ok (.iconst 0, 1) := by decide +kernel
theorem dX11_habit_34 : decode cX11_habit 34 = .ok (.iload 4, 2) := by decide +kernel
theorem dX11_habit_36 : decode cX11_habit 36 = .ok (.invokevirtual 321, 3) := by decide +kernel
theorem dX11_habit_39 : decode cX11_habit 39 = .ok (.ifCond .eq 19, 3) := by decide +kernel
theorem dX11_habit_42 : decode cX11_habit 42 = .ok (.aload_n 0, 1) := by decide +kernel
theorem dX11_habit_43 : decode cX11_habit 43 = .ok (.iload 4, 2) := by decide +kernel
theorem dX11_habit_45 : decode cX11_habit 45 = .ok (.iconst 5, 1) := by decide +kernel
theorem dX11_habit_46 : decode cX11_habit 46 = .ok (.invokevirtual 271, 3) := by decide +kernel
theorem dX11_habit_49 : decode cX11_habit 49 = .ok (.aload_n 0, 1) := by decide +kernel
theorem dX11_habit_50 : decode cX11_habit 50 = .ok (.iconst 0, 1) := by decide +kernel
theorem dX11_habit_51 : decode cX11_habit 51 = .ok (.invokevirtual 347, 3) := by decide +kernel
theorem dX11_habit_54 : decode cX11_habit 54 = .ok (.imul, 1) := by decide +kernel
theorem dX11_habit_55 : decode cX11_habit 55 = .ok (.goto 4, 3) := by decide +kernel
theorem dX11_habit_58 : decode cX11_habit 58 = .ok (.iconst 0, 1) := by decide +kernel
theorem dX11_habit_59 : decode cX11_habit 59 = .ok (.iadd, 1) := by decide +kernel
theorem dX11_habit_60 : decode cX11_habit 60 = .ok (.istore_n 3, 1) := by decide +kernel
theorem dX11_habit_61 : decode cX11_habit 61 = .ok (.iinc 4 1, 3) := by decide +kernel
theorem dX11_habit_64 : decode cX11_habit 64 = .ok (.goto (-52), 3) := by decide +kernel
theorem dX11_habit_67 : decode cX11_habit 67 = .ok (.iload_n 1, 1) := by decide +kernel
theorem dX11_habit_68 : decode cX11_habit 68 = .ok (.iconst 0, 1) := by decide +kernel
theorem dX11_habit_69 : decode cX11_habit 69 = .ok (.iconst 1, 1) := by decide +kernel
theorem dX11_habit_70 : decode cX11_habit 70 = .ok (.invokestatic 280, 3) := by decide +kernel
theorem dX11_habit_73 : decode cX11_habit 73 = .ok (.ifCond .eq 7, 3) := by decide +kernel
theorem dX11_habit_76 : decode cX11_habit 76 = .ok (.iload_n 2, 1) := by decide +kernel
theorem dX11_habit_77 : decode cX11_habit 77 = .ok (.ifCond .ne 5, 3) := by decide +kernel
theorem dX11_habit_80 : decode cX11_habit 80 = .ok (.iconst (-1), 1) := by decide +kernel
theorem dX11_habit_81 : decode cX11_habit 81 = .ok (.ireturn, 1) := by decide +kernel
theorem dX11_habit_82 : decode cX11_habit 82 = .ok (.iload_n 3, 1) := by decide +kernel
theorem dX11_habit_83 : decode cX11_habit 83 = .ok (.istore 4, 2) := by decide +kernel
theorem dX11_habit_85 : decode cX11_habit 85 = .ok (.iload_n 2, 1) := by decide +kernel
theorem dX11_habit_86 : decode cX11_habit 86 = .ok (.istore 5, 2) := by decide +kernel
theorem dX11_habit_88 : decode cX11_habit 88 = .ok (.iload 5, 2) := by decide +kernel
theorem dX11_habit_90 : decode cX11_habit 90 = .ok (.ifCond .eq 21, 3) := by decide +kernel
theorem dX11_habit_93 : decode cX11_habit 93 = .ok (.iload 4, 2) := by decide +kernel
theorem dX11_habit_95 : decode cX11_habit 95 = .ok (.iload 5, 2) := by decide +kernel
theorem dX11_habit_97 : decode cX11_habit 97 = .ok (.irem, 1) := by decide +kernel
theorem dX11_habit_98 : decode cX11_habit 98 = .ok (.istore 6, 2) := by decide +kernel
theorem dX11_habit_100 : decode cX11_habit 100 = .ok (.iload 5, 2) := by decide +kernel
theorem dX11_habit_102 : decode cX11_habit 102 = .ok (.istore 4, 2) := by decide +kernel
theorem dX11_habit_104 : decode cX11_habit 104 = .ok (.iload 6, 2) := by decide +kernel
theorem dX11_habit_106 : decode cX11_habit 106 = .ok (.istore 5, 2) := by decide +kernel
theorem dX11_habit_108 : decode cX11_habit 108 = .ok (.goto (-20), 3) := by decide +kernel
theorem dX11_habit_111 : decode cX11_habit 111 = .ok (.iload_n 1, 1) := by decide +kernel
theorem dX11_habit_112 : decode cX11_habit 112 = .ok (.ifCond .ne 10, 3) := by decide +kernel
theorem dX11_habit_115 : decode cX11_habit 115 = .ok (.iload_n 3, 1) := by decide +kernel
theorem dX11_habit_116 : decode cX11_habit 116 = .ok (.iload 4, 2) := by decide +kernel
theorem dX11_habit_118 : decode cX11_habit 118 = .ok (.idiv, 1) := by decide +kernel
theorem dX11_habit_119 : decode cX11_habit 119 = .ok (.goto 7, 3) := by decide +kernel
theorem dX11_habit_122 : decode cX11_habit 122 = .ok (.iload_n 2, 1) := by decide +kernel
theorem dX11_habit_123 : decode cX11_habit 123 = .ok (.iload 4, 2) := by decide +kernel
theorem dX11_habit_125 : decode cX11_habit 125 = .ok (.idiv, 1) := by decide +kernel
theorem dX11_habit_126 : decode cX11_habit 126 = .ok (.ireturn, 1) := by decide +kernel
theorem dX11_whole_0 : decode cX11_whole 0 = .ok (.aload_n 0, 1) := by decide +kernel
theorem dX11_whole_1 : decode cX11_whole 1 = .ok (.aload_n 0, 1) := by decide +kernel
theorem dX11_whole_2 : decode cX11_whole 2 = .ok (.iload_n 1, 1) := by decide +kernel
theorem dX11_whole_3 : decode cX11_whole 3 = .ok (.invokevirtual 277, 3) := by decide +kernel
theorem dX11_whole_6 : decode cX11_whole 6 = .ok (.ifCond .eq 26, 3) := by decide +kernel
theorem dX11_whole_9 : decode cX11_whole 9 = .ok (.iload_n 2, 1) := by decide +kernel
theorem dX11_whole_10 : decode cX11_whole 10 = .ok (.iconst 0, 1) := by decide +kernel
theorem dX11_whole_11 : decode cX11_whole 11 = .ok (.iconst 4, 1) := by decide +kernel
theorem dX11_whole_12 : decode cX11_whole 12 = .ok (.invokestatic 280, 3) := by decide +kernel
theorem dX11_whole_15 : decode cX11_whole 15 = .ok (.ifCond .eq 17, 3) := by decide +kernel
theorem dX11_whole_18 : decode cX11_whole 18 = .ok (.aload_n 0, 1) := by decide +kernel
theorem dX11_whole_19 : decode cX11_whole 19 = .ok (.iload_n 1, 1) := by decide +kernel
theorem dX11_whole_20 : decode cX11_whole 20 = .ok (.invokevirtual 431, 3) := by decide +kernel
theorem dX11_whole_23 : decode cX11_whole 23 = .ok (.bipush 17, 2) := by decide +kernel
theorem dX11_whole_25 : decode cX11_whole 25 = .ok (.if_icmp .gt 7, 3) := by decide +kernel
theorem dX11_whole_28 : decode cX11_whole 28 = .ok (.iconst 0, 1) := by decide +kernel
theorem dX11_whole_29 : decode cX11_whole 29 = .ok (.goto 4, 3) := by decide +kernel
theorem dX11_whole_32 : decode cX11_whole 32 = .ok (.iconst 1, 1) := by decide +kernel
theorem dX11_whole_33 : decode cX11_whole 33 = .ok (.putfield 1, 3) := by decide +kernel
theorem dX11_whole_36 : decode cX11_whole 36 = .ok (.aload_n 0, 1) := by decide +kernel
theorem dX11_whole_37 : decode cX11_whole 37 = .ok (.getfield 1, 3) := by decide +kernel
theorem dX11_whole_40 : decode cX11_whole 40 = .ok (.ifCond .le 5, 3) := by decide +kernel
theorem dX11_whole_43 : decode cX11_whole 43 = .ok (.lconst 0, 1) := by decide +kernel
theorem dX11_whole_44 : decode cX11_whole 44 = .ok (.lreturn, 1) := by decide +kernel
theorem dX11_whole_45 : decode cX11_whole 45 = .ok (.aload_n 0, 1) := by decide +kernel
theorem dX11_whole_46 : decode cX11_whole 46 = .ok (.iload_n 1, 1) := by decide +kernel
theorem dX11_whole_47 : decode cX11_whole 47 = .ok (.invokevirtual 431, 3) := by decide +kernel
theorem dX11_whole_50 : decode cX11_whole 50 = .ok (.istore_n 3, 1) := by decide +kernel
theorem dX11_whole_51 : decode cX11_whole 51 = .ok (.iconst 0, 1) := by decide +kernel
theorem dX11_whole_52 : decode cX11_whole 52 = .ok (.istore 4, 2) := by decide +kernel
theorem dX11_whole_54 : decode cX11_whole 54 = .ok (.iload 4, 2) := by decide +kernel
theorem dX11_whole_56 : decode cX11_whole 56 = .ok (.iconst 5, 1) := by decide +kernel
theorem dX11_whole_57 : decode cX11_whole 57 = .ok (.if_icmp .ge 26, 3) := by decide +kernel
theorem dX11_whole_60 : decode cX11_whole 60 = .ok (.aload_n 0, 1) := by decide +kernel
theorem dX11_whole_61 : decode cX11_whole 61 = .ok (.getfield 142, 3) := by decide +kernel
theorem dX11_whole_64 : decode cX11_whole 64 = .ok (.iload 4, 2) := by decide +kernel
theorem dX11_whole_66 : decode cX11_whole 66 = .ok (.iload 4, 2) := by decide +kernel
theorem dX11_whole_68 : decode cX11_whole 68 = .ok (.ifCond .ne 7, 3) := by decide +kernel
theorem dX11_whole_71 : decode cX11_whole 71 = .ok (.lconst 1, 1) := by decide +kernel
theorem dX11_whole_72 : decode cX11_whole 72 = .ok (.goto 4, 3) := by decide +kernel
theorem dX11_whole_75 : decode cX11_whole 75 = .ok (.lconst 0, 1) := by decide +kernel
theorem dX11_whole_76 : decode cX11_whole 76 = .ok (.lastore, 1) := by decide +kernel
theorem dX11_whole_77 : decode cX11_whole 77 = .ok (.iinc 4 1, 3) := by decide +kernel
theorem dX11_whole_80 : decode cX11_whole 80 = .ok (.goto (-26), 3) := by decide +kernel
theorem dX11_whole_83 : decode cX11_whole 83 = .ok (.iconst 0, 1) := by decide +kernel
theorem dX11_whole_84 : decode cX11_whole 84 = .ok (.istore 4, 2) := by decide +kernel
theorem dX11_whole_86 : decode cX11_whole 86 = .ok (.iload 4, 2) := by decide +kernel
theorem dX11_whole_88 : decode cX11_whole 88 = .ok (.iload_n 3, 1) := by decide +kernel
theorem dX11_whole_89 : decode cX11_whole 89 = .ok (.if_icmp .ge 72, 3) := by decide +kernel
theorem dX11_whole_92 : decode cX11_whole 92 = .ok (.lconst 0, 1) := by decide +kernel
theorem dX11_whole_93 : decode cX11_whole 93 = .ok (.lstore 5, 2) := by decide +kernel
theorem dX11_whole_95 : decode cX11_whole 95 = .ok (.iconst 0, 1) := by decide +kernel
theorem dX11_whole_96 : decode cX11_whole 96 = .ok (.istore 7, 2) := by decide +kernel
theorem dX11_whole_98 : decode cX11_whole 98 = .ok (.iload 7, 2) := by decide +kernel
theorem dX11_whole_100 : decode cX11_whole 100 = .ok (.iconst 5, 1) := by decide +kernel
theorem dX11_whole_101 : decode cX11_whole 101 = .ok (.if_icmp .ge 54, 3) := by decide +kernel
theorem dX11_whole_104 : decode cX11_whole 104 = .ok (.aload_n 0, 1) := by decide +kernel
theorem dX11_whole_105 : decode cX11_whole 105 = .ok (.getfield 142, 3) := by decide +kernel
theorem dX11_whole_108 : decode cX11_whole 108 = .ok (.iload 7, 2) := by decide +kernel
theorem dX11_whole_110 : decode cX11_whole 110 = .ok (.laload, 1) := by decide +kernel
theorem dX11_whole_111 : decode cX11_whole 111 = .ok (.ldc2_w 434, 3) := by decide +kernel
theorem dX11_whole_114 : decode cX11_whole 114 = .ok (.aload_n 0, 1) := by decide +kernel
theorem dX11_whole_115 : decode cX11_whole 115 = .ok (.iload_n 1, 1) := by decide +kernel
theorem dX11_whole_116 : decode cX11_whole 116 = .ok (.iconst 4, 1) := by decide +kernel
theorem dX11_whole_117 : decode cX11_whole 117 = .ok (.invokevirtual 271, 3) := by decide +kernel
theorem dX11_whole_120 : decode cX11_whole 120 = .ok (.i2l, 1) := by decide +kernel
theorem dX11_whole_121 : decode cX11_whole 121 = .ok (.lsub, 1) := by decide +kernel
theorem dX11_whole_122 : decode cX11_whole 122 = .ok (.lmul, 1) := by decide +kernel
theorem dX11_whole_123 : decode cX11_whole 123 = .ok (.lload 5, 2) := by decide +kernel
theorem dX11_whole_125 : decode cX11_whole 125 = .ok (.ladd, 1) := by decide +kernel
theorem dX11_whole_126 : decode cX11_whole 126 = .ok (.lstore 8, 2) := by decide +kernel
theorem dX11_whole_128 : decode cX11_whole 128 = .ok (.aload_n 0, 1) := by decide +kernel
theorem dX11_whole_129 : decode cX11_whole 129 = .ok (.getfield 142, 3) := by decide +kernel
theorem dX11_whole_132 : decode cX11_whole 132 = .ok (.iload 7, 2) := by decide +kernel
theorem dX11_whole_134 : decode cX11_whole 134 = .ok (.lload 8, 2) := by decide +kernel
theorem dX11_whole_136 : decode cX11_whole 136 = .ok (.ldc2_w 436, 3) := by decide +kernel
theorem dX11_whole_139 : decode cX11_whole 139 = .ok (.lrem, 1) := by decide +kernel
theorem dX11_whole_140 : decode cX11_whole 140 = .ok (.lastore, 1) := by decide +kernel
theorem dX11_whole_141 : decode cX11_whole 141 = .ok (.lload 8, 2) := by decide +kernel
theorem dX11_whole_143 : decode cX11_whole 143 = .ok (.ldc2_w 436, 3) := by decide +kernel
theorem dX11_whole_146 : decode cX11_whole 146 = .ok (.ldiv, 1) := by decide +kernel
theorem dX11_whole_147 : decode cX11_whole 147 = .ok (.lstore 5, 2) := by decide +kernel
theorem dX11_whole_149 : decode cX11_whole 149 = .ok (.iinc 7 1, 3) := by decide +kernel
theorem dX11_whole_152 : decode cX11_whole 152 = .ok (.goto (-54), 3) := by decide +kernel
theorem dX11_whole_155 : decode cX11_whole 155 = .ok (.iinc 4 1, 3) := by decide +kernel
theorem dX11_whole_158 : decode cX11_whole 158 = .ok (.goto (-72), 3) := by decide +kernel
theorem dX11_whole_161 : decode cX11_whole 161 = .ok (.iload_n 2, 1) := by decide +kernel
theorem dX11_whole_162 : decode cX11_whole 162 = .ok (.iconst 4, 1) := by decide +kernel
theorem dX11_whole_163 : decode cX11_whole 163 = .ok (.if_icmp .ne 8, 3) := by decide +kernel
theorem dX11_whole_166 : decode cX11_whole 166 = .ok (.iload_n 3, 1) := by decide +kernel
theorem dX11_whole_167 : decode cX11_whole 167 = .ok (.i2l, 1) := by decide +kernel
theorem dX11_whole_168 : decode cX11_whole 168 = .ok (.goto 9, 3) := by decide +kernel
theorem dX11_whole_171 : decode cX11_whole 171 = .ok (.aload_n 0, 1) := by decide +kernel
theorem dX11_whole_172 : decode cX11_whole 172 = .ok (.getfield 142, 3) := by decide +kernel
theorem dX11_whole_175 : decode cX11_whole 175 = .ok (.iload_n 2, 1) := by decide +kernel
theorem dX11_whole_176 : decode cX11_whole 176 = .ok (.laload, 1) := by decide +kernel
theorem dX11_whole_177 : decode cX11_whole 177 = .ok (.lreturn, 1) := by decide +kernel
theorem mulB {x y : Int32} {a b : Int} (hx : 0 ≤ x.toInt ∧ x.toInt ≤ a) (hy : 0 ≤ y.toInt ∧ y.toInt ≤ b) (hab : a * b < 2147483648) : 0 ≤ (x * y).toInt ∧ (x * y).toInt ≤ a * b := by
  have h0 : 0 ≤ x.toInt * y.toInt := Int.mul_nonneg hx.1 hy.1
  have h1 : x.toInt * y.toInt ≤ a * b := Int.mul_le_mul hx.2 hy.2 hy.1 (by omega)
  rw [fb_mulI (by omega) (by omega)]
  exact ⟨h0, h1⟩
theorem remP {x y z : Int32} (e : x - x / y * y = z) (hx : 0 ≤ x.toInt) (hy : 0 < y.toInt) : 0 ≤ z.toInt ∧ z.toInt < y.toInt := by
  have bx := i_bd x
  have q0 : 0 ≤ x.toInt.tdiv y.toInt := Int.tdiv_nonneg hx (by omega)
  have q1 : x.toInt.tdiv y.toInt ≤ x.toInt := Int.tdiv_le_self _ hx
  have d : (x / y).toInt = x.toInt.tdiv y.toInt := by
    rw [Int32.toInt_div]; exact fb_bmod (by omega) (by omega)
  have r0 : 0 ≤ x.toInt.tmod y.toInt := Int.tmod_nonneg _ hx
  have r1 : x.toInt.tmod y.toInt < y.toInt := Int.tmod_lt_of_pos _ hy
  have s : y.toInt * x.toInt.tdiv y.toInt + x.toInt.tmod y.toInt = x.toInt := Int.mul_tdiv_add_tmod _ _
  have q2 : 0 ≤ y.toInt * x.toInt.tdiv y.toInt := Int.mul_nonneg (by omega) q0
  have m : (x / y * y).toInt = y.toInt * x.toInt.tdiv y.toInt := by
    rw [fb_mulI (by rw [d, Int.mul_comm]; omega) (by rw [d, Int.mul_comm]; omega), d, Int.mul_comm]
  rw [← e, fb_subI (by rw [m]; omega) (by rw [m]; omega), m]
  omega
def HBM (t f : Nat → Int32) (p : Int32) (x : Int) : Prop := ∃ ab : Int32, SR (pHM t f (t 1).toInt) (t 0).toInt.toNat ab ∧ 0 ≤ ab.toInt ∧ (0 ≤ (sumF (hbM t) (t 0).toInt.toNat).toInt ∧ (sumF (hbM t) (t 0).toInt.toNat).toInt ≤ 11988) ∧ haM p ab (sumF (hbM t) (t 0).toInt.toNat) x
set_option maxHeartbeats 4000000 in
set_option maxRecDepth 100000 in
theorem c_X11_habit (l : Launch) (D : DG) (cyC cyI cyJ cyZ cyO : ClassId) (m0 : Nat) (mtold : Nat) (mstates : Nat) (mtape : Nat) (msort : Nat) (mplace : Nat) (mvalue : Nat) (mwords : Nat) (mop : Nat) (marg : Nat) (mnames : Nat) (mhasHabit : Nat) (mfactWords : Nat) (mfacts : Nat) (mpile : Nat) (misMarked : Nat) (mrow : Nat) (mthr : Nat) (mmays : Nat) (mtall : Nat) (mweights : Nat) (mrowOfWare : Nat) (mneededOf : Nat) (mtried : Nat) (mbestRow : Nat) (mdigits : Nat) (p0 : Int32) (m_thrown : Int32) (m_taped : Int32) (m_size : Int32) (m_at : Int32) (m_fault : Int32) (m_codes : Int32) (m_isNew : Int32) (m_inShelf : Int32) (m_inStack : Int32) (m_inPlace : Int32) (m_rowMany : Int32) (m_goShelf : Int32) (m_goStack : Int32) (m_goLeft : Int32) (m_bestCost : Int32) (m_bestMany : Int32) (m_bestShelf : Int32) (m_bestSet : Int32) (m_told : Nat → Int32) (m_states : Nat → Int32) (h_m_taped : 0 ≤ (m_taped).toInt ∧ (m_taped).toInt ≤ 1000) (h_m_size : 0 ≤ (m_size).toInt ∧ (m_size).toInt ≤ 1000) (h_m_at : 0 ≤ (m_at).toInt ∧ (m_at).toInt ≤ 1000) (h_m_fault : 0 ≤ (m_fault).toInt ∧ (m_fault).toInt ≤ 16005) (h_m_codes : 0 ≤ (m_codes).toInt ∧ (m_codes).toInt ≤ 1000) (h_m_isNew : 0 ≤ (m_isNew).toInt ∧ (m_isNew).toInt ≤ 1) (h_m_inShelf : 0 ≤ (m_inShelf).toInt ∧ (m_inShelf).toInt ≤ 3) (h_m_inStack : 0 ≤ (m_inStack).toInt ∧ (m_inStack).toInt ≤ 7) (h_m_inPlace : 0 ≤ (m_inPlace).toInt ∧ (m_inPlace).toInt ≤ 11) (h_m_rowMany : 0 ≤ (m_rowMany).toInt ∧ (m_rowMany).toInt ≤ 12) (h_m_goShelf : -1 ≤ (m_goShelf).toInt ∧ (m_goShelf).toInt ≤ 3) (h_m_bestMany : 0 ≤ (m_bestMany).toInt ∧ (m_bestMany).toInt ≤ 7) (h_m_bestShelf : 0 ≤ (m_bestShelf).toInt ∧ (m_bestShelf).toInt ≤ 3) (h_m_told : TV m_told) (h_m_states : SV m_states) : KK l D (TY cyC cyI cyJ cyZ cyO) yX11_habit cX11_habit 7 (some .int) ({ frames := 3, cells := 0, slots := 0, locals := 68 } : Room) 0 0 [.ref m0, .int p0] [(m0, .inr (11, [.int m_thrown, .ref mtape, .int m_taped, .int m_size, .ref msort, .ref mplace, .ref mvalue, .int m_at, .int m_fault, .ref mwords, .ref mtold, .ref mop, .ref marg, .int m_codes, .ref mnames, .ref mhasHabit, .int m_isNew, .ref mfactWords, .ref mfacts, .ref mpile, .ref mstates, .ref misMarked, .int m_inShelf, .int m_inStack, .int m_inPlace, .ref mrow, .int m_rowMany, .ref mthr, .ref mmays, .ref mtall, .ref mweights, .ref mrowOfWare, .ref mneededOf, .int m_goShelf, .int m_goStack, .int m_goLeft, .ref mtried, .ref mbestRow, .int m_bestCost, .int m_bestMany, .int m_bestShelf, .int m_bestSet, .ref mdigits])), (mtold, .inl (cyI, 240, .inl m_told)), (mstates, .inl (cyI, 2760, .inl m_states))] (fun u => some (.int (u.2.1 0))) (fun u => (0 ≤ (u.2.1 1).toInt ∧ (u.2.1 1).toInt ≤ 3) ∧ (0 ≤ (u.2.1 2).toInt ∧ (u.2.1 2).toInt ≤ 7) ∧ (0 ≤ (u.2.1 3).toInt ∧ (u.2.1 3).toInt ≤ 11) ∧ (HBM m_told m_states p0 (u.2.1 0).toInt)) (fun u => [(m0, .inr (11, [.int 0, .ref mtape, .int m_taped, .int m_size, .ref msort, .ref mplace, .ref mvalue, .int m_at, .int m_fault, .ref mwords, .ref mtold, .ref mop, .ref marg, .int m_codes, .ref mnames, .ref mhasHabit, .int m_isNew, .ref mfactWords, .ref mfacts, .ref mpile, .ref mstates, .ref misMarked, .int (u.2.1 1), .int (u.2.1 2), .int (u.2.1 3), .ref mrow, .int m_rowMany, .ref mthr, .ref mmays, .ref mtall, .ref mweights, .ref mrowOfWare, .ref mneededOf, .int m_goShelf, .int m_goStack, .int m_goLeft, .ref mtried, .ref mbestRow, .int m_bestCost, .int m_bestMany, .int m_bestShelf, .int m_bestSet, .ref mdigits])), (mtold, .inl (cyI, 240, .inl m_told)), (mstates, .inl (cyI, 2760, .inl m_states))]) := by
  refine KK.of (lv0 := [(0, .ref m0), (1, .int p0)]) (by decide) rfl (Nat.le_of_ble_eq_true rfl) ?_
  intro p e s m args below meth c A C hr hk hin
  refine j_aload_n (pc := 0) C dX11_habit_0 rfl 0 rfl ?_
  refine j_iconst (pc := 1) (v := 0) C dX11_habit_1 (by decide) ?_
  refine j_put (pc := 2) (ci := 11) (v := .int 0) (ws' := [(m0, .inr (11, [.int 0, .ref mtape, .int m_taped, .int m_size, .ref msort, .ref mplace, .ref mvalue, .int m_at, .int m_fault, .ref mwords, .ref mtold, .ref mop, .ref marg, .int m_codes, .ref mnames, .ref mhasHabit, .int m_isNew, .ref mfactWords, .ref mfacts, .ref mpile, .ref mstates, .ref misMarked, .int m_inShelf, .int m_inStack, .int m_inPlace, .ref mrow, .int m_rowMany, .ref mthr, .ref mmays, .ref mtall, .ref mweights, .ref mrowOfWare, .ref mneededOf, .int m_goShelf, .int m_goStack, .int m_goLeft, .ref mtried, .ref mbestRow, .int m_bestCost, .int m_bestMany, .int m_bestShelf, .int m_bestSet, .ref mdigits])), (mtold, .inl (cyI, 240, .inl m_told)), (mstates, .inl (cyI, 2760, .inl m_states))]) C inw_11 0 rfl rfl 0 (by decide) wd_629 rfl tyX11_ok nmX11 rfl (tyX11_ok 0 (by decide)) rfl rfl (Nat.le_of_ble_eq_true rfl) dX11_habit_2 rfl ?_
  refine j_iconst (pc := 5) (v := 0) C dX11_habit_5 (by decide) ?_
  refine j_istore_n (pc := 6) (lv' := [(2, .int 0), (0, .ref m0), (1, .int p0)]) C dX11_habit_6 rfl (by decide) rfl ?_
  refine j_iconst (pc := 7) (v := 0) C dX11_habit_7 (by decide) ?_
  refine j_istore_n (pc := 8) (lv' := [(3, .int 0), (2, .int 0), (0, .ref m0), (1, .int p0)]) C dX11_habit_8 rfl (by decide) rfl ?_
  refine j_iconst (pc := 9) (v := 0) C dX11_habit_9 (by decide) ?_
  refine j_istore (pc := 10) (lv' := [(4, .int 0), (3, .int 0), (2, .int 0), (0, .ref m0), (1, .int p0)]) C dX11_habit_10 (by decide) rfl ?_
  have loop_1 : ∀ (k_1 : Nat) (x1_4 : Int32) (x1_3 : Int32) (x1_2 : Int32) (y1_m0_22 : Int32) (y1_m0_23 : Int32) (y1_m0_24 : Int32), (0 ≤ (x1_4).toInt ∧ (x1_4).toInt ≤ 12) → (0 ≤ (x1_3).toInt ∧ (x1_3).toInt ≤ 574848576) → (0 ≤ (x1_2).toInt ∧ (x1_2).toInt ≤ 11988) → (0 ≤ (y1_m0_22).toInt ∧ (y1_m0_22).toInt ≤ 3) → (0 ≤ (y1_m0_23).toInt ∧ (y1_m0_23).toInt ≤ 7) → (0 ≤ (y1_m0_24).toInt ∧ (y1_m0_24).toInt ≤ 11) → (x1_2.toInt ≤ 999 * x1_4.toInt ∧ x1_3.toInt ≤ 47904048 * x1_4.toInt ∧ (x1_4.toInt ≤ (m_told 0).toInt ∨ x1_4.toInt = 0)) → (x1_2 = sumF (hbM m_told) (x1_4.toInt).toNat) → (SR (pHM m_told m_states (m_told 1).toInt) (x1_4.toInt).toNat x1_3) → (12 - x1_4.toInt).toNat < k_1 → J p l e ({ frames := 3, cells := 0, slots := 0, locals := 68 } : Room) s m args below meth c D A 7 0 0 (QX below D (TY cyC cyI cyJ cyZ cyO) A (fun u => some (.int (u.2.1 0))) (fun u => (0 ≤ (u.2.1 1).toInt ∧ (u.2.1 1).toInt ≤ 3) ∧ (0 ≤ (u.2.1 2).toInt ∧ (u.2.1 2).toInt ≤ 7) ∧ (0 ≤ (u.2.1 3).toInt ∧ (u.2.1 3).toInt ≤ 11) ∧ (HBM m_told m_states p0 (u.2.1 0).toInt)) (fun u => [(m0, .inr (11, [.int 0, .ref mtape, .int m_taped, .int m_size, .ref msort, .ref mplace, .ref mvalue, .int m_at, .int m_fault, .ref mwords, .ref mtold, .ref mop, .ref marg, .int m_codes, .ref mnames, .ref mhasHabit, .int m_isNew, .ref mfactWords, .ref mfacts, .ref mpile, .ref mstates, .ref misMarked, .int (u.2.1 1), .int (u.2.1 2), .int (u.2.1 3), .ref mrow, .int m_rowMany, .ref mthr, .ref mmays, .ref mtall, .ref mweights, .ref mrowOfWare, .ref mneededOf, .int m_goShelf, .int m_goStack, .int m_goLeft, .ref mtried, .ref mbestRow, .int m_bestCost, .int m_bestMany, .int m_bestShelf, .int m_bestSet, .ref mdigits])), (mtold, .inl (cyI, 240, .inl m_told)), (mstates, .inl (cyI, 2760, .inl m_states))]) args s 0 0) [(m0, .inr (11, [.int 0, .ref mtape, .int m_taped, .int m_size, .ref msort, .ref mplace, .ref mvalue, .int m_at, .int m_fault, .ref mwords, .ref mtold, .ref mop, .ref marg, .int m_codes, .ref mnames, .ref mhasHabit, .int m_isNew, .ref mfactWords, .ref mfacts, .ref mpile, .ref mstates, .ref misMarked, .int y1_m0_22, .int y1_m0_23, .int y1_m0_24, .ref mrow, .int m_rowMany, .ref mthr, .ref mmays, .ref mtall, .ref mweights, .ref mrowOfWare, .ref mneededOf, .int m_goShelf, .int m_goStack, .int m_goLeft, .ref mtried, .ref mbestRow, .int m_bestCost, .int m_bestMany, .int m_bestShelf, .int m_bestSet, .ref mdigits])), (mtold, .inl (cyI, 240, .inl m_told)), (mstates, .inl (cyI, 2760, .inl m_states))] 12 [(4, .int x1_4), (3, .int x1_3), (2, .int x1_2), (0, .ref m0), (1, .int p0)] [] := by
    intro k_1
    induction k_1 with
    | zero =>
      intro x1_4 x1_3 x1_2 y1_m0_22 y1_m0_23 y1_m0_24 hi_1_0 hi_1_1 hi_1_2 hi_1_3 hi_1_4 hi_1_5 hr_1 hq_1_0 hq_1_1 hm_1
      exact absurd hm_1 (Nat.not_lt_zero _)
    | succ k_1 ih_1 =>
      intro x1_4 x1_3 x1_2 y1_m0_22 y1_m0_23 y1_m0_24 hi_1_0 hi_1_1 hi_1_2 hi_1_3 hi_1_4 hi_1_5 hr_1 hq_1_0 hq_1_1 hm_1
      refine j_iload (pc := 12) C dX11_habit_12 0 rfl ?_
      refine j_aload_n (pc := 14) C dX11_habit_14 rfl 3 rfl ?_
      refine j_callV (pc := 15) (As := []) (rest := [.int x1_4]) (wr := [(mstates, .inl (cyI, 2760, .inl m_states))]) C (c_X11_wares l D cyC cyI cyJ cyZ cyO m0 mtold mtape msort mplace mvalue mwords mop marg mnames mhasHabit mfactWords mfacts mpile mstates misMarked mrow mthr mmays mtall mweights mrowOfWare mneededOf mtried mbestRow mdigits 0 m_taped m_size m_at m_fault m_codes m_isNew y1_m0_22 y1_m0_23 y1_m0_24 m_rowMany m_goShelf m_goStack m_goLeft m_bestCost m_bestMany m_bestShelf m_bestSet m_told h_m_taped h_m_size h_m_at h_m_fault h_m_codes h_m_isNew hi_1_3 hi_1_4 hi_1_5 h_m_rowMany h_m_goShelf h_m_bestMany h_m_bestShelf h_m_told) wd_748 wd_624 wd_749 wd_750 wd_751 ⟨by decide, by decide, rfl⟩ rfl ⟨rfl, rfl, by decide, by decide⟩ ⟨by decide, by decide⟩ [0, 1] [2] rfl rfl ⟨by decide, by decide, by decide⟩ 0 rfl rfl rfl (Nat.le_of_ble_eq_true rfl) dX11_habit_15 (fun u_2 hw_3 => ?_)
      refine j_eq (ws2 := [(mstates, .inl (cyI, 2760, .inl m_states)), (m0, .inr (11, [.int 0, .ref mtape, .int m_taped, .int m_size, .ref msort, .ref mplace, .ref mvalue, .int m_at, .int m_fault, .ref mwords, .ref mtold, .ref mop, .ref marg, .int m_codes, .ref mnames, .ref mhasHabit, .int m_isNew, .ref mfactWords, .ref mfacts, .ref mpile, .ref mstates, .ref misMarked, .int y1_m0_22, .int y1_m0_23, .int y1_m0_24, .ref mrow, .int m_rowMany, .ref mthr, .ref mmays, .ref mtall, .ref mweights, .ref mrowOfWare, .ref mneededOf, .int m_goShelf, .int m_goStack, .int m_goLeft, .ref mtried, .ref mbestRow, .int m_bestCost, .int m_bestMany, .int m_bestShelf, .int m_bestSet, .ref mdigits])), (mtold, .inl (cyI, 240, .inl m_told))]) (pc2 := 18) (lv2 := [(4, .int x1_4), (3, .int x1_3), (2, .int x1_2), (0, .ref m0), (1, .int p0)]) (st2 := [.int (u_2.2.1 0), .int x1_4]) rfl rfl rfl rfl ?_
      obtain ⟨hw_3_0, hw_3_1⟩ := hw_3
      refine j_icmp_ge (pc := 18) (tgt := 67) C dX11_habit_18 (by decide) (fun c_4 => ?_) (fun c_4 => ?_)
      · skip
        rw [i_le] at c_4
        have hw9 := congrArg Int32.toInt hw_3_1
        refine j_iload_n (pc := 67) C dX11_habit_67 rfl 4 rfl ?_
        refine j_iconst (pc := 68) (v := 0) C dX11_habit_68 (by decide) ?_
        refine j_iconst (pc := 69) (v := 1) C dX11_habit_69 (by decide) ?_
        refine j_callS (pc := 70) (As := [.int p0, .int 0, .int 1]) (rest := []) (wr := [(mstates, .inl (cyI, 2760, .inl m_states)), (m0, .inr (11, [.int 0, .ref mtape, .int m_taped, .int m_size, .ref msort, .ref mplace, .ref mvalue, .int m_at, .int m_fault, .ref mwords, .ref mtold, .ref mop, .ref marg, .int m_codes, .ref mnames, .ref mhasHabit, .int m_isNew, .ref mfactWords, .ref mfacts, .ref mpile, .ref mstates, .ref misMarked, .int y1_m0_22, .int y1_m0_23, .int y1_m0_24, .ref mrow, .int m_rowMany, .ref mthr, .ref mmays, .ref mtall, .ref mweights, .ref mrowOfWare, .ref mneededOf, .int m_goShelf, .int m_goStack, .int m_goLeft, .ref mtried, .ref mbestRow, .int m_bestCost, .int m_bestMany, .int m_bestShelf, .int m_bestSet, .ref mdigits])), (mtold, .inl (cyI, 240, .inl m_told))]) C (c_X11_within_f l D cyC cyI cyJ cyZ cyO p0 0 1) wd_818 wd_624 wd_819 wd_820 ⟨by decide, by decide, rfl⟩ rfl ⟨rfl, rfl, by decide, by decide⟩ ⟨by decide, by decide⟩ [] [0, 1, 2] rfl rfl ⟨by decide, by decide, by decide⟩ rfl (Nat.le_of_ble_eq_true rfl) dX11_habit_70 (fun u_5 hw_6 => ?_)
        refine j_eq (ws2 := [(mstates, .inl (cyI, 2760, .inl m_states)), (m0, .inr (11, [.int 0, .ref mtape, .int m_taped, .int m_size, .ref msort, .ref mplace, .ref mvalue, .int m_at, .int m_fault, .ref mwords, .ref mtold, .ref mop, .ref marg, .int m_codes, .ref mnames, .ref mhasHabit, .int m_isNew, .ref mfactWords, .ref mfacts, .ref mpile, .ref mstates, .ref misMarked, .int y1_m0_22, .int y1_m0_23, .int y1_m0_24, .ref mrow, .int m_rowMany, .ref mthr, .ref mmays, .ref mtall, .ref mweights, .ref mrowOfWare, .ref mneededOf, .int m_goShelf, .int m_goStack, .int m_goLeft, .ref mtried, .ref mbestRow, .int m_bestCost, .int m_bestMany, .int m_bestShelf, .int m_bestSet, .ref mdigits])), (mtold, .inl (cyI, 240, .inl m_told))]) (pc2 := 73) (lv2 := [(4, .int x1_4), (3, .int x1_3), (2, .int x1_2), (0, .ref m0), (1, .int p0)]) (st2 := [.int (u_5.2.1 0)]) rfl rfl rfl rfl ?_
        obtain ⟨hw_6_0, hw_6_1, hw_6_2⟩ := hw_6
        have el_0 : (0 : Int32).toInt = 0 := rfl
        have el_1 : (1 : Int32).toInt = 1 := rfl
        refine j_if_eq (pc := 73) (tgt := 80) C dX11_habit_73 (by decide) (fun c_7 => ?_) (fun c_7 => ?_)
        · skip
          have el_0 : (0 : Int32).toInt = 0 := rfl
          rw [i_eq] at c_7
          refine j_iconst (pc := 80) (v := (-1)) C dX11_habit_80 (by decide) ?_
          have el_m1 : ((-1) : Int32).toInt = (-1) := rfl
          have el_0 : (0 : Int32).toInt = 0 := rfl
          have el_m1 : ((-1) : Int32).toInt = (-1) := rfl
          exact j_iret (pc := 81) C hr hk (fun i => [].getD i 0, fun i => [(-1), y1_m0_22, y1_m0_23, y1_m0_24].getD i 0, fun i => [].getD i (fun _ => 0), fun i => [].getD i (fun _ => 0)) rfl (show (0 ≤ (y1_m0_22).toInt ∧ (y1_m0_22).toInt ≤ 3) ∧ (0 ≤ (y1_m0_23).toInt ∧ (y1_m0_23).toInt ≤ 7) ∧ (0 ≤ (y1_m0_24).toInt ∧ (y1_m0_24).toInt ≤ 11) ∧ (HBM m_told m_states p0 ((-1) : Int32).toInt) from ⟨hi_1_3, hi_1_4, hi_1_5, ⟨x1_3, (by rw [show (m_told 0).toInt.toNat = (x1_4).toInt.toNat from (by omega)]; exact hq_1_1), by omega, (by have e9 : sumF (hbM m_told) (m_told 0).toInt.toNat = x1_2 := (by rw [show (m_told 0).toInt.toNat = (x1_4).toInt.toNat from (by omega)]; exact hq_1_0.symm); rw [e9]; exact ⟨by omega, by omega⟩), (by have e9 : sumF (hbM m_told) (m_told 0).toInt.toNat = x1_2 := (by rw [show (m_told 0).toInt.toNat = (x1_4).toInt.toNat from (by omega)]; exact hq_1_0.symm); rw [e9]; exact Or.inl ⟨rfl, fun z => by have z1 := z.1; rw [i_eq] at z1; have z2 := z.2; omega⟩)⟩⟩) [1, 2, 0] (by decide) rfl (by decide) (by decide) dX11_habit_81
        · skip
          have el_0 : (0 : Int32).toInt = 0 := rfl
          rw [i_eq] at c_7
          have k0c_7 : ((u_5.2.1 0)).toInt = 1 := by omega
          refine j_iload_n (pc := 76) C dX11_habit_76 rfl 2 rfl ?_
          refine j_if_ne (pc := 77) (tgt := 82) C dX11_habit_77 (by decide) (fun c_8 => ?_) (fun c_8 => ?_)
          · skip
            have el_0 : (0 : Int32).toInt = 0 := rfl
            rw [i_eq] at c_8
            refine j_iload_n (pc := 82) C dX11_habit_82 rfl 1 rfl ?_
            refine j_istore (pc := 83) (lv' := [(4, .int x1_3), (3, .int x1_3), (2, .int x1_2), (0, .ref m0), (1, .int p0)]) C dX11_habit_83 (by decide) rfl ?_
            refine j_iload_n (pc := 85) C dX11_habit_85 rfl 2 rfl ?_
            refine j_istore (pc := 86) (lv' := [(5, .int x1_2), (4, .int x1_3), (3, .int x1_3), (2, .int x1_2), (0, .ref m0), (1, .int p0)]) C dX11_habit_86 (by decide) rfl ?_
            have loop_9 : ∀ (k_9 : Nat) (x9_5 : Int32) (x9_4 : Int32), (0 ≤ (x9_5).toInt ∧ (x9_5).toInt ≤ 574848576) → (0 ≤ (x9_4).toInt ∧ (x9_4).toInt ≤ 574848576) → (¬ (x9_4.toInt = 0 ∧ x9_5.toInt = 0)) → (EUK x1_3 x1_2 x9_4 x9_5) → (x9_5.toInt).toNat < k_9 → J p l e ({ frames := 3, cells := 0, slots := 0, locals := 68 } : Room) s m args below meth c D A 7 0 0 (QX below D (TY cyC cyI cyJ cyZ cyO) A (fun u => some (.int (u.2.1 0))) (fun u => (0 ≤ (u.2.1 1).toInt ∧ (u.2.1 1).toInt ≤ 3) ∧ (0 ≤ (u.2.1 2).toInt ∧ (u.2.1 2).toInt ≤ 7) ∧ (0 ≤ (u.2.1 3).toInt ∧ (u.2.1 3).toInt ≤ 11) ∧ (HBM m_told m_states p0 (u.2.1 0).toInt)) (fun u => [(m0, .inr (11, [.int 0, .ref mtape, .int m_taped, .int m_size, .ref msort, .ref mplace, .ref mvalue, .int m_at, .int m_fault, .ref mwords, .ref mtold, .ref mop, .ref marg, .int m_codes, .ref mnames, .ref mhasHabit, .int m_isNew, .ref mfactWords, .ref mfacts, .ref mpile, .ref mstates, .ref misMarked, .int (u.2.1 1), .int (u.2.1 2), .int (u.2.1 3), .ref mrow, .int m_rowMany, .ref mthr, .ref mmays, .ref mtall, .ref mweights, .ref mrowOfWare, .ref mneededOf, .int m_goShelf, .int m_goStack, .int m_goLeft, .ref mtried, .ref mbestRow, .int m_bestCost, .int m_bestMany, .int m_bestShelf, .int m_bestSet, .ref mdigits])), (mtold, .inl (cyI, 240, .inl m_told)), (mstates, .inl (cyI, 2760, .inl m_states))]) args s 0 0) [(mstates, .inl (cyI, 2760, .inl m_states)), (m0, .inr (11, [.int 0, .ref mtape, .int m_taped, .int m_size, .ref msort, .ref mplace, .ref mvalue, .int m_at, .int m_fault, .ref mwords, .ref mtold, .ref mop, .ref marg, .int m_codes, .ref mnames, .ref mhasHabit, .int m_isNew, .ref mfactWords, .ref mfacts, .ref mpile, .ref mstates, .ref misMarked, .int y1_m0_22, .int y1_m0_23, .int y1_m0_24, .ref mrow, .int m_rowMany, .ref mthr, .ref mmays, .ref mtall, .ref mweights, .ref mrowOfWare, .ref mneededOf, .int m_goShelf, .int m_goStack, .int m_goLeft, .ref mtried, .ref mbestRow, .int m_bestCost, .int m_bestMany, .int m_bestShelf, .int m_bestSet, .ref mdigits])), (mtold, .inl (cyI, 240, .inl m_told))] 88 [(5, .int x9_5), (4, .int x9_4), (3, .int x1_3), (2, .int x1_2), (0, .ref m0), (1, .int p0)] [] := by
              intro k_9
              induction k_9 with
              | zero =>
                intro x9_5 x9_4 hi_9_0 hi_9_1 hr_9 hq_9_0 hm_9
                exact absurd hm_9 (Nat.not_lt_zero _)
              | succ k_9 ih_9 =>
                intro x9_5 x9_4 hi_9_0 hi_9_1 hr_9 hq_9_0 hm_9
                refine j_iload (pc := 88) C dX11_habit_88 0 rfl ?_
                refine j_if_eq (pc := 90) (tgt := 111) C dX11_habit_90 (by decide) (fun c_10 => ?_) (fun c_10 => ?_)
                · skip
                  have el_0 : (0 : Int32).toInt = 0 := rfl
                  rw [i_eq] at c_10
                  refine j_iload_n (pc := 111) C dX11_habit_111 rfl 5 rfl ?_
                  refine j_if_ne (pc := 112) (tgt := 122) C dX11_habit_112 (by decide) (fun c_11 => ?_) (fun c_11 => ?_)
                  · skip
                    have el_0 : (0 : Int32).toInt = 0 := rfl
                    rw [i_eq] at c_11
                    have k0c_11 : p0.toInt = 1 := by omega
                    refine j_iload_n (pc := 122) C dX11_habit_122 rfl 3 rfl ?_
                    refine j_iload (pc := 123) C dX11_habit_123 1 rfl ?_
                    obtain ⟨v_12, ev_12⟩ : ∃ z : Int32, x1_2 / x9_4 = z := ⟨_, rfl⟩
                    have el_0 : (0 : Int32).toInt = 0 := rfl
                    refine j_idiv (pc := 125) (v := v_12) C dX11_habit_125 (by rw [i_eq]; omega) ev_12 ?_
                    have el_0 : (0 : Int32).toInt = 0 := rfl
                    have el_m1 : ((-1) : Int32).toInt = (-1) := rfl
                    exact j_iret (pc := 126) C hr hk (fun i => [].getD i 0, fun i => [v_12, y1_m0_22, y1_m0_23, y1_m0_24].getD i 0, fun i => [].getD i (fun _ => 0), fun i => [].getD i (fun _ => 0)) rfl (show (0 ≤ (y1_m0_22).toInt ∧ (y1_m0_22).toInt ≤ 3) ∧ (0 ≤ (y1_m0_23).toInt ∧ (y1_m0_23).toInt ≤ 7) ∧ (0 ≤ (y1_m0_24).toInt ∧ (y1_m0_24).toInt ≤ 11) ∧ (HBM m_told m_states p0 v_12.toInt) from ⟨hi_1_3, hi_1_4, hi_1_5, ⟨x1_3, (by rw [show (m_told 0).toInt.toNat = (x1_4).toInt.toNat from (by omega)]; exact hq_1_1), by omega, (by have e9 : sumF (hbM m_told) (m_told 0).toInt.toNat = x1_2 := (by rw [show (m_told 0).toInt.toNat = (x1_4).toInt.toNat from (by omega)]; exact hq_1_0.symm); rw [e9]; exact ⟨by omega, by omega⟩), (by have e9 : sumF (hbM m_told) (m_told 0).toInt.toNat = x1_2 := (by rw [show (m_told 0).toInt.toNat = (x1_4).toInt.toNat from (by omega)]; exact hq_1_0.symm); rw [e9]; exact Or.inr ⟨⟨(by rw [i_eq]; omega), by omega, by omega⟩, x9_4, (by have y := hq_9_0; rw [show x9_5 = 0 from (i_eq _ _).mpr (by omega)] at y; exact y), (by rw [i_eq]; omega), (by rw [if_neg (by rw [i_eq]; omega), ev_12])⟩)⟩⟩) [1, 2, 0] (by decide) rfl (by decide) (by decide) dX11_habit_126
                  · skip
                    have el_0 : (0 : Int32).toInt = 0 := rfl
                    rw [i_eq] at c_11
                    refine j_iload_n (pc := 115) C dX11_habit_115 rfl 2 rfl ?_
                    refine j_iload (pc := 116) C dX11_habit_116 1 rfl ?_
                    obtain ⟨v_13, ev_13⟩ : ∃ z : Int32, x1_3 / x9_4 = z := ⟨_, rfl⟩
                    have el_0 : (0 : Int32).toInt = 0 := rfl
                    refine j_idiv (pc := 118) (v := v_13) C dX11_habit_118 (by rw [i_eq]; omega) ev_13 ?_
                    refine j_goto (pc := 119) (tgt := 126) C dX11_habit_119 (by decide) ?_
                    have el_0 : (0 : Int32).toInt = 0 := rfl
                    have el_m1 : ((-1) : Int32).toInt = (-1) := rfl
                    exact j_iret (pc := 126) C hr hk (fun i => [].getD i 0, fun i => [v_13, y1_m0_22, y1_m0_23, y1_m0_24].getD i 0, fun i => [].getD i (fun _ => 0), fun i => [].getD i (fun _ => 0)) rfl (show (0 ≤ (y1_m0_22).toInt ∧ (y1_m0_22).toInt ≤ 3) ∧ (0 ≤ (y1_m0_23).toInt ∧ (y1_m0_23).toInt ≤ 7) ∧ (0 ≤ (y1_m0_24).toInt ∧ (y1_m0_24).toInt ≤ 11) ∧ (HBM m_told m_states p0 v_13.toInt) from ⟨hi_1_3, hi_1_4, hi_1_5, ⟨x1_3, (by rw [show (m_told 0).toInt.toNat = (x1_4).toInt.toNat from (by omega)]; exact hq_1_1), by omega, (by have e9 : sumF (hbM m_told) (m_told 0).toInt.toNat = x1_2 := (by rw [show (m_told 0).toInt.toNat = (x1_4).toInt.toNat from (by omega)]; exact hq_1_0.symm); rw [e9]; exact ⟨by omega, by omega⟩), (by have e9 : sumF (hbM m_told) (m_told 0).toInt.toNat = x1_2 := (by rw [show (m_told 0).toInt.toNat = (x1_4).toInt.toNat from (by omega)]; exact hq_1_0.symm); rw [e9]; exact Or.inr ⟨⟨(by rw [i_eq]; omega), by omega, by omega⟩, x9_4, (by have y := hq_9_0; rw [show x9_5 = 0 from (i_eq _ _).mpr (by omega)] at y; exact y), (by rw [i_eq]; omega), (by rw [if_pos (by rw [i_eq]; omega), ev_13])⟩)⟩⟩) [1, 2, 0] (by decide) rfl (by decide) (by decide) dX11_habit_126
                · skip
                  have el_0 : (0 : Int32).toInt = 0 := rfl
                  rw [i_eq] at c_10
                  refine j_iload (pc := 93) C dX11_habit_93 1 rfl ?_
                  refine j_iload (pc := 95) C dX11_habit_95 0 rfl ?_
                  obtain ⟨v_14, ev_14⟩ : ∃ z : Int32, x9_4 - x9_4 / x9_5 * x9_5 = z := ⟨_, rfl⟩
                  have el_0 : (0 : Int32).toInt = 0 := rfl
                  have hv_14 := remP ev_14 (by omega) (by omega)
                  refine j_irem (pc := 97) (v := v_14) C dX11_habit_97 (by rw [i_eq]; omega) ev_14 ?_
                  refine j_istore (pc := 98) (lv' := [(6, .int v_14), (5, .int x9_5), (4, .int x9_4), (3, .int x1_3), (2, .int x1_2), (0, .ref m0), (1, .int p0)]) C dX11_habit_98 (by decide) rfl ?_
                  refine j_iload (pc := 100) C dX11_habit_100 1 rfl ?_
                  refine j_istore (pc := 102) (lv' := [(4, .int x9_5), (6, .int v_14), (5, .int x9_5), (3, .int x1_3), (2, .int x1_2), (0, .ref m0), (1, .int p0)]) C dX11_habit_102 (by decide) rfl ?_
                  refine j_iload (pc := 104) C dX11_habit_104 1 rfl ?_
                  refine j_istore (pc := 106) (lv' := [(5, .int v_14), (4, .int x9_5), (6, .int v_14), (3, .int x1_3), (2, .int x1_2), (0, .ref m0), (1, .int p0)]) C dX11_habit_106 (by decide) rfl ?_
                  refine j_goto (pc := 108) (tgt := 88) C dX11_habit_108 (by decide) ?_
                  have el_0 : (0 : Int32).toInt = 0 := rfl
                  exact j_lv [0, 1, 3, 4, 5, 6] rfl (ih_9 v_14 x9_5 (by omega) hi_9_0 (by omega) (EUK.step hq_9_0 (show ¬ x9_5 = 0 from (by rw [i_eq]; omega)) ev_14) (by omega))
            exact j_lv [0, 1, 2, 3, 4, 5] rfl (loop_9 1073741824 x1_2 x1_3 (by omega) hi_1_1 (by omega) (EUK.rf _ _) (by omega))
          · skip
            have el_0 : (0 : Int32).toInt = 0 := rfl
            rw [i_eq] at c_8
            refine j_iconst (pc := 80) (v := (-1)) C dX11_habit_80 (by decide) ?_
            have el_m1 : ((-1) : Int32).toInt = (-1) := rfl
            have el_0 : (0 : Int32).toInt = 0 := rfl
            have el_m1 : ((-1) : Int32).toInt = (-1) := rfl
            exact j_iret (pc := 81) C hr hk (fun i => [].getD i 0, fun i => [(-1), y1_m0_22, y1_m0_23, y1_m0_24].getD i 0, fun i => [].getD i (fun _ => 0), fun i => [].getD i (fun _ => 0)) rfl (show (0 ≤ (y1_m0_22).toInt ∧ (y1_m0_22).toInt ≤ 3) ∧ (0 ≤ (y1_m0_23).toInt ∧ (y1_m0_23).toInt ≤ 7) ∧ (0 ≤ (y1_m0_24).toInt ∧ (y1_m0_24).toInt ≤ 11) ∧ (HBM m_told m_states p0 ((-1) : Int32).toInt) from ⟨hi_1_3, hi_1_4, hi_1_5, ⟨x1_3, (by rw [show (m_told 0).toInt.toNat = (x1_4).toInt.toNat from (by omega)]; exact hq_1_1), by omega, (by have e9 : sumF (hbM m_told) (m_told 0).toInt.toNat = x1_2 := (by rw [show (m_told 0).toInt.toNat = (x1_4).toInt.toNat from (by omega)]; exact hq_1_0.symm); rw [e9]; exact ⟨by omega, by omega⟩), (by have e9 : sumF (hbM m_told) (m_told 0).toInt.toNat = x1_2 := (by rw [show (m_told 0).toInt.toNat = (x1_4).toInt.toNat from (by omega)]; exact hq_1_0.symm); rw [e9]; exact Or.inl ⟨rfl, fun z => by have z1 := z.1; rw [i_eq] at z1; have z2 := z.2; omega⟩)⟩⟩) [1, 2, 0] (by decide) rfl (by decide) (by decide) dX11_habit_81
      · skip
        rw [i_le] at c_4
        have hw9 := congrArg Int32.toInt hw_3_1
        refine j_iload_n (pc := 21) C dX11_habit_21 rfl 2 rfl ?_
        refine j_aload_n (pc := 22) C dX11_habit_22 rfl 3 rfl ?_
        refine j_iload (pc := 23) C dX11_habit_23 0 rfl ?_
        refine j_iconst (pc := 25) (v := 5) C dX11_habit_25 (by decide) ?_
        refine j_callV (pc := 26) (As := [.int x1_4, .int 5]) (rest := [.int x1_2]) (wr := [(mstates, .inl (cyI, 2760, .inl m_states))]) C (c_X11_wareOf l D cyC cyI cyJ cyZ cyO m0 mtold mtape msort mplace mvalue mwords mop marg mnames mhasHabit mfactWords mfacts mpile mstates misMarked mrow mthr mmays mtall mweights mrowOfWare mneededOf mtried mbestRow mdigits x1_4 5 0 m_taped m_size m_at m_fault m_codes m_isNew y1_m0_22 y1_m0_23 y1_m0_24 m_rowMany m_goShelf m_goStack m_goLeft m_bestCost m_bestMany m_bestShelf m_bestSet m_told h_m_taped h_m_size h_m_at h_m_fault h_m_codes h_m_isNew hi_1_3 hi_1_4 hi_1_5 h_m_rowMany h_m_goShelf h_m_bestMany h_m_bestShelf (by omega) (by decide) h_m_told) wd_756 wd_624 wd_757 wd_758 wd_759 ⟨by decide, by decide, rfl⟩ rfl ⟨rfl, rfl, by decide, by decide⟩ ⟨by decide, by decide⟩ [1, 2] [0] rfl rfl ⟨by decide, by decide, by decide⟩ 1 rfl rfl rfl (Nat.le_of_ble_eq_true rfl) dX11_habit_26 (fun u_15 hw_16 => ?_)
        refine j_eq (ws2 := [(mstates, .inl (cyI, 2760, .inl m_states)), (m0, .inr (11, [.int 0, .ref mtape, .int m_taped, .int m_size, .ref msort, .ref mplace, .ref mvalue, .int m_at, .int m_fault, .ref mwords, .ref mtold, .ref mop, .ref marg, .int m_codes, .ref mnames, .ref mhasHabit, .int m_isNew, .ref mfactWords, .ref mfacts, .ref mpile, .ref mstates, .ref misMarked, .int y1_m0_22, .int y1_m0_23, .int y1_m0_24, .ref mrow, .int m_rowMany, .ref mthr, .ref mmays, .ref mtall, .ref mweights, .ref mrowOfWare, .ref mneededOf, .int m_goShelf, .int m_goStack, .int m_goLeft, .ref mtried, .ref mbestRow, .int m_bestCost, .int m_bestMany, .int m_bestShelf, .int m_bestSet, .ref mdigits])), (mtold, .inl (cyI, 240, .inl m_told))]) (pc2 := 29) (lv2 := [(4, .int x1_4), (3, .int x1_3), (2, .int x1_2), (0, .ref m0), (1, .int p0)]) (st2 := [.int (u_15.2.1 0), .int x1_2]) rfl rfl rfl rfl ?_
        obtain ⟨hw_16_0, hw_16_1⟩ := hw_16
        obtain ⟨v_17, ev_17⟩ : ∃ z : Int32, x1_2 + (u_15.2.1 0) = z := ⟨_, rfl⟩
        have hv_17 : v_17.toInt = x1_2.toInt + ((u_15.2.1 0)).toInt := by rw [← ev_17]; exact fb_addI (by omega) (by omega)
        refine j_iadd (pc := 29) (v := v_17) C dX11_habit_29 ev_17 ?_
        refine j_istore_n (pc := 30) (lv' := [(2, .int v_17), (4, .int x1_4), (3, .int x1_3), (0, .ref m0), (1, .int p0)]) C dX11_habit_30 rfl (by decide) rfl ?_
        refine j_iload_n (pc := 31) C dX11_habit_31 rfl 2 rfl ?_
        refine j_aload_n (pc := 32) C dX11_habit_32 rfl 3 rfl ?_
        refine j_iconst (pc := 33) (v := 0) C dX11_habit_33 (by decide) ?_
        refine j_iload (pc := 34) C dX11_habit_34 1 rfl ?_
        refine j_callV (pc := 36) (As := [.int 0, .int x1_4]) (rest := [.int x1_3]) (wr := []) C (c_X11_isIn_0 l D cyC cyI cyJ cyZ cyO m0 mtold mstates mtape msort mplace mvalue mwords mop marg mnames mhasHabit mfactWords mfacts mpile misMarked mrow mthr mmays mtall mweights mrowOfWare mneededOf mtried mbestRow mdigits x1_4 0 m_taped m_size m_at m_fault m_codes m_isNew y1_m0_22 y1_m0_23 y1_m0_24 m_rowMany m_goShelf m_goStack m_goLeft m_bestCost m_bestMany m_bestShelf m_bestSet m_told m_states h_m_taped h_m_size h_m_at h_m_fault h_m_codes h_m_isNew hi_1_3 hi_1_4 hi_1_5 h_m_rowMany h_m_goShelf h_m_bestMany h_m_bestShelf h_m_told h_m_states) wd_825 wd_624 wd_826 wd_827 wd_828 ⟨by decide, by decide, rfl⟩ rfl ⟨rfl, rfl, by decide, by decide⟩ ⟨by decide, by decide⟩ [1, 2, 0] [] rfl rfl ⟨by decide, by decide, by decide⟩ 1 rfl rfl rfl (Nat.le_of_ble_eq_true rfl) dX11_habit_36 (fun u_18 hw_19 => ?_)
        refine j_eq (ws2 := [(m0, .inr (11, [.int 0, .ref mtape, .int m_taped, .int m_size, .ref msort, .ref mplace, .ref mvalue, .int m_at, .int m_fault, .ref mwords, .ref mtold, .ref mop, .ref marg, .int m_codes, .ref mnames, .ref mhasHabit, .int m_isNew, .ref mfactWords, .ref mfacts, .ref mpile, .ref mstates, .ref misMarked, .int (u_18.2.1 1), .int (u_18.2.1 2), .int (u_18.2.1 3), .ref mrow, .int m_rowMany, .ref mthr, .ref mmays, .ref mtall, .ref mweights, .ref mrowOfWare, .ref mneededOf, .int m_goShelf, .int m_goStack, .int m_goLeft, .ref mtried, .ref mbestRow, .int m_bestCost, .int m_bestMany, .int m_bestShelf, .int m_bestSet, .ref mdigits])), (mtold, .inl (cyI, 240, .inl m_told)), (mstates, .inl (cyI, 2760, .inl m_states))]) (pc2 := 39) (lv2 := [(2, .int v_17), (4, .int x1_4), (3, .int x1_3), (0, .ref m0), (1, .int p0)]) (st2 := [.int (u_18.2.1 0), .int x1_3]) rfl rfl rfl rfl ?_
        obtain ⟨hw_19_0, hw_19_1, hw_19_2, hw_19_3, hw_19_4, hw_19_5⟩ := hw_19
        refine j_if_eq (pc := 39) (tgt := 58) C dX11_habit_39 (by decide) (fun c_20 => ?_) (fun c_20 => ?_)
        · skip
          have el_0 : (0 : Int32).toInt = 0 := rfl
          rw [i_eq] at c_20
          refine j_iconst (pc := 58) (v := 0) C dX11_habit_58 (by decide) ?_
          obtain ⟨v_21, ev_21⟩ : ∃ z : Int32, x1_3 + 0 = z := ⟨_, rfl⟩
          have el_0 : (0 : Int32).toInt = 0 := rfl
          have hv_21 : v_21.toInt = x1_3.toInt + (0 : Int32).toInt := by rw [← ev_21]; exact fb_addI (by omega) (by omega)
          refine j_iadd (pc := 59) (v := v_21) C dX11_habit_59 ev_21 ?_
          refine j_istore_n (pc := 60) (lv' := [(3, .int v_21), (2, .int v_17), (4, .int x1_4), (0, .ref m0), (1, .int p0)]) C dX11_habit_60 rfl (by decide) rfl ?_
          obtain ⟨v_22, ev_22⟩ : ∃ z : Int32, x1_4 + 1 = z := ⟨_, rfl⟩
          have el_1 : (1 : Int32).toInt = 1 := rfl
          have hv_22 : v_22.toInt = x1_4.toInt + (1 : Int32).toInt := by rw [← ev_22]; exact fb_addI (by omega) (by omega)
          refine j_iinc (pc := 61) (v := v_22) (lv' := [(4, .int v_22), (3, .int v_21), (2, .int v_17), (0, .ref m0), (1, .int p0)]) C dX11_habit_61 2 rfl ev_22 (by decide) rfl ?_
          refine j_goto (pc := 64) (tgt := 12) C dX11_habit_64 (by decide) ?_
          exact j_lv [0, 1, 2, 3, 4] rfl (ih_1 v_22 v_21 v_17 (u_18.2.1 1) (u_18.2.1 2) (u_18.2.1 3) (by omega) (by omega) (by omega) hw_19_1 hw_19_2 hw_19_3 (by omega) (by have y0 : (u_15.2.1 0) = hbM m_told (x1_4).toInt.toNat := hw_16_1; rw [show (v_22.toInt).toNat = (x1_4).toInt.toNat + 1 from (by omega), sumF_s, ← hq_1_0, ← y0]; exact ev_17.symm) (SR.step hq_1_1 (by omega) ⟨0, (by rw [nI_id (by omega)]; exact Or.inl ⟨hw_19_4 (by omega), rfl⟩), (by rw [Int32.mul_zero])⟩ ev_21.symm) (by omega))
        · skip
          have el_0 : (0 : Int32).toInt = 0 := rfl
          rw [i_eq] at c_20
          have k0c_20 : ((u_18.2.1 0)).toInt = 1 := by omega
          obtain ⟨hi1, hi2, hi3, hi4⟩ := hw_19_5 (by omega)
          refine j_aload_n (pc := 42) C dX11_habit_42 rfl 3 rfl ?_
          refine j_iload (pc := 43) C dX11_habit_43 1 rfl ?_
          refine j_iconst (pc := 45) (v := 5) C dX11_habit_45 (by decide) ?_
          refine j_callV (pc := 46) (As := [.int x1_4, .int 5]) (rest := [.int x1_3]) (wr := [(mstates, .inl (cyI, 2760, .inl m_states))]) C (c_X11_wareOf l D cyC cyI cyJ cyZ cyO m0 mtold mtape msort mplace mvalue mwords mop marg mnames mhasHabit mfactWords mfacts mpile mstates misMarked mrow mthr mmays mtall mweights mrowOfWare mneededOf mtried mbestRow mdigits x1_4 5 0 m_taped m_size m_at m_fault m_codes m_isNew (u_18.2.1 1) (u_18.2.1 2) (u_18.2.1 3) m_rowMany m_goShelf m_goStack m_goLeft m_bestCost m_bestMany m_bestShelf m_bestSet m_told h_m_taped h_m_size h_m_at h_m_fault h_m_codes h_m_isNew hw_19_1 hw_19_2 hw_19_3 h_m_rowMany h_m_goShelf h_m_bestMany h_m_bestShelf (by omega) (by decide) h_m_told) wd_756 wd_624 wd_757 wd_758 wd_759 ⟨by decide, by decide, rfl⟩ rfl ⟨rfl, rfl, by decide, by decide⟩ ⟨by decide, by decide⟩ [0, 1] [2] rfl rfl ⟨by decide, by decide, by decide⟩ 0 rfl rfl rfl (Nat.le_of_ble_eq_true rfl) dX11_habit_46 (fun u_23 hw_24 => ?_)
          refine j_eq (ws2 := [(mstates, .inl (cyI, 2760, .inl m_states)), (m0, .inr (11, [.int 0, .ref mtape, .int m_taped, .int m_size, .ref msort, .ref mplace, .ref mvalue, .int m_at, .int m_fault, .ref mwords, .ref mtold, .ref mop, .ref marg, .int m_codes, .ref mnames, .ref mhasHabit, .int m_isNew, .ref mfactWords, .ref mfacts, .ref mpile, .ref mstates, .ref misMarked, .int (u_18.2.1 1), .int (u_18.2.1 2), .int (u_18.2.1 3), .ref mrow, .int m_rowMany, .ref mthr, .ref mmays, .ref mtall, .ref mweights, .ref mrowOfWare, .ref mneededOf, .int m_goShelf, .int m_goStack, .int m_goLeft, .ref mtried, .ref mbestRow, .int m_bestCost, .int m_bestMany, .int m_bestShelf, .int m_bestSet, .ref mdigits])), (mtold, .inl (cyI, 240, .inl m_told))]) (pc2 := 49) (lv2 := [(2, .int v_17), (4, .int x1_4), (3, .int x1_3), (0, .ref m0), (1, .int p0)]) (st2 := [.int (u_23.2.1 0), .int x1_3]) rfl rfl rfl rfl ?_
          obtain ⟨hw_24_0, hw_24_1⟩ := hw_24
          refine j_aload_n (pc := 49) C dX11_habit_49 rfl 3 rfl ?_
          refine j_iconst (pc := 50) (v := 0) C dX11_habit_50 (by decide) ?_
          refine j_callV (pc := 51) (As := [.int 0]) (rest := [.int (u_23.2.1 0), .int x1_3]) (wr := []) C (c_X11_liftCost_0 l D cyC cyI cyJ cyZ cyO m0 mtold mstates mtape msort mplace mvalue mwords mop marg mnames mhasHabit mfactWords mfacts mpile misMarked mrow mthr mmays mtall mweights mrowOfWare mneededOf mtried mbestRow mdigits 0 m_taped m_size m_at m_fault m_codes m_isNew (u_18.2.1 1) (u_18.2.1 2) (u_18.2.1 3) m_rowMany m_goShelf m_goStack m_goLeft m_bestCost m_bestMany m_bestShelf m_bestSet m_told m_states h_m_taped h_m_size h_m_at h_m_fault h_m_codes h_m_isNew hw_19_1 hw_19_2 hw_19_3 h_m_rowMany h_m_goShelf h_m_bestMany h_m_bestShelf h_m_told h_m_states) wd_829 wd_624 wd_830 wd_831 wd_832 ⟨by decide, by decide, rfl⟩ rfl ⟨rfl, rfl, by decide, by decide⟩ ⟨by decide, by decide⟩ [1, 2, 0] [] rfl rfl ⟨by decide, by decide, by decide⟩ 1 rfl rfl rfl (Nat.le_of_ble_eq_true rfl) dX11_habit_51 (fun u_25 hw_26 => ?_)
          refine j_eq (ws2 := [(m0, .inr (11, [.int 0, .ref mtape, .int m_taped, .int m_size, .ref msort, .ref mplace, .ref mvalue, .int m_at, .int m_fault, .ref mwords, .ref mtold, .ref mop, .ref marg, .int m_codes, .ref mnames, .ref mhasHabit, .int m_isNew, .ref mfactWords, .ref mfacts, .ref mpile, .ref mstates, .ref misMarked, .int (u_18.2.1 1), .int (u_18.2.1 2), .int (u_18.2.1 3), .ref mrow, .int m_rowMany, .ref mthr, .ref mmays, .ref mtall, .ref mweights, .ref mrowOfWare, .ref mneededOf, .int m_goShelf, .int m_goStack, .int m_goLeft, .ref mtried, .ref mbestRow, .int m_bestCost, .int m_bestMany, .int m_bestShelf, .int m_bestSet, .ref mdigits])), (mtold, .inl (cyI, 240, .inl m_told)), (mstates, .inl (cyI, 2760, .inl m_states))]) (pc2 := 54) (lv2 := [(2, .int v_17), (4, .int x1_4), (3, .int x1_3), (0, .ref m0), (1, .int p0)]) (st2 := [.int (u_25.2.1 0), .int (u_23.2.1 0), .int x1_3]) rfl rfl rfl rfl ?_
          obtain ⟨hw_26_0, hw_26_1⟩ := hw_26
          obtain ⟨v_27, ev_27⟩ : ∃ z : Int32, (u_23.2.1 0) * (u_25.2.1 0) = z := ⟨_, rfl⟩
          have hv_27 := mulB (x := (u_23.2.1 0)) (y := (u_25.2.1 0)) (a := 999) (b := 47952) (by omega) (by omega) (by decide)
          rw [ev_27] at hv_27
          refine j_imul (pc := 54) (v := v_27) C dX11_habit_54 ev_27 ?_
          refine j_goto (pc := 55) (tgt := 59) C dX11_habit_55 (by decide) ?_
          obtain ⟨v_28, ev_28⟩ : ∃ z : Int32, x1_3 + v_27 = z := ⟨_, rfl⟩
          have hv_28 : v_28.toInt = x1_3.toInt + v_27.toInt := by rw [← ev_28]; exact fb_addI (by omega) (by omega)
          refine j_iadd (pc := 59) (v := v_28) C dX11_habit_59 ev_28 ?_
          refine j_istore_n (pc := 60) (lv' := [(3, .int v_28), (2, .int v_17), (4, .int x1_4), (0, .ref m0), (1, .int p0)]) C dX11_habit_60 rfl (by decide) rfl ?_
          obtain ⟨v_29, ev_29⟩ : ∃ z : Int32, x1_4 + 1 = z := ⟨_, rfl⟩
          have el_1 : (1 : Int32).toInt = 1 := rfl
          have hv_29 : v_29.toInt = x1_4.toInt + (1 : Int32).toInt := by rw [← ev_29]; exact fb_addI (by omega) (by omega)
          refine j_iinc (pc := 61) (v := v_29) (lv' := [(4, .int v_29), (3, .int v_28), (2, .int v_17), (0, .ref m0), (1, .int p0)]) C dX11_habit_61 2 rfl ev_29 (by decide) rfl ?_
          refine j_goto (pc := 64) (tgt := 12) C dX11_habit_64 (by decide) ?_
          exact j_lv [0, 1, 2, 3, 4] rfl (ih_1 v_29 v_28 v_17 (u_18.2.1 1) (u_18.2.1 2) (u_18.2.1 3) (by omega) (by omega) (by omega) hw_19_1 hw_19_2 hw_19_3 (by omega) (by have y0 : (u_15.2.1 0) = hbM m_told (x1_4).toInt.toNat := hw_16_1; rw [show (v_29.toInt).toNat = (x1_4).toInt.toNat + 1 from (by omega), sumF_s, ← hq_1_0, ← y0]; exact ev_17.symm) (SR.step hq_1_1 (by omega) ⟨(u_25.2.1 0), (by rw [nI_id (by omega)]; exact (Or.inr ⟨(fun z => by have y := z ((u_18.2.1 1)).toInt.toNat (by omega) ((u_18.2.1 2)).toInt.toNat ((u_18.2.1 3)).toInt.toNat (by omega); rw [show 460 * 0 + 105 * ((u_18.2.1 1)).toInt.toNat = 0 + 105 * ((u_18.2.1 1)).toInt.toNat from (by omega)] at y; exact y (by omega) (by omega) hi2), ((u_18.2.1 1)).toInt.toNat, ((u_18.2.1 2)).toInt.toNat, ((u_18.2.1 3)).toInt.toNat, (show IN m_states 0 (m_told 1).toInt ((u_18.2.1 1)).toInt.toNat ((u_18.2.1 2)).toInt.toNat ((u_18.2.1 3)).toInt.toNat (x1_4).toInt.toNat from ⟨by omega, by rw [show 460 * 0 + 105 * ((u_18.2.1 1)).toInt.toNat = 0 + 105 * ((u_18.2.1 1)).toInt.toNat from (by omega)]; omega, by rw [show 460 * 0 + 105 * ((u_18.2.1 1)).toInt.toNat = 0 + 105 * ((u_18.2.1 1)).toInt.toNat from (by omega)]; omega, by rw [show 460 * 0 + 105 * ((u_18.2.1 1)).toInt.toNat = 0 + 105 * ((u_18.2.1 1)).toInt.toNat from (by omega), hi2]; omega⟩), by omega, by omega, (by have y := hw_26_1; rw [show (0 + 105 * ((u_18.2.1 1)).toInt.toNat + 1 + 13 * ((u_18.2.1 2)).toInt.toNat) = 460 * 0 + 105 * ((u_18.2.1 1)).toInt.toNat + 1 + 13 * ((u_18.2.1 2)).toInt.toNat from (by omega)] at y; exact y)⟩)), (by have y1 : (u_23.2.1 0) = hbM m_told (x1_4).toInt.toNat := hw_24_1; rw [← y1]; exact ev_27.symm)⟩ ev_28.symm) (by omega))
  have el_0 : (0 : Int32).toInt = 0 := rfl
  have el_0 : (0 : Int32).toInt = 0 := rfl
  have el_0 : (0 : Int32).toInt = 0 := rfl
  exact j_lv [0, 1, 2, 3, 4] rfl (loop_1 4096 0 0 0 m_inShelf m_inStack m_inPlace (by decide) (by decide) (by decide) h_m_inShelf h_m_inStack h_m_inPlace (by omega) rfl (SR.zero rfl rfl) (by omega))
set_option maxHeartbeats 4000000 in
set_option maxRecDepth 100000 in
theorem c_X11_whole (l : Launch) (D : DG) (cyC cyI cyJ cyZ cyO : ClassId) (m0 : Nat) (mtold : Nat) (mstates : Nat) (mrow : Nat) (mdigits : Nat) (mtape : Nat) (msort : Nat) (mplace : Nat) (mvalue : Nat) (mwords : Nat) (mop : Nat) (marg : Nat) (mnames : Nat) (mhasHabit : Nat) (mfactWords : Nat) (mfacts : Nat) (mpile : Nat) (misMarked : Nat) (mthr : Nat) (mmays : Nat) (mtall : Nat) (mweights : Nat) (mrowOfWare : Nat) (mneededOf : Nat) (mtried : Nat) (mbestRow : Nat) (p0 : Int32) (p1 : Int32) (m_thrown : Int32) (m_taped : Int32) (m_size : Int32) (m_at : Int32) (m_fault : Int32) (m_codes : Int32) (m_isNew : Int32) (m_inShelf : Int32) (m_inStack : Int32) (m_inPlace : Int32) (m_rowMany : Int32) (m_goShelf : Int32) (m_goStack : Int32) (m_goLeft : Int32) (m_bestCost : Int32) (m_bestMany : Int32) (m_bestShelf : Int32) (m_bestSet : Int32) (m_told : Nat → Int32) (m_states : Nat → Int32) (m_row : Nat → Int32) (m_digits : Nat → Int64) (h_m_taped : 0 ≤ (m_taped).toInt ∧ (m_taped).toInt ≤ 1000) (h_m_size : 0 ≤ (m_size).toInt ∧ (m_size).toInt ≤ 1000) (h_m_at : 0 ≤ (m_at).toInt ∧ (m_at).toInt ≤ 1000) (h_m_fault : 0 ≤ (m_fault).toInt ∧ (m_fault).toInt ≤ 16005) (h_m_codes : 0 ≤ (m_codes).toInt ∧ (m_codes).toInt ≤ 1000) (h_m_isNew : 0 ≤ (m_isNew).toInt ∧ (m_isNew).toInt ≤ 1) (h_m_inShelf : 0 ≤ (m_inShelf).toInt ∧ (m_inShelf).toInt ≤ 3) (h_m_inStack : 0 ≤ (m_inStack).toInt ∧ (m_inStack).toInt ≤ 7) (h_m_inPlace : 0 ≤ (m_inPlace).toInt ∧ (m_inPlace).toInt ≤ 11) (h_m_rowMany : 0 ≤ (m_rowMany).toInt ∧ (m_rowMany).toInt ≤ 12) (h_m_goShelf : -1 ≤ (m_goShelf).toInt ∧ (m_goShelf).toInt ≤ 3) (h_m_bestMany : 0 ≤ (m_bestMany).toInt ∧ (m_bestMany).toInt ≤ 7) (h_m_bestShelf : 0 ≤ (m_bestShelf).toInt ∧ (m_bestShelf).toInt ≤ 3) (h_m_row : Iv 12 (0) (11) m_row) (h_m_told : TV m_told) (h_m_states : SV m_states) : KK l D (TY cyC cyI cyJ cyZ cyO) yX11_whole cX11_whole 10 (some .long) ({ frames := 3, cells := 0, slots := 0, locals := 73 } : Room) 0 0 [.ref m0, .int p0, .int p1] [(m0, .inr (11, [.int m_thrown, .ref mtape, .int m_taped, .int m_size, .ref msort, .ref mplace, .ref mvalue, .int m_at, .int m_fault, .ref mwords, .ref mtold, .ref mop, .ref marg, .int m_codes, .ref mnames, .ref mhasHabit, .int m_isNew, .ref mfactWords, .ref mfacts, .ref mpile, .ref mstates, .ref misMarked, .int m_inShelf, .int m_inStack, .int m_inPlace, .ref mrow, .int m_rowMany, .ref mthr, .ref mmays, .ref mtall, .ref mweights, .ref mrowOfWare, .ref mneededOf, .int m_goShelf, .int m_goStack, .int m_goLeft, .ref mtried, .ref mbestRow, .int m_bestCost, .int m_bestMany, .int m_bestShelf, .int m_bestSet, .ref mdigits])), (mtold, .inl (cyI, 240, .inl m_told)), (mstates, .inl (cyI, 2760, .inl m_states)), (mrow, .inl (cyI, 12, .inl m_row)), (mdigits, .inl (cyJ, 5, .inr (.inl m_digits)))] (fun u => some (.long (u.2.2.2 0 0))) (fun u => (0 ≤ (u.2.1 1).toInt ∧ (u.2.1 1).toInt ≤ 3) ∧ (0 ≤ (u.2.1 2).toInt ∧ (u.2.1 2).toInt ≤ 7) ∧ (0 ≤ (u.2.1 3).toInt ∧ (u.2.1 3).toInt ≤ 11) ∧ (0 ≤ (u.2.1 4).toInt ∧ (u.2.1 4).toInt ≤ 12) ∧ (Iv 12 (0) (11) (u.2.2.1 0))) (fun u => [(m0, .inr (11, [.int (u.2.1 0), .ref mtape, .int m_taped, .int m_size, .ref msort, .ref mplace, .ref mvalue, .int m_at, .int m_fault, .ref mwords, .ref mtold, .ref mop, .ref marg, .int m_codes, .ref mnames, .ref mhasHabit, .int m_isNew, .ref mfactWords, .ref mfacts, .ref mpile, .ref mstates, .ref misMarked, .int (u.2.1 1), .int (u.2.1 2), .int (u.2.1 3), .ref mrow, .int (u.2.1 4), .ref mthr, .ref mmays, .ref mtall, .ref mweights, .ref mrowOfWare, .ref mneededOf, .int m_goShelf, .int m_goStack, .int m_goLeft, .ref mtried, .ref mbestRow, .int m_bestCost, .int m_bestMany, .int m_bestShelf, .int m_bestSet, .ref mdigits])), (mtold, .inl (cyI, 240, .inl m_told)), (mstates, .inl (cyI, 2760, .inl m_states)), (mrow, .inl (cyI, 12, .inl (u.2.2.1 0))), (mdigits, .inl (cyJ, 5, .inr (.inl (u.2.2.2 1))))]) := by
  refine KK.of (lv0 := [(0, .ref m0), (1, .int p0), (2, .int p1)]) (by decide) rfl (Nat.le_of_ble_eq_true rfl) ?_
  intro p e s m args below meth c A C hr hk hin
  refine j_aload_n (pc := 0) C dX11_whole_0 rfl 0 rfl ?_
  refine j_aload_n (pc := 1) C dX11_whole_1 rfl 0 rfl ?_
  refine j_iload_n (pc := 2) C dX11_whole_2 rfl 1 rfl ?_
  refine j_callV (pc := 3) (As := [.int p0]) (rest := [.ref m0]) (wr := [(mstates, .inl (cyI, 2760, .inl m_states)), (mrow, .inl (cyI, 12, .inl m_row)), (mdigits, .inl (cyJ, 5, .inr (.inl m_digits)))]) C (c_X11_isWare l D cyC cyI cyJ cyZ cyO m0 mtold mtape msort mplace mvalue mwords mop marg mnames mhasHabit mfactWords mfacts mpile mstates misMarked mrow mthr mmays mtall mweights mrowOfWare mneededOf mtried mbestRow mdigits p0 m_thrown m_taped m_size m_at m_fault m_codes m_isNew m_inShelf m_inStack m_inPlace m_rowMany m_goShelf m_goStack m_goLeft m_bestCost m_bestMany m_bestShelf m_bestSet m_told h_m_taped h_m_size h_m_at h_m_fault h_m_codes h_m_isNew h_m_inShelf h_m_inStack h_m_inPlace h_m_rowMany h_m_goShelf h_m_bestMany h_m_bestShelf h_m_told) wd_814 wd_624 wd_815 wd_816 wd_817 ⟨by decide, by decide, rfl⟩ rfl ⟨rfl, rfl, by decide, by decide⟩ ⟨by decide, by decide⟩ [0, 1] [2, 3, 4] rfl rfl ⟨by decide, by decide, by decide⟩ 0 rfl rfl rfl (Nat.le_of_ble_eq_true rfl) dX11_whole_3 (fun u_1 hw_2 => ?_)
  refine j_eq (ws2 := [(mstates, .inl (cyI, 2760, .inl m_states)), (mrow, .inl (cyI, 12, .inl m_row)), (mdigits, .inl (cyJ, 5, .inr (.inl m_digits))), (m0, .inr (11, [.int m_thrown, .ref mtape, .int m_taped, .int m_size, .ref msort, .ref mplace, .ref mvalue, .int m_at, .int m_fault, .ref mwords, .ref mtold, .ref mop, .ref marg, .int m_codes, .ref mnames, .ref mhasHabit, .int m_isNew, .ref mfactWords, .ref mfacts, .ref mpile, .ref mstates, .ref misMarked, .int m_inShelf, .int m_inStack, .int m_inPlace, .ref mrow, .int m_rowMany, .ref mthr, .ref mmays, .ref mtall, .ref mweights, .ref mrowOfWare, .ref mneededOf, .int m_goShelf, .int m_goStack, .int m_goLeft, .ref mtried, .ref mbestRow, .int m_bestCost, .int m_bestMany, .int m_bestShelf, .int m_bestSet, .ref mdigits])), (mtold, .inl (cyI, 240, .inl m_told))]) (pc2 := 6) (lv2 := [(0, .ref m0), (1, .int p0), (2, .int p1)]) (st2 := [.int (u_1.2.1 0), .ref m0]) rfl rfl rfl rfl ?_
  obtain ⟨hw_2_0, hw_2_1, hw_2_2⟩ := hw_2
  refine j_if_eq (pc := 6) (tgt := 32) C dX11_whole_6 (by decide) (fun c_3 => ?_) (fun c_3 => ?_)
  · skip
    have el_0 : (0 : Int32).toInt = 0 := rfl
    rw [i_eq] at c_3
    refine j_iconst (pc := 32) (v := 1) C dX11_whole_32 (by decide) ?_
    refine j_put (pc := 33) (ci := 11) (v := .int 1) (ws' := [(mstates, .inl (cyI, 2760, .inl m_states)), (mrow, .inl (cyI, 12, .inl m_row)), (mdigits, .inl (cyJ, 5, .inr (.inl m_digits))), (m0, .inr (11, [.int 1, .ref mtape, .int m_taped, .int m_size, .ref msort, .ref mplace, .ref mvalue, .int m_at, .int m_fault, .ref mwords, .ref mtold, .ref mop, .ref marg, .int m_codes, .ref mnames, .ref mhasHabit, .int m_isNew, .ref mfactWords, .ref mfacts, .ref mpile, .ref mstates, .ref misMarked, .int m_inShelf, .int m_inStack, .int m_inPlace, .ref mrow, .int m_rowMany, .ref mthr, .ref mmays, .ref mtall, .ref mweights, .ref mrowOfWare, .ref mneededOf, .int m_goShelf, .int m_goStack, .int m_goLeft, .ref mtried, .ref mbestRow, .int m_bestCost, .int m_bestMany, .int m_bestShelf, .int m_bestSet, .ref mdigits])), (mtold, .inl (cyI, 240, .inl m_told))]) C inw_11 3 rfl rfl 0 (by decide) wd_629 rfl tyX11_ok nmX11 rfl (tyX11_ok 0 (by decide)) rfl rfl (Nat.le_of_ble_eq_true rfl) dX11_whole_33 rfl ?_
    refine j_aload_n (pc := 36) C dX11_whole_36 rfl 0 rfl ?_
    refine j_get (pc := 37) (ci := 11) (v := .int 1) C inw_11 3 rfl rfl 0 (by decide) wd_629 rfl rfl dX11_whole_37 ?_
    refine j_if_le_f (pc := 40) (tgt := 45) C dX11_whole_40 (by decide) (by decide) ?_
    refine j_lconst (pc := 43) (v := 0) C dX11_whole_43 rfl ?_
    exact j_lret (pc := 44) C hr hk (fun i => [].getD i 0, fun i => [1, m_inShelf, m_inStack, m_inPlace, m_rowMany].getD i 0, fun i => [m_row].getD i (fun _ => 0), fun i => [(fun _ => 0), m_digits].getD i (fun _ => 0)) rfl (show (0 ≤ (m_inShelf).toInt ∧ (m_inShelf).toInt ≤ 3) ∧ (0 ≤ (m_inStack).toInt ∧ (m_inStack).toInt ≤ 7) ∧ (0 ≤ (m_inPlace).toInt ∧ (m_inPlace).toInt ≤ 11) ∧ (0 ≤ (m_rowMany).toInt ∧ (m_rowMany).toInt ≤ 12) ∧ (Iv 12 (0) (11) m_row) from ⟨h_m_inShelf, h_m_inStack, h_m_inPlace, h_m_rowMany, h_m_row⟩) [3, 4, 0, 1, 2] (by decide) rfl (by decide) (by decide) dX11_whole_44
  · skip
    have el_0 : (0 : Int32).toInt = 0 := rfl
    rw [i_eq] at c_3
    have k0c_3 : ((u_1.2.1 0)).toInt = 1 := by omega
    refine j_iload_n (pc := 9) C dX11_whole_9 rfl 2 rfl ?_
    refine j_iconst (pc := 10) (v := 0) C dX11_whole_10 (by decide) ?_
    refine j_iconst (pc := 11) (v := 4) C dX11_whole_11 (by decide) ?_
    refine j_callS (pc := 12) (As := [.int p1, .int 0, .int 4]) (rest := [.ref m0]) (wr := [(mstates, .inl (cyI, 2760, .inl m_states)), (mrow, .inl (cyI, 12, .inl m_row)), (mdigits, .inl (cyJ, 5, .inr (.inl m_digits))), (m0, .inr (11, [.int m_thrown, .ref mtape, .int m_taped, .int m_size, .ref msort, .ref mplace, .ref mvalue, .int m_at, .int m_fault, .ref mwords, .ref mtold, .ref mop, .ref marg, .int m_codes, .ref mnames, .ref mhasHabit, .int m_isNew, .ref mfactWords, .ref mfacts, .ref mpile, .ref mstates, .ref misMarked, .int m_inShelf, .int m_inStack, .int m_inPlace, .ref mrow, .int m_rowMany, .ref mthr, .ref mmays, .ref mtall, .ref mweights, .ref mrowOfWare, .ref mneededOf, .int m_goShelf, .int m_goStack, .int m_goLeft, .ref mtried, .ref mbestRow, .int m_bestCost, .int m_bestMany, .int m_bestShelf, .int m_bestSet, .ref mdigits])), (mtold, .inl (cyI, 240, .inl m_told))]) C (c_X11_within_f l D cyC cyI cyJ cyZ cyO p1 0 4) wd_818 wd_624 wd_819 wd_820 ⟨by decide, by decide, rfl⟩ rfl ⟨rfl, rfl, by decide, by decide⟩ ⟨by decide, by decide⟩ [] [0, 1, 2, 3, 4] rfl rfl ⟨by decide, by decide, by decide⟩ rfl (Nat.le_of_ble_eq_true rfl) dX11_whole_12 (fun u_4 hw_5 => ?_)
    refine j_eq (ws2 := [(mstates, .inl (cyI, 2760, .inl m_states)), (mrow, .inl (cyI, 12, .inl m_row)), (mdigits, .inl (cyJ, 5, .inr (.inl m_digits))), (m0, .inr (11, [.int m_thrown, .ref mtape, .int m_taped, .int m_size, .ref msort, .ref mplace, .ref mvalue, .int m_at, .int m_fault, .ref mwords, .ref mtold, .ref mop, .ref marg, .int m_codes, .ref mnames, .ref mhasHabit, .int m_isNew, .ref mfactWords, .ref mfacts, .ref mpile, .ref mstates, .ref misMarked, .int m_inShelf, .int m_inStack, .int m_inPlace, .ref mrow, .int m_rowMany, .ref mthr, .ref mmays, .ref mtall, .ref mweights, .ref mrowOfWare, .ref mneededOf, .int m_goShelf, .int m_goStack, .int m_goLeft, .ref mtried, .ref mbestRow, .int m_bestCost, .int m_bestMany, .int m_bestShelf, .int m_bestSet, .ref mdigits])), (mtold, .inl (cyI, 240, .inl m_told))]) (pc2 := 15) (lv2 := [(0, .ref m0), (1, .int p0), (2, .int p1)]) (st2 := [.int (u_4.2.1 0), .ref m0]) rfl rfl rfl rfl ?_
    obtain ⟨hw_5_0, hw_5_1, hw_5_2⟩ := hw_5
    have el_0 : (0 : Int32).toInt = 0 := rfl
    have el_4 : (4 : Int32).toInt = 4 := rfl
    refine j_if_eq (pc := 15) (tgt := 32) C dX11_whole_15 (by decide) (fun c_6 => ?_) (fun c_6 => ?_)
    · skip
      have el_0 : (0 : Int32).toInt = 0 := rfl
      rw [i_eq] at c_6
      refine j_iconst (pc := 32) (v := 1) C dX11_whole_32 (by decide) ?_
      refine j_put (pc := 33) (ci := 11) (v := .int 1) (ws' := [(mstates, .inl (cyI, 2760, .inl m_states)), (mrow, .inl (cyI, 12, .inl m_row)), (mdigits, .inl (cyJ, 5, .inr (.inl m_digits))), (m0, .inr (11, [.int 1, .ref mtape, .int m_taped, .int m_size, .ref msort, .ref mplace, .ref mvalue, .int m_at, .int m_fault, .ref mwords, .ref mtold, .ref mop, .ref marg, .int m_codes, .ref mnames, .ref mhasHabit, .int m_isNew, .ref mfactWords, .ref mfacts, .ref mpile, .ref mstates, .ref misMarked, .int m_inShelf, .int m_inStack, .int m_inPlace, .ref mrow, .int m_rowMany, .ref mthr, .ref mmays, .ref mtall, .ref mweights, .ref mrowOfWare, .ref mneededOf, .int m_goShelf, .int m_goStack, .int m_goLeft, .ref mtried, .ref mbestRow, .int m_bestCost, .int m_bestMany, .int m_bestShelf, .int m_bestSet, .ref mdigits])), (mtold, .inl (cyI, 240, .inl m_told))]) C inw_11 3 rfl rfl 0 (by decide) wd_629 rfl tyX11_ok nmX11 rfl (tyX11_ok 0 (by decide)) rfl rfl (Nat.le_of_ble_eq_true rfl) dX11_whole_33 rfl ?_
      refine j_aload_n (pc := 36) C dX11_whole_36 rfl 0 rfl ?_
      refine j_get (pc := 37) (ci := 11) (v := .int 1) C inw_11 3 rfl rfl 0 (by decide) wd_629 rfl rfl dX11_whole_37 ?_
      refine j_if_le_f (pc := 40) (tgt := 45) C dX11_whole_40 (by decide) (by decide) ?_
      refine j_lconst (pc := 43) (v := 0) C dX11_whole_43 rfl ?_
      exact j_lret (pc := 44) C hr hk (fun i => [].getD i 0, fun i => [1, m_inShelf, m_inStack, m_inPlace, m_rowMany].getD i 0, fun i => [m_row].getD i (fun _ => 0), fun i => [(fun _ => 0), m_digits].getD i (fun _ => 0)) rfl (show (0 ≤ (m_inShelf).toInt ∧ (m_inShelf).toInt ≤ 3) ∧ (0 ≤ (m_inStack).toInt ∧ (m_inStack).toInt ≤ 7) ∧ (0 ≤ (m_inPlace).toInt ∧ (m_inPlace).toInt ≤ 11) ∧ (0 ≤ (m_rowMany).toInt ∧ (m_rowMany).toInt ≤ 12) ∧ (Iv 12 (0) (11) m_row) from ⟨h_m_inShelf, h_m_inStack, h_m_inPlace, h_m_rowMany, h_m_row⟩) [3, 4, 0, 1, 2] (by decide) rfl (by decide) (by decide) dX11_whole_44
    · skip
      have el_0 : (0 : Int32).toInt = 0 := rfl
      rw [i_eq] at c_6
      have k0c_6 : ((u_4.2.1 0)).toInt = 1 := by omega
      refine j_aload_n (pc := 18) C dX11_whole_18 rfl 0 rfl ?_
      refine j_iload_n (pc := 19) C dX11_whole_19 rfl 1 rfl ?_
      refine j_callV (pc := 20) (As := [.int p0]) (rest := [.ref m0]) (wr := [(mdigits, .inl (cyJ, 5, .inr (.inl m_digits)))]) C (c_X11_lifted l D cyC cyI cyJ cyZ cyO m0 mtold mstates mrow mtape msort mplace mvalue mwords mop marg mnames mhasHabit mfactWords mfacts mpile misMarked mthr mmays mtall mweights mrowOfWare mneededOf mtried mbestRow mdigits p0 m_thrown m_taped m_size m_at m_fault m_codes m_isNew m_inShelf m_inStack m_inPlace m_rowMany m_goShelf m_goStack m_goLeft m_bestCost m_bestMany m_bestShelf m_bestSet m_told m_states m_row h_m_taped h_m_size h_m_at h_m_fault h_m_codes h_m_isNew h_m_inShelf h_m_inStack h_m_inPlace h_m_rowMany h_m_goShelf h_m_bestMany h_m_bestShelf h_m_row h_m_told h_m_states) wd_891 wd_624 wd_892 wd_893 wd_894 ⟨by decide, by decide, rfl⟩ rfl ⟨rfl, rfl, by decide, by decide⟩ ⟨by decide, by decide⟩ [3, 4, 0, 1] [2] rfl rfl ⟨by decide, by decide, by decide⟩ 3 rfl rfl rfl (Nat.le_of_ble_eq_true rfl) dX11_whole_20 (fun u_7 hw_8 => ?_)
      refine j_eq (ws2 := [(mdigits, .inl (cyJ, 5, .inr (.inl m_digits))), (m0, .inr (11, [.int m_thrown, .ref mtape, .int m_taped, .int m_size, .ref msort, .ref mplace, .ref mvalue, .int m_at, .int m_fault, .ref mwords, .ref mtold, .ref mop, .ref marg, .int m_codes, .ref mnames, .ref mhasHabit, .int m_isNew, .ref mfactWords, .ref mfacts, .ref mpile, .ref mstates, .ref misMarked, .int (u_7.2.1 1), .int (u_7.2.1 2), .int (u_7.2.1 3), .ref mrow, .int (u_7.2.1 4), .ref mthr, .ref mmays, .ref mtall, .ref mweights, .ref mrowOfWare, .ref mneededOf, .int m_goShelf, .int m_goStack, .int m_goLeft, .ref mtried, .ref mbestRow, .int m_bestCost, .int m_bestMany, .int m_bestShelf, .int m_bestSet, .ref mdigits])), (mtold, .inl (cyI, 240, .inl m_told)), (mstates, .inl (cyI, 2760, .inl m_states)), (mrow, .inl (cyI, 12, .inl (u_7.2.2.1 0)))]) (pc2 := 23) (lv2 := [(0, .ref m0), (1, .int p0), (2, .int p1)]) (st2 := [.int (u_7.2.1 0), .ref m0]) rfl rfl rfl rfl ?_
      obtain ⟨hw_8_0, hw_8_1, hw_8_2, hw_8_3, hw_8_4, hw_8_5⟩ := hw_8
      refine j_bipush (pc := 23) (v := 17) C dX11_whole_23 (by decide) ?_
      refine j_icmp_gt (pc := 25) (tgt := 32) C dX11_whole_25 (by decide) (fun c_9 => ?_) (fun c_9 => ?_)
      · skip
        have el_17 : (17 : Int32).toInt = 17 := rfl
        rw [i_lt] at c_9
        refine j_iconst (pc := 32) (v := 1) C dX11_whole_32 (by decide) ?_
        refine j_put (pc := 33) (ci := 11) (v := .int 1) (ws' := [(mdigits, .inl (cyJ, 5, .inr (.inl m_digits))), (m0, .inr (11, [.int 1, .ref mtape, .int m_taped, .int m_size, .ref msort, .ref mplace, .ref mvalue, .int m_at, .int m_fault, .ref mwords, .ref mtold, .ref mop, .ref marg, .int m_codes, .ref mnames, .ref mhasHabit, .int m_isNew, .ref mfactWords, .ref mfacts, .ref mpile, .ref mstates, .ref misMarked, .int (u_7.2.1 1), .int (u_7.2.1 2), .int (u_7.2.1 3), .ref mrow, .int (u_7.2.1 4), .ref mthr, .ref mmays, .ref mtall, .ref mweights, .ref mrowOfWare, .ref mneededOf, .int m_goShelf, .int m_goStack, .int m_goLeft, .ref mtried, .ref mbestRow, .int m_bestCost, .int m_bestMany, .int m_bestShelf, .int m_bestSet, .ref mdigits])), (mtold, .inl (cyI, 240, .inl m_told)), (mstates, .inl (cyI, 2760, .inl m_states)), (mrow, .inl (cyI, 12, .inl (u_7.2.2.1 0)))]) C inw_11 1 rfl rfl 0 (by decide) wd_629 rfl tyX11_ok nmX11 rfl (tyX11_ok 0 (by decide)) rfl rfl (Nat.le_of_ble_eq_true rfl) dX11_whole_33 rfl ?_
        refine j_aload_n (pc := 36) C dX11_whole_36 rfl 0 rfl ?_
        refine j_get (pc := 37) (ci := 11) (v := .int 1) C inw_11 1 rfl rfl 0 (by decide) wd_629 rfl rfl dX11_whole_37 ?_
        refine j_if_le_f (pc := 40) (tgt := 45) C dX11_whole_40 (by decide) (by decide) ?_
        refine j_lconst (pc := 43) (v := 0) C dX11_whole_43 rfl ?_
        exact j_lret (pc := 44) C hr hk (fun i => [].getD i 0, fun i => [1, (u_7.2.1 1), (u_7.2.1 2), (u_7.2.1 3), (u_7.2.1 4)].getD i 0, fun i => [(u_7.2.2.1 0)].getD i (fun _ => 0), fun i => [(fun _ => 0), m_digits].getD i (fun _ => 0)) rfl (show (0 ≤ ((u_7.2.1 1)).toInt ∧ ((u_7.2.1 1)).toInt ≤ 3) ∧ (0 ≤ ((u_7.2.1 2)).toInt ∧ ((u_7.2.1 2)).toInt ≤ 7) ∧ (0 ≤ ((u_7.2.1 3)).toInt ∧ ((u_7.2.1 3)).toInt ≤ 11) ∧ (0 ≤ ((u_7.2.1 4)).toInt ∧ ((u_7.2.1 4)).toInt ≤ 12) ∧ (Iv 12 (0) (11) (u_7.2.2.1 0)) from ⟨hw_8_1, hw_8_2, hw_8_3, hw_8_4, hw_8_5⟩) [1, 2, 3, 4, 0] (by decide) rfl (by decide) (by decide) dX11_whole_44
      · skip
        have el_17 : (17 : Int32).toInt = 17 := rfl
        rw [i_lt] at c_9
        refine j_iconst (pc := 28) (v := 0) C dX11_whole_28 (by decide) ?_
        refine j_goto (pc := 29) (tgt := 33) C dX11_whole_29 (by decide) ?_
        refine j_put (pc := 33) (ci := 11) (v := .int 0) (ws' := [(mdigits, .inl (cyJ, 5, .inr (.inl m_digits))), (m0, .inr (11, [.int 0, .ref mtape, .int m_taped, .int m_size, .ref msort, .ref mplace, .ref mvalue, .int m_at, .int m_fault, .ref mwords, .ref mtold, .ref mop, .ref marg, .int m_codes, .ref mnames, .ref mhasHabit, .int m_isNew, .ref mfactWords, .ref mfacts, .ref mpile, .ref mstates, .ref misMarked, .int (u_7.2.1 1), .int (u_7.2.1 2), .int (u_7.2.1 3), .ref mrow, .int (u_7.2.1 4), .ref mthr, .ref mmays, .ref mtall, .ref mweights, .ref mrowOfWare, .ref mneededOf, .int m_goShelf, .int m_goStack, .int m_goLeft, .ref mtried, .ref mbestRow, .int m_bestCost, .int m_bestMany, .int m_bestShelf, .int m_bestSet, .ref mdigits])), (mtold, .inl (cyI, 240, .inl m_told)), (mstates, .inl (cyI, 2760, .inl m_states)), (mrow, .inl (cyI, 12, .inl (u_7.2.2.1 0)))]) C inw_11 1 rfl rfl 0 (by decide) wd_629 rfl tyX11_ok nmX11 rfl (tyX11_ok 0 (by decide)) rfl rfl (Nat.le_of_ble_eq_true rfl) dX11_whole_33 rfl ?_
        refine j_aload_n (pc := 36) C dX11_whole_36 rfl 0 rfl ?_
        refine j_get (pc := 37) (ci := 11) (v := .int 0) C inw_11 1 rfl rfl 0 (by decide) wd_629 rfl rfl dX11_whole_37 ?_
        refine j_if_le_t (pc := 40) (tgt := 45) C dX11_whole_40 (by decide) (by decide) ?_
        refine j_aload_n (pc := 45) C dX11_whole_45 rfl 0 rfl ?_
        refine j_iload_n (pc := 46) C dX11_whole_46 rfl 1 rfl ?_
        refine j_callV (pc := 47) (As := [.int p0]) (rest := []) (wr := [(mdigits, .inl (cyJ, 5, .inr (.inl m_digits)))]) C (c_X11_lifted l D cyC cyI cyJ cyZ cyO m0 mtold mstates mrow mtape msort mplace mvalue mwords mop marg mnames mhasHabit mfactWords mfacts mpile misMarked mthr mmays mtall mweights mrowOfWare mneededOf mtried mbestRow mdigits p0 0 m_taped m_size m_at m_fault m_codes m_isNew (u_7.2.1 1) (u_7.2.1 2) (u_7.2.1 3) (u_7.2.1 4) m_goShelf m_goStack m_goLeft m_bestCost m_bestMany m_bestShelf m_bestSet m_told m_states (u_7.2.2.1 0) h_m_taped h_m_size h_m_at h_m_fault h_m_codes h_m_isNew hw_8_1 hw_8_2 hw_8_3 hw_8_4 h_m_goShelf h_m_bestMany h_m_bestShelf hw_8_5 h_m_told h_m_states) wd_891 wd_624 wd_892 wd_893 wd_894 ⟨by decide, by decide, rfl⟩ rfl ⟨rfl, rfl, by decide, by decide⟩ ⟨by decide, by decide⟩ [1, 2, 3, 4] [0] rfl rfl ⟨by decide, by decide, by decide⟩ 1 rfl rfl rfl (Nat.le_of_ble_eq_true rfl) dX11_whole_47 (fun u_10 hw_11 => ?_)
        refine j_eq (ws2 := [(mdigits, .inl (cyJ, 5, .inr (.inl m_digits))), (m0, .inr (11, [.int 0, .ref mtape, .int m_taped, .int m_size, .ref msort, .ref mplace, .ref mvalue, .int m_at, .int m_fault, .ref mwords, .ref mtold, .ref mop, .ref marg, .int m_codes, .ref mnames, .ref mhasHabit, .int m_isNew, .ref mfactWords, .ref mfacts, .ref mpile, .ref mstates, .ref misMarked, .int (u_10.2.1 1), .int (u_10.2.1 2), .int (u_10.2.1 3), .ref mrow, .int (u_10.2.1 4), .ref mthr, .ref mmays, .ref mtall, .ref mweights, .ref mrowOfWare, .ref mneededOf, .int m_goShelf, .int m_goStack, .int m_goLeft, .ref mtried, .ref mbestRow, .int m_bestCost, .int m_bestMany, .int m_bestShelf, .int m_bestSet, .ref mdigits])), (mtold, .inl (cyI, 240, .inl m_told)), (mstates, .inl (cyI, 2760, .inl m_states)), (mrow, .inl (cyI, 12, .inl (u_10.2.2.1 0)))]) (pc2 := 50) (lv2 := [(0, .ref m0), (1, .int p0), (2, .int p1)]) (st2 := [.int (u_10.2.1 0)]) rfl rfl rfl rfl ?_
        obtain ⟨hw_11_0, hw_11_1, hw_11_2, hw_11_3, hw_11_4, hw_11_5⟩ := hw_11
        refine j_istore_n (pc := 50) (lv' := [(3, .int (u_10.2.1 0)), (0, .ref m0), (1, .int p0), (2, .int p1)]) C dX11_whole_50 rfl (by decide) rfl ?_
        refine j_iconst (pc := 51) (v := 0) C dX11_whole_51 (by decide) ?_
        refine j_istore (pc := 52) (lv' := [(4, .int 0), (3, .int (u_10.2.1 0)), (0, .ref m0), (1, .int p0), (2, .int p1)]) C dX11_whole_52 (by decide) rfl ?_
        have loop_12 : ∀ (k_12 : Nat) (x12_4 : Int32) (g12_mdigits : Nat → Int64), (0 ≤ (x12_4).toInt ∧ (x12_4).toInt ≤ 5) → (5 - x12_4.toInt).toNat < k_12 → J p l e ({ frames := 3, cells := 0, slots := 0, locals := 73 } : Room) s m args below meth c D A 10 0 0 (QX below D (TY cyC cyI cyJ cyZ cyO) A (fun u => some (.long (u.2.2.2 0 0))) (fun u => (0 ≤ (u.2.1 1).toInt ∧ (u.2.1 1).toInt ≤ 3) ∧ (0 ≤ (u.2.1 2).toInt ∧ (u.2.1 2).toInt ≤ 7) ∧ (0 ≤ (u.2.1 3).toInt ∧ (u.2.1 3).toInt ≤ 11) ∧ (0 ≤ (u.2.1 4).toInt ∧ (u.2.1 4).toInt ≤ 12) ∧ (Iv 12 (0) (11) (u.2.2.1 0))) (fun u => [(m0, .inr (11, [.int (u.2.1 0), .ref mtape, .int m_taped, .int m_size, .ref msort, .ref mplace, .ref mvalue, .int m_at, .int m_fault, .ref mwords, .ref mtold, .ref mop, .ref marg, .int m_codes, .ref mnames, .ref mhasHabit, .int m_isNew, .ref mfactWords, .ref mfacts, .ref mpile, .ref mstates, .ref misMarked, .int (u.2.1 1), .int (u.2.1 2), .int (u.2.1 3), .ref mrow, .int (u.2.1 4), .ref mthr, .ref mmays, .ref mtall, .ref mweights, .ref mrowOfWare, .ref mneededOf, .int m_goShelf, .int m_goStack, .int m_goLeft, .ref mtried, .ref mbestRow, .int m_bestCost, .int m_bestMany, .int m_bestShelf, .int m_bestSet, .ref mdigits])), (mtold, .inl (cyI, 240, .inl m_told)), (mstates, .inl (cyI, 2760, .inl m_states)), (mrow, .inl (cyI, 12, .inl (u.2.2.1 0))), (mdigits, .inl (cyJ, 5, .inr (.inl (u.2.2.2 1))))]) args s 0 0) [(mdigits, .inl (cyJ, 5, .inr (.inl g12_mdigits))), (m0, .inr (11, [.int 0, .ref mtape, .int m_taped, .int m_size, .ref msort, .ref mplace, .ref mvalue, .int m_at, .int m_fault, .ref mwords, .ref mtold, .ref mop, .ref marg, .int m_codes, .ref mnames, .ref mhasHabit, .int m_isNew, .ref mfactWords, .ref mfacts, .ref mpile, .ref mstates, .ref misMarked, .int (u_10.2.1 1), .int (u_10.2.1 2), .int (u_10.2.1 3), .ref mrow, .int (u_10.2.1 4), .ref mthr, .ref mmays, .ref mtall, .ref mweights, .ref mrowOfWare, .ref mneededOf, .int m_goShelf, .int m_goStack, .int m_goLeft, .ref mtried, .ref mbestRow, .int m_bestCost, .int m_bestMany, .int m_bestShelf, .int m_bestSet, .ref mdigits])), (mtold, .inl (cyI, 240, .inl m_told)), (mstates, .inl (cyI, 2760, .inl m_states)), (mrow, .inl (cyI, 12, .inl (u_10.2.2.1 0)))] 54 [(4, .int x12_4), (3, .int (u_10.2.1 0)), (0, .ref m0), (1, .int p0), (2, .int p1)] [] := by
          intro k_12
          induction k_12 with
          | zero =>
            intro x12_4 g12_mdigits hi_12_0 hm_12
            exact absurd hm_12 (Nat.not_lt_zero _)
          | succ k_12 ih_12 =>
            intro x12_4 g12_mdigits hi_12_0 hm_12
            refine j_iload (pc := 54) C dX11_whole_54 0 rfl ?_
            refine j_iconst (pc := 56) (v := 5) C dX11_whole_56 (by decide) ?_
            refine j_icmp_ge (pc := 57) (tgt := 83) C dX11_whole_57 (by decide) (fun c_13 => ?_) (fun c_13 => ?_)
            · skip
              have el_5 : (5 : Int32).toInt = 5 := rfl
              rw [i_le] at c_13
              have k0c_13 : x12_4.toInt = 5 := by omega
              refine j_iconst (pc := 83) (v := 0) C dX11_whole_83 (by decide) ?_
              refine j_istore (pc := 84) (lv' := [(4, .int 0), (3, .int (u_10.2.1 0)), (0, .ref m0), (1, .int p0), (2, .int p1)]) C dX11_whole_84 (by decide) rfl ?_
              have loop_14 : ∀ (k_14 : Nat) (x14_4 : Int32) (g14_mdigits : Nat → Int64), (0 ≤ (x14_4).toInt ∧ (x14_4).toInt ≤ 750) → (750 - x14_4.toInt).toNat < k_14 → J p l e ({ frames := 3, cells := 0, slots := 0, locals := 73 } : Room) s m args below meth c D A 10 0 0 (QX below D (TY cyC cyI cyJ cyZ cyO) A (fun u => some (.long (u.2.2.2 0 0))) (fun u => (0 ≤ (u.2.1 1).toInt ∧ (u.2.1 1).toInt ≤ 3) ∧ (0 ≤ (u.2.1 2).toInt ∧ (u.2.1 2).toInt ≤ 7) ∧ (0 ≤ (u.2.1 3).toInt ∧ (u.2.1 3).toInt ≤ 11) ∧ (0 ≤ (u.2.1 4).toInt ∧ (u.2.1 4).toInt ≤ 12) ∧ (Iv 12 (0) (11) (u.2.2.1 0))) (fun u => [(m0, .inr (11, [.int (u.2.1 0), .ref mtape, .int m_taped, .int m_size, .ref msort, .ref mplace, .ref mvalue, .int m_at, .int m_fault, .ref mwords, .ref mtold, .ref mop, .ref marg, .int m_codes, .ref mnames, .ref mhasHabit, .int m_isNew, .ref mfactWords, .ref mfacts, .ref mpile, .ref mstates, .ref misMarked, .int (u.2.1 1), .int (u.2.1 2), .int (u.2.1 3), .ref mrow, .int (u.2.1 4), .ref mthr, .ref mmays, .ref mtall, .ref mweights, .ref mrowOfWare, .ref mneededOf, .int m_goShelf, .int m_goStack, .int m_goLeft, .ref mtried, .ref mbestRow, .int m_bestCost, .int m_bestMany, .int m_bestShelf, .int m_bestSet, .ref mdigits])), (mtold, .inl (cyI, 240, .inl m_told)), (mstates, .inl (cyI, 2760, .inl m_states)), (mrow, .inl (cyI, 12, .inl (u.2.2.1 0))), (mdigits, .inl (cyJ, 5, .inr (.inl (u.2.2.2 1))))]) args s 0 0) [(mdigits, .inl (cyJ, 5, .inr (.inl g14_mdigits))), (m0, .inr (11, [.int 0, .ref mtape, .int m_taped, .int m_size, .ref msort, .ref mplace, .ref mvalue, .int m_at, .int m_fault, .ref mwords, .ref mtold, .ref mop, .ref marg, .int m_codes, .ref mnames, .ref mhasHabit, .int m_isNew, .ref mfactWords, .ref mfacts, .ref mpile, .ref mstates, .ref misMarked, .int (u_10.2.1 1), .int (u_10.2.1 2), .int (u_10.2.1 3), .ref mrow, .int (u_10.2.1 4), .ref mthr, .ref mmays, .ref mtall, .ref mweights, .ref mrowOfWare, .ref mneededOf, .int m_goShelf, .int m_goStack, .int m_goLeft, .ref mtried, .ref mbestRow, .int m_bestCost, .int m_bestMany, .int m_bestShelf, .int m_bestSet, .ref mdigits])), (mtold, .inl (cyI, 240, .inl m_told)), (mstates, .inl (cyI, 2760, .inl m_states)), (mrow, .inl (cyI, 12, .inl (u_10.2.2.1 0)))] 86 [(4, .int x14_4), (3, .int (u_10.2.1 0)), (0, .ref m0), (1, .int p0), (2, .int p1)] [] := by
                intro k_14
                induction k_14 with
                | zero =>
                  intro x14_4 g14_mdigits hi_14_0 hm_14
                  exact absurd hm_14 (Nat.not_lt_zero _)
                | succ k_14 ih_14 =>
                  intro x14_4 g14_mdigits hi_14_0 hm_14
                  refine j_iload (pc := 86) C dX11_whole_86 0 rfl ?_
                  refine j_iload_n (pc := 88) C dX11_whole_88 rfl 1 rfl ?_
                  refine j_icmp_ge (pc := 89) (tgt := 161) C dX11_whole_89 (by decide) (fun c_15 => ?_) (fun c_15 => ?_)
                  · skip
                    rw [i_le] at c_15
                    refine j_iload_n (pc := 161) C dX11_whole_161 rfl 4 rfl ?_
                    refine j_iconst (pc := 162) (v := 4) C dX11_whole_162 (by decide) ?_
                    refine j_icmp_ne (pc := 163) (tgt := 171) C dX11_whole_163 (by decide) (fun c_16 => ?_) (fun c_16 => ?_)
                    · skip
                      have el_4 : (4 : Int32).toInt = 4 := rfl
                      rw [i_eq] at c_16
                      refine j_aload_n (pc := 171) C dX11_whole_171 rfl 2 rfl ?_
                      refine j_get (pc := 172) (ci := 11) (v := .ref mdigits) C inw_11 1 rfl rfl 42 (by decide) wd_895 rfl rfl dX11_whole_172 ?_
                      refine j_iload_n (pc := 175) C dX11_whole_175 rfl 4 rfl ?_
                      obtain ⟨v_17, ev_17⟩ : ∃ z, g14_mdigits (p1).toInt.toNat = z := ⟨_, rfl⟩
                      refine j_lald (pc := 176) (v := v_17) (k := (p1).toInt.toNat) C 0 2 rfl rfl (i_nn (by omega)) rfl (i_lt_n (by omega) (by omega)) ev_17 dX11_whole_176 ?_
                      exact j_lret (pc := 177) C hr hk (fun i => [].getD i 0, fun i => [0, (u_10.2.1 1), (u_10.2.1 2), (u_10.2.1 3), (u_10.2.1 4)].getD i 0, fun i => [(u_10.2.2.1 0)].getD i (fun _ => 0), fun i => [(fun _ => v_17), g14_mdigits].getD i (fun _ => 0)) rfl (show (0 ≤ ((u_10.2.1 1)).toInt ∧ ((u_10.2.1 1)).toInt ≤ 3) ∧ (0 ≤ ((u_10.2.1 2)).toInt ∧ ((u_10.2.1 2)).toInt ≤ 7) ∧ (0 ≤ ((u_10.2.1 3)).toInt ∧ ((u_10.2.1 3)).toInt ≤ 11) ∧ (0 ≤ ((u_10.2.1 4)).toInt ∧ ((u_10.2.1 4)).toInt ≤ 12) ∧ (Iv 12 (0) (11) (u_10.2.2.1 0)) from ⟨hw_11_1, hw_11_2, hw_11_3, hw_11_4, hw_11_5⟩) [1, 2, 3, 4, 0] (by decide) rfl (by decide) (by decide) dX11_whole_177
                    · skip
                      have el_4 : (4 : Int32).toInt = 4 := rfl
                      rw [i_eq] at c_16
                      refine j_iload_n (pc := 166) C dX11_whole_166 rfl 1 rfl ?_
                      refine j_i2l (pc := 167) C dX11_whole_167 rfl ?_
                      refine j_goto (pc := 168) (tgt := 177) C dX11_whole_168 (by decide) ?_
                      exact j_lret (pc := 177) C hr hk (fun i => [].getD i 0, fun i => [0, (u_10.2.1 1), (u_10.2.1 2), (u_10.2.1 3), (u_10.2.1 4)].getD i 0, fun i => [(u_10.2.2.1 0)].getD i (fun _ => 0), fun i => [(fun _ => ((u_10.2.1 0)).toInt64), g14_mdigits].getD i (fun _ => 0)) rfl (show (0 ≤ ((u_10.2.1 1)).toInt ∧ ((u_10.2.1 1)).toInt ≤ 3) ∧ (0 ≤ ((u_10.2.1 2)).toInt ∧ ((u_10.2.1 2)).toInt ≤ 7) ∧ (0 ≤ ((u_10.2.1 3)).toInt ∧ ((u_10.2.1 3)).toInt ≤ 11) ∧ (0 ≤ ((u_10.2.1 4)).toInt ∧ ((u_10.2.1 4)).toInt ≤ 12) ∧ (Iv 12 (0) (11) (u_10.2.2.1 0)) from ⟨hw_11_1, hw_11_2, hw_11_3, hw_11_4, hw_11_5⟩) [1, 2, 3, 4, 0] (by decide) rfl (by decide) (by decide) dX11_whole_177
                  · skip
                    rw [i_le] at c_15
                    refine j_lconst (pc := 92) (v := 0) C dX11_whole_92 rfl ?_
                    refine j_lstore (pc := 93) (lv' := [(5, .long 0), (4, .int x14_4), (3, .int (u_10.2.1 0)), (0, .ref m0), (1, .int p0), (2, .int p1)]) C dX11_whole_93 (by decide) rfl ?_
                    refine j_iconst (pc := 95) (v := 0) C dX11_whole_95 (by decide) ?_
                    refine j_istore (pc := 96) (lv' := [(7, .int 0), (5, .long 0), (4, .int x14_4), (3, .int (u_10.2.1 0)), (0, .ref m0), (1, .int p0), (2, .int p1)]) C dX11_whole_96 (by decide) rfl ?_
                    have loop_18 : ∀ (k_18 : Nat) (x18_7 : Int32) (x18_5 : Int64) (g18_mdigits : Nat → Int64), (0 ≤ (x18_7).toInt ∧ (x18_7).toInt ≤ 5) → (5 - x18_7.toInt).toNat < k_18 → J p l e ({ frames := 3, cells := 0, slots := 0, locals := 73 } : Room) s m args below meth c D A 10 0 0 (QX below D (TY cyC cyI cyJ cyZ cyO) A (fun u => some (.long (u.2.2.2 0 0))) (fun u => (0 ≤ (u.2.1 1).toInt ∧ (u.2.1 1).toInt ≤ 3) ∧ (0 ≤ (u.2.1 2).toInt ∧ (u.2.1 2).toInt ≤ 7) ∧ (0 ≤ (u.2.1 3).toInt ∧ (u.2.1 3).toInt ≤ 11) ∧ (0 ≤ (u.2.1 4).toInt ∧ (u.2.1 4).toInt ≤ 12) ∧ (Iv 12 (0) (11) (u.2.2.1 0))) (fun u => [(m0, .inr (11, [.int (u.2.1 0), .ref mtape, .int m_taped, .int m_size, .ref msort, .ref mplace, .ref mvalue, .int m_at, .int m_fault, .ref mwords, .ref mtold, .ref mop, .ref marg, .int m_codes, .ref mnames, .ref mhasHabit, .int m_isNew, .ref mfactWords, .ref mfacts, .ref mpile, .ref mstates, .ref misMarked, .int (u.2.1 1), .int (u.2.1 2), .int (u.2.1 3), .ref mrow, .int (u.2.1 4), .ref mthr, .ref mmays, .ref mtall, .ref mweights, .ref mrowOfWare, .ref mneededOf, .int m_goShelf, .int m_goStack, .int m_goLeft, .ref mtried, .ref mbestRow, .int m_bestCost, .int m_bestMany, .int m_bestShelf, .int m_bestSet, .ref mdigits])), (mtold, .inl (cyI, 240, .inl m_told)), (mstates, .inl (cyI, 2760, .inl m_states)), (mrow, .inl (cyI, 12, .inl (u.2.2.1 0))), (mdigits, .inl (cyJ, 5, .inr (.inl (u.2.2.2 1))))]) args s 0 0) [(mdigits, .inl (cyJ, 5, .inr (.inl g18_mdigits))), (m0, .inr (11, [.int 0, .ref mtape, .int m_taped, .int m_size, .ref msort, .ref mplace, .ref mvalue, .int m_at, .int m_fault, .ref mwords, .ref mtold, .ref mop, .ref marg, .int m_codes, .ref mnames, .ref mhasHabit, .int m_isNew, .ref mfactWords, .ref mfacts, .ref mpile, .ref mstates, .ref misMarked, .int (u_10.2.1 1), .int (u_10.2.1 2), .int (u_10.2.1 3), .ref mrow, .int (u_10.2.1 4), .ref mthr, .ref mmays, .ref mtall, .ref mweights, .ref mrowOfWare, .ref mneededOf, .int m_goShelf, .int m_goStack, .int m_goLeft, .ref mtried, .ref mbestRow, .int m_bestCost, .int m_bestMany, .int m_bestShelf, .int m_bestSet, .ref mdigits])), (mtold, .inl (cyI, 240, .inl m_told)), (mstates, .inl (cyI, 2760, .inl m_states)), (mrow, .inl (cyI, 12, .inl (u_10.2.2.1 0)))] 98 [(7, .int x18_7), (5, .long x18_5), (4, .int x14_4), (3, .int (u_10.2.1 0)), (0, .ref m0), (1, .int p0), (2, .int p1)] [] := by
                      intro k_18
                      induction k_18 with
                      | zero =>
                        intro x18_7 x18_5 g18_mdigits hi_18_0 hm_18
                        exact absurd hm_18 (Nat.not_lt_zero _)
                      | succ k_18 ih_18 =>
                        intro x18_7 x18_5 g18_mdigits hi_18_0 hm_18
                        refine j_iload (pc := 98) C dX11_whole_98 0 rfl ?_
                        refine j_iconst (pc := 100) (v := 5) C dX11_whole_100 (by decide) ?_
                        refine j_icmp_ge (pc := 101) (tgt := 155) C dX11_whole_101 (by decide) (fun c_19 => ?_) (fun c_19 => ?_)
                        · skip
                          have el_5 : (5 : Int32).toInt = 5 := rfl
                          rw [i_le] at c_19
                          have k0c_19 : x18_7.toInt = 5 := by omega
                          obtain ⟨v_20, ev_20⟩ : ∃ z : Int32, x14_4 + 1 = z := ⟨_, rfl⟩
                          have el_1 : (1 : Int32).toInt = 1 := rfl
                          have hv_20 : v_20.toInt = x14_4.toInt + (1 : Int32).toInt := by rw [← ev_20]; exact fb_addI (by omega) (by omega)
                          refine j_iinc (pc := 155) (v := v_20) (lv' := [(4, .int v_20), (7, .int x18_7), (5, .long x18_5), (3, .int (u_10.2.1 0)), (0, .ref m0), (1, .int p0), (2, .int p1)]) C dX11_whole_155 2 rfl ev_20 (by decide) rfl ?_
                          refine j_goto (pc := 158) (tgt := 86) C dX11_whole_158 (by decide) ?_
                          exact j_lv [0, 3, 4, 5, 6] rfl (ih_14 v_20 g18_mdigits (by omega) (by omega))
                        · skip
                          have el_5 : (5 : Int32).toInt = 5 := rfl
                          rw [i_le] at c_19
                          refine j_aload_n (pc := 104) C dX11_whole_104 rfl 4 rfl ?_
                          refine j_get (pc := 105) (ci := 11) (v := .ref mdigits) C inw_11 1 rfl rfl 42 (by decide) wd_895 rfl rfl dX11_whole_105 ?_
                          refine j_iload (pc := 108) C dX11_whole_108 0 rfl ?_
                          obtain ⟨v_21, ev_21⟩ : ∃ z, g18_mdigits (x18_7).toInt.toNat = z := ⟨_, rfl⟩
                          refine j_lald (pc := 110) (v := v_21) (k := (x18_7).toInt.toNat) C 0 2 rfl rfl (i_nn hi_18_0.1) rfl (i_lt_n hi_18_0.1 (by omega)) ev_21 dX11_whole_110 ?_
                          refine j_ldc2 (pc := 111) C wd_896 dX11_whole_111 ?_
                          refine j_aload_n (pc := 114) C dX11_whole_114 rfl 4 rfl ?_
                          refine j_iload_n (pc := 115) C dX11_whole_115 rfl 5 rfl ?_
                          refine j_iconst (pc := 116) (v := 4) C dX11_whole_116 (by decide) ?_
                          refine j_callV (pc := 117) (As := [.int p0, .int 4]) (rest := [.long 100, .long v_21]) (wr := [(mdigits, .inl (cyJ, 5, .inr (.inl g18_mdigits))), (mstates, .inl (cyI, 2760, .inl m_states)), (mrow, .inl (cyI, 12, .inl (u_10.2.2.1 0)))]) C (c_X11_wareOf l D cyC cyI cyJ cyZ cyO m0 mtold mtape msort mplace mvalue mwords mop marg mnames mhasHabit mfactWords mfacts mpile mstates misMarked mrow mthr mmays mtall mweights mrowOfWare mneededOf mtried mbestRow mdigits p0 4 0 m_taped m_size m_at m_fault m_codes m_isNew (u_10.2.1 1) (u_10.2.1 2) (u_10.2.1 3) (u_10.2.1 4) m_goShelf m_goStack m_goLeft m_bestCost m_bestMany m_bestShelf m_bestSet m_told h_m_taped h_m_size h_m_at h_m_fault h_m_codes h_m_isNew hw_11_1 hw_11_2 hw_11_3 hw_11_4 h_m_goShelf h_m_bestMany h_m_bestShelf (by omega) (by decide) h_m_told) wd_756 wd_624 wd_757 wd_758 wd_759 ⟨by decide, by decide, rfl⟩ rfl ⟨rfl, rfl, by decide, by decide⟩ ⟨by decide, by decide⟩ [1, 2] [0, 3, 4] rfl rfl ⟨by decide, by decide, by decide⟩ 1 rfl rfl rfl (Nat.le_of_ble_eq_true rfl) dX11_whole_117 (fun u_22 hw_23 => ?_)
                          refine j_eq (ws2 := [(mdigits, .inl (cyJ, 5, .inr (.inl g18_mdigits))), (mstates, .inl (cyI, 2760, .inl m_states)), (mrow, .inl (cyI, 12, .inl (u_10.2.2.1 0))), (m0, .inr (11, [.int 0, .ref mtape, .int m_taped, .int m_size, .ref msort, .ref mplace, .ref mvalue, .int m_at, .int m_fault, .ref mwords, .ref mtold, .ref mop, .ref marg, .int m_codes, .ref mnames, .ref mhasHabit, .int m_isNew, .ref mfactWords, .ref mfacts, .ref mpile, .ref mstates, .ref misMarked, .int (u_10.2.1 1), .int (u_10.2.1 2), .int (u_10.2.1 3), .ref mrow, .int (u_10.2.1 4), .ref mthr, .ref mmays, .ref mtall, .ref mweights, .ref mrowOfWare, .ref mneededOf, .int m_goShelf, .int m_goStack, .int m_goLeft, .ref mtried, .ref mbestRow, .int m_bestCost, .int m_bestMany, .int m_bestShelf, .int m_bestSet, .ref mdigits])), (mtold, .inl (cyI, 240, .inl m_told))]) (pc2 := 120) (lv2 := [(7, .int x18_7), (5, .long x18_5), (4, .int x14_4), (3, .int (u_10.2.1 0)), (0, .ref m0), (1, .int p0), (2, .int p1)]) (st2 := [.int (u_22.2.1 0), .long 100, .long v_21]) rfl rfl rfl rfl ?_
                          obtain ⟨hw_23_0, hw_23_1⟩ := hw_23
                          refine j_i2l (pc := 120) C dX11_whole_120 rfl ?_
                          refine j_lsub (pc := 121) C dX11_whole_121 rfl ?_
                          refine j_lmul (pc := 122) C dX11_whole_122 rfl ?_
                          refine j_lload (pc := 123) C dX11_whole_123 1 rfl ?_
                          refine j_ladd (pc := 125) C dX11_whole_125 rfl ?_
                          refine j_lstore (pc := 126) (lv' := [(8, .long ((v_21 * (100 - ((u_22.2.1 0)).toInt64)) + x18_5)), (7, .int x18_7), (5, .long x18_5), (4, .int x14_4), (3, .int (u_10.2.1 0)), (0, .ref m0), (1, .int p0), (2, .int p1)]) C dX11_whole_126 (by decide) rfl ?_
                          refine j_aload_n (pc := 128) C dX11_whole_128 rfl 5 rfl ?_
                          refine j_get (pc := 129) (ci := 11) (v := .ref mdigits) C inw_11 3 rfl rfl 42 (by decide) wd_895 rfl rfl dX11_whole_129 ?_
                          refine j_iload (pc := 132) C dX11_whole_132 1 rfl ?_
                          refine j_lload (pc := 134) C dX11_whole_134 0 rfl ?_
                          refine j_ldc2 (pc := 136) C wd_897 dX11_whole_136 ?_
                          obtain ⟨v_24, ev_24⟩ : ∃ z : Int64, ((v_21 * (100 - ((u_22.2.1 0)).toInt64)) + x18_5) - ((v_21 * (100 - ((u_22.2.1 0)).toInt64)) + x18_5) / 1000000000 * 1000000000 = z := ⟨_, rfl⟩
                          refine j_lrem (pc := 139) (v := v_24) C dX11_whole_139 (by decide) ev_24 ?_
                          obtain ⟨f_25, ef_25⟩ : ∃ z, z = vp_updL g18_mdigits (x18_7).toInt.toNat v_24 := ⟨_, rfl⟩
                          refine j_last (pc := 140) (k := (x18_7).toInt.toNat) (ws' := [(mdigits, .inl (cyJ, 5, .inr (.inl f_25))), (mstates, .inl (cyI, 2760, .inl m_states)), (mrow, .inl (cyI, 12, .inl (u_10.2.2.1 0))), (m0, .inr (11, [.int 0, .ref mtape, .int m_taped, .int m_size, .ref msort, .ref mplace, .ref mvalue, .int m_at, .int m_fault, .ref mwords, .ref mtold, .ref mop, .ref marg, .int m_codes, .ref mnames, .ref mhasHabit, .int m_isNew, .ref mfactWords, .ref mfacts, .ref mpile, .ref mstates, .ref misMarked, .int (u_10.2.1 1), .int (u_10.2.1 2), .int (u_10.2.1 3), .ref mrow, .int (u_10.2.1 4), .ref mthr, .ref mmays, .ref mtall, .ref mweights, .ref mrowOfWare, .ref mneededOf, .int m_goShelf, .int m_goStack, .int m_goLeft, .ref mtried, .ref mbestRow, .int m_bestCost, .int m_bestMany, .int m_bestShelf, .int m_bestSet, .ref mdigits])), (mtold, .inl (cyI, 240, .inl m_told))]) C 0 2 rfl rfl (i_nn hi_18_0.1) rfl (i_lt_n hi_18_0.1 (by omega)) dX11_whole_140 (by rw [ef_25]; rfl) ?_
                          refine j_lload (pc := 141) C dX11_whole_141 0 rfl ?_
                          refine j_ldc2 (pc := 143) C wd_897 dX11_whole_143 ?_
                          obtain ⟨v_26, ev_26⟩ : ∃ z : Int64, ((v_21 * (100 - ((u_22.2.1 0)).toInt64)) + x18_5) / 1000000000 = z := ⟨_, rfl⟩
                          refine j_ldiv (pc := 146) (v := v_26) C dX11_whole_146 (by decide) ev_26 ?_
                          refine j_lstore (pc := 147) (lv' := [(5, .long v_26), (8, .long ((v_21 * (100 - ((u_22.2.1 0)).toInt64)) + x18_5)), (7, .int x18_7), (4, .int x14_4), (3, .int (u_10.2.1 0)), (0, .ref m0), (1, .int p0), (2, .int p1)]) C dX11_whole_147 (by decide) rfl ?_
                          obtain ⟨v_27, ev_27⟩ : ∃ z : Int32, x18_7 + 1 = z := ⟨_, rfl⟩
                          have el_1 : (1 : Int32).toInt = 1 := rfl
                          have hv_27 : v_27.toInt = x18_7.toInt + (1 : Int32).toInt := by rw [← ev_27]; exact fb_addI (by omega) (by omega)
                          refine j_iinc (pc := 149) (v := v_27) (lv' := [(7, .int v_27), (5, .long v_26), (8, .long ((v_21 * (100 - ((u_22.2.1 0)).toInt64)) + x18_5)), (4, .int x14_4), (3, .int (u_10.2.1 0)), (0, .ref m0), (1, .int p0), (2, .int p1)]) C dX11_whole_149 2 rfl ev_27 (by decide) rfl ?_
                          refine j_goto (pc := 152) (tgt := 98) C dX11_whole_152 (by decide) ?_
                          refine j_subG (ws' := [(mdigits, .inl (cyJ, 5, .inr (.inl f_25))), (m0, .inr (11, [.int 0, .ref mtape, .int m_taped, .int m_size, .ref msort, .ref mplace, .ref mvalue, .int m_at, .int m_fault, .ref mwords, .ref mtold, .ref mop, .ref marg, .int m_codes, .ref mnames, .ref mhasHabit, .int m_isNew, .ref mfactWords, .ref mfacts, .ref mpile, .ref mstates, .ref misMarked, .int (u_10.2.1 1), .int (u_10.2.1 2), .int (u_10.2.1 3), .ref mrow, .int (u_10.2.1 4), .ref mthr, .ref mmays, .ref mtall, .ref mweights, .ref mrowOfWare, .ref mneededOf, .int m_goShelf, .int m_goStack, .int m_goLeft, .ref mtried, .ref mbestRow, .int m_bestCost, .int m_bestMany, .int m_bestShelf, .int m_bestSet, .ref mdigits])), (mtold, .inl (cyI, 240, .inl m_told)), (mstates, .inl (cyI, 2760, .inl m_states)), (mrow, .inl (cyI, 12, .inl (u_10.2.2.1 0)))]) [0, 3, 4, 1, 2] (by decide) rfl ?_
                          exact j_lv [0, 1, 3, 4, 5, 6, 7] rfl (ih_18 v_27 v_26 f_25 (by omega) (by omega))
                    have el_0 : (0 : Int32).toInt = 0 := rfl
                    have el_0 : (0 : Int32).toInt = 0 := rfl
                    exact j_lv [0, 1, 2, 3, 4, 5, 6] rfl (loop_18 4096 0 0 g14_mdigits (by decide) (by omega))
              have el_0 : (0 : Int32).toInt = 0 := rfl
              exact j_lv [0, 1, 2, 3, 4] rfl (loop_14 4096 0 g12_mdigits (by decide) (by omega))
            · skip
              have el_5 : (5 : Int32).toInt = 5 := rfl
              rw [i_le] at c_13
              refine j_aload_n (pc := 60) C dX11_whole_60 rfl 2 rfl ?_
              refine j_get (pc := 61) (ci := 11) (v := .ref mdigits) C inw_11 1 rfl rfl 42 (by decide) wd_895 rfl rfl dX11_whole_61 ?_
              refine j_iload (pc := 64) C dX11_whole_64 0 rfl ?_
              refine j_iload (pc := 66) C dX11_whole_66 0 rfl ?_
              refine j_if_ne (pc := 68) (tgt := 75) C dX11_whole_68 (by decide) (fun c_28 => ?_) (fun c_28 => ?_)
              · skip
                have el_0 : (0 : Int32).toInt = 0 := rfl
                rw [i_eq] at c_28
                refine j_lconst (pc := 75) (v := 0) C dX11_whole_75 rfl ?_
                obtain ⟨f_29, ef_29⟩ : ∃ z, z = vp_updL g12_mdigits (x12_4).toInt.toNat 0 := ⟨_, rfl⟩
                refine j_last (pc := 76) (k := (x12_4).toInt.toNat) (ws' := [(mdigits, .inl (cyJ, 5, .inr (.inl f_29))), (m0, .inr (11, [.int 0, .ref mtape, .int m_taped, .int m_size, .ref msort, .ref mplace, .ref mvalue, .int m_at, .int m_fault, .ref mwords, .ref mtold, .ref mop, .ref marg, .int m_codes, .ref mnames, .ref mhasHabit, .int m_isNew, .ref mfactWords, .ref mfacts, .ref mpile, .ref mstates, .ref misMarked, .int (u_10.2.1 1), .int (u_10.2.1 2), .int (u_10.2.1 3), .ref mrow, .int (u_10.2.1 4), .ref mthr, .ref mmays, .ref mtall, .ref mweights, .ref mrowOfWare, .ref mneededOf, .int m_goShelf, .int m_goStack, .int m_goLeft, .ref mtried, .ref mbestRow, .int m_bestCost, .int m_bestMany, .int m_bestShelf, .int m_bestSet, .ref mdigits])), (mtold, .inl (cyI, 240, .inl m_told)), (mstates, .inl (cyI, 2760, .inl m_states)), (mrow, .inl (cyI, 12, .inl (u_10.2.2.1 0)))]) C 0 2 rfl rfl (i_nn hi_12_0.1) rfl (i_lt_n hi_12_0.1 (by omega)) dX11_whole_76 (by rw [ef_29]; rfl) ?_
                obtain ⟨v_30, ev_30⟩ : ∃ z : Int32, x12_4 + 1 = z := ⟨_, rfl⟩
                have el_1 : (1 : Int32).toInt = 1 := rfl
                have hv_30 : v_30.toInt = x12_4.toInt + (1 : Int32).toInt := by rw [← ev_30]; exact fb_addI (by omega) (by omega)
                refine j_iinc (pc := 77) (v := v_30) (lv' := [(4, .int v_30), (3, .int (u_10.2.1 0)), (0, .ref m0), (1, .int p0), (2, .int p1)]) C dX11_whole_77 0 rfl ev_30 (by decide) rfl ?_
                refine j_goto (pc := 80) (tgt := 54) C dX11_whole_80 (by decide) ?_
                exact j_lv [0, 1, 2, 3, 4] rfl (ih_12 v_30 f_29 (by omega) (by omega))
              · skip
                have el_0 : (0 : Int32).toInt = 0 := rfl
                rw [i_eq] at c_28
                refine j_lconst (pc := 71) (v := 1) C dX11_whole_71 rfl ?_
                refine j_goto (pc := 72) (tgt := 76) C dX11_whole_72 (by decide) ?_
                obtain ⟨f_31, ef_31⟩ : ∃ z, z = vp_updL g12_mdigits (x12_4).toInt.toNat 1 := ⟨_, rfl⟩
                refine j_last (pc := 76) (k := (x12_4).toInt.toNat) (ws' := [(mdigits, .inl (cyJ, 5, .inr (.inl f_31))), (m0, .inr (11, [.int 0, .ref mtape, .int m_taped, .int m_size, .ref msort, .ref mplace, .ref mvalue, .int m_at, .int m_fault, .ref mwords, .ref mtold, .ref mop, .ref marg, .int m_codes, .ref mnames, .ref mhasHabit, .int m_isNew, .ref mfactWords, .ref mfacts, .ref mpile, .ref mstates, .ref misMarked, .int (u_10.2.1 1), .int (u_10.2.1 2), .int (u_10.2.1 3), .ref mrow, .int (u_10.2.1 4), .ref mthr, .ref mmays, .ref mtall, .ref mweights, .ref mrowOfWare, .ref mneededOf, .int m_goShelf, .int m_goStack, .int m_goLeft, .ref mtried, .ref mbestRow, .int m_bestCost, .int m_bestMany, .int m_bestShelf, .int m_bestSet, .ref mdigits])), (mtold, .inl (cyI, 240, .inl m_told)), (mstates, .inl (cyI, 2760, .inl m_states)), (mrow, .inl (cyI, 12, .inl (u_10.2.2.1 0)))]) C 0 2 rfl rfl (i_nn hi_12_0.1) rfl (i_lt_n hi_12_0.1 (by omega)) dX11_whole_76 (by rw [ef_31]; rfl) ?_
                obtain ⟨v_32, ev_32⟩ : ∃ z : Int32, x12_4 + 1 = z := ⟨_, rfl⟩
                have el_1 : (1 : Int32).toInt = 1 := rfl
                have hv_32 : v_32.toInt = x12_4.toInt + (1 : Int32).toInt := by rw [← ev_32]; exact fb_addI (by omega) (by omega)
                refine j_iinc (pc := 77) (v := v_32) (lv' := [(4, .int v_32), (3, .int (u_10.2.1 0)), (0, .ref m0), (1, .int p0), (2, .int p1)]) C dX11_whole_77 0 rfl ev_32 (by decide) rfl ?_
                refine j_goto (pc := 80) (tgt := 54) C dX11_whole_80 (by decide) ?_
                exact j_lv [0, 1, 2, 3, 4] rfl (ih_12 v_32 f_31 (by omega) (by omega))
        have el_0 : (0 : Int32).toInt = 0 := rfl
        exact j_lv [0, 1, 2, 3, 4] rfl (loop_12 4096 0 m_digits (by decide) (by omega))
