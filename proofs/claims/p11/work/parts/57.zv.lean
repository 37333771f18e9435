theorem wd_906 : Cond.fieldLink RX11 145 "BowlShelfModel" "isNew" "Z" ∈ WALL := wl_in (by decide +kernel) (by decide +kernel)
theorem wd_907 : Cond.fieldLink RX11 117 "BowlShelfModel" "thr" "[Z" ∈ WALL := wl_in (by decide +kernel) (by decide +kernel)
theorem wd_908 : Cond.code yX11_findTall cX11_findTall 4 none ∈ WALL := wl_in (by decide +kernel) (by decide +kernel)
theorem wd_909 : Cond.methodLink RX11 357 yX11_findTall ∈ WALL := wl_in (by decide +kernel) (by decide +kernel)
theorem wd_910 : Cond.instanceMethod yX11_findTall ∈ WALL := wl_in (by decide +kernel) (by decide +kernel)
theorem wd_911 : Cond.selects RX11 yX11_findTall yX11_findTall ∈ WALL := wl_in (by decide +kernel) (by decide +kernel)
theorem dX11_find_0 : decode cX11_find 0 = .ok (.aload_n 0, 1) := by decide +kernel
theorem dX11_find_1 : decode cX11_find 1 = .ok (.getfield 145, 3) := by decide +kernel
theorem dX11_find_4 : decode cX11_find 4 = .ok (.ifCond .ne 4, 3) := by decide +kernel
theorem dX11_find_7 : decode cX11_find 7 = .ok (.return_, 1) := by decide +kernel
theorem dX11_find_8 : decode cX11_find 8 = .ok (.aload_n 0, 1) := by decide +kernel
theorem dX11_find_9 : decode cX11_find 9 = .ok (.iconst 0, 1) := by decide +kernel
theorem dX11_find_10 : decode cX11_find 10 = .ok (.putfield 145, 3) := by decide +kernel
theorem dX11_find_13 : decode cX11_find 13 = .ok (.aload_n 0, 1) := by decide +kernel
theorem dX11_find_14 : decode cX11_find 14 = .ok (.invokevirtual 264, 3) := by decide +kernel
theorem dX11_find_17 : decode cX11_find 17 = .ok (.istore_n 1, 1) := by decide +kernel
theorem dX11_find_18 : decode cX11_find 18 = .ok (.iconst 0, 1) := by decide +kernel
theorem dX11_find_19 : decode cX11_find 19 = .ok (.istore_n 2, 1) := by decide +kernel
theorem dX11_find_20 : decode cX11_find 20 = .ok (.iload_n 2, 1) := by decide +kernel
theorem dX11_find_21 : decode cX11_find 21 = .ok (.iload_n 1, 1) := by decide +kernel
theorem dX11_find_22 : decode cX11_find 22 = .ok (.if_icmp .ge 74, 3) := by decide +kernel
theorem dX11_find_25 : decode cX11_find 25 = .ok (.iconst 0, 1) := by decide +kernel
theorem dX11_find_26 : decode cX11_find 26 = .ok (.istore_n 3, 1) := by decide +kernel
theorem dX11_find_27 : decode cX11_find 27 = .ok (.iload_n 3, 1) := by decide +kernel
theorem dX11_find_28 : decode cX11_find 28 = .ok (.iload_n 1, 1) := by decide +kernel
theorem dX11_find_29 : decode cX11_find 29 = .ok (.if_icmp .ge 61, 3) := by decide +kernel
theorem dX11_find_32 : decode cX11_find 32 = .ok (.aload_n 0, 1) := by decide +kernel
theorem dX11_find_33 : decode cX11_find 33 = .ok (.getfield 120, 3) := by decide +kernel
theorem dX11_find_36 : decode cX11_find 36 = .ok (.bipush 12, 2) := by decide +kernel
theorem dX11_find_38 : decode cX11_find 38 = .ok (.iload_n 2, 1) := by decide +kernel
theorem dX11_find_39 : decode cX11_find 39 = .ok (.imul, 1) := by decide +kernel
theorem dX11_find_40 : decode cX11_find 40 = .ok (.iload_n 3, 1) := by decide +kernel
theorem dX11_find_41 : decode cX11_find 41 = .ok (.iadd, 1) := by decide +kernel
theorem dX11_find_42 : decode cX11_find 42 = .ok (.iload_n 2, 1) := by decide +kernel
theorem dX11_find_43 : decode cX11_find 43 = .ok (.iload_n 3, 1) := by decide +kernel
theorem dX11_find_44 : decode cX11_find 44 = .ok (.if_icmp .eq 16, 3) := by decide +kernel
theorem dX11_find_47 : decode cX11_find 47 = .ok (.aload_n 0, 1) := by decide +kernel
theorem dX11_find_48 : decode cX11_find 48 = .ok (.iload_n 2, 1) := by decide +kernel
theorem dX11_find_49 : decode cX11_find 49 = .ok (.iload_n 3, 1) := by decide +kernel
theorem dX11_find_50 : decode cX11_find 50 = .ok (.invokevirtual 284, 3) := by decide +kernel
theorem dX11_find_53 : decode cX11_find 53 = .ok (.ifCond .eq 7, 3) := by decide +kernel
theorem dX11_find_56 : decode cX11_find 56 = .ok (.iconst 1, 1) := by decide +kernel
theorem dX11_find_57 : decode cX11_find 57 = .ok (.goto 4, 3) := by decide +kernel
theorem dX11_find_60 : decode cX11_find 60 = .ok (.iconst 0, 1) := by decide +kernel
theorem dX11_find_61 : decode cX11_find 61 = .ok (.bastore, 1) := by decide +kernel
theorem dX11_find_62 : decode cX11_find 62 = .ok (.aload_n 0, 1) := by decide +kernel
theorem dX11_find_63 : decode cX11_find 63 = .ok (.getfield 117, 3) := by decide +kernel
theorem dX11_find_66 : decode cX11_find 66 = .ok (.bipush 12, 2) := by decide +kernel
theorem dX11_find_68 : decode cX11_find 68 = .ok (.iload_n 2, 1) := by decide +kernel
theorem dX11_find_69 : decode cX11_find 69 = .ok (.imul, 1) := by decide +kernel
theorem dX11_find_70 : decode cX11_find 70 = .ok (.iload_n 3, 1) := by decide +kernel
theorem dX11_find_71 : decode cX11_find 71 = .ok (.iadd, 1) := by decide +kernel
theorem dX11_find_72 : decode cX11_find 72 = .ok (.aload_n 0, 1) := by decide +kernel
theorem dX11_find_73 : decode cX11_find 73 = .ok (.getfield 120, 3) := by decide +kernel
theorem dX11_find_76 : decode cX11_find 76 = .ok (.bipush 12, 2) := by decide +kernel
theorem dX11_find_78 : decode cX11_find 78 = .ok (.iload_n 2, 1) := by decide +kernel
theorem dX11_find_79 : decode cX11_find 79 = .ok (.imul, 1) := by decide +kernel
theorem dX11_find_80 : decode cX11_find 80 = .ok (.iload_n 3, 1) := by decide +kernel
theorem dX11_find_81 : decode cX11_find 81 = .ok (.iadd, 1) := by decide +kernel
theorem dX11_find_82 : decode cX11_find 82 = .ok (.baload, 1) := by decide +kernel
theorem dX11_find_83 : decode cX11_find 83 = .ok (.bastore, 1) := by decide +kernel
theorem dX11_find_84 : decode cX11_find 84 = .ok (.iinc 3 1, 3) := by decide +kernel
theorem dX11_find_87 : decode cX11_find 87 = .ok (.goto (-60), 3) := by decide +kernel
theorem dX11_find_90 : decode cX11_find 90 = .ok (.iinc 2 1, 3) := by decide +kernel
theorem dX11_find_93 : decode cX11_find 93 = .ok (.goto (-73), 3) := by decide +kernel
theorem dX11_find_96 : decode cX11_find 96 = .ok (.iconst 0, 1) := by decide +kernel
theorem dX11_find_97 : decode cX11_find 97 = .ok (.istore_n 2, 1) := by decide +kernel
theorem dX11_find_98 : decode cX11_find 98 = .ok (.iload_n 2, 1) := by decide +kernel
theorem dX11_find_99 : decode cX11_find 99 = .ok (.iload_n 1, 1) := by decide +kernel
theorem dX11_find_100 : decode cX11_find 100 = .ok (.if_icmp .ge 98, 3) := by decide +kernel
theorem dX11_find_103 : decode cX11_find 103 = .ok (.iconst 0, 1) := by decide +kernel
theorem dX11_find_104 : decode cX11_find 104 = .ok (.istore_n 3, 1) := by decide +kernel
theorem dX11_find_105 : decode cX11_find 105 = .ok (.iload_n 3, 1) := by decide +kernel
theorem dX11_find_106 : decode cX11_find 106 = .ok (.iload_n 1, 1) := by decide +kernel
theorem dX11_find_107 : decode cX11_find 107 = .ok (.if_icmp .ge 85, 3) := by decide +kernel
theorem dX11_find_110 : decode cX11_find 110 = .ok (.iconst 0, 1) := by decide +kernel
theorem dX11_find_111 : decode cX11_find 111 = .ok (.istore 4, 2) := by decide +kernel
theorem dX11_find_113 : decode cX11_find 113 = .ok (.iload 4, 2) := by decide +kernel
theorem dX11_find_115 : decode cX11_find 115 = .ok (.iload_n 1, 1) := by decide +kernel
theorem dX11_find_116 : decode cX11_find 116 = .ok (.if_icmp .ge 70, 3) := by decide +kernel
theorem dX11_find_119 : decode cX11_find 119 = .ok (.aload_n 0, 1) := by decide +kernel
theorem dX11_find_120 : decode cX11_find 120 = .ok (.getfield 117, 3) := by decide +kernel
theorem dX11_find_123 : decode cX11_find 123 = .ok (.bipush 12, 2) := by decide +kernel
theorem dX11_find_125 : decode cX11_find 125 = .ok (.iload_n 3, 1) := by decide +kernel
theorem dX11_find_126 : decode cX11_find 126 = .ok (.imul, 1) := by decide +kernel
theorem dX11_find_127 : decode cX11_find 127 = .ok (.iload 4, 2) := by decide +kernel
theorem dX11_find_129 : decode cX11_find 129 = .ok (.iadd, 1) := by decide +kernel
theorem dX11_find_130 : decode cX11_find 130 = .ok (.aload_n 0, 1) := by decide +kernel
theorem dX11_find_131 : decode cX11_find 131 = .ok (.getfield 117, 3) := by decide +kernel
theorem dX11_find_134 : decode cX11_find 134 = .ok (.bipush 12, 2) := by decide +kernel
theorem dX11_find_136 : decode cX11_find 136 = .ok (.iload_n 3, 1) := by decide +kernel
theorem dX11_find_137 : decode cX11_find 137 = .ok (.imul, 1) := by decide +kernel
theorem dX11_find_138 : decode cX11_find 138 = .ok (.iload 4, 2) := by decide +kernel
theorem dX11_find_140 : decode cX11_find 140 = .ok (.iadd, 1) := by decide +kernel
theorem dX11_find_141 : decode cX11_find 141 = .ok (.baload, 1) := by decide +kernel
theorem dX11_find_142 : decode cX11_find 142 = .ok (.ifCond .ne 32, 3) := by decide +kernel
theorem dX11_find_145 : decode cX11_find 145 = .ok (.aload_n 0, 1) := by decide +kernel
theorem dX11_find_146 : decode cX11_find 146 = .ok (.getfield 117, 3) := by decide +kernel
theorem dX11_find_149 : decode cX11_find 149 = .ok (.bipush 12, 2) := by decide +kernel
theorem dX11_find_151 : decode cX11_find 151 = .ok (.iload_n 3, 1) := by decide +kernel
theorem dX11_find_152 : decode cX11_find 152 = .ok (.imul, 1) := by decide +kernel
theorem dX11_find_153 : decode cX11_find 153 = .ok (.iload_n 2, 1) := by decide +kernel
theorem dX11_find_154 : decode cX11_find 154 = .ok (.iadd, 1) := by decide +kernel
theorem dX11_find_155 : decode cX11_find 155 = .ok (.baload, 1) := by decide +kernel
theorem dX11_find_156 : decode cX11_find 156 = .ok (.ifCond .eq 22, 3) := by decide +kernel
theorem dX11_find_159 : decode cX11_find 159 = .ok (.aload_n 0, 1) := by decide +kernel
theorem dX11_find_160 : decode cX11_find 160 = .ok (.getfield 117, 3) := by decide +kernel
theorem dX11_find_163 : decode cX11_find 163 = .ok (.bipush 12, 2) := by decide +kernel
theorem dX11_find_165 : decode cX11_find 165 = .ok (.iload_n 2, 1) := by decide +kernel
theorem dX11_find_166 : decode cX11_find 166 = .ok (.imul, 1) := by decide +kernel
theorem dX11_find_167 : decode cX11_find 167 = .ok (.iload 4, 2) := by decide +kernel
theorem dX11_find_169 : decode cX11_find 169 = .ok (.iadd, 1) := by decide +kernel
theorem dX11_find_170 : decode cX11_find 170 = .ok (.baload, 1) := by decide +kernel
theorem dX11_find_171 : decode cX11_find 171 = .ok (.ifCond .eq 7, 3) := by decide +kernel
theorem dX11_find_174 : decode cX11_find 174 = .ok (.iconst 1, 1) := by decide +kernel
theorem dX11_find_175 : decode cX11_find 175 = .ok (.goto 4, 3) := by decide +kernel
theorem dX11_find_178 : decode cX11_find 178 = .ok (.iconst 0, 1) := by decide +kernel
theorem dX11_find_179 : decode cX11_find 179 = .ok (.bastore, 1) := by decide +kernel
theorem dX11_find_180 : decode cX11_find 180 = .ok (.iinc 4 1, 3) := by decide +kernel
theorem dX11_find_183 : decode cX11_find 183 = .ok (.goto (-70), 3) := by decide +kernel
theorem dX11_find_186 : decode cX11_find 186 = .ok (.iinc 3 1, 3) := by decide +kernel
theorem dX11_find_189 : decode cX11_find 189 = .ok (.goto (-84), 3) := by decide +kernel
theorem dX11_find_192 : decode cX11_find 192 = .ok (.iinc 2 1, 3) := by decide +kernel
theorem dX11_find_195 : decode cX11_find 195 = .ok (.goto (-97), 3) := by decide +kernel
theorem dX11_find_198 : decode cX11_find 198 = .ok (.aload_n 0, 1) := by decide +kernel
theorem dX11_find_199 : decode cX11_find 199 = .ok (.getfield 127, 3) := by decide +kernel
theorem dX11_find_202 : decode cX11_find 202 = .ok (.iconst 0, 1) := by decide +kernel
theorem dX11_find_203 : decode cX11_find 203 = .ok (.iconst 0, 1) := by decide +kernel
theorem dX11_find_204 : decode cX11_find 204 = .ok (.iastore, 1) := by decide +kernel
theorem dX11_find_205 : decode cX11_find 205 = .ok (.iconst 1, 1) := by decide +kernel
theorem dX11_find_206 : decode cX11_find 206 = .ok (.istore_n 2, 1) := by decide +kernel
theorem dX11_find_207 : decode cX11_find 207 = .ok (.iload_n 2, 1) := by decide +kernel
theorem dX11_find_208 : decode cX11_find 208 = .ok (.iconst 1, 1) := by decide +kernel
theorem dX11_find_209 : decode cX11_find 209 = .ok (.iload_n 1, 1) := by decide +kernel
theorem dX11_find_210 : decode cX11_find 210 = .ok (.ishl, 1) := by decide +kernel
theorem dX11_find_211 : decode cX11_find 211 = .ok (.if_icmp .ge 14, 3) := by decide +kernel
theorem dX11_find_214 : decode cX11_find 214 = .ok (.aload_n 0, 1) := by decide +kernel
theorem dX11_find_215 : decode cX11_find 215 = .ok (.iload_n 2, 1) := by decide +kernel
theorem dX11_find_216 : decode cX11_find 216 = .ok (.invokevirtual 357, 3) := by decide +kernel
theorem dX11_find_219 : decode cX11_find 219 = .ok (.iinc 2 1, 3) := by decide +kernel
theorem dX11_find_222 : decode cX11_find 222 = .ok (.goto (-15), 3) := by decide +kernel
theorem dX11_find_225 : decode cX11_find 225 = .ok (.return_, 1) := by decide +kernel
set_option maxHeartbeats 4000000 in
set_option maxRecDepth 100000 in
theorem c_X11_find (l : Launch) (D : DG) (cyC cyI cyJ cyZ cyO : ClassId) (m0 : Nat) (mtold : Nat) (mop : Nat) (marg : Nat) (mfacts : Nat) (mpile : Nat) (mthr : Nat) (mmays : Nat) (mtall : Nat) (mweights : Nat) (mtape : Nat) (msort : Nat) (mplace : Nat) (mvalue : Nat) (mwords : Nat) (mnames : Nat) (mhasHabit : Nat) (mfactWords : Nat) (mstates : Nat) (misMarked : Nat) (mrow : Nat) (mrowOfWare : Nat) (mneededOf : Nat) (mtried : Nat) (mbestRow : Nat) (mdigits : Nat) (m_thrown : Int32) (m_taped : Int32) (m_size : Int32) (m_at : Int32) (m_fault : Int32) (m_codes : Int32) (m_isNew : Int32) (m_inShelf : Int32) (m_inStack : Int32) (m_inPlace : Int32) (m_rowMany : Int32) (m_goShelf : Int32) (m_goStack : Int32) (m_goLeft : Int32) (m_bestCost : Int32) (m_bestMany : Int32) (m_bestShelf : Int32) (m_bestSet : Int32) (m_told : Nat → Int32) (m_op : Nat → Int32) (m_arg : Nat → Int32) (m_facts : Nat → Int32) (m_pile : Nat → Int32) (m_thr : Nat → Int32) (m_mays : Nat → Int32) (m_tall : Nat → Int32) (m_weights : Nat → Int32) (h_m_taped : 0 ≤ (m_taped).toInt ∧ (m_taped).toInt ≤ 1000) (h_m_size : 0 ≤ (m_size).toInt ∧ (m_size).toInt ≤ 1000) (h_m_at : 0 ≤ (m_at).toInt ∧ (m_at).toInt ≤ 1000) (h_m_fault : 0 ≤ (m_fault).toInt ∧ (m_fault).toInt ≤ 16005) (h_m_codes : 0 ≤ (m_codes).toInt ∧ (m_codes).toInt ≤ 1000) (h_m_isNew : 0 ≤ (m_isNew).toInt ∧ (m_isNew).toInt ≤ 1) (h_m_inShelf : 0 ≤ (m_inShelf).toInt ∧ (m_inShelf).toInt ≤ 3) (h_m_inStack : 0 ≤ (m_inStack).toInt ∧ (m_inStack).toInt ≤ 7) (h_m_inPlace : 0 ≤ (m_inPlace).toInt ∧ (m_inPlace).toInt ≤ 11) (h_m_rowMany : 0 ≤ (m_rowMany).toInt ∧ (m_rowMany).toInt ≤ 12) (h_m_goShelf : -1 ≤ (m_goShelf).toInt ∧ (m_goShelf).toInt ≤ 3) (h_m_bestMany : 0 ≤ (m_bestMany).toInt ∧ (m_bestMany).toInt ≤ 7) (h_m_bestShelf : 0 ≤ (m_bestShelf).toInt ∧ (m_bestShelf).toInt ≤ 3) (h_m_told : TV m_told) (h_m_tall : Iv 49152 (0) (100000000) m_tall) (hwf : WFm m_told m_op m_arg) (hTA : (m_isNew).toInt = 0 → TALL m_told m_mays m_tall) : KK l D (TY cyC cyI cyJ cyZ cyO) yX11_find cX11_find 5 none ({ frames := 4, cells := 0, slots := 0, locals := 93 } : Room) 0 0 [.ref m0] [(m0, .inr (11, [.int m_thrown, .ref mtape, .int m_taped, .int m_size, .ref msort, .ref mplace, .ref mvalue, .int m_at, .int m_fault, .ref mwords, .ref mtold, .ref mop, .ref marg, .int m_codes, .ref mnames, .ref mhasHabit, .int m_isNew, .ref mfactWords, .ref mfacts, .ref mpile, .ref mstates, .ref misMarked, .int m_inShelf, .int m_inStack, .int m_inPlace, .ref mrow, .int m_rowMany, .ref mthr, .ref mmays, .ref mtall, .ref mweights, .ref mrowOfWare, .ref mneededOf, .int m_goShelf, .int m_goStack, .int m_goLeft, .ref mtried, .ref mbestRow, .int m_bestCost, .int m_bestMany, .int m_bestShelf, .int m_bestSet, .ref mdigits])), (mtold, .inl (cyI, 240, .inl m_told)), (mop, .inl (cyI, 2200, .inl m_op)), (marg, .inl (cyI, 2200, .inl m_arg)), (mfacts, .inl (cyI, 8, .inl m_facts)), (mpile, .inl (cyI, 1100, .inl m_pile)), (mthr, .inl (cyZ, 144, .inl m_thr)), (mmays, .inl (cyZ, 144, .inl m_mays)), (mtall, .inl (cyI, 49152, .inl m_tall)), (mweights, .inl (cyI, 4096, .inl m_weights))] (fun u => none) (fun u => (0 ≤ (u.2.1 0).toInt ∧ (u.2.1 0).toInt ≤ 0) ∧ (Iv 49152 (0) (100000000) (u.2.2.1 4)) ∧ (TALL m_told (u.2.2.1 3) (u.2.2.1 4))) (fun u => [(m0, .inr (11, [.int m_thrown, .ref mtape, .int m_taped, .int m_size, .ref msort, .ref mplace, .ref mvalue, .int m_at, .int m_fault, .ref mwords, .ref mtold, .ref mop, .ref marg, .int m_codes, .ref mnames, .ref mhasHabit, .int (u.2.1 0), .ref mfactWords, .ref mfacts, .ref mpile, .ref mstates, .ref misMarked, .int m_inShelf, .int m_inStack, .int m_inPlace, .ref mrow, .int m_rowMany, .ref mthr, .ref mmays, .ref mtall, .ref mweights, .ref mrowOfWare, .ref mneededOf, .int m_goShelf, .int m_goStack, .int m_goLeft, .ref mtried, .ref mbestRow, .int m_bestCost, .int m_bestMany, .int m_bestShelf, .int m_bestSet, .ref mdigits])), (mtold, .inl (cyI, 240, .inl m_told)), (mop, .inl (cyI, 2200, .inl m_op)), (marg, .inl (cyI, 2200, .inl m_arg)), (mfacts, .inl (cyI, 8, .inl (u.2.2.1 0))), (mpile, .inl (cyI, 1100, .inl (u.2.2.1 1))), (mthr, .inl (cyZ, 144, .inl (u.2.2.1 2))), (mmays, .inl (cyZ, 144, .inl (u.2.2.1 3))), (mtall, .inl (cyI, 49152, .inl (u.2.2.1 4))), (mweights, .inl (cyI, 4096, .inl (u.2.2.1 5)))]) := by
  refine KK.of (lv0 := [(0, .ref m0)]) (by decide) rfl (Nat.le_of_ble_eq_true rfl) ?_
  intro p e s m args below meth c A C hr hk hin
  refine j_aload_n (pc := 0) C dX11_find_0 rfl 0 rfl ?_
  refine j_get (pc := 1) (ci := 11) (v := .int m_isNew) C inw_11 0 rfl rfl 16 (by decide) wd_906 rfl rfl dX11_find_1 ?_
  refine j_if_ne (pc := 4) (tgt := 8) C dX11_find_4 (by decide) (fun c_1 => ?_) (fun c_1 => ?_)
  · skip
    have el_0 : (0 : Int32).toInt = 0 := rfl
    rw [i_eq] at c_1
    have k0c_1 : m_isNew.toInt = 1 := by omega
    refine j_aload_n (pc := 8) C dX11_find_8 rfl 0 rfl ?_
    refine j_iconst (pc := 9) (v := 0) C dX11_find_9 (by decide) ?_
    refine j_put (pc := 10) (ci := 11) (v := .int 0) (ws' := [(m0, .inr (11, [.int m_thrown, .ref mtape, .int m_taped, .int m_size, .ref msort, .ref mplace, .ref mvalue, .int m_at, .int m_fault, .ref mwords, .ref mtold, .ref mop, .ref marg, .int m_codes, .ref mnames, .ref mhasHabit, .int 0, .ref mfactWords, .ref mfacts, .ref mpile, .ref mstates, .ref misMarked, .int m_inShelf, .int m_inStack, .int m_inPlace, .ref mrow, .int m_rowMany, .ref mthr, .ref mmays, .ref mtall, .ref mweights, .ref mrowOfWare, .ref mneededOf, .int m_goShelf, .int m_goStack, .int m_goLeft, .ref mtried, .ref mbestRow, .int m_bestCost, .int m_bestMany, .int m_bestShelf, .int m_bestSet, .ref mdigits])), (mtold, .inl (cyI, 240, .inl m_told)), (mop, .inl (cyI, 2200, .inl m_op)), (marg, .inl (cyI, 2200, .inl m_arg)), (mfacts, .inl (cyI, 8, .inl m_facts)), (mpile, .inl (cyI, 1100, .inl m_pile)), (mthr, .inl (cyZ, 144, .inl m_thr)), (mmays, .inl (cyZ, 144, .inl m_mays)), (mtall, .inl (cyI, 49152, .inl m_tall)), (mweights, .inl (cyI, 4096, .inl m_weights))]) C inw_11 0 rfl rfl 16 (by decide) wd_906 rfl tyX11_ok nmX11 rfl (tyX11_ok 16 (by decide)) rfl rfl (Nat.le_of_ble_eq_true rfl) dX11_find_10 rfl ?_
    refine j_aload_n (pc := 13) C dX11_find_13 rfl 0 rfl ?_
    refine j_callV (pc := 14) (As := []) (rest := []) (wr := [(mop, .inl (cyI, 2200, .inl m_op)), (marg, .inl (cyI, 2200, .inl m_arg)), (mfacts, .inl (cyI, 8, .inl m_facts)), (mpile, .inl (cyI, 1100, .inl m_pile)), (mthr, .inl (cyZ, 144, .inl m_thr)), (mmays, .inl (cyZ, 144, .inl m_mays)), (mtall, .inl (cyI, 49152, .inl m_tall)), (mweights, .inl (cyI, 4096, .inl m_weights))]) C (c_X11_wares l D cyC cyI cyJ cyZ cyO m0 mtold mtape msort mplace mvalue mwords mop marg mnames mhasHabit mfactWords mfacts mpile mstates misMarked mrow mthr mmays mtall mweights mrowOfWare mneededOf mtried mbestRow mdigits m_thrown m_taped m_size m_at m_fault m_codes 0 m_inShelf m_inStack m_inPlace m_rowMany m_goShelf m_goStack m_goLeft m_bestCost m_bestMany m_bestShelf m_bestSet m_told h_m_taped h_m_size h_m_at h_m_fault h_m_codes (by decide) h_m_inShelf h_m_inStack h_m_inPlace h_m_rowMany h_m_goShelf h_m_bestMany h_m_bestShelf h_m_told) wd_748 wd_624 wd_749 wd_750 wd_751 ⟨by decide, by decide, rfl⟩ rfl ⟨rfl, rfl, by decide, by decide⟩ ⟨by decide, by decide⟩ [0, 1] [2, 3, 4, 5, 6, 7, 8, 9] rfl rfl ⟨by decide, by decide, by decide⟩ 0 rfl rfl rfl (Nat.le_of_ble_eq_true rfl) dX11_find_14 (fun u_2 hw_3 => ?_)
    refine j_eq (ws2 := [(mop, .inl (cyI, 2200, .inl m_op)), (marg, .inl (cyI, 2200, .inl m_arg)), (mfacts, .inl (cyI, 8, .inl m_facts)), (mpile, .inl (cyI, 1100, .inl m_pile)), (mthr, .inl (cyZ, 144, .inl m_thr)), (mmays, .inl (cyZ, 144, .inl m_mays)), (mtall, .inl (cyI, 49152, .inl m_tall)), (mweights, .inl (cyI, 4096, .inl m_weights)), (m0, .inr (11, [.int m_thrown, .ref mtape, .int m_taped, .int m_size, .ref msort, .ref mplace, .ref mvalue, .int m_at, .int m_fault, .ref mwords, .ref mtold, .ref mop, .ref marg, .int m_codes, .ref mnames, .ref mhasHabit, .int 0, .ref mfactWords, .ref mfacts, .ref mpile, .ref mstates, .ref misMarked, .int m_inShelf, .int m_inStack, .int m_inPlace, .ref mrow, .int m_rowMany, .ref mthr, .ref mmays, .ref mtall, .ref mweights, .ref mrowOfWare, .ref mneededOf, .int m_goShelf, .int m_goStack, .int m_goLeft, .ref mtried, .ref mbestRow, .int m_bestCost, .int m_bestMany, .int m_bestShelf, .int m_bestSet, .ref mdigits])), (mtold, .inl (cyI, 240, .inl m_told))]) (pc2 := 17) (lv2 := [(0, .ref m0)]) (st2 := [.int (u_2.2.1 0)]) rfl rfl rfl rfl ?_
    obtain ⟨hw_3_0, hw_3_1⟩ := hw_3
    refine j_istore_n (pc := 17) (lv' := [(1, .int (u_2.2.1 0)), (0, .ref m0)]) C dX11_find_17 rfl (by decide) rfl ?_
    refine j_iconst (pc := 18) (v := 0) C dX11_find_18 (by decide) ?_
    refine j_istore_n (pc := 19) (lv' := [(2, .int 0), (1, .int (u_2.2.1 0)), (0, .ref m0)]) C dX11_find_19 rfl (by decide) rfl ?_
    have loop_4 : ∀ (k_4 : Nat) (x4_2 : Int32) (g4_mfacts : Nat → Int32) (g4_mpile : Nat → Int32) (g4_mthr : Nat → Int32) (g4_mmays : Nat → Int32), (0 ≤ (x4_2).toInt ∧ (x4_2).toInt ≤ 12) → (12 - x4_2.toInt).toNat < k_4 → J p l e ({ frames := 4, cells := 0, slots := 0, locals := 93 } : Room) s m args below meth c D A 5 0 0 (QX below D (TY cyC cyI cyJ cyZ cyO) A (fun u => none) (fun u => (0 ≤ (u.2.1 0).toInt ∧ (u.2.1 0).toInt ≤ 0) ∧ (Iv 49152 (0) (100000000) (u.2.2.1 4)) ∧ (TALL m_told (u.2.2.1 3) (u.2.2.1 4))) (fun u => [(m0, .inr (11, [.int m_thrown, .ref mtape, .int m_taped, .int m_size, .ref msort, .ref mplace, .ref mvalue, .int m_at, .int m_fault, .ref mwords, .ref mtold, .ref mop, .ref marg, .int m_codes, .ref mnames, .ref mhasHabit, .int (u.2.1 0), .ref mfactWords, .ref mfacts, .ref mpile, .ref mstates, .ref misMarked, .int m_inShelf, .int m_inStack, .int m_inPlace, .ref mrow, .int m_rowMany, .ref mthr, .ref mmays, .ref mtall, .ref mweights, .ref mrowOfWare, .ref mneededOf, .int m_goShelf, .int m_goStack, .int m_goLeft, .ref mtried, .ref mbestRow, .int m_bestCost, .int m_bestMany, .int m_bestShelf, .int m_bestSet, .ref mdigits])), (mtold, .inl (cyI, 240, .inl m_told)), (mop, .inl (cyI, 2200, .inl m_op)), (marg, .inl (cyI, 2200, .inl m_arg)), (mfacts, .inl (cyI, 8, .inl (u.2.2.1 0))), (mpile, .inl (cyI, 1100, .inl (u.2.2.1 1))), (mthr, .inl (cyZ, 144, .inl (u.2.2.1 2))), (mmays, .inl (cyZ, 144, .inl (u.2.2.1 3))), (mtall, .inl (cyI, 49152, .inl (u.2.2.1 4))), (mweights, .inl (cyI, 4096, .inl (u.2.2.1 5)))]) args s 0 0) [(mop, .inl (cyI, 2200, .inl m_op)), (marg, .inl (cyI, 2200, .inl m_arg)), (mfacts, .inl (cyI, 8, .inl g4_mfacts)), (mpile, .inl (cyI, 1100, .inl g4_mpile)), (mthr, .inl (cyZ, 144, .inl g4_mthr)), (mmays, .inl (cyZ, 144, .inl g4_mmays)), (mtall, .inl (cyI, 49152, .inl m_tall)), (mweights, .inl (cyI, 4096, .inl m_weights)), (m0, .inr (11, [.int m_thrown, .ref mtape, .int m_taped, .int m_size, .ref msort, .ref mplace, .ref mvalue, .int m_at, .int m_fault, .ref mwords, .ref mtold, .ref mop, .ref marg, .int m_codes, .ref mnames, .ref mhasHabit, .int 0, .ref mfactWords, .ref mfacts, .ref mpile, .ref mstates, .ref misMarked, .int m_inShelf, .int m_inStack, .int m_inPlace, .ref mrow, .int m_rowMany, .ref mthr, .ref mmays, .ref mtall, .ref mweights, .ref mrowOfWare, .ref mneededOf, .int m_goShelf, .int m_goStack, .int m_goLeft, .ref mtried, .ref mbestRow, .int m_bestCost, .int m_bestMany, .int m_bestShelf, .int m_bestSet, .ref mdigits])), (mtold, .inl (cyI, 240, .inl m_told))] 20 [(2, .int x4_2), (1, .int (u_2.2.1 0)), (0, .ref m0)] [] := by
      intro k_4
      induction k_4 with
      | zero =>
        intro x4_2 g4_mfacts g4_mpile g4_mthr g4_mmays hi_4_0 hm_4
        exact absurd hm_4 (Nat.not_lt_zero _)
      | succ k_4 ih_4 =>
        intro x4_2 g4_mfacts g4_mpile g4_mthr g4_mmays hi_4_0 hm_4
        refine j_iload_n (pc := 20) C dX11_find_20 rfl 0 rfl ?_
        refine j_iload_n (pc := 21) C dX11_find_21 rfl 1 rfl ?_
        refine j_icmp_ge (pc := 22) (tgt := 96) C dX11_find_22 (by decide) (fun c_5 => ?_) (fun c_5 => ?_)
        · skip
          rw [i_le] at c_5
          refine j_iconst (pc := 96) (v := 0) C dX11_find_96 (by decide) ?_
          refine j_istore_n (pc := 97) (lv' := [(2, .int 0), (1, .int (u_2.2.1 0)), (0, .ref m0)]) C dX11_find_97 rfl (by decide) rfl ?_
          have loop_6 : ∀ (k_6 : Nat) (x6_2 : Int32) (g6_mthr : Nat → Int32), (0 ≤ (x6_2).toInt ∧ (x6_2).toInt ≤ 12) → (12 - x6_2.toInt).toNat < k_6 → J p l e ({ frames := 4, cells := 0, slots := 0, locals := 93 } : Room) s m args below meth c D A 5 0 0 (QX below D (TY cyC cyI cyJ cyZ cyO) A (fun u => none) (fun u => (0 ≤ (u.2.1 0).toInt ∧ (u.2.1 0).toInt ≤ 0) ∧ (Iv 49152 (0) (100000000) (u.2.2.1 4)) ∧ (TALL m_told (u.2.2.1 3) (u.2.2.1 4))) (fun u => [(m0, .inr (11, [.int m_thrown, .ref mtape, .int m_taped, .int m_size, .ref msort, .ref mplace, .ref mvalue, .int m_at, .int m_fault, .ref mwords, .ref mtold, .ref mop, .ref marg, .int m_codes, .ref mnames, .ref mhasHabit, .int (u.2.1 0), .ref mfactWords, .ref mfacts, .ref mpile, .ref mstates, .ref misMarked, .int m_inShelf, .int m_inStack, .int m_inPlace, .ref mrow, .int m_rowMany, .ref mthr, .ref mmays, .ref mtall, .ref mweights, .ref mrowOfWare, .ref mneededOf, .int m_goShelf, .int m_goStack, .int m_goLeft, .ref mtried, .ref mbestRow, .int m_bestCost, .int m_bestMany, .int m_bestShelf, .int m_bestSet, .ref mdigits])), (mtold, .inl (cyI, 240, .inl m_told)), (mop, .inl (cyI, 2200, .inl m_op)), (marg, .inl (cyI, 2200, .inl m_arg)), (mfacts, .inl (cyI, 8, .inl (u.2.2.1 0))), (mpile, .inl (cyI, 1100, .inl (u.2.2.1 1))), (mthr, .inl (cyZ, 144, .inl (u.2.2.1 2))), (mmays, .inl (cyZ, 144, .inl (u.2.2.1 3))), (mtall, .inl (cyI, 49152, .inl (u.2.2.1 4))), (mweights, .inl (cyI, 4096, .inl (u.2.2.1 5)))]) args s 0 0) [(mop, .inl (cyI, 2200, .inl m_op)), (marg, .inl (cyI, 2200, .inl m_arg)), (mfacts, .inl (cyI, 8, .inl g4_mfacts)), (mpile, .inl (cyI, 1100, .inl g4_mpile)), (mthr, .inl (cyZ, 144, .inl g6_mthr)), (mmays, .inl (cyZ, 144, .inl g4_mmays)), (mtall, .inl (cyI, 49152, .inl m_tall)), (mweights, .inl (cyI, 4096, .inl m_weights)), (m0, .inr (11, [.int m_thrown, .ref mtape, .int m_taped, .int m_size, .ref msort, .ref mplace, .ref mvalue, .int m_at, .int m_fault, .ref mwords, .ref mtold, .ref mop, .ref marg, .int m_codes, .ref mnames, .ref mhasHabit, .int 0, .ref mfactWords, .ref mfacts, .ref mpile, .ref mstates, .ref misMarked, .int m_inShelf, .int m_inStack, .int m_inPlace, .ref mrow, .int m_rowMany, .ref mthr, .ref mmays, .ref mtall, .ref mweights, .ref mrowOfWare, .ref mneededOf, .int m_goShelf, .int m_goStack, .int m_goLeft, .ref mtried, .ref mbestRow, .int m_bestCost, .int m_bestMany, .int m_bestShelf, .int m_bestSet, .ref mdigits])), (mtold, .inl (cyI, 240, .inl m_told))] 98 [(2, .int x6_2), (1, .int (u_2.2.1 0)), (0, .ref m0)] [] := by
            intro k_6
            induction k_6 with
            | zero =>
              intro x6_2 g6_mthr hi_6_0 hm_6
              exact absurd hm_6 (Nat.not_lt_zero _)
            | succ k_6 ih_6 =>
              intro x6_2 g6_mthr hi_6_0 hm_6
              refine j_iload_n (pc := 98) C dX11_find_98 rfl 0 rfl ?_
              refine j_iload_n (pc := 99) C dX11_find_99 rfl 1 rfl ?_
              refine j_icmp_ge (pc := 100) (tgt := 198) C dX11_find_100 (by decide) (fun c_7 => ?_) (fun c_7 => ?_)
              · skip
                rw [i_le] at c_7
                refine j_aload_n (pc := 198) C dX11_find_198 rfl 2 rfl ?_
                refine j_get (pc := 199) (ci := 11) (v := .ref mweights) C inw_11 8 rfl rfl 30 (by decide) wd_898 rfl rfl dX11_find_199 ?_
                refine j_iconst (pc := 202) (v := 0) C dX11_find_202 (by decide) ?_
                refine j_iconst (pc := 203) (v := 0) C dX11_find_203 (by decide) ?_
                obtain ⟨f_8, ef_8⟩ : ∃ z, z = upd m_weights 0 0 := ⟨_, rfl⟩
                refine j_iast (pc := 204) (k := 0) (ws' := [(mop, .inl (cyI, 2200, .inl m_op)), (marg, .inl (cyI, 2200, .inl m_arg)), (mfacts, .inl (cyI, 8, .inl g4_mfacts)), (mpile, .inl (cyI, 1100, .inl g4_mpile)), (mthr, .inl (cyZ, 144, .inl g6_mthr)), (mmays, .inl (cyZ, 144, .inl g4_mmays)), (mtall, .inl (cyI, 49152, .inl m_tall)), (mweights, .inl (cyI, 4096, .inl f_8)), (m0, .inr (11, [.int m_thrown, .ref mtape, .int m_taped, .int m_size, .ref msort, .ref mplace, .ref mvalue, .int m_at, .int m_fault, .ref mwords, .ref mtold, .ref mop, .ref marg, .int m_codes, .ref mnames, .ref mhasHabit, .int 0, .ref mfactWords, .ref mfacts, .ref mpile, .ref mstates, .ref misMarked, .int m_inShelf, .int m_inStack, .int m_inPlace, .ref mrow, .int m_rowMany, .ref mthr, .ref mmays, .ref mtall, .ref mweights, .ref mrowOfWare, .ref mneededOf, .int m_goShelf, .int m_goStack, .int m_goLeft, .ref mtried, .ref mbestRow, .int m_bestCost, .int m_bestMany, .int m_bestShelf, .int m_bestSet, .ref mdigits])), (mtold, .inl (cyI, 240, .inl m_told))]) C 7 1 rfl rfl (by decide) (by decide) (by decide) dX11_find_204 (by rw [ef_8]; rfl) ?_
                refine j_iconst (pc := 205) (v := 1) C dX11_find_205 (by decide) ?_
                refine j_istore_n (pc := 206) (lv' := [(2, .int 1), (1, .int (u_2.2.1 0)), (0, .ref m0)]) C dX11_find_206 rfl (by decide) rfl ?_
                have loop_9 : ∀ (k_9 : Nat) (x9_2 : Int32) (g9_mtall : Nat → Int32) (g9_mweights : Nat → Int32), (1 ≤ (x9_2).toInt ∧ (x9_2).toInt ≤ 4096) → (Iv 49152 (0) (100000000) g9_mtall) → (∀ x : Int32, 1 ≤ x.toInt → x.toInt < x9_2.toInt → TS m_told g4_mmays g9_mtall x) → (4096 - x9_2.toInt).toNat < k_9 → J p l e ({ frames := 4, cells := 0, slots := 0, locals := 93 } : Room) s m args below meth c D A 5 0 0 (QX below D (TY cyC cyI cyJ cyZ cyO) A (fun u => none) (fun u => (0 ≤ (u.2.1 0).toInt ∧ (u.2.1 0).toInt ≤ 0) ∧ (Iv 49152 (0) (100000000) (u.2.2.1 4)) ∧ (TALL m_told (u.2.2.1 3) (u.2.2.1 4))) (fun u => [(m0, .inr (11, [.int m_thrown, .ref mtape, .int m_taped, .int m_size, .ref msort, .ref mplace, .ref mvalue, .int m_at, .int m_fault, .ref mwords, .ref mtold, .ref mop, .ref marg, .int m_codes, .ref mnames, .ref mhasHabit, .int (u.2.1 0), .ref mfactWords, .ref mfacts, .ref mpile, .ref mstates, .ref misMarked, .int m_inShelf, .int m_inStack, .int m_inPlace, .ref mrow, .int m_rowMany, .ref mthr, .ref mmays, .ref mtall, .ref mweights, .ref mrowOfWare, .ref mneededOf, .int m_goShelf, .int m_goStack, .int m_goLeft, .ref mtried, .ref mbestRow, .int m_bestCost, .int m_bestMany, .int m_bestShelf, .int m_bestSet, .ref mdigits])), (mtold, .inl (cyI, 240, .inl m_told)), (mop, .inl (cyI, 2200, .inl m_op)), (marg, .inl (cyI, 2200, .inl m_arg)), (mfacts, .inl (cyI, 8, .inl (u.2.2.1 0))), (mpile, .inl (cyI, 1100, .inl (u.2.2.1 1))), (mthr, .inl (cyZ, 144, .inl (u.2.2.1 2))), (mmays, .inl (cyZ, 144, .inl (u.2.2.1 3))), (mtall, .inl (cyI, 49152, .inl (u.2.2.1 4))), (mweights, .inl (cyI, 4096, .inl (u.2.2.1 5)))]) args s 0 0) [(mop, .inl (cyI, 2200, .inl m_op)), (marg, .inl (cyI, 2200, .inl m_arg)), (mfacts, .inl (cyI, 8, .inl g4_mfacts)), (mpile, .inl (cyI, 1100, .inl g4_mpile)), (mthr, .inl (cyZ, 144, .inl g6_mthr)), (mmays, .inl (cyZ, 144, .inl g4_mmays)), (mtall, .inl (cyI, 49152, .inl g9_mtall)), (mweights, .inl (cyI, 4096, .inl g9_mweights)), (m0, .inr (11, [.int m_thrown, .ref mtape, .int m_taped, .int m_size, .ref msort, .ref mplace, .ref mvalue, .int m_at, .int m_fault, .ref mwords, .ref mtold, .ref mop, .ref marg, .int m_codes, .ref mnames, .ref mhasHabit, .int 0, .ref mfactWords, .ref mfacts, .ref mpile, .ref mstates, .ref misMarked, .int m_inShelf, .int m_inStack, .int m_inPlace, .ref mrow, .int m_rowMany, .ref mthr, .ref mmays, .ref mtall, .ref mweights, .ref mrowOfWare, .ref mneededOf, .int m_goShelf, .int m_goStack, .int m_goLeft, .ref mtried, .ref mbestRow, .int m_bestCost, .int m_bestMany, .int m_bestShelf, .int m_bestSet, .ref mdigits])), (mtold, .inl (cyI, 240, .inl m_told))] 207 [(2, .int x9_2), (1, .int (u_2.2.1 0)), (0, .ref m0)] [] := by
                  intro k_9
                  induction k_9 with
                  | zero =>
                    intro x9_2 g9_mtall g9_mweights hi_9_0 hi_9_1 hq_9_0 hm_9
                    exact absurd hm_9 (Nat.not_lt_zero _)
                  | succ k_9 ih_9 =>
                    intro x9_2 g9_mtall g9_mweights hi_9_0 hi_9_1 hq_9_0 hm_9
                    refine j_iload_n (pc := 207) C dX11_find_207 rfl 0 rfl ?_
                    refine j_iconst (pc := 208) (v := 1) C dX11_find_208 (by decide) ?_
                    refine j_iload_n (pc := 209) C dX11_find_209 rfl 1 rfl ?_
                    obtain ⟨v_10, ev_10⟩ : ∃ z : Int32, 1 <<< ((u_2.2.1 0) &&& 31) = z := ⟨_, rfl⟩
                    have el_1 : (1 : Int32).toInt = 1 := rfl
                    have hv_10 : 1 ≤ v_10.toInt ∧ v_10.toInt ≤ 4096 := by rw [← ev_10]; exact shl1_iv 0 12 (by omega) (by omega) (by omega)
                    refine j_ishl (pc := 210) (v := v_10) C dX11_find_210 ev_10 ?_
                    refine j_icmp_ge (pc := 211) (tgt := 225) C dX11_find_211 (by decide) (fun c_11 => ?_) (fun c_11 => ?_)
                    · skip
                      rw [i_le] at c_11
                      have el_0 : (0 : Int32).toInt = 0 := rfl
                      have el_0 : (0 : Int32).toInt = 0 := rfl
                      exact j_vret (pc := 225) C hr hk (fun i => [].getD i 0, fun i => [0].getD i 0, fun i => [g4_mfacts, g4_mpile, g6_mthr, g4_mmays, g9_mtall, g9_mweights].getD i (fun _ => 0), fun i => [].getD i (fun _ => 0)) rfl (show (0 ≤ ((0 : Int32)).toInt ∧ ((0 : Int32)).toInt ≤ 0) ∧ (Iv 49152 (0) (100000000) g9_mtall) ∧ (TALL m_told g4_mmays g9_mtall) from ⟨by omega, hi_9_1, (fun x x0 x1 => hq_9_0 x x0 (by have h8 := shl1_I (y := (u_2.2.1 0)) (by omega) (by omega); rw [ev_10] at h8; rw [← hw_3_1] at x1; omega))⟩) [8, 9, 0, 1, 2, 3, 4, 5, 6, 7] (by decide) rfl (by decide) (by decide) dX11_find_225
                    · skip
                      rw [i_le] at c_11
                      refine j_aload_n (pc := 214) C dX11_find_214 rfl 2 rfl ?_
                      refine j_iload_n (pc := 215) C dX11_find_215 rfl 0 rfl ?_
                      refine j_callV (pc := 216) (As := [.int x9_2]) (rest := []) (wr := [(mop, .inl (cyI, 2200, .inl m_op)), (marg, .inl (cyI, 2200, .inl m_arg)), (mfacts, .inl (cyI, 8, .inl g4_mfacts)), (mpile, .inl (cyI, 1100, .inl g4_mpile)), (mthr, .inl (cyZ, 144, .inl g6_mthr))]) C (c_X11_findTall l D cyC cyI cyJ cyZ cyO m0 mtold mmays mtall mweights mtape msort mplace mvalue mwords mop marg mnames mhasHabit mfactWords mfacts mpile mstates misMarked mrow mthr mrowOfWare mneededOf mtried mbestRow mdigits x9_2 m_thrown m_taped m_size m_at m_fault m_codes 0 m_inShelf m_inStack m_inPlace m_rowMany m_goShelf m_goStack m_goLeft m_bestCost m_bestMany m_bestShelf m_bestSet m_told g4_mmays g9_mtall g9_mweights h_m_taped h_m_size h_m_at h_m_fault h_m_codes (by decide) h_m_inShelf h_m_inStack h_m_inPlace h_m_rowMany h_m_goShelf h_m_bestMany h_m_bestShelf (by omega) h_m_told hi_9_1) wd_908 wd_624 wd_909 wd_910 wd_911 ⟨by decide, by decide, rfl⟩ rfl ⟨rfl, rfl, by decide, by decide⟩ ⟨by decide, by decide⟩ [8, 9, 5, 6, 7] [0, 1, 2, 3, 4] rfl rfl ⟨by decide, by decide, by decide⟩ 8 rfl rfl rfl (Nat.le_of_ble_eq_true rfl) dX11_find_216 (fun u_12 hw_13 => ?_)
                      refine j_eq (ws2 := [(mop, .inl (cyI, 2200, .inl m_op)), (marg, .inl (cyI, 2200, .inl m_arg)), (mfacts, .inl (cyI, 8, .inl g4_mfacts)), (mpile, .inl (cyI, 1100, .inl g4_mpile)), (mthr, .inl (cyZ, 144, .inl g6_mthr)), (m0, .inr (11, [.int m_thrown, .ref mtape, .int m_taped, .int m_size, .ref msort, .ref mplace, .ref mvalue, .int m_at, .int m_fault, .ref mwords, .ref mtold, .ref mop, .ref marg, .int m_codes, .ref mnames, .ref mhasHabit, .int 0, .ref mfactWords, .ref mfacts, .ref mpile, .ref mstates, .ref misMarked, .int m_inShelf, .int m_inStack, .int m_inPlace, .ref mrow, .int m_rowMany, .ref mthr, .ref mmays, .ref mtall, .ref mweights, .ref mrowOfWare, .ref mneededOf, .int m_goShelf, .int m_goStack, .int m_goLeft, .ref mtried, .ref mbestRow, .int m_bestCost, .int m_bestMany, .int m_bestShelf, .int m_bestSet, .ref mdigits])), (mtold, .inl (cyI, 240, .inl m_told)), (mmays, .inl (cyZ, 144, .inl g4_mmays)), (mtall, .inl (cyI, 49152, .inl (u_12.2.2.1 0))), (mweights, .inl (cyI, 4096, .inl (u_12.2.2.1 1)))]) (pc2 := 219) (lv2 := [(2, .int x9_2), (1, .int (u_2.2.1 0)), (0, .ref m0)]) (st2 := []) rfl rfl rfl rfl ?_
                      obtain ⟨hw_13_0, hw_13_1, hw_13_2⟩ := hw_13
                      obtain ⟨v_14, ev_14⟩ : ∃ z : Int32, x9_2 + 1 = z := ⟨_, rfl⟩
                      have el_1 : (1 : Int32).toInt = 1 := rfl
                      have hv_14 : v_14.toInt = x9_2.toInt + (1 : Int32).toInt := by rw [← ev_14]; exact fb_addI (by omega) (by omega)
                      refine j_iinc (pc := 219) (v := v_14) (lv' := [(2, .int v_14), (1, .int (u_2.2.1 0)), (0, .ref m0)]) C dX11_find_219 0 rfl ev_14 (by decide) rfl ?_
                      refine j_goto (pc := 222) (tgt := 207) C dX11_find_222 (by decide) ?_
                      refine j_subG (ws' := [(mop, .inl (cyI, 2200, .inl m_op)), (marg, .inl (cyI, 2200, .inl m_arg)), (mfacts, .inl (cyI, 8, .inl g4_mfacts)), (mpile, .inl (cyI, 1100, .inl g4_mpile)), (mthr, .inl (cyZ, 144, .inl g6_mthr)), (mmays, .inl (cyZ, 144, .inl g4_mmays)), (mtall, .inl (cyI, 49152, .inl (u_12.2.2.1 0))), (mweights, .inl (cyI, 4096, .inl (u_12.2.2.1 1))), (m0, .inr (11, [.int m_thrown, .ref mtape, .int m_taped, .int m_size, .ref msort, .ref mplace, .ref mvalue, .int m_at, .int m_fault, .ref mwords, .ref mtold, .ref mop, .ref marg, .int m_codes, .ref mnames, .ref mhasHabit, .int 0, .ref mfactWords, .ref mfacts, .ref mpile, .ref mstates, .ref misMarked, .int m_inShelf, .int m_inStack, .int m_inPlace, .ref mrow, .int m_rowMany, .ref mthr, .ref mmays, .ref mtall, .ref mweights, .ref mrowOfWare, .ref mneededOf, .int m_goShelf, .int m_goStack, .int m_goLeft, .ref mtried, .ref mbestRow, .int m_bestCost, .int m_bestMany, .int m_bestShelf, .int m_bestSet, .ref mdigits])), (mtold, .inl (cyI, 240, .inl m_told))]) [0, 1, 2, 3, 4, 7, 8, 9, 5, 6] (by decide) rfl ?_
                      exact j_lv [0, 1, 2] rfl (ih_9 v_14 (u_12.2.2.1 0) (u_12.2.2.1 1) (by omega) hw_13_0 (fun x x0 x1 => by rcases Int.lt_or_le x.toInt (x9_2).toInt with q | q; (exact TS.fr (hq_9_0 x x0 q) (h_m_told 0 (by decide)).2 (by omega) (fun j hj => hw_13_1 j (by omega))); (have ex : x = x9_2 := (i_eq _ _).mpr (by omega); rw [ex]; exact hw_13_2)) (by omega))
                have el_1 : (1 : Int32).toInt = 1 := rfl
                exact j_lv [0, 1, 2] rfl (loop_9 5000 1 m_tall f_8 (by decide) h_m_tall (fun x x0 x1 => absurd x1 (by omega)) (by omega))
              · skip
                rw [i_le] at c_7
                refine j_iconst (pc := 103) (v := 0) C dX11_find_103 (by decide) ?_
                refine j_istore_n (pc := 104) (lv' := [(3, .int 0), (2, .int x6_2), (1, .int (u_2.2.1 0)), (0, .ref m0)]) C dX11_find_104 rfl (by decide) rfl ?_
                have loop_15 : ∀ (k_15 : Nat) (x15_3 : Int32) (g15_mthr : Nat → Int32), (0 ≤ (x15_3).toInt ∧ (x15_3).toInt ≤ 12) → (12 - x15_3.toInt).toNat < k_15 → J p l e ({ frames := 4, cells := 0, slots := 0, locals := 93 } : Room) s m args below meth c D A 5 0 0 (QX below D (TY cyC cyI cyJ cyZ cyO) A (fun u => none) (fun u => (0 ≤ (u.2.1 0).toInt ∧ (u.2.1 0).toInt ≤ 0) ∧ (Iv 49152 (0) (100000000) (u.2.2.1 4)) ∧ (TALL m_told (u.2.2.1 3) (u.2.2.1 4))) (fun u => [(m0, .inr (11, [.int m_thrown, .ref mtape, .int m_taped, .int m_size, .ref msort, .ref mplace, .ref mvalue, .int m_at, .int m_fault, .ref mwords, .ref mtold, .ref mop, .ref marg, .int m_codes, .ref mnames, .ref mhasHabit, .int (u.2.1 0), .ref mfactWords, .ref mfacts, .ref mpile, .ref mstates, .ref misMarked, .int m_inShelf, .int m_inStack, .int m_inPlace, .ref mrow, .int m_rowMany, .ref mthr, .ref mmays, .ref mtall, .ref mweights, .ref mrowOfWare, .ref mneededOf, .int m_goShelf, .int m_goStack, .int m_goLeft, .ref mtried, .ref mbestRow, .int m_bestCost, .int m_bestMany, .int m_bestShelf, .int m_bestSet, .ref mdigits])), (mtold, .inl (cyI, 240, .inl m_told)), (mop, .inl (cyI, 2200, .inl m_op)), (marg, .inl (cyI, 2200, .inl m_arg)), (mfacts, .inl (cyI, 8, .inl (u.2.2.1 0))), (mpile, .inl (cyI, 1100, .inl (u.2.2.1 1))), (mthr, .inl (cyZ, 144, .inl (u.2.2.1 2))), (mmays, .inl (cyZ, 144, .inl (u.2.2.1 3))), (mtall, .inl (cyI, 49152, .inl (u.2.2.1 4))), (mweights, .inl (cyI, 4096, .inl (u.2.2.1 5)))]) args s 0 0) [(mop, .inl (cyI, 2200, .inl m_op)), (marg, .inl (cyI, 2200, .inl m_arg)), (mfacts, .inl (cyI, 8, .inl g4_mfacts)), (mpile, .inl (cyI, 1100, .inl g4_mpile)), (mthr, .inl (cyZ, 144, .inl g15_mthr)), (mmays, .inl (cyZ, 144, .inl g4_mmays)), (mtall, .inl (cyI, 49152, .inl m_tall)), (mweights, .inl (cyI, 4096, .inl m_weights)), (m0, .inr (11, [.int m_thrown, .ref mtape, .int m_taped, .int m_size, .ref msort, .ref mplace, .ref mvalue, .int m_at, .int m_fault, .ref mwords, .ref mtold, .ref mop, .ref marg, .int m_codes, .ref mnames, .ref mhasHabit, .int 0, .ref mfactWords, .ref mfacts, .ref mpile, .ref mstates, .ref misMarked, .int m_inShelf, .int m_inStack, .int m_inPlace, .ref mrow, .int m_rowMany, .ref mthr, .ref mmays, .ref mtall, .ref mweights, .ref mrowOfWare, .ref mneededOf, .int m_goShelf, .int m_goStack, .int m_goLeft, .ref mtried, .ref mbestRow, .int m_bestCost, .int m_bestMany, .int m_bestShelf, .int m_bestSet, .ref mdigits])), (mtold, .inl (cyI, 240, .inl m_told))] 105 [(3, .int x15_3), (2, .int x6_2), (1, .int (u_2.2.1 0)), (0, .ref m0)] [] := by
                  intro k_15
                  induction k_15 with
                  | zero =>
                    intro x15_3 g15_mthr hi_15_0 hm_15
                    exact absurd hm_15 (Nat.not_lt_zero _)
                  | succ k_15 ih_15 =>
                    intro x15_3 g15_mthr hi_15_0 hm_15
                    refine j_iload_n (pc := 105) C dX11_find_105 rfl 0 rfl ?_
                    refine j_iload_n (pc := 106) C dX11_find_106 rfl 2 rfl ?_
                    refine j_icmp_ge (pc := 107) (tgt := 192) C dX11_find_107 (by decide) (fun c_16 => ?_) (fun c_16 => ?_)
                    · skip
                      rw [i_le] at c_16
                      obtain ⟨v_17, ev_17⟩ : ∃ z : Int32, x6_2 + 1 = z := ⟨_, rfl⟩
                      have el_1 : (1 : Int32).toInt = 1 := rfl
                      have hv_17 : v_17.toInt = x6_2.toInt + (1 : Int32).toInt := by rw [← ev_17]; exact fb_addI (by omega) (by omega)
                      refine j_iinc (pc := 192) (v := v_17) (lv' := [(2, .int v_17), (3, .int x15_3), (1, .int (u_2.2.1 0)), (0, .ref m0)]) C dX11_find_192 1 rfl ev_17 (by decide) rfl ?_
                      refine j_goto (pc := 195) (tgt := 98) C dX11_find_195 (by decide) ?_
                      exact j_lv [0, 2, 3] rfl (ih_6 v_17 g15_mthr (by omega) (by omega))
                    · skip
                      rw [i_le] at c_16
                      refine j_iconst (pc := 110) (v := 0) C dX11_find_110 (by decide) ?_
                      refine j_istore (pc := 111) (lv' := [(4, .int 0), (3, .int x15_3), (2, .int x6_2), (1, .int (u_2.2.1 0)), (0, .ref m0)]) C dX11_find_111 (by decide) rfl ?_
                      have loop_18 : ∀ (k_18 : Nat) (x18_4 : Int32) (g18_mthr : Nat → Int32), (0 ≤ (x18_4).toInt ∧ (x18_4).toInt ≤ 12) → (12 - x18_4.toInt).toNat < k_18 → J p l e ({ frames := 4, cells := 0, slots := 0, locals := 93 } : Room) s m args below meth c D A 5 0 0 (QX below D (TY cyC cyI cyJ cyZ cyO) A (fun u => none) (fun u => (0 ≤ (u.2.1 0).toInt ∧ (u.2.1 0).toInt ≤ 0) ∧ (Iv 49152 (0) (100000000) (u.2.2.1 4)) ∧ (TALL m_told (u.2.2.1 3) (u.2.2.1 4))) (fun u => [(m0, .inr (11, [.int m_thrown, .ref mtape, .int m_taped, .int m_size, .ref msort, .ref mplace, .ref mvalue, .int m_at, .int m_fault, .ref mwords, .ref mtold, .ref mop, .ref marg, .int m_codes, .ref mnames, .ref mhasHabit, .int (u.2.1 0), .ref mfactWords, .ref mfacts, .ref mpile, .ref mstates, .ref misMarked, .int m_inShelf, .int m_inStack, .int m_inPlace, .ref mrow, .int m_rowMany, .ref mthr, .ref mmays, .ref mtall, .ref mweights, .ref mrowOfWare, .ref mneededOf, .int m_goShelf, .int m_goStack, .int m_goLeft, .ref mtried, .ref mbestRow, .int m_bestCost, .int m_bestMany, .int m_bestShelf, .int m_bestSet, .ref mdigits])), (mtold, .inl (cyI, 240, .inl m_told)), (mop, .inl (cyI, 2200, .inl m_op)), (marg, .inl (cyI, 2200, .inl m_arg)), (mfacts, .inl (cyI, 8, .inl (u.2.2.1 0))), (mpile, .inl (cyI, 1100, .inl (u.2.2.1 1))), (mthr, .inl (cyZ, 144, .inl (u.2.2.1 2))), (mmays, .inl (cyZ, 144, .inl (u.2.2.1 3))), (mtall, .inl (cyI, 49152, .inl (u.2.2.1 4))), (mweights, .inl (cyI, 4096, .inl (u.2.2.1 5)))]) args s 0 0) [(mop, .inl (cyI, 2200, .inl m_op)), (marg, .inl (cyI, 2200, .inl m_arg)), (mfacts, .inl (cyI, 8, .inl g4_mfacts)), (mpile, .inl (cyI, 1100, .inl g4_mpile)), (mthr, .inl (cyZ, 144, .inl g18_mthr)), (mmays, .inl (cyZ, 144, .inl g4_mmays)), (mtall, .inl (cyI, 49152, .inl m_tall)), (mweights, .inl (cyI, 4096, .inl m_weights)), (m0, .inr (11, [.int m_thrown, .ref mtape, .int m_taped, .int m_size, .ref msort, .ref mplace, .ref mvalue, .int m_at, .int m_fault, .ref mwords, .ref mtold, .ref mop, .ref marg, .int m_codes, .ref mnames, .ref mhasHabit, .int 0, .ref mfactWords, .ref mfacts, .ref mpile, .ref mstates, .ref misMarked, .int m_inShelf, .int m_inStack, .int m_inPlace, .ref mrow, .int m_rowMany, .ref mthr, .ref mmays, .ref mtall, .ref mweights, .ref mrowOfWare, .ref mneededOf, .int m_goShelf, .int m_goStack, .int m_goLeft, .ref mtried, .ref mbestRow, .int m_bestCost, .int m_bestMany, .int m_bestShelf, .int m_bestSet, .ref mdigits])), (mtold, .inl (cyI, 240, .inl m_told))] 113 [(4, .int x18_4), (3, .int x15_3), (2, .int x6_2), (1, .int (u_2.2.1 0)), (0, .ref m0)] [] := by
                        intro k_18
                        induction k_18 with
                        | zero =>
                          intro x18_4 g18_mthr hi_18_0 hm_18
                          exact absurd hm_18 (Nat.not_lt_zero _)
                        | succ k_18 ih_18 =>
                          intro x18_4 g18_mthr hi_18_0 hm_18
                          refine j_iload (pc := 113) C dX11_find_113 0 rfl ?_
                          refine j_iload_n (pc := 115) C dX11_find_115 rfl 3 rfl ?_
                          refine j_icmp_ge (pc := 116) (tgt := 186) C dX11_find_116 (by decide) (fun c_19 => ?_) (fun c_19 => ?_)
                          · skip
                            rw [i_le] at c_19
                            obtain ⟨v_20, ev_20⟩ : ∃ z : Int32, x15_3 + 1 = z := ⟨_, rfl⟩
                            have el_1 : (1 : Int32).toInt = 1 := rfl
                            have hv_20 : v_20.toInt = x15_3.toInt + (1 : Int32).toInt := by rw [← ev_20]; exact fb_addI (by omega) (by omega)
                            refine j_iinc (pc := 186) (v := v_20) (lv' := [(3, .int v_20), (4, .int x18_4), (2, .int x6_2), (1, .int (u_2.2.1 0)), (0, .ref m0)]) C dX11_find_186 1 rfl ev_20 (by decide) rfl ?_
                            refine j_goto (pc := 189) (tgt := 105) C dX11_find_189 (by decide) ?_
                            exact j_lv [0, 2, 3, 4] rfl (ih_15 v_20 g18_mthr (by omega) (by omega))
                          · skip
                            rw [i_le] at c_19
                            refine j_aload_n (pc := 119) C dX11_find_119 rfl 4 rfl ?_
                            refine j_get (pc := 120) (ci := 11) (v := .ref mthr) C inw_11 8 rfl rfl 27 (by decide) wd_907 rfl rfl dX11_find_120 ?_
                            refine j_bipush (pc := 123) (v := 12) C dX11_find_123 (by decide) ?_
                            refine j_iload_n (pc := 125) C dX11_find_125 rfl 1 rfl ?_
                            obtain ⟨v_21, ev_21⟩ : ∃ z : Int32, 12 * x15_3 = z := ⟨_, rfl⟩
                            have el_12 : (12 : Int32).toInt = 12 := rfl
                            have hv_21 : v_21.toInt = 12 * x15_3.toInt := by rw [← ev_21]; exact mulL (c := 12) rfl (by omega) (by omega)
                            refine j_imul (pc := 126) (v := v_21) C dX11_find_126 ev_21 ?_
                            refine j_iload (pc := 127) C dX11_find_127 0 rfl ?_
                            obtain ⟨v_22, ev_22⟩ : ∃ z : Int32, v_21 + x18_4 = z := ⟨_, rfl⟩
                            have hv_22 : v_22.toInt = v_21.toInt + x18_4.toInt := by rw [← ev_22]; exact fb_addI (by omega) (by omega)
                            refine j_iadd (pc := 129) (v := v_22) C dX11_find_129 ev_22 ?_
                            refine j_aload_n (pc := 130) C dX11_find_130 rfl 4 rfl ?_
                            refine j_get (pc := 131) (ci := 11) (v := .ref mthr) C inw_11 8 rfl rfl 27 (by decide) wd_907 rfl rfl dX11_find_131 ?_
                            refine j_bipush (pc := 134) (v := 12) C dX11_find_134 (by decide) ?_
                            refine j_iload_n (pc := 136) C dX11_find_136 rfl 1 rfl ?_
                            obtain ⟨v_23, ev_23⟩ : ∃ z : Int32, 12 * x15_3 = z := ⟨_, rfl⟩
                            have el_12 : (12 : Int32).toInt = 12 := rfl
                            have hv_23 : v_23.toInt = 12 * x15_3.toInt := by rw [← ev_23]; exact mulL (c := 12) rfl (by omega) (by omega)
                            refine j_imul (pc := 137) (v := v_23) C dX11_find_137 ev_23 ?_
                            refine j_iload (pc := 138) C dX11_find_138 0 rfl ?_
                            obtain ⟨v_24, ev_24⟩ : ∃ z : Int32, v_23 + x18_4 = z := ⟨_, rfl⟩
                            have hv_24 : v_24.toInt = v_23.toInt + x18_4.toInt := by rw [← ev_24]; exact fb_addI (by omega) (by omega)
                            refine j_iadd (pc := 140) (v := v_24) C dX11_find_140 ev_24 ?_
                            obtain ⟨v_25, ev_25⟩ : ∃ z, g18_mthr (v_24).toInt.toNat = z := ⟨_, rfl⟩
                            have env_25 : (g18_mthr (v_24).toInt.toNat).toInt = v_25.toInt := by rw [ev_25]
                            refine j_zald (pc := 141) (v := v_25) (k := (v_24).toInt.toNat) C 4 3 rfl rfl (i_nn (by omega)) rfl (i_lt_n (by omega) (by omega)) ev_25 dX11_find_141 ?_
                            refine j_if_ne (pc := 142) (tgt := 174) C dX11_find_142 (by decide) (fun c_26 => ?_) (fun c_26 => ?_)
                            · skip
                              have el_0 : (0 : Int32).toInt = 0 := rfl
                              rw [i_eq] at c_26
                              refine j_iconst (pc := 174) (v := 1) C dX11_find_174 (by decide) ?_
                              refine j_goto (pc := 175) (tgt := 179) C dX11_find_175 (by decide) ?_
                              obtain ⟨f_27, ef_27⟩ : ∃ z, z = upd g18_mthr (v_22).toInt.toNat (vp_nar .boolean 1) := ⟨_, rfl⟩
                              refine j_zast (pc := 179) (k := (v_22).toInt.toNat) (ws' := [(mop, .inl (cyI, 2200, .inl m_op)), (marg, .inl (cyI, 2200, .inl m_arg)), (mfacts, .inl (cyI, 8, .inl g4_mfacts)), (mpile, .inl (cyI, 1100, .inl g4_mpile)), (mthr, .inl (cyZ, 144, .inl f_27)), (mmays, .inl (cyZ, 144, .inl g4_mmays)), (mtall, .inl (cyI, 49152, .inl m_tall)), (mweights, .inl (cyI, 4096, .inl m_weights)), (m0, .inr (11, [.int m_thrown, .ref mtape, .int m_taped, .int m_size, .ref msort, .ref mplace, .ref mvalue, .int m_at, .int m_fault, .ref mwords, .ref mtold, .ref mop, .ref marg, .int m_codes, .ref mnames, .ref mhasHabit, .int 0, .ref mfactWords, .ref mfacts, .ref mpile, .ref mstates, .ref misMarked, .int m_inShelf, .int m_inStack, .int m_inPlace, .ref mrow, .int m_rowMany, .ref mthr, .ref mmays, .ref mtall, .ref mweights, .ref mrowOfWare, .ref mneededOf, .int m_goShelf, .int m_goStack, .int m_goLeft, .ref mtried, .ref mbestRow, .int m_bestCost, .int m_bestMany, .int m_bestShelf, .int m_bestSet, .ref mdigits])), (mtold, .inl (cyI, 240, .inl m_told))]) C 4 3 rfl rfl (i_nn (by omega)) rfl (i_lt_n (by omega) (by omega)) dX11_find_179 (by rw [ef_27]; rfl) ?_
                              obtain ⟨v_28, ev_28⟩ : ∃ z : Int32, x18_4 + 1 = z := ⟨_, rfl⟩
                              have el_1 : (1 : Int32).toInt = 1 := rfl
                              have hv_28 : v_28.toInt = x18_4.toInt + (1 : Int32).toInt := by rw [← ev_28]; exact fb_addI (by omega) (by omega)
                              refine j_iinc (pc := 180) (v := v_28) (lv' := [(4, .int v_28), (3, .int x15_3), (2, .int x6_2), (1, .int (u_2.2.1 0)), (0, .ref m0)]) C dX11_find_180 0 rfl ev_28 (by decide) rfl ?_
                              refine j_goto (pc := 183) (tgt := 113) C dX11_find_183 (by decide) ?_
                              exact j_lv [0, 1, 2, 3, 4] rfl (ih_18 v_28 f_27 (by omega) (by omega))
                            · skip
                              have el_0 : (0 : Int32).toInt = 0 := rfl
                              rw [i_eq] at c_26
                              refine j_aload_n (pc := 145) C dX11_find_145 rfl 4 rfl ?_
                              refine j_get (pc := 146) (ci := 11) (v := .ref mthr) C inw_11 8 rfl rfl 27 (by decide) wd_907 rfl rfl dX11_find_146 ?_
                              refine j_bipush (pc := 149) (v := 12) C dX11_find_149 (by decide) ?_
                              refine j_iload_n (pc := 151) C dX11_find_151 rfl 1 rfl ?_
                              obtain ⟨v_29, ev_29⟩ : ∃ z : Int32, 12 * x15_3 = z := ⟨_, rfl⟩
                              have el_12 : (12 : Int32).toInt = 12 := rfl
                              have hv_29 : v_29.toInt = 12 * x15_3.toInt := by rw [← ev_29]; exact mulL (c := 12) rfl (by omega) (by omega)
                              refine j_imul (pc := 152) (v := v_29) C dX11_find_152 ev_29 ?_
                              refine j_iload_n (pc := 153) C dX11_find_153 rfl 2 rfl ?_
                              obtain ⟨v_30, ev_30⟩ : ∃ z : Int32, v_29 + x6_2 = z := ⟨_, rfl⟩
                              have hv_30 : v_30.toInt = v_29.toInt + x6_2.toInt := by rw [← ev_30]; exact fb_addI (by omega) (by omega)
                              refine j_iadd (pc := 154) (v := v_30) C dX11_find_154 ev_30 ?_
                              obtain ⟨v_31, ev_31⟩ : ∃ z, g18_mthr (v_30).toInt.toNat = z := ⟨_, rfl⟩
                              have env_31 : (g18_mthr (v_30).toInt.toNat).toInt = v_31.toInt := by rw [ev_31]
                              refine j_zald (pc := 155) (v := v_31) (k := (v_30).toInt.toNat) C 4 3 rfl rfl (i_nn (by omega)) rfl (i_lt_n (by omega) (by omega)) ev_31 dX11_find_155 ?_
                              refine j_if_eq (pc := 156) (tgt := 178) C dX11_find_156 (by decide) (fun c_32 => ?_) (fun c_32 => ?_)
                              · skip
                                have el_0 : (0 : Int32).toInt = 0 := rfl
                                rw [i_eq] at c_32
                                refine j_iconst (pc := 178) (v := 0) C dX11_find_178 (by decide) ?_
                                obtain ⟨f_33, ef_33⟩ : ∃ z, z = upd g18_mthr (v_22).toInt.toNat (vp_nar .boolean 0) := ⟨_, rfl⟩
                                refine j_zast (pc := 179) (k := (v_22).toInt.toNat) (ws' := [(mop, .inl (cyI, 2200, .inl m_op)), (marg, .inl (cyI, 2200, .inl m_arg)), (mfacts, .inl (cyI, 8, .inl g4_mfacts)), (mpile, .inl (cyI, 1100, .inl g4_mpile)), (mthr, .inl (cyZ, 144, .inl f_33)), (mmays, .inl (cyZ, 144, .inl g4_mmays)), (mtall, .inl (cyI, 49152, .inl m_tall)), (mweights, .inl (cyI, 4096, .inl m_weights)), (m0, .inr (11, [.int m_thrown, .ref mtape, .int m_taped, .int m_size, .ref msort, .ref mplace, .ref mvalue, .int m_at, .int m_fault, .ref mwords, .ref mtold, .ref mop, .ref marg, .int m_codes, .ref mnames, .ref mhasHabit, .int 0, .ref mfactWords, .ref mfacts, .ref mpile, .ref mstates, .ref misMarked, .int m_inShelf, .int m_inStack, .int m_inPlace, .ref mrow, .int m_rowMany, .ref mthr, .ref mmays, .ref mtall, .ref mweights, .ref mrowOfWare, .ref mneededOf, .int m_goShelf, .int m_goStack, .int m_goLeft, .ref mtried, .ref mbestRow, .int m_bestCost, .int m_bestMany, .int m_bestShelf, .int m_bestSet, .ref mdigits])), (mtold, .inl (cyI, 240, .inl m_told))]) C 4 3 rfl rfl (i_nn (by omega)) rfl (i_lt_n (by omega) (by omega)) dX11_find_179 (by rw [ef_33]; rfl) ?_
                                obtain ⟨v_34, ev_34⟩ : ∃ z : Int32, x18_4 + 1 = z := ⟨_, rfl⟩
                                have el_1 : (1 : Int32).toInt = 1 := rfl
                                have hv_34 : v_34.toInt = x18_4.toInt + (1 : Int32).toInt := by rw [← ev_34]; exact fb_addI (by omega) (by omega)
                                refine j_iinc (pc := 180) (v := v_34) (lv' := [(4, .int v_34), (3, .int x15_3), (2, .int x6_2), (1, .int (u_2.2.1 0)), (0, .ref m0)]) C dX11_find_180 0 rfl ev_34 (by decide) rfl ?_
                                refine j_goto (pc := 183) (tgt := 113) C dX11_find_183 (by decide) ?_
                                exact j_lv [0, 1, 2, 3, 4] rfl (ih_18 v_34 f_33 (by omega) (by omega))
                              · skip
                                have el_0 : (0 : Int32).toInt = 0 := rfl
                                rw [i_eq] at c_32
                                refine j_aload_n (pc := 159) C dX11_find_159 rfl 4 rfl ?_
                                refine j_get (pc := 160) (ci := 11) (v := .ref mthr) C inw_11 8 rfl rfl 27 (by decide) wd_907 rfl rfl dX11_find_160 ?_
                                refine j_bipush (pc := 163) (v := 12) C dX11_find_163 (by decide) ?_
                                refine j_iload_n (pc := 165) C dX11_find_165 rfl 2 rfl ?_
                                obtain ⟨v_35, ev_35⟩ : ∃ z : Int32, 12 * x6_2 = z := ⟨_, rfl⟩
                                have el_12 : (12 : Int32).toInt = 12 := rfl
                                have hv_35 : v_35.toInt = 12 * x6_2.toInt := by rw [← ev_35]; exact mulL (c := 12) rfl (by omega) (by omega)
                                refine j_imul (pc := 166) (v := v_35) C dX11_find_166 ev_35 ?_
                                refine j_iload (pc := 167) C dX11_find_167 0 rfl ?_
                                obtain ⟨v_36, ev_36⟩ : ∃ z : Int32, v_35 + x18_4 = z := ⟨_, rfl⟩
                                have hv_36 : v_36.toInt = v_35.toInt + x18_4.toInt := by rw [← ev_36]; exact fb_addI (by omega) (by omega)
                                refine j_iadd (pc := 169) (v := v_36) C dX11_find_169 ev_36 ?_
                                obtain ⟨v_37, ev_37⟩ : ∃ z, g18_mthr (v_36).toInt.toNat = z := ⟨_, rfl⟩
                                have env_37 : (g18_mthr (v_36).toInt.toNat).toInt = v_37.toInt := by rw [ev_37]
                                refine j_zald (pc := 170) (v := v_37) (k := (v_36).toInt.toNat) C 4 3 rfl rfl (i_nn (by omega)) rfl (i_lt_n (by omega) (by omega)) ev_37 dX11_find_170 ?_
                                refine j_if_eq (pc := 171) (tgt := 178) C dX11_find_171 (by decide) (fun c_38 => ?_) (fun c_38 => ?_)
                                · skip
                                  have el_0 : (0 : Int32).toInt = 0 := rfl
                                  rw [i_eq] at c_38
                                  refine j_iconst (pc := 178) (v := 0) C dX11_find_178 (by decide) ?_
                                  obtain ⟨f_39, ef_39⟩ : ∃ z, z = upd g18_mthr (v_22).toInt.toNat (vp_nar .boolean 0) := ⟨_, rfl⟩
                                  refine j_zast (pc := 179) (k := (v_22).toInt.toNat) (ws' := [(mop, .inl (cyI, 2200, .inl m_op)), (marg, .inl (cyI, 2200, .inl m_arg)), (mfacts, .inl (cyI, 8, .inl g4_mfacts)), (mpile, .inl (cyI, 1100, .inl g4_mpile)), (mthr, .inl (cyZ, 144, .inl f_39)), (mmays, .inl (cyZ, 144, .inl g4_mmays)), (mtall, .inl (cyI, 49152, .inl m_tall)), (mweights, .inl (cyI, 4096, .inl m_weights)), (m0, .inr (11, [.int m_thrown, .ref mtape, .int m_taped, .int m_size, .ref msort, .ref mplace, .ref mvalue, .int m_at, .int m_fault, .ref mwords, .ref mtold, .ref mop, .ref marg, .int m_codes, .ref mnames, .ref mhasHabit, .int 0, .ref mfactWords, .ref mfacts, .ref mpile, .ref mstates, .ref misMarked, .int m_inShelf, .int m_inStack, .int m_inPlace, .ref mrow, .int m_rowMany, .ref mthr, .ref mmays, .ref mtall, .ref mweights, .ref mrowOfWare, .ref mneededOf, .int m_goShelf, .int m_goStack, .int m_goLeft, .ref mtried, .ref mbestRow, .int m_bestCost, .int m_bestMany, .int m_bestShelf, .int m_bestSet, .ref mdigits])), (mtold, .inl (cyI, 240, .inl m_told))]) C 4 3 rfl rfl (i_nn (by omega)) rfl (i_lt_n (by omega) (by omega)) dX11_find_179 (by rw [ef_39]; rfl) ?_
                                  obtain ⟨v_40, ev_40⟩ : ∃ z : Int32, x18_4 + 1 = z := ⟨_, rfl⟩
                                  have el_1 : (1 : Int32).toInt = 1 := rfl
                                  have hv_40 : v_40.toInt = x18_4.toInt + (1 : Int32).toInt := by rw [← ev_40]; exact fb_addI (by omega) (by omega)
                                  refine j_iinc (pc := 180) (v := v_40) (lv' := [(4, .int v_40), (3, .int x15_3), (2, .int x6_2), (1, .int (u_2.2.1 0)), (0, .ref m0)]) C dX11_find_180 0 rfl ev_40 (by decide) rfl ?_
                                  refine j_goto (pc := 183) (tgt := 113) C dX11_find_183 (by decide) ?_
                                  exact j_lv [0, 1, 2, 3, 4] rfl (ih_18 v_40 f_39 (by omega) (by omega))
                                · skip
                                  have el_0 : (0 : Int32).toInt = 0 := rfl
                                  rw [i_eq] at c_38
                                  refine j_iconst (pc := 174) (v := 1) C dX11_find_174 (by decide) ?_
                                  refine j_goto (pc := 175) (tgt := 179) C dX11_find_175 (by decide) ?_
                                  obtain ⟨f_41, ef_41⟩ : ∃ z, z = upd g18_mthr (v_22).toInt.toNat (vp_nar .boolean 1) := ⟨_, rfl⟩
                                  refine j_zast (pc := 179) (k := (v_22).toInt.toNat) (ws' := [(mop, .inl (cyI, 2200, .inl m_op)), (marg, .inl (cyI, 2200, .inl m_arg)), (mfacts, .inl (cyI, 8, .inl g4_mfacts)), (mpile, .inl (cyI, 1100, .inl g4_mpile)), (mthr, .inl (cyZ, 144, .inl f_41)), (mmays, .inl (cyZ, 144, .inl g4_mmays)), (mtall, .inl (cyI, 49152, .inl m_tall)), (mweights, .inl (cyI, 4096, .inl m_weights)), (m0, .inr (11, [.int m_thrown, .ref mtape, .int m_taped, .int m_size, .ref msort, .ref mplace, .ref mvalue, .int m_at, .int m_fault, .ref mwords, .ref mtold, .ref mop, .ref marg, .int m_codes, .ref mnames, .ref mhasHabit, .int 0, .ref mfactWords, .ref mfacts, .ref mpile, .ref mstates, .ref misMarked, .int m_inShelf, .int m_inStack, .int m_inPlace, .ref mrow, .int m_rowMany, .ref mthr, .ref mmays, .ref mtall, .ref mweights, .ref mrowOfWare, .ref mneededOf, .int m_goShelf, .int m_goStack, .int m_goLeft, .ref mtried, .ref mbestRow, .int m_bestCost, .int m_bestMany, .int m_bestShelf, .int m_bestSet, .ref mdigits])), (mtold, .inl (cyI, 240, .inl m_told))]) C 4 3 rfl rfl (i_nn (by omega)) rfl (i_lt_n (by omega) (by omega)) dX11_find_179 (by rw [ef_41]; rfl) ?_
                                  obtain ⟨v_42, ev_42⟩ : ∃ z : Int32, x18_4 + 1 = z := ⟨_, rfl⟩
                                  have el_1 : (1 : Int32).toInt = 1 := rfl
                                  have hv_42 : v_42.toInt = x18_4.toInt + (1 : Int32).toInt := by rw [← ev_42]; exact fb_addI (by omega) (by omega)
                                  refine j_iinc (pc := 180) (v := v_42) (lv' := [(4, .int v_42), (3, .int x15_3), (2, .int x6_2), (1, .int (u_2.2.1 0)), (0, .ref m0)]) C dX11_find_180 0 rfl ev_42 (by decide) rfl ?_
                                  refine j_goto (pc := 183) (tgt := 113) C dX11_find_183 (by decide) ?_
                                  exact j_lv [0, 1, 2, 3, 4] rfl (ih_18 v_42 f_41 (by omega) (by omega))
                      have el_0 : (0 : Int32).toInt = 0 := rfl
                      exact j_lv [0, 1, 2, 3, 4] rfl (loop_18 4096 0 g15_mthr (by decide) (by omega))
                have el_0 : (0 : Int32).toInt = 0 := rfl
                exact j_lv [0, 1, 2, 3] rfl (loop_15 4096 0 g6_mthr (by decide) (by omega))
          have el_0 : (0 : Int32).toInt = 0 := rfl
          exact j_lv [0, 1, 2] rfl (loop_6 4096 0 g4_mthr (by decide) (by omega))
        · skip
          rw [i_le] at c_5
          refine j_iconst (pc := 25) (v := 0) C dX11_find_25 (by decide) ?_
          refine j_istore_n (pc := 26) (lv' := [(3, .int 0), (2, .int x4_2), (1, .int (u_2.2.1 0)), (0, .ref m0)]) C dX11_find_26 rfl (by decide) rfl ?_
          have loop_43 : ∀ (k_43 : Nat) (x43_3 : Int32) (g43_mfacts : Nat → Int32) (g43_mpile : Nat → Int32) (g43_mthr : Nat → Int32) (g43_mmays : Nat → Int32), (0 ≤ (x43_3).toInt ∧ (x43_3).toInt ≤ 12) → (12 - x43_3.toInt).toNat < k_43 → J p l e ({ frames := 4, cells := 0, slots := 0, locals := 93 } : Room) s m args below meth c D A 5 0 0 (QX below D (TY cyC cyI cyJ cyZ cyO) A (fun u => none) (fun u => (0 ≤ (u.2.1 0).toInt ∧ (u.2.1 0).toInt ≤ 0) ∧ (Iv 49152 (0) (100000000) (u.2.2.1 4)) ∧ (TALL m_told (u.2.2.1 3) (u.2.2.1 4))) (fun u => [(m0, .inr (11, [.int m_thrown, .ref mtape, .int m_taped, .int m_size, .ref msort, .ref mplace, .ref mvalue, .int m_at, .int m_fault, .ref mwords, .ref mtold, .ref mop, .ref marg, .int m_codes, .ref mnames, .ref mhasHabit, .int (u.2.1 0), .ref mfactWords, .ref mfacts, .ref mpile, .ref mstates, .ref misMarked, .int m_inShelf, .int m_inStack, .int m_inPlace, .ref mrow, .int m_rowMany, .ref mthr, .ref mmays, .ref mtall, .ref mweights, .ref mrowOfWare, .ref mneededOf, .int m_goShelf, .int m_goStack, .int m_goLeft, .ref mtried, .ref mbestRow, .int m_bestCost, .int m_bestMany, .int m_bestShelf, .int m_bestSet, .ref mdigits])), (mtold, .inl (cyI, 240, .inl m_told)), (mop, .inl (cyI, 2200, .inl m_op)), (marg, .inl (cyI, 2200, .inl m_arg)), (mfacts, .inl (cyI, 8, .inl (u.2.2.1 0))), (mpile, .inl (cyI, 1100, .inl (u.2.2.1 1))), (mthr, .inl (cyZ, 144, .inl (u.2.2.1 2))), (mmays, .inl (cyZ, 144, .inl (u.2.2.1 3))), (mtall, .inl (cyI, 49152, .inl (u.2.2.1 4))), (mweights, .inl (cyI, 4096, .inl (u.2.2.1 5)))]) args s 0 0) [(mop, .inl (cyI, 2200, .inl m_op)), (marg, .inl (cyI, 2200, .inl m_arg)), (mfacts, .inl (cyI, 8, .inl g43_mfacts)), (mpile, .inl (cyI, 1100, .inl g43_mpile)), (mthr, .inl (cyZ, 144, .inl g43_mthr)), (mmays, .inl (cyZ, 144, .inl g43_mmays)), (mtall, .inl (cyI, 49152, .inl m_tall)), (mweights, .inl (cyI, 4096, .inl m_weights)), (m0, .inr (11, [.int m_thrown, .ref mtape, .int m_taped, .int m_size, .ref msort, .ref mplace, .ref mvalue, .int m_at, .int m_fault, .ref mwords, .ref mtold, .ref mop, .ref marg, .int m_codes, .ref mnames, .ref mhasHabit, .int 0, .ref mfactWords, .ref mfacts, .ref mpile, .ref mstates, .ref misMarked, .int m_inShelf, .int m_inStack, .int m_inPlace, .ref mrow, .int m_rowMany, .ref mthr, .ref mmays, .ref mtall, .ref mweights, .ref mrowOfWare, .ref mneededOf, .int m_goShelf, .int m_goStack, .int m_goLeft, .ref mtried, .ref mbestRow, .int m_bestCost, .int m_bestMany, .int m_bestShelf, .int m_bestSet, .ref mdigits])), (mtold, .inl (cyI, 240, .inl m_told))] 27 [(3, .int x43_3), (2, .int x4_2), (1, .int (u_2.2.1 0)), (0, .ref m0)] [] := by
            intro k_43
            induction k_43 with
            | zero =>
              intro x43_3 g43_mfacts g43_mpile g43_mthr g43_mmays hi_43_0 hm_43
              exact absurd hm_43 (Nat.not_lt_zero _)
            | succ k_43 ih_43 =>
              intro x43_3 g43_mfacts g43_mpile g43_mthr g43_mmays hi_43_0 hm_43
              refine j_iload_n (pc := 27) C dX11_find_27 rfl 0 rfl ?_
              refine j_iload_n (pc := 28) C dX11_find_28 rfl 2 rfl ?_
              refine j_icmp_ge (pc := 29) (tgt := 90) C dX11_find_29 (by decide) (fun c_44 => ?_) (fun c_44 => ?_)
              · skip
                rw [i_le] at c_44
                obtain ⟨v_45, ev_45⟩ : ∃ z : Int32, x4_2 + 1 = z := ⟨_, rfl⟩
                have el_1 : (1 : Int32).toInt = 1 := rfl
                have hv_45 : v_45.toInt = x4_2.toInt + (1 : Int32).toInt := by rw [← ev_45]; exact fb_addI (by omega) (by omega)
                refine j_iinc (pc := 90) (v := v_45) (lv' := [(2, .int v_45), (3, .int x43_3), (1, .int (u_2.2.1 0)), (0, .ref m0)]) C dX11_find_90 1 rfl ev_45 (by decide) rfl ?_
                refine j_goto (pc := 93) (tgt := 20) C dX11_find_93 (by decide) ?_
                exact j_lv [0, 2, 3] rfl (ih_4 v_45 g43_mfacts g43_mpile g43_mthr g43_mmays (by omega) (by omega))
              · skip
                rw [i_le] at c_44
                refine j_aload_n (pc := 32) C dX11_find_32 rfl 3 rfl ?_
                refine j_get (pc := 33) (ci := 11) (v := .ref mmays) C inw_11 8 rfl rfl 28 (by decide) wd_900 rfl rfl dX11_find_33 ?_
                refine j_bipush (pc := 36) (v := 12) C dX11_find_36 (by decide) ?_
                refine j_iload_n (pc := 38) C dX11_find_38 rfl 1 rfl ?_
                obtain ⟨v_46, ev_46⟩ : ∃ z : Int32, 12 * x4_2 = z := ⟨_, rfl⟩
                have el_12 : (12 : Int32).toInt = 12 := rfl
                have hv_46 : v_46.toInt = 12 * x4_2.toInt := by rw [← ev_46]; exact mulL (c := 12) rfl (by omega) (by omega)
                refine j_imul (pc := 39) (v := v_46) C dX11_find_39 ev_46 ?_
                refine j_iload_n (pc := 40) C dX11_find_40 rfl 0 rfl ?_
                obtain ⟨v_47, ev_47⟩ : ∃ z : Int32, v_46 + x43_3 = z := ⟨_, rfl⟩
                have hv_47 : v_47.toInt = v_46.toInt + x43_3.toInt := by rw [← ev_47]; exact fb_addI (by omega) (by omega)
                refine j_iadd (pc := 41) (v := v_47) C dX11_find_41 ev_47 ?_
                refine j_iload_n (pc := 42) C dX11_find_42 rfl 1 rfl ?_
                refine j_iload_n (pc := 43) C dX11_find_43 rfl 0 rfl ?_
                refine j_icmp_eq (pc := 44) (tgt := 60) C dX11_find_44 (by decide) (fun c_48 => ?_) (fun c_48 => ?_)
                · skip
                  rw [i_eq] at c_48
                  refine j_iconst (pc := 60) (v := 0) C dX11_find_60 (by decide) ?_
                  obtain ⟨f_49, ef_49⟩ : ∃ z, z = upd g43_mmays (v_47).toInt.toNat (vp_nar .boolean 0) := ⟨_, rfl⟩
                  refine j_zast (pc := 61) (k := (v_47).toInt.toNat) (ws' := [(mop, .inl (cyI, 2200, .inl m_op)), (marg, .inl (cyI, 2200, .inl m_arg)), (mfacts, .inl (cyI, 8, .inl g43_mfacts)), (mpile, .inl (cyI, 1100, .inl g43_mpile)), (mthr, .inl (cyZ, 144, .inl g43_mthr)), (mmays, .inl (cyZ, 144, .inl f_49)), (mtall, .inl (cyI, 49152, .inl m_tall)), (mweights, .inl (cyI, 4096, .inl m_weights)), (m0, .inr (11, [.int m_thrown, .ref mtape, .int m_taped, .int m_size, .ref msort, .ref mplace, .ref mvalue, .int m_at, .int m_fault, .ref mwords, .ref mtold, .ref mop, .ref marg, .int m_codes, .ref mnames, .ref mhasHabit, .int 0, .ref mfactWords, .ref mfacts, .ref mpile, .ref mstates, .ref misMarked, .int m_inShelf, .int m_inStack, .int m_inPlace, .ref mrow, .int m_rowMany, .ref mthr, .ref mmays, .ref mtall, .ref mweights, .ref mrowOfWare, .ref mneededOf, .int m_goShelf, .int m_goStack, .int m_goLeft, .ref mtried, .ref mbestRow, .int m_bestCost, .int m_bestMany, .int m_bestShelf, .int m_bestSet, .ref mdigits])), (mtold, .inl (cyI, 240, .inl m_told))]) C 5 3 rfl rfl (i_nn (by omega)) rfl (i_lt_n (by omega) (by omega)) dX11_find_61 (by rw [ef_49]; rfl) ?_
                  refine j_aload_n (pc := 62) C dX11_find_62 rfl 3 rfl ?_
                  refine j_get (pc := 63) (ci := 11) (v := .ref mthr) C inw_11 8 rfl rfl 27 (by decide) wd_907 rfl rfl dX11_find_63 ?_
                  refine j_bipush (pc := 66) (v := 12) C dX11_find_66 (by decide) ?_
                  refine j_iload_n (pc := 68) C dX11_find_68 rfl 1 rfl ?_
                  obtain ⟨v_50, ev_50⟩ : ∃ z : Int32, 12 * x4_2 = z := ⟨_, rfl⟩
                  have el_12 : (12 : Int32).toInt = 12 := rfl
                  have hv_50 : v_50.toInt = 12 * x4_2.toInt := by rw [← ev_50]; exact mulL (c := 12) rfl (by omega) (by omega)
                  refine j_imul (pc := 69) (v := v_50) C dX11_find_69 ev_50 ?_
                  refine j_iload_n (pc := 70) C dX11_find_70 rfl 0 rfl ?_
                  obtain ⟨v_51, ev_51⟩ : ∃ z : Int32, v_50 + x43_3 = z := ⟨_, rfl⟩
                  have hv_51 : v_51.toInt = v_50.toInt + x43_3.toInt := by rw [← ev_51]; exact fb_addI (by omega) (by omega)
                  refine j_iadd (pc := 71) (v := v_51) C dX11_find_71 ev_51 ?_
                  refine j_aload_n (pc := 72) C dX11_find_72 rfl 3 rfl ?_
                  refine j_get (pc := 73) (ci := 11) (v := .ref mmays) C inw_11 8 rfl rfl 28 (by decide) wd_900 rfl rfl dX11_find_73 ?_
                  refine j_bipush (pc := 76) (v := 12) C dX11_find_76 (by decide) ?_
                  refine j_iload_n (pc := 78) C dX11_find_78 rfl 1 rfl ?_
                  obtain ⟨v_52, ev_52⟩ : ∃ z : Int32, 12 * x4_2 = z := ⟨_, rfl⟩
                  have el_12 : (12 : Int32).toInt = 12 := rfl
                  have hv_52 : v_52.toInt = 12 * x4_2.toInt := by rw [← ev_52]; exact mulL (c := 12) rfl (by omega) (by omega)
                  refine j_imul (pc := 79) (v := v_52) C dX11_find_79 ev_52 ?_
                  refine j_iload_n (pc := 80) C dX11_find_80 rfl 0 rfl ?_
                  obtain ⟨v_53, ev_53⟩ : ∃ z : Int32, v_52 + x43_3 = z := ⟨_, rfl⟩
                  have hv_53 : v_53.toInt = v_52.toInt + x43_3.toInt := by rw [← ev_53]; exact fb_addI (by omega) (by omega)
                  refine j_iadd (pc := 81) (v := v_53) C dX11_find_81 ev_53 ?_
                  obtain ⟨v_54, ev_54⟩ : ∃ z, f_49 (v_53).toInt.toNat = z := ⟨_, rfl⟩
                  have env_54 : (f_49 (v_53).toInt.toNat).toInt = v_54.toInt := by rw [ev_54]
                  refine j_zald (pc := 82) (v := v_54) (k := (v_53).toInt.toNat) C 5 3 rfl rfl (i_nn (by omega)) rfl (i_lt_n (by omega) (by omega)) ev_54 dX11_find_82 ?_
                  obtain ⟨f_55, ef_55⟩ : ∃ z, z = upd g43_mthr (v_51).toInt.toNat (vp_nar .boolean v_54) := ⟨_, rfl⟩
                  refine j_zast (pc := 83) (k := (v_51).toInt.toNat) (ws' := [(mop, .inl (cyI, 2200, .inl m_op)), (marg, .inl (cyI, 2200, .inl m_arg)), (mfacts, .inl (cyI, 8, .inl g43_mfacts)), (mpile, .inl (cyI, 1100, .inl g43_mpile)), (mthr, .inl (cyZ, 144, .inl f_55)), (mmays, .inl (cyZ, 144, .inl f_49)), (mtall, .inl (cyI, 49152, .inl m_tall)), (mweights, .inl (cyI, 4096, .inl m_weights)), (m0, .inr (11, [.int m_thrown, .ref mtape, .int m_taped, .int m_size, .ref msort, .ref mplace, .ref mvalue, .int m_at, .int m_fault, .ref mwords, .ref mtold, .ref mop, .ref marg, .int m_codes, .ref mnames, .ref mhasHabit, .int 0, .ref mfactWords, .ref mfacts, .ref mpile, .ref mstates, .ref misMarked, .int m_inShelf, .int m_inStack, .int m_inPlace, .ref mrow, .int m_rowMany, .ref mthr, .ref mmays, .ref mtall, .ref mweights, .ref mrowOfWare, .ref mneededOf, .int m_goShelf, .int m_goStack, .int m_goLeft, .ref mtried, .ref mbestRow, .int m_bestCost, .int m_bestMany, .int m_bestShelf, .int m_bestSet, .ref mdigits])), (mtold, .inl (cyI, 240, .inl m_told))]) C 4 3 rfl rfl (i_nn (by omega)) rfl (i_lt_n (by omega) (by omega)) dX11_find_83 (by rw [ef_55]; rfl) ?_
                  obtain ⟨v_56, ev_56⟩ : ∃ z : Int32, x43_3 + 1 = z := ⟨_, rfl⟩
                  have el_1 : (1 : Int32).toInt = 1 := rfl
                  have hv_56 : v_56.toInt = x43_3.toInt + (1 : Int32).toInt := by rw [← ev_56]; exact fb_addI (by omega) (by omega)
                  refine j_iinc (pc := 84) (v := v_56) (lv' := [(3, .int v_56), (2, .int x4_2), (1, .int (u_2.2.1 0)), (0, .ref m0)]) C dX11_find_84 0 rfl ev_56 (by decide) rfl ?_
                  refine j_goto (pc := 87) (tgt := 27) C dX11_find_87 (by decide) ?_
                  exact j_lv [0, 1, 2, 3] rfl (ih_43 v_56 g43_mfacts g43_mpile f_55 f_49 (by omega) (by omega))
                · skip
                  rw [i_eq] at c_48
                  refine j_aload_n (pc := 47) C dX11_find_47 rfl 3 rfl ?_
                  refine j_iload_n (pc := 48) C dX11_find_48 rfl 1 rfl ?_
                  refine j_iload_n (pc := 49) C dX11_find_49 rfl 0 rfl ?_
                  refine j_callV (pc := 50) (As := [.int x4_2, .int x43_3]) (rest := [.int v_47, .ref mmays]) (wr := [(mthr, .inl (cyZ, 144, .inl g43_mthr)), (mmays, .inl (cyZ, 144, .inl g43_mmays)), (mtall, .inl (cyI, 49152, .inl m_tall)), (mweights, .inl (cyI, 4096, .inl m_weights))]) C (c_X11_mayOn l D cyC cyI cyJ cyZ cyO m0 mtold mop marg mfacts mpile mtape msort mplace mvalue mwords mnames mhasHabit mfactWords mstates misMarked mrow mthr mmays mtall mweights mrowOfWare mneededOf mtried mbestRow mdigits x4_2 x43_3 m_thrown m_taped m_size m_at m_fault m_codes 0 m_inShelf m_inStack m_inPlace m_rowMany m_goShelf m_goStack m_goLeft m_bestCost m_bestMany m_bestShelf m_bestSet m_told m_op m_arg g43_mfacts g43_mpile h_m_taped h_m_size h_m_at h_m_fault h_m_codes (by decide) h_m_inShelf h_m_inStack h_m_inPlace h_m_rowMany h_m_goShelf h_m_bestMany h_m_bestShelf (by omega) (by omega) h_m_told hwf) wd_810 wd_624 wd_811 wd_812 wd_813 ⟨by decide, by decide, rfl⟩ rfl ⟨rfl, rfl, by decide, by decide⟩ ⟨by decide, by decide⟩ [8, 9, 0, 1, 2, 3] [4, 5, 6, 7] rfl rfl ⟨by decide, by decide, by decide⟩ 8 rfl rfl rfl (Nat.le_of_ble_eq_true rfl) dX11_find_50 (fun u_57 hw_58 => ?_)
                  refine j_eq (ws2 := [(mthr, .inl (cyZ, 144, .inl g43_mthr)), (mmays, .inl (cyZ, 144, .inl g43_mmays)), (mtall, .inl (cyI, 49152, .inl m_tall)), (mweights, .inl (cyI, 4096, .inl m_weights)), (m0, .inr (11, [.int m_thrown, .ref mtape, .int m_taped, .int m_size, .ref msort, .ref mplace, .ref mvalue, .int m_at, .int m_fault, .ref mwords, .ref mtold, .ref mop, .ref marg, .int m_codes, .ref mnames, .ref mhasHabit, .int 0, .ref mfactWords, .ref mfacts, .ref mpile, .ref mstates, .ref misMarked, .int m_inShelf, .int m_inStack, .int m_inPlace, .ref mrow, .int m_rowMany, .ref mthr, .ref mmays, .ref mtall, .ref mweights, .ref mrowOfWare, .ref mneededOf, .int m_goShelf, .int m_goStack, .int m_goLeft, .ref mtried, .ref mbestRow, .int m_bestCost, .int m_bestMany, .int m_bestShelf, .int m_bestSet, .ref mdigits])), (mtold, .inl (cyI, 240, .inl m_told)), (mop, .inl (cyI, 2200, .inl m_op)), (marg, .inl (cyI, 2200, .inl m_arg)), (mfacts, .inl (cyI, 8, .inl (u_57.2.2.1 0))), (mpile, .inl (cyI, 1100, .inl (u_57.2.2.1 1)))]) (pc2 := 53) (lv2 := [(3, .int x43_3), (2, .int x4_2), (1, .int (u_2.2.1 0)), (0, .ref m0)]) (st2 := [.int (u_57.2.1 0), .int v_47, .ref mmays]) rfl rfl rfl rfl ?_
                  obtain ⟨hw_58_0, hw_58_1⟩ := hw_58
                  refine j_if_eq (pc := 53) (tgt := 60) C dX11_find_53 (by decide) (fun c_59 => ?_) (fun c_59 => ?_)
                  · skip
                    have el_0 : (0 : Int32).toInt = 0 := rfl
                    rw [i_eq] at c_59
                    refine j_iconst (pc := 60) (v := 0) C dX11_find_60 (by decide) ?_
                    obtain ⟨f_60, ef_60⟩ : ∃ z, z = upd g43_mmays (v_47).toInt.toNat (vp_nar .boolean 0) := ⟨_, rfl⟩
                    refine j_zast (pc := 61) (k := (v_47).toInt.toNat) (ws' := [(mthr, .inl (cyZ, 144, .inl g43_mthr)), (mmays, .inl (cyZ, 144, .inl f_60)), (mtall, .inl (cyI, 49152, .inl m_tall)), (mweights, .inl (cyI, 4096, .inl m_weights)), (m0, .inr (11, [.int m_thrown, .ref mtape, .int m_taped, .int m_size, .ref msort, .ref mplace, .ref mvalue, .int m_at, .int m_fault, .ref mwords, .ref mtold, .ref mop, .ref marg, .int m_codes, .ref mnames, .ref mhasHabit, .int 0, .ref mfactWords, .ref mfacts, .ref mpile, .ref mstates, .ref misMarked, .int m_inShelf, .int m_inStack, .int m_inPlace, .ref mrow, .int m_rowMany, .ref mthr, .ref mmays, .ref mtall, .ref mweights, .ref mrowOfWare, .ref mneededOf, .int m_goShelf, .int m_goStack, .int m_goLeft, .ref mtried, .ref mbestRow, .int m_bestCost, .int m_bestMany, .int m_bestShelf, .int m_bestSet, .ref mdigits])), (mtold, .inl (cyI, 240, .inl m_told)), (mop, .inl (cyI, 2200, .inl m_op)), (marg, .inl (cyI, 2200, .inl m_arg)), (mfacts, .inl (cyI, 8, .inl (u_57.2.2.1 0))), (mpile, .inl (cyI, 1100, .inl (u_57.2.2.1 1)))]) C 1 3 rfl rfl (i_nn (by omega)) rfl (i_lt_n (by omega) (by omega)) dX11_find_61 (by rw [ef_60]; rfl) ?_
                    refine j_aload_n (pc := 62) C dX11_find_62 rfl 3 rfl ?_
                    refine j_get (pc := 63) (ci := 11) (v := .ref mthr) C inw_11 4 rfl rfl 27 (by decide) wd_907 rfl rfl dX11_find_63 ?_
                    refine j_bipush (pc := 66) (v := 12) C dX11_find_66 (by decide) ?_
                    refine j_iload_n (pc := 68) C dX11_find_68 rfl 1 rfl ?_
                    obtain ⟨v_61, ev_61⟩ : ∃ z : Int32, 12 * x4_2 = z := ⟨_, rfl⟩
                    have el_12 : (12 : Int32).toInt = 12 := rfl
                    have hv_61 : v_61.toInt = 12 * x4_2.toInt := by rw [← ev_61]; exact mulL (c := 12) rfl (by omega) (by omega)
                    refine j_imul (pc := 69) (v := v_61) C dX11_find_69 ev_61 ?_
                    refine j_iload_n (pc := 70) C dX11_find_70 rfl 0 rfl ?_
                    obtain ⟨v_62, ev_62⟩ : ∃ z : Int32, v_61 + x43_3 = z := ⟨_, rfl⟩
                    have hv_62 : v_62.toInt = v_61.toInt + x43_3.toInt := by rw [← ev_62]; exact fb_addI (by omega) (by omega)
                    refine j_iadd (pc := 71) (v := v_62) C dX11_find_71 ev_62 ?_
                    refine j_aload_n (pc := 72) C dX11_find_72 rfl 3 rfl ?_
                    refine j_get (pc := 73) (ci := 11) (v := .ref mmays) C inw_11 4 rfl rfl 28 (by decide) wd_900 rfl rfl dX11_find_73 ?_
                    refine j_bipush (pc := 76) (v := 12) C dX11_find_76 (by decide) ?_
                    refine j_iload_n (pc := 78) C dX11_find_78 rfl 1 rfl ?_
                    obtain ⟨v_63, ev_63⟩ : ∃ z : Int32, 12 * x4_2 = z := ⟨_, rfl⟩
                    have el_12 : (12 : Int32).toInt = 12 := rfl
                    have hv_63 : v_63.toInt = 12 * x4_2.toInt := by rw [← ev_63]; exact mulL (c := 12) rfl (by omega) (by omega)
                    refine j_imul (pc := 79) (v := v_63) C dX11_find_79 ev_63 ?_
                    refine j_iload_n (pc := 80) C dX11_find_80 rfl 0 rfl ?_
                    obtain ⟨v_64, ev_64⟩ : ∃ z : Int32, v_63 + x43_3 = z := ⟨_, rfl⟩
                    have hv_64 : v_64.toInt = v_63.toInt + x43_3.toInt := by rw [← ev_64]; exact fb_addI (by omega) (by omega)
                    refine j_iadd (pc := 81) (v := v_64) C dX11_find_81 ev_64 ?_
                    obtain ⟨v_65, ev_65⟩ : ∃ z, f_60 (v_64).toInt.toNat = z := ⟨_, rfl⟩
                    have env_65 : (f_60 (v_64).toInt.toNat).toInt = v_65.toInt := by rw [ev_65]
                    refine j_zald (pc := 82) (v := v_65) (k := (v_64).toInt.toNat) C 1 3 rfl rfl (i_nn (by omega)) rfl (i_lt_n (by omega) (by omega)) ev_65 dX11_find_82 ?_
                    obtain ⟨f_66, ef_66⟩ : ∃ z, z = upd g43_mthr (v_62).toInt.toNat (vp_nar .boolean v_65) := ⟨_, rfl⟩
                    refine j_zast (pc := 83) (k := (v_62).toInt.toNat) (ws' := [(mthr, .inl (cyZ, 144, .inl f_66)), (mmays, .inl (cyZ, 144, .inl f_60)), (mtall, .inl (cyI, 49152, .inl m_tall)), (mweights, .inl (cyI, 4096, .inl m_weights)), (m0, .inr (11, [.int m_thrown, .ref mtape, .int m_taped, .int m_size, .ref msort, .ref mplace, .ref mvalue, .int m_at, .int m_fault, .ref mwords, .ref mtold, .ref mop, .ref marg, .int m_codes, .ref mnames, .ref mhasHabit, .int 0, .ref mfactWords, .ref mfacts, .ref mpile, .ref mstates, .ref misMarked, .int m_inShelf, .int m_inStack, .int m_inPlace, .ref mrow, .int m_rowMany, .ref mthr, .ref mmays, .ref mtall, .ref mweights, .ref mrowOfWare, .ref mneededOf, .int m_goShelf, .int m_goStack, .int m_goLeft, .ref mtried, .ref mbestRow, .int m_bestCost, .int m_bestMany, .int m_bestShelf, .int m_bestSet, .ref mdigits])), (mtold, .inl (cyI, 240, .inl m_told)), (mop, .inl (cyI, 2200, .inl m_op)), (marg, .inl (cyI, 2200, .inl m_arg)), (mfacts, .inl (cyI, 8, .inl (u_57.2.2.1 0))), (mpile, .inl (cyI, 1100, .inl (u_57.2.2.1 1)))]) C 0 3 rfl rfl (i_nn (by omega)) rfl (i_lt_n (by omega) (by omega)) dX11_find_83 (by rw [ef_66]; rfl) ?_
                    obtain ⟨v_67, ev_67⟩ : ∃ z : Int32, x43_3 + 1 = z := ⟨_, rfl⟩
                    have el_1 : (1 : Int32).toInt = 1 := rfl
                    have hv_67 : v_67.toInt = x43_3.toInt + (1 : Int32).toInt := by rw [← ev_67]; exact fb_addI (by omega) (by omega)
                    refine j_iinc (pc := 84) (v := v_67) (lv' := [(3, .int v_67), (2, .int x4_2), (1, .int (u_2.2.1 0)), (0, .ref m0)]) C dX11_find_84 0 rfl ev_67 (by decide) rfl ?_
                    refine j_goto (pc := 87) (tgt := 27) C dX11_find_87 (by decide) ?_
                    refine j_subG (ws' := [(mop, .inl (cyI, 2200, .inl m_op)), (marg, .inl (cyI, 2200, .inl m_arg)), (mfacts, .inl (cyI, 8, .inl (u_57.2.2.1 0))), (mpile, .inl (cyI, 1100, .inl (u_57.2.2.1 1))), (mthr, .inl (cyZ, 144, .inl f_66)), (mmays, .inl (cyZ, 144, .inl f_60)), (mtall, .inl (cyI, 49152, .inl m_tall)), (mweights, .inl (cyI, 4096, .inl m_weights)), (m0, .inr (11, [.int m_thrown, .ref mtape, .int m_taped, .int m_size, .ref msort, .ref mplace, .ref mvalue, .int m_at, .int m_fault, .ref mwords, .ref mtold, .ref mop, .ref marg, .int m_codes, .ref mnames, .ref mhasHabit, .int 0, .ref mfactWords, .ref mfacts, .ref mpile, .ref mstates, .ref misMarked, .int m_inShelf, .int m_inStack, .int m_inPlace, .ref mrow, .int m_rowMany, .ref mthr, .ref mmays, .ref mtall, .ref mweights, .ref mrowOfWare, .ref mneededOf, .int m_goShelf, .int m_goStack, .int m_goLeft, .ref mtried, .ref mbestRow, .int m_bestCost, .int m_bestMany, .int m_bestShelf, .int m_bestSet, .ref mdigits])), (mtold, .inl (cyI, 240, .inl m_told))]) [6, 7, 8, 9, 0, 1, 2, 3, 4, 5] (by decide) rfl ?_
                    exact j_lv [0, 1, 2, 3] rfl (ih_43 v_67 (u_57.2.2.1 0) (u_57.2.2.1 1) f_66 f_60 (by omega) (by omega))
                  · skip
                    have el_0 : (0 : Int32).toInt = 0 := rfl
                    rw [i_eq] at c_59
                    have k0c_59 : ((u_57.2.1 0)).toInt = 1 := by omega
                    refine j_iconst (pc := 56) (v := 1) C dX11_find_56 (by decide) ?_
                    refine j_goto (pc := 57) (tgt := 61) C dX11_find_57 (by decide) ?_
                    obtain ⟨f_68, ef_68⟩ : ∃ z, z = upd g43_mmays (v_47).toInt.toNat (vp_nar .boolean 1) := ⟨_, rfl⟩
                    refine j_zast (pc := 61) (k := (v_47).toInt.toNat) (ws' := [(mthr, .inl (cyZ, 144, .inl g43_mthr)), (mmays, .inl (cyZ, 144, .inl f_68)), (mtall, .inl (cyI, 49152, .inl m_tall)), (mweights, .inl (cyI, 4096, .inl m_weights)), (m0, .inr (11, [.int m_thrown, .ref mtape, .int m_taped, .int m_size, .ref msort, .ref mplace, .ref mvalue, .int m_at, .int m_fault, .ref mwords, .ref mtold, .ref mop, .ref marg, .int m_codes, .ref mnames, .ref mhasHabit, .int 0, .ref mfactWords, .ref mfacts, .ref mpile, .ref mstates, .ref misMarked, .int m_inShelf, .int m_inStack, .int m_inPlace, .ref mrow, .int m_rowMany, .ref mthr, .ref mmays, .ref mtall, .ref mweights, .ref mrowOfWare, .ref mneededOf, .int m_goShelf, .int m_goStack, .int m_goLeft, .ref mtried, .ref mbestRow, .int m_bestCost, .int m_bestMany, .int m_bestShelf, .int m_bestSet, .ref mdigits])), (mtold, .inl (cyI, 240, .inl m_told)), (mop, .inl (cyI, 2200, .inl m_op)), (marg, .inl (cyI, 2200, .inl m_arg)), (mfacts, .inl (cyI, 8, .inl (u_57.2.2.1 0))), (mpile, .inl (cyI, 1100, .inl (u_57.2.2.1 1)))]) C 1 3 rfl rfl (i_nn (by omega)) rfl (i_lt_n (by omega) (by omega)) dX11_find_61 (by rw [ef_68]; rfl) ?_
                    refine j_aload_n (pc := 62) C dX11_find_62 rfl 3 rfl ?_
                    refine j_get (pc := 63) (ci := 11) (v := .ref mthr) C inw_11 4 rfl rfl 27 (by decide) wd_907 rfl rfl dX11_find_63 ?_
                    refine j_bipush (pc := 66) (v := 12) C dX11_find_66 (by decide) ?_
                    refine j_iload_n (pc := 68) C dX11_find_68 rfl 1 rfl ?_
                    obtain ⟨v_69, ev_69⟩ : ∃ z : Int32, 12 * x4_2 = z := ⟨_, rfl⟩
                    have el_12 : (12 : Int32).toInt = 12 := rfl
                    have hv_69 : v_69.toInt = 12 * x4_2.toInt := by rw [← ev_69]; exact mulL (c := 12) rfl (by omega) (by omega)
                    refine j_imul (pc := 69) (v := v_69) C dX11_find_69 ev_69 ?_
                    refine j_iload_n (pc := 70) C dX11_find_70 rfl 0 rfl ?_
                    obtain ⟨v_70, ev_70⟩ : ∃ z : Int32, v_69 + x43_3 = z := ⟨_, rfl⟩
                    have hv_70 : v_70.toInt = v_69.toInt + x43_3.toInt := by rw [← ev_70]; exact fb_addI (by omega) (by omega)
                    refine j_iadd (pc := 71) (v := v_70) C dX11_find_71 ev_70 ?_
                    refine j_aload_n (pc := 72) C dX11_find_72 rfl 3 rfl ?_
                    refine j_get (pc := 73) (ci := 11) (v := .ref mmays) C inw_11 4 rfl rfl 28 (by decide) wd_900 rfl rfl dX11_find_73 ?_
                    refine j_bipush (pc := 76) (v := 12) C dX11_find_76 (by decide) ?_
                    refine j_iload_n (pc := 78) C dX11_find_78 rfl 1 rfl ?_
                    obtain ⟨v_71, ev_71⟩ : ∃ z : Int32, 12 * x4_2 = z := ⟨_, rfl⟩
                    have el_12 : (12 : Int32).toInt = 12 := rfl
                    have hv_71 : v_71.toInt = 12 * x4_2.toInt := by rw [← ev_71]; exact mulL (c := 12) rfl (by omega) (by omega)
                    refine j_imul (pc := 79) (v := v_71) C dX11_find_79 ev_71 ?_
                    refine j_iload_n (pc := 80) C dX11_find_80 rfl 0 rfl ?_
                    obtain ⟨v_72, ev_72⟩ : ∃ z : Int32, v_71 + x43_3 = z := ⟨_, rfl⟩
                    have hv_72 : v_72.toInt = v_71.toInt + x43_3.toInt := by rw [← ev_72]; exact fb_addI (by omega) (by omega)
                    refine j_iadd (pc := 81) (v := v_72) C dX11_find_81 ev_72 ?_
                    obtain ⟨v_73, ev_73⟩ : ∃ z, f_68 (v_72).toInt.toNat = z := ⟨_, rfl⟩
                    have env_73 : (f_68 (v_72).toInt.toNat).toInt = v_73.toInt := by rw [ev_73]
                    refine j_zald (pc := 82) (v := v_73) (k := (v_72).toInt.toNat) C 1 3 rfl rfl (i_nn (by omega)) rfl (i_lt_n (by omega) (by omega)) ev_73 dX11_find_82 ?_
                    obtain ⟨f_74, ef_74⟩ : ∃ z, z = upd g43_mthr (v_70).toInt.toNat (vp_nar .boolean v_73) := ⟨_, rfl⟩
                    refine j_zast (pc := 83) (k := (v_70).toInt.toNat) (ws' := [(mthr, .inl (cyZ, 144, .inl f_74)), (mmays, .inl (cyZ, 144, .inl f_68)), (mtall, .inl (cyI, 49152, .inl m_tall)), (mweights, .inl (cyI, 4096, .inl m_weights)), (m0, .inr (11, [.int m_thrown, .ref mtape, .int m_taped, .int m_size, .ref msort, .ref mplace, .ref mvalue, .int m_at, .int m_fault, .ref mwords, .ref mtold, .ref mop, .ref marg, .int m_codes, .ref mnames, .ref mhasHabit, .int 0, .ref mfactWords, .ref mfacts, .ref mpile, .ref mstates, .ref misMarked, .int m_inShelf, .int m_inStack, .int m_inPlace, .ref mrow, .int m_rowMany, .ref mthr, .ref mmays, .ref mtall, .ref mweights, .ref mrowOfWare, .ref mneededOf, .int m_goShelf, .int m_goStack, .int m_goLeft, .ref mtried, .ref mbestRow, .int m_bestCost, .int m_bestMany, .int m_bestShelf, .int m_bestSet, .ref mdigits])), (mtold, .inl (cyI, 240, .inl m_told)), (mop, .inl (cyI, 2200, .inl m_op)), (marg, .inl (cyI, 2200, .inl m_arg)), (mfacts, .inl (cyI, 8, .inl (u_57.2.2.1 0))), (mpile, .inl (cyI, 1100, .inl (u_57.2.2.1 1)))]) C 0 3 rfl rfl (i_nn (by omega)) rfl (i_lt_n (by omega) (by omega)) dX11_find_83 (by rw [ef_74]; rfl) ?_
                    obtain ⟨v_75, ev_75⟩ : ∃ z : Int32, x43_3 + 1 = z := ⟨_, rfl⟩
                    have el_1 : (1 : Int32).toInt = 1 := rfl
                    have hv_75 : v_75.toInt = x43_3.toInt + (1 : Int32).toInt := by rw [← ev_75]; exact fb_addI (by omega) (by omega)
                    refine j_iinc (pc := 84) (v := v_75) (lv' := [(3, .int v_75), (2, .int x4_2), (1, .int (u_2.2.1 0)), (0, .ref m0)]) C dX11_find_84 0 rfl ev_75 (by decide) rfl ?_
                    refine j_goto (pc := 87) (tgt := 27) C dX11_find_87 (by decide) ?_
                    refine j_subG (ws' := [(mop, .inl (cyI, 2200, .inl m_op)), (marg, .inl (cyI, 2200, .inl m_arg)), (mfacts, .inl (cyI, 8, .inl (u_57.2.2.1 0))), (mpile, .inl (cyI, 1100, .inl (u_57.2.2.1 1))), (mthr, .inl (cyZ, 144, .inl f_74)), (mmays, .inl (cyZ, 144, .inl f_68)), (mtall, .inl (cyI, 49152, .inl m_tall)), (mweights, .inl (cyI, 4096, .inl m_weights)), (m0, .inr (11, [.int m_thrown, .ref mtape, .int m_taped, .int m_size, .ref msort, .ref mplace, .ref mvalue, .int m_at, .int m_fault, .ref mwords, .ref mtold, .ref mop, .ref marg, .int m_codes, .ref mnames, .ref mhasHabit, .int 0, .ref mfactWords, .ref mfacts, .ref mpile, .ref mstates, .ref misMarked, .int m_inShelf, .int m_inStack, .int m_inPlace, .ref mrow, .int m_rowMany, .ref mthr, .ref mmays, .ref mtall, .ref mweights, .ref mrowOfWare, .ref mneededOf, .int m_goShelf, .int m_goStack, .int m_goLeft, .ref mtried, .ref mbestRow, .int m_bestCost, .int m_bestMany, .int m_bestShelf, .int m_bestSet, .ref mdigits])), (mtold, .inl (cyI, 240, .inl m_told))]) [6, 7, 8, 9, 0, 1, 2, 3, 4, 5] (by decide) rfl ?_
                    exact j_lv [0, 1, 2, 3] rfl (ih_43 v_75 (u_57.2.2.1 0) (u_57.2.2.1 1) f_74 f_68 (by omega) (by omega))
          have el_0 : (0 : Int32).toInt = 0 := rfl
          exact j_lv [0, 1, 2, 3] rfl (loop_43 4096 0 g4_mfacts g4_mpile g4_mthr g4_mmays (by decide) (by omega))
    have el_0 : (0 : Int32).toInt = 0 := rfl
    exact j_lv [0, 1, 2] rfl (loop_4 4096 0 m_facts m_pile m_thr m_mays (by decide) (by omega))
  · skip
    have el_0 : (0 : Int32).toInt = 0 := rfl
    rw [i_eq] at c_1
    exact j_vret (pc := 7) C hr hk (fun i => [].getD i 0, fun i => [m_isNew].getD i 0, fun i => [m_facts, m_pile, m_thr, m_mays, m_tall, m_weights].getD i (fun _ => 0), fun i => [].getD i (fun _ => 0)) rfl (show (0 ≤ (m_isNew).toInt ∧ (m_isNew).toInt ≤ 0) ∧ (Iv 49152 (0) (100000000) m_tall) ∧ (TALL m_told m_mays m_tall) from ⟨by omega, h_m_tall, (hTA (by omega))⟩) [0, 1, 2, 3, 4, 5, 6, 7, 8, 9] (by decide) rfl (by decide) (by decide) dX11_find_7
