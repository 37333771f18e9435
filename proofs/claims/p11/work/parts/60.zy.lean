theorem wd_945 : Cond.code yX11_mayFollow cX11_mayFollow 6 (some .boolean) ∈ WALL := wl_in (by decide +kernel) (by decide +kernel)
theorem wd_946 : Cond.methodLink RX11 388 yX11_mayFollow ∈ WALL := wl_in (by decide +kernel) (by decide +kernel)
theorem wd_947 : Cond.instanceMethod yX11_mayFollow ∈ WALL := wl_in (by decide +kernel) (by decide +kernel)
theorem wd_948 : Cond.selects RX11 yX11_mayFollow yX11_mayFollow ∈ WALL := wl_in (by decide +kernel) (by decide +kernel)
theorem dX11_sorted_0 : decode cX11_sorted 0 = .ok (.aload_n 0, 1) := by decide +kernel
theorem dX11_sorted_1 : decode cX11_sorted 1 = .ok (.iconst 0, 1) := by decide +kernel
theorem dX11_sorted_2 : decode cX11_sorted 2 = .ok (.putfield 1, 3) := by decide +kernel
theorem dX11_sorted_5 : decode cX11_sorted 5 = .ok (.aload_n 0, 1) := by decide +kernel
theorem dX11_sorted_6 : decode cX11_sorted 6 = .ok (.invokevirtual 364, 3) := by decide +kernel
theorem dX11_sorted_9 : decode cX11_sorted 9 = .ok (.iload_n 1, 1) := by decide +kernel
theorem dX11_sorted_10 : decode cX11_sorted 10 = .ok (.iconst 1, 1) := by decide +kernel
theorem dX11_sorted_11 : decode cX11_sorted 11 = .ok (.if_icmp .lt 45, 3) := by decide +kernel
theorem dX11_sorted_14 : decode cX11_sorted 14 = .ok (.iload_n 1, 1) := by decide +kernel
theorem dX11_sorted_15 : decode cX11_sorted 15 = .ok (.iconst 1, 1) := by decide +kernel
theorem dX11_sorted_16 : decode cX11_sorted 16 = .ok (.aload_n 0, 1) := by decide +kernel
theorem dX11_sorted_17 : decode cX11_sorted 17 = .ok (.invokevirtual 264, 3) := by decide +kernel
theorem dX11_sorted_20 : decode cX11_sorted 20 = .ok (.ishl, 1) := by decide +kernel
theorem dX11_sorted_21 : decode cX11_sorted 21 = .ok (.if_icmp .ge 35, 3) := by decide +kernel
theorem dX11_sorted_24 : decode cX11_sorted 24 = .ok (.iload_n 2, 1) := by decide +kernel
theorem dX11_sorted_25 : decode cX11_sorted 25 = .ok (.iconst 1, 1) := by decide +kernel
theorem dX11_sorted_26 : decode cX11_sorted 26 = .ok (.sipush 999, 3) := by decide +kernel
theorem dX11_sorted_29 : decode cX11_sorted 29 = .ok (.invokestatic 280, 3) := by decide +kernel
theorem dX11_sorted_32 : decode cX11_sorted 32 = .ok (.ifCond .eq 24, 3) := by decide +kernel
theorem dX11_sorted_35 : decode cX11_sorted 35 = .ok (.iload_n 3, 1) := by decide +kernel
theorem dX11_sorted_36 : decode cX11_sorted 36 = .ok (.ifCond .lt 20, 3) := by decide +kernel
theorem dX11_sorted_39 : decode cX11_sorted 39 = .ok (.iload_n 3, 1) := by decide +kernel
theorem dX11_sorted_40 : decode cX11_sorted 40 = .ok (.iload_n 1, 1) := by decide +kernel
theorem dX11_sorted_41 : decode cX11_sorted 41 = .ok (.invokestatic 370, 3) := by decide +kernel
theorem dX11_sorted_44 : decode cX11_sorted 44 = .ok (.if_icmp .ge 12, 3) := by decide +kernel
theorem dX11_sorted_47 : decode cX11_sorted 47 = .ok (.aload_n 0, 1) := by decide +kernel
theorem dX11_sorted_48 : decode cX11_sorted 48 = .ok (.iload_n 1, 1) := by decide +kernel
theorem dX11_sorted_49 : decode cX11_sorted 49 = .ok (.iload_n 2, 1) := by decide +kernel
theorem dX11_sorted_50 : decode cX11_sorted 50 = .ok (.invokevirtual 385, 3) := by decide +kernel
theorem dX11_sorted_53 : decode cX11_sorted 53 = .ok (.ifCond .ne 5, 3) := by decide +kernel
theorem dX11_sorted_56 : decode cX11_sorted 56 = .ok (.iconst (-1), 1) := by decide +kernel
theorem dX11_sorted_57 : decode cX11_sorted 57 = .ok (.ireturn, 1) := by decide +kernel
theorem dX11_sorted_58 : decode cX11_sorted 58 = .ok (.iload_n 1, 1) := by decide +kernel
theorem dX11_sorted_59 : decode cX11_sorted 59 = .ok (.istore 4, 2) := by decide +kernel
theorem dX11_sorted_61 : decode cX11_sorted 61 = .ok (.iconst (-1), 1) := by decide +kernel
theorem dX11_sorted_62 : decode cX11_sorted 62 = .ok (.istore 5, 2) := by decide +kernel
theorem dX11_sorted_64 : decode cX11_sorted 64 = .ok (.iconst 0, 1) := by decide +kernel
theorem dX11_sorted_65 : decode cX11_sorted 65 = .ok (.istore 6, 2) := by decide +kernel
theorem dX11_sorted_67 : decode cX11_sorted 67 = .ok (.iconst 0, 1) := by decide +kernel
theorem dX11_sorted_68 : decode cX11_sorted 68 = .ok (.istore 7, 2) := by decide +kernel
theorem dX11_sorted_70 : decode cX11_sorted 70 = .ok (.iload 7, 2) := by decide +kernel
theorem dX11_sorted_72 : decode cX11_sorted 72 = .ok (.iload_n 3, 1) := by decide +kernel
theorem dX11_sorted_73 : decode cX11_sorted 73 = .ok (.if_icmp .gt 71, 3) := by decide +kernel
theorem dX11_sorted_76 : decode cX11_sorted 76 = .ok (.iconst 0, 1) := by decide +kernel
theorem dX11_sorted_77 : decode cX11_sorted 77 = .ok (.istore 8, 2) := by decide +kernel
theorem dX11_sorted_79 : decode cX11_sorted 79 = .ok (.aload_n 0, 1) := by decide +kernel
theorem dX11_sorted_80 : decode cX11_sorted 80 = .ok (.iload 8, 2) := by decide +kernel
theorem dX11_sorted_82 : decode cX11_sorted 82 = .ok (.iload 4, 2) := by decide +kernel
theorem dX11_sorted_84 : decode cX11_sorted 84 = .ok (.iload 5, 2) := by decide +kernel
theorem dX11_sorted_86 : decode cX11_sorted 86 = .ok (.iload 6, 2) := by decide +kernel
theorem dX11_sorted_88 : decode cX11_sorted 88 = .ok (.iload_n 2, 1) := by decide +kernel
theorem dX11_sorted_89 : decode cX11_sorted 89 = .ok (.invokevirtual 388, 3) := by decide +kernel
theorem dX11_sorted_92 : decode cX11_sorted 92 = .ok (.ifCond .ne 9, 3) := by decide +kernel
theorem dX11_sorted_95 : decode cX11_sorted 95 = .ok (.iinc 8 1, 3) := by decide +kernel
theorem dX11_sorted_98 : decode cX11_sorted 98 = .ok (.goto (-19), 3) := by decide +kernel
theorem dX11_sorted_101 : decode cX11_sorted 101 = .ok (.iload 6, 2) := by decide +kernel
theorem dX11_sorted_103 : decode cX11_sorted 103 = .ok (.iload 5, 2) := by decide +kernel
theorem dX11_sorted_105 : decode cX11_sorted 105 = .ok (.ifCond .ge 7, 3) := by decide +kernel
theorem dX11_sorted_108 : decode cX11_sorted 108 = .ok (.iconst 0, 1) := by decide +kernel
theorem dX11_sorted_109 : decode cX11_sorted 109 = .ok (.goto 11, 3) := by decide +kernel
theorem dX11_sorted_112 : decode cX11_sorted 112 = .ok (.aload_n 0, 1) := by decide +kernel
theorem dX11_sorted_113 : decode cX11_sorted 113 = .ok (.iload 8, 2) := by decide +kernel
theorem dX11_sorted_115 : decode cX11_sorted 115 = .ok (.iload 5, 2) := by decide +kernel
theorem dX11_sorted_117 : decode cX11_sorted 117 = .ok (.invokevirtual 312, 3) := by decide +kernel
theorem dX11_sorted_120 : decode cX11_sorted 120 = .ok (.iadd, 1) := by decide +kernel
theorem dX11_sorted_121 : decode cX11_sorted 121 = .ok (.istore 6, 2) := by decide +kernel
theorem dX11_sorted_123 : decode cX11_sorted 123 = .ok (.iload 8, 2) := by decide +kernel
theorem dX11_sorted_125 : decode cX11_sorted 125 = .ok (.istore 5, 2) := by decide +kernel
theorem dX11_sorted_127 : decode cX11_sorted 127 = .ok (.iload 4, 2) := by decide +kernel
theorem dX11_sorted_129 : decode cX11_sorted 129 = .ok (.iconst 1, 1) := by decide +kernel
theorem dX11_sorted_130 : decode cX11_sorted 130 = .ok (.iload 8, 2) := by decide +kernel
theorem dX11_sorted_132 : decode cX11_sorted 132 = .ok (.ishl, 1) := by decide +kernel
theorem dX11_sorted_133 : decode cX11_sorted 133 = .ok (.iconst (-1), 1) := by decide +kernel
theorem dX11_sorted_134 : decode cX11_sorted 134 = .ok (.ixor, 1) := by decide +kernel
theorem dX11_sorted_135 : decode cX11_sorted 135 = .ok (.iand, 1) := by decide +kernel
theorem dX11_sorted_136 : decode cX11_sorted 136 = .ok (.istore 4, 2) := by decide +kernel
theorem dX11_sorted_138 : decode cX11_sorted 138 = .ok (.iinc 7 1, 3) := by decide +kernel
theorem dX11_sorted_141 : decode cX11_sorted 141 = .ok (.goto (-71), 3) := by decide +kernel
theorem dX11_sorted_144 : decode cX11_sorted 144 = .ok (.iload 5, 2) := by decide +kernel
theorem dX11_sorted_146 : decode cX11_sorted 146 = .ok (.ireturn, 1) := by decide +kernel
set_option maxHeartbeats 4000000 in
set_option maxRecDepth 100000 in
theorem c_X11_sorted (l : Launch) (D : DG) (cyC cyI cyJ cyZ cyO : ClassId) (m0 : Nat) (mtold : Nat) (mop : Nat) (marg : Nat) (mfacts : Nat) (mpile : Nat) (mthr : Nat) (mmays : Nat) (mtall : Nat) (mweights : Nat) (mtape : Nat) (msort : Nat) (mplace : Nat) (mvalue : Nat) (mwords : Nat) (mnames : Nat) (mhasHabit : Nat) (mfactWords : Nat) (mstates : Nat) (misMarked : Nat) (mrow : Nat) (mrowOfWare : Nat) (mneededOf : Nat) (mtried : Nat) (mbestRow : Nat) (mdigits : Nat) (p0 : Int32) (p1 : Int32) (p2 : Int32) (m_thrown : Int32) (m_taped : Int32) (m_size : Int32) (m_at : Int32) (m_fault : Int32) (m_codes : Int32) (m_isNew : Int32) (m_inShelf : Int32) (m_inStack : Int32) (m_inPlace : Int32) (m_rowMany : Int32) (m_goShelf : Int32) (m_goStack : Int32) (m_goLeft : Int32) (m_bestCost : Int32) (m_bestMany : Int32) (m_bestShelf : Int32) (m_bestSet : Int32) (m_told : Nat → Int32) (m_op : Nat → Int32) (m_arg : Nat → Int32) (m_facts : Nat → Int32) (m_pile : Nat → Int32) (m_thr : Nat → Int32) (m_mays : Nat → Int32) (m_tall : Nat → Int32) (m_weights : Nat → Int32) (h_m_taped : 0 ≤ (m_taped).toInt ∧ (m_taped).toInt ≤ 1000) (h_m_size : 0 ≤ (m_size).toInt ∧ (m_size).toInt ≤ 1000) (h_m_at : 0 ≤ (m_at).toInt ∧ (m_at).toInt ≤ 1000) (h_m_fault : 0 ≤ (m_fault).toInt ∧ (m_fault).toInt ≤ 16005) (h_m_codes : 0 ≤ (m_codes).toInt ∧ (m_codes).toInt ≤ 1000) (h_m_isNew : 0 ≤ (m_isNew).toInt ∧ (m_isNew).toInt ≤ 1) (h_m_inShelf : 0 ≤ (m_inShelf).toInt ∧ (m_inShelf).toInt ≤ 3) (h_m_inStack : 0 ≤ (m_inStack).toInt ∧ (m_inStack).toInt ≤ 7) (h_m_inPlace : 0 ≤ (m_inPlace).toInt ∧ (m_inPlace).toInt ≤ 11) (h_m_rowMany : 0 ≤ (m_rowMany).toInt ∧ (m_rowMany).toInt ≤ 12) (h_m_goShelf : -1 ≤ (m_goShelf).toInt ∧ (m_goShelf).toInt ≤ 3) (h_m_bestMany : 0 ≤ (m_bestMany).toInt ∧ (m_bestMany).toInt ≤ 7) (h_m_bestShelf : 0 ≤ (m_bestShelf).toInt ∧ (m_bestShelf).toInt ≤ 3) (h_m_told : TV m_told) (h_m_tall : Iv 49152 (0) (100000000) m_tall) (hwf : WFm m_told m_op m_arg) (hTA : (m_isNew).toInt = 0 → TALL m_told m_mays m_tall) : KK l D (TY cyC cyI cyJ cyZ cyO) yX11_sorted cX11_sorted 9 (some .int) ({ frames := 5, cells := 0, slots := 0, locals := 117 } : Room) 0 0 [.ref m0, .int p0, .int p1, .int p2] [(m0, .inr (11, [.int m_thrown, .ref mtape, .int m_taped, .int m_size, .ref msort, .ref mplace, .ref mvalue, .int m_at, .int m_fault, .ref mwords, .ref mtold, .ref mop, .ref marg, .int m_codes, .ref mnames, .ref mhasHabit, .int m_isNew, .ref mfactWords, .ref mfacts, .ref mpile, .ref mstates, .ref misMarked, .int m_inShelf, .int m_inStack, .int m_inPlace, .ref mrow, .int m_rowMany, .ref mthr, .ref mmays, .ref mtall, .ref mweights, .ref mrowOfWare, .ref mneededOf, .int m_goShelf, .int m_goStack, .int m_goLeft, .ref mtried, .ref mbestRow, .int m_bestCost, .int m_bestMany, .int m_bestShelf, .int m_bestSet, .ref mdigits])), (mtold, .inl (cyI, 240, .inl m_told)), (mop, .inl (cyI, 2200, .inl m_op)), (marg, .inl (cyI, 2200, .inl m_arg)), (mfacts, .inl (cyI, 8, .inl m_facts)), (mpile, .inl (cyI, 1100, .inl m_pile)), (mthr, .inl (cyZ, 144, .inl m_thr)), (mmays, .inl (cyZ, 144, .inl m_mays)), (mtall, .inl (cyI, 49152, .inl m_tall)), (mweights, .inl (cyI, 4096, .inl m_weights))] (fun u => some (.int (u.2.1 0))) (fun u => (0 ≤ (u.2.1 1).toInt ∧ (u.2.1 1).toInt ≤ 1) ∧ (Iv 49152 (0) (100000000) (u.2.2.1 4)) ∧ (((u.2.1 1)).toInt = 0 → TALL m_told (u.2.2.1 3) (u.2.2.1 4))) (fun u => [(m0, .inr (11, [.int 0, .ref mtape, .int m_taped, .int m_size, .ref msort, .ref mplace, .ref mvalue, .int m_at, .int m_fault, .ref mwords, .ref mtold, .ref mop, .ref marg, .int m_codes, .ref mnames, .ref mhasHabit, .int (u.2.1 1), .ref mfactWords, .ref mfacts, .ref mpile, .ref mstates, .ref misMarked, .int m_inShelf, .int m_inStack, .int m_inPlace, .ref mrow, .int m_rowMany, .ref mthr, .ref mmays, .ref mtall, .ref mweights, .ref mrowOfWare, .ref mneededOf, .int m_goShelf, .int m_goStack, .int m_goLeft, .ref mtried, .ref mbestRow, .int m_bestCost, .int m_bestMany, .int m_bestShelf, .int m_bestSet, .ref mdigits])), (mtold, .inl (cyI, 240, .inl m_told)), (mop, .inl (cyI, 2200, .inl m_op)), (marg, .inl (cyI, 2200, .inl m_arg)), (mfacts, .inl (cyI, 8, .inl (u.2.2.1 0))), (mpile, .inl (cyI, 1100, .inl (u.2.2.1 1))), (mthr, .inl (cyZ, 144, .inl (u.2.2.1 2))), (mmays, .inl (cyZ, 144, .inl (u.2.2.1 3))), (mtall, .inl (cyI, 49152, .inl (u.2.2.1 4))), (mweights, .inl (cyI, 4096, .inl (u.2.2.1 5)))]) := by
  refine KK.of (lv0 := [(0, .ref m0), (1, .int p0), (2, .int p1), (3, .int p2)]) (by decide) rfl (Nat.le_of_ble_eq_true rfl) ?_
  intro p e s m args below meth c A C hr hk hin
  refine j_aload_n (pc := 0) C dX11_sorted_0 rfl 0 rfl ?_
  refine j_iconst (pc := 1) (v := 0) C dX11_sorted_1 (by decide) ?_
  refine j_put (pc := 2) (ci := 11) (v := .int 0) (ws' := [(m0, .inr (11, [.int 0, .ref mtape, .int m_taped, .int m_size, .ref msort, .ref mplace, .ref mvalue, .int m_at, .int m_fault, .ref mwords, .ref mtold, .ref mop, .ref marg, .int m_codes, .ref mnames, .ref mhasHabit, .int m_isNew, .ref mfactWords, .ref mfacts, .ref mpile, .ref mstates, .ref misMarked, .int m_inShelf, .int m_inStack, .int m_inPlace, .ref mrow, .int m_rowMany, .ref mthr, .ref mmays, .ref mtall, .ref mweights, .ref mrowOfWare, .ref mneededOf, .int m_goShelf, .int m_goStack, .int m_goLeft, .ref mtried, .ref mbestRow, .int m_bestCost, .int m_bestMany, .int m_bestShelf, .int m_bestSet, .ref mdigits])), (mtold, .inl (cyI, 240, .inl m_told)), (mop, .inl (cyI, 2200, .inl m_op)), (marg, .inl (cyI, 2200, .inl m_arg)), (mfacts, .inl (cyI, 8, .inl m_facts)), (mpile, .inl (cyI, 1100, .inl m_pile)), (mthr, .inl (cyZ, 144, .inl m_thr)), (mmays, .inl (cyZ, 144, .inl m_mays)), (mtall, .inl (cyI, 49152, .inl m_tall)), (mweights, .inl (cyI, 4096, .inl m_weights))]) C inw_11 0 rfl rfl 0 (by decide) wd_629 rfl tyX11_ok nmX11 rfl (tyX11_ok 0 (by decide)) rfl rfl (Nat.le_of_ble_eq_true rfl) dX11_sorted_2 rfl ?_
  refine j_aload_n (pc := 5) C dX11_sorted_5 rfl 0 rfl ?_
  refine j_callV (pc := 6) (As := []) (rest := []) (wr := []) C (c_X11_find l D cyC cyI cyJ cyZ cyO m0 mtold mop marg mfacts mpile mthr mmays mtall mweights mtape msort mplace mvalue mwords mnames mhasHabit mfactWords mstates misMarked mrow mrowOfWare mneededOf mtried mbestRow mdigits 0 m_taped m_size m_at m_fault m_codes m_isNew m_inShelf m_inStack m_inPlace m_rowMany m_goShelf m_goStack m_goLeft m_bestCost m_bestMany m_bestShelf m_bestSet m_told m_op m_arg m_facts m_pile m_thr m_mays m_tall m_weights h_m_taped h_m_size h_m_at h_m_fault h_m_codes h_m_isNew h_m_inShelf h_m_inStack h_m_inPlace h_m_rowMany h_m_goShelf h_m_bestMany h_m_bestShelf h_m_told h_m_tall hwf hTA) wd_923 wd_624 wd_924 wd_925 wd_926 ⟨by decide, by decide, rfl⟩ rfl ⟨rfl, rfl, by decide, by decide⟩ ⟨by decide, by decide⟩ [0, 1, 2, 3, 4, 5, 6, 7, 8, 9] [] rfl rfl ⟨by decide, by decide, by decide⟩ 0 rfl rfl rfl (Nat.le_of_ble_eq_true rfl) dX11_sorted_6 (fun u_1 hw_2 => ?_)
  refine j_eq (ws2 := [(m0, .inr (11, [.int 0, .ref mtape, .int m_taped, .int m_size, .ref msort, .ref mplace, .ref mvalue, .int m_at, .int m_fault, .ref mwords, .ref mtold, .ref mop, .ref marg, .int m_codes, .ref mnames, .ref mhasHabit, .int (u_1.2.1 0), .ref mfactWords, .ref mfacts, .ref mpile, .ref mstates, .ref misMarked, .int m_inShelf, .int m_inStack, .int m_inPlace, .ref mrow, .int m_rowMany, .ref mthr, .ref mmays, .ref mtall, .ref mweights, .ref mrowOfWare, .ref mneededOf, .int m_goShelf, .int m_goStack, .int m_goLeft, .ref mtried, .ref mbestRow, .int m_bestCost, .int m_bestMany, .int m_bestShelf, .int m_bestSet, .ref mdigits])), (mtold, .inl (cyI, 240, .inl m_told)), (mop, .inl (cyI, 2200, .inl m_op)), (marg, .inl (cyI, 2200, .inl m_arg)), (mfacts, .inl (cyI, 8, .inl (u_1.2.2.1 0))), (mpile, .inl (cyI, 1100, .inl (u_1.2.2.1 1))), (mthr, .inl (cyZ, 144, .inl (u_1.2.2.1 2))), (mmays, .inl (cyZ, 144, .inl (u_1.2.2.1 3))), (mtall, .inl (cyI, 49152, .inl (u_1.2.2.1 4))), (mweights, .inl (cyI, 4096, .inl (u_1.2.2.1 5)))]) (pc2 := 9) (lv2 := [(0, .ref m0), (1, .int p0), (2, .int p1), (3, .int p2)]) (st2 := []) rfl rfl rfl rfl ?_
  obtain ⟨hw_2_0, hw_2_1, hw_2_2⟩ := hw_2
  refine j_iload_n (pc := 9) C dX11_sorted_9 rfl 1 rfl ?_
  refine j_iconst (pc := 10) (v := 1) C dX11_sorted_10 (by decide) ?_
  refine j_icmp_lt (pc := 11) (tgt := 56) C dX11_sorted_11 (by decide) (fun c_3 => ?_) (fun c_3 => ?_)
  · skip
    have el_1 : (1 : Int32).toInt = 1 := rfl
    rw [i_lt] at c_3
    refine j_iconst (pc := 56) (v := (-1)) C dX11_sorted_56 (by decide) ?_
    have el_m1 : ((-1) : Int32).toInt = (-1) := rfl
    exact j_iret (pc := 57) C hr hk (fun i => [].getD i 0, fun i => [(-1), (u_1.2.1 0)].getD i 0, fun i => [(u_1.2.2.1 0), (u_1.2.2.1 1), (u_1.2.2.1 2), (u_1.2.2.1 3), (u_1.2.2.1 4), (u_1.2.2.1 5)].getD i (fun _ => 0), fun i => [].getD i (fun _ => 0)) rfl (show (0 ≤ ((u_1.2.1 0)).toInt ∧ ((u_1.2.1 0)).toInt ≤ 1) ∧ (Iv 49152 (0) (100000000) (u_1.2.2.1 4)) ∧ (((u_1.2.1 0)).toInt = 0 → TALL m_told (u_1.2.2.1 3) (u_1.2.2.1 4)) from ⟨by omega, hw_2_1, (fun _ => hw_2_2)⟩) [0, 1, 2, 3, 4, 5, 6, 7, 8, 9] (by decide) rfl (by decide) (by decide) dX11_sorted_57
  · skip
    have el_1 : (1 : Int32).toInt = 1 := rfl
    rw [i_lt] at c_3
    refine j_iload_n (pc := 14) C dX11_sorted_14 rfl 1 rfl ?_
    refine j_iconst (pc := 15) (v := 1) C dX11_sorted_15 (by decide) ?_
    refine j_aload_n (pc := 16) C dX11_sorted_16 rfl 0 rfl ?_
    refine j_callV (pc := 17) (As := []) (rest := [.int 1, .int p0]) (wr := [(mop, .inl (cyI, 2200, .inl m_op)), (marg, .inl (cyI, 2200, .inl m_arg)), (mfacts, .inl (cyI, 8, .inl (u_1.2.2.1 0))), (mpile, .inl (cyI, 1100, .inl (u_1.2.2.1 1))), (mthr, .inl (cyZ, 144, .inl (u_1.2.2.1 2))), (mmays, .inl (cyZ, 144, .inl (u_1.2.2.1 3))), (mtall, .inl (cyI, 49152, .inl (u_1.2.2.1 4))), (mweights, .inl (cyI, 4096, .inl (u_1.2.2.1 5)))]) C (c_X11_wares l D cyC cyI cyJ cyZ cyO m0 mtold mtape msort mplace mvalue mwords mop marg mnames mhasHabit mfactWords mfacts mpile mstates misMarked mrow mthr mmays mtall mweights mrowOfWare mneededOf mtried mbestRow mdigits 0 m_taped m_size m_at m_fault m_codes (u_1.2.1 0) m_inShelf m_inStack m_inPlace m_rowMany m_goShelf m_goStack m_goLeft m_bestCost m_bestMany m_bestShelf m_bestSet m_told h_m_taped h_m_size h_m_at h_m_fault h_m_codes (by omega) h_m_inShelf h_m_inStack h_m_inPlace h_m_rowMany h_m_goShelf h_m_bestMany h_m_bestShelf h_m_told) wd_748 wd_624 wd_749 wd_750 wd_751 ⟨by decide, by decide, rfl⟩ rfl ⟨rfl, rfl, by decide, by decide⟩ ⟨by decide, by decide⟩ [0, 1] [2, 3, 4, 5, 6, 7, 8, 9] rfl rfl ⟨by decide, by decide, by decide⟩ 0 rfl rfl rfl (Nat.le_of_ble_eq_true rfl) dX11_sorted_17 (fun u_4 hw_5 => ?_)
    refine j_eq (ws2 := [(mop, .inl (cyI, 2200, .inl m_op)), (marg, .inl (cyI, 2200, .inl m_arg)), (mfacts, .inl (cyI, 8, .inl (u_1.2.2.1 0))), (mpile, .inl (cyI, 1100, .inl (u_1.2.2.1 1))), (mthr, .inl (cyZ, 144, .inl (u_1.2.2.1 2))), (mmays, .inl (cyZ, 144, .inl (u_1.2.2.1 3))), (mtall, .inl (cyI, 49152, .inl (u_1.2.2.1 4))), (mweights, .inl (cyI, 4096, .inl (u_1.2.2.1 5))), (m0, .inr (11, [.int 0, .ref mtape, .int m_taped, .int m_size, .ref msort, .ref mplace, .ref mvalue, .int m_at, .int m_fault, .ref mwords, .ref mtold, .ref mop, .ref marg, .int m_codes, .ref mnames, .ref mhasHabit, .int (u_1.2.1 0), .ref mfactWords, .ref mfacts, .ref mpile, .ref mstates, .ref misMarked, .int m_inShelf, .int m_inStack, .int m_inPlace, .ref mrow, .int m_rowMany, .ref mthr, .ref mmays, .ref mtall, .ref mweights, .ref mrowOfWare, .ref mneededOf, .int m_goShelf, .int m_goStack, .int m_goLeft, .ref mtried, .ref mbestRow, .int m_bestCost, .int m_bestMany, .int m_bestShelf, .int m_bestSet, .ref mdigits])), (mtold, .inl (cyI, 240, .inl m_told))]) (pc2 := 20) (lv2 := [(0, .ref m0), (1, .int p0), (2, .int p1), (3, .int p2)]) (st2 := [.int (u_4.2.1 0), .int 1, .int p0]) rfl rfl rfl rfl ?_
    obtain ⟨hw_5_0, hw_5_1⟩ := hw_5
    obtain ⟨v_6, ev_6⟩ : ∃ z : Int32, 1 <<< ((u_4.2.1 0) &&& 31) = z := ⟨_, rfl⟩
    have el_1 : (1 : Int32).toInt = 1 := rfl
    have hv_6 : 1 ≤ v_6.toInt ∧ v_6.toInt ≤ 4096 := by rw [← ev_6]; exact shl1_iv 0 12 (by omega) (by omega) (by omega)
    refine j_ishl (pc := 20) (v := v_6) C dX11_sorted_20 ev_6 ?_
    refine j_icmp_ge (pc := 21) (tgt := 56) C dX11_sorted_21 (by decide) (fun c_7 => ?_) (fun c_7 => ?_)
    · skip
      rw [i_le] at c_7
      refine j_iconst (pc := 56) (v := (-1)) C dX11_sorted_56 (by decide) ?_
      have el_m1 : ((-1) : Int32).toInt = (-1) := rfl
      exact j_iret (pc := 57) C hr hk (fun i => [].getD i 0, fun i => [(-1), (u_1.2.1 0)].getD i 0, fun i => [(u_1.2.2.1 0), (u_1.2.2.1 1), (u_1.2.2.1 2), (u_1.2.2.1 3), (u_1.2.2.1 4), (u_1.2.2.1 5)].getD i (fun _ => 0), fun i => [].getD i (fun _ => 0)) rfl (show (0 ≤ ((u_1.2.1 0)).toInt ∧ ((u_1.2.1 0)).toInt ≤ 1) ∧ (Iv 49152 (0) (100000000) (u_1.2.2.1 4)) ∧ (((u_1.2.1 0)).toInt = 0 → TALL m_told (u_1.2.2.1 3) (u_1.2.2.1 4)) from ⟨by omega, hw_2_1, (fun _ => hw_2_2)⟩) [8, 9, 0, 1, 2, 3, 4, 5, 6, 7] (by decide) rfl (by decide) (by decide) dX11_sorted_57
    · skip
      rw [i_le] at c_7
      refine j_iload_n (pc := 24) C dX11_sorted_24 rfl 2 rfl ?_
      refine j_iconst (pc := 25) (v := 1) C dX11_sorted_25 (by decide) ?_
      refine j_sipush (pc := 26) (v := 999) C dX11_sorted_26 (by decide) ?_
      refine j_callS (pc := 29) (As := [.int p1, .int 1, .int 999]) (rest := []) (wr := [(mop, .inl (cyI, 2200, .inl m_op)), (marg, .inl (cyI, 2200, .inl m_arg)), (mfacts, .inl (cyI, 8, .inl (u_1.2.2.1 0))), (mpile, .inl (cyI, 1100, .inl (u_1.2.2.1 1))), (mthr, .inl (cyZ, 144, .inl (u_1.2.2.1 2))), (mmays, .inl (cyZ, 144, .inl (u_1.2.2.1 3))), (mtall, .inl (cyI, 49152, .inl (u_1.2.2.1 4))), (mweights, .inl (cyI, 4096, .inl (u_1.2.2.1 5))), (m0, .inr (11, [.int 0, .ref mtape, .int m_taped, .int m_size, .ref msort, .ref mplace, .ref mvalue, .int m_at, .int m_fault, .ref mwords, .ref mtold, .ref mop, .ref marg, .int m_codes, .ref mnames, .ref mhasHabit, .int (u_1.2.1 0), .ref mfactWords, .ref mfacts, .ref mpile, .ref mstates, .ref misMarked, .int m_inShelf, .int m_inStack, .int m_inPlace, .ref mrow, .int m_rowMany, .ref mthr, .ref mmays, .ref mtall, .ref mweights, .ref mrowOfWare, .ref mneededOf, .int m_goShelf, .int m_goStack, .int m_goLeft, .ref mtried, .ref mbestRow, .int m_bestCost, .int m_bestMany, .int m_bestShelf, .int m_bestSet, .ref mdigits])), (mtold, .inl (cyI, 240, .inl m_told))]) C (c_X11_within_f l D cyC cyI cyJ cyZ cyO p1 1 999) wd_818 wd_624 wd_819 wd_820 ⟨by decide, by decide, rfl⟩ rfl ⟨rfl, rfl, by decide, by decide⟩ ⟨by decide, by decide⟩ [] [0, 1, 2, 3, 4, 5, 6, 7, 8, 9] rfl rfl ⟨by decide, by decide, by decide⟩ rfl (Nat.le_of_ble_eq_true rfl) dX11_sorted_29 (fun u_8 hw_9 => ?_)
      refine j_eq (ws2 := [(mop, .inl (cyI, 2200, .inl m_op)), (marg, .inl (cyI, 2200, .inl m_arg)), (mfacts, .inl (cyI, 8, .inl (u_1.2.2.1 0))), (mpile, .inl (cyI, 1100, .inl (u_1.2.2.1 1))), (mthr, .inl (cyZ, 144, .inl (u_1.2.2.1 2))), (mmays, .inl (cyZ, 144, .inl (u_1.2.2.1 3))), (mtall, .inl (cyI, 49152, .inl (u_1.2.2.1 4))), (mweights, .inl (cyI, 4096, .inl (u_1.2.2.1 5))), (m0, .inr (11, [.int 0, .ref mtape, .int m_taped, .int m_size, .ref msort, .ref mplace, .ref mvalue, .int m_at, .int m_fault, .ref mwords, .ref mtold, .ref mop, .ref marg, .int m_codes, .ref mnames, .ref mhasHabit, .int (u_1.2.1 0), .ref mfactWords, .ref mfacts, .ref mpile, .ref mstates, .ref misMarked, .int m_inShelf, .int m_inStack, .int m_inPlace, .ref mrow, .int m_rowMany, .ref mthr, .ref mmays, .ref mtall, .ref mweights, .ref mrowOfWare, .ref mneededOf, .int m_goShelf, .int m_goStack, .int m_goLeft, .ref mtried, .ref mbestRow, .int m_bestCost, .int m_bestMany, .int m_bestShelf, .int m_bestSet, .ref mdigits])), (mtold, .inl (cyI, 240, .inl m_told))]) (pc2 := 32) (lv2 := [(0, .ref m0), (1, .int p0), (2, .int p1), (3, .int p2)]) (st2 := [.int (u_8.2.1 0)]) rfl rfl rfl rfl ?_
      obtain ⟨hw_9_0, hw_9_1, hw_9_2⟩ := hw_9
      have el_1 : (1 : Int32).toInt = 1 := rfl
      have el_999 : (999 : Int32).toInt = 999 := rfl
      refine j_if_eq (pc := 32) (tgt := 56) C dX11_sorted_32 (by decide) (fun c_10 => ?_) (fun c_10 => ?_)
      · skip
        have el_0 : (0 : Int32).toInt = 0 := rfl
        rw [i_eq] at c_10
        refine j_iconst (pc := 56) (v := (-1)) C dX11_sorted_56 (by decide) ?_
        have el_m1 : ((-1) : Int32).toInt = (-1) := rfl
        exact j_iret (pc := 57) C hr hk (fun i => [].getD i 0, fun i => [(-1), (u_1.2.1 0)].getD i 0, fun i => [(u_1.2.2.1 0), (u_1.2.2.1 1), (u_1.2.2.1 2), (u_1.2.2.1 3), (u_1.2.2.1 4), (u_1.2.2.1 5)].getD i (fun _ => 0), fun i => [].getD i (fun _ => 0)) rfl (show (0 ≤ ((u_1.2.1 0)).toInt ∧ ((u_1.2.1 0)).toInt ≤ 1) ∧ (Iv 49152 (0) (100000000) (u_1.2.2.1 4)) ∧ (((u_1.2.1 0)).toInt = 0 → TALL m_told (u_1.2.2.1 3) (u_1.2.2.1 4)) from ⟨by omega, hw_2_1, (fun _ => hw_2_2)⟩) [8, 9, 0, 1, 2, 3, 4, 5, 6, 7] (by decide) rfl (by decide) (by decide) dX11_sorted_57
      · skip
        have el_0 : (0 : Int32).toInt = 0 := rfl
        rw [i_eq] at c_10
        have k0c_10 : ((u_8.2.1 0)).toInt = 1 := by omega
        refine j_iload_n (pc := 35) C dX11_sorted_35 rfl 3 rfl ?_
        refine j_if_lt (pc := 36) (tgt := 56) C dX11_sorted_36 (by decide) (fun c_11 => ?_) (fun c_11 => ?_)
        · skip
          have el_0 : (0 : Int32).toInt = 0 := rfl
          rw [i_lt] at c_11
          refine j_iconst (pc := 56) (v := (-1)) C dX11_sorted_56 (by decide) ?_
          have el_m1 : ((-1) : Int32).toInt = (-1) := rfl
          exact j_iret (pc := 57) C hr hk (fun i => [].getD i 0, fun i => [(-1), (u_1.2.1 0)].getD i 0, fun i => [(u_1.2.2.1 0), (u_1.2.2.1 1), (u_1.2.2.1 2), (u_1.2.2.1 3), (u_1.2.2.1 4), (u_1.2.2.1 5)].getD i (fun _ => 0), fun i => [].getD i (fun _ => 0)) rfl (show (0 ≤ ((u_1.2.1 0)).toInt ∧ ((u_1.2.1 0)).toInt ≤ 1) ∧ (Iv 49152 (0) (100000000) (u_1.2.2.1 4)) ∧ (((u_1.2.1 0)).toInt = 0 → TALL m_told (u_1.2.2.1 3) (u_1.2.2.1 4)) from ⟨by omega, hw_2_1, (fun _ => hw_2_2)⟩) [8, 9, 0, 1, 2, 3, 4, 5, 6, 7] (by decide) rfl (by decide) (by decide) dX11_sorted_57
        · skip
          have el_0 : (0 : Int32).toInt = 0 := rfl
          rw [i_lt] at c_11
          refine j_iload_n (pc := 39) C dX11_sorted_39 rfl 3 rfl ?_
          refine j_iload_n (pc := 40) C dX11_sorted_40 rfl 1 rfl ?_
          refine j_callS (pc := 41) (As := [.int p0]) (rest := [.int p2]) (wr := [(mop, .inl (cyI, 2200, .inl m_op)), (marg, .inl (cyI, 2200, .inl m_arg)), (mfacts, .inl (cyI, 8, .inl (u_1.2.2.1 0))), (mpile, .inl (cyI, 1100, .inl (u_1.2.2.1 1))), (mthr, .inl (cyZ, 144, .inl (u_1.2.2.1 2))), (mmays, .inl (cyZ, 144, .inl (u_1.2.2.1 3))), (mtall, .inl (cyI, 49152, .inl (u_1.2.2.1 4))), (mweights, .inl (cyI, 4096, .inl (u_1.2.2.1 5))), (m0, .inr (11, [.int 0, .ref mtape, .int m_taped, .int m_size, .ref msort, .ref mplace, .ref mvalue, .int m_at, .int m_fault, .ref mwords, .ref mtold, .ref mop, .ref marg, .int m_codes, .ref mnames, .ref mhasHabit, .int (u_1.2.1 0), .ref mfactWords, .ref mfacts, .ref mpile, .ref mstates, .ref misMarked, .int m_inShelf, .int m_inStack, .int m_inPlace, .ref mrow, .int m_rowMany, .ref mthr, .ref mmays, .ref mtall, .ref mweights, .ref mrowOfWare, .ref mneededOf, .int m_goShelf, .int m_goStack, .int m_goLeft, .ref mtried, .ref mbestRow, .int m_bestCost, .int m_bestMany, .int m_bestShelf, .int m_bestSet, .ref mdigits])), (mtold, .inl (cyI, 240, .inl m_told))]) C (c_X11_bits l D cyC cyI cyJ cyZ cyO p0) wd_916 wd_624 wd_917 wd_918 ⟨by decide, by decide, rfl⟩ rfl ⟨rfl, rfl, by decide, by decide⟩ ⟨by decide, by decide⟩ [] [0, 1, 2, 3, 4, 5, 6, 7, 8, 9] rfl rfl ⟨by decide, by decide, by decide⟩ rfl (Nat.le_of_ble_eq_true rfl) dX11_sorted_41 (fun u_12 hw_13 => ?_)
          refine j_eq (ws2 := [(mop, .inl (cyI, 2200, .inl m_op)), (marg, .inl (cyI, 2200, .inl m_arg)), (mfacts, .inl (cyI, 8, .inl (u_1.2.2.1 0))), (mpile, .inl (cyI, 1100, .inl (u_1.2.2.1 1))), (mthr, .inl (cyZ, 144, .inl (u_1.2.2.1 2))), (mmays, .inl (cyZ, 144, .inl (u_1.2.2.1 3))), (mtall, .inl (cyI, 49152, .inl (u_1.2.2.1 4))), (mweights, .inl (cyI, 4096, .inl (u_1.2.2.1 5))), (m0, .inr (11, [.int 0, .ref mtape, .int m_taped, .int m_size, .ref msort, .ref mplace, .ref mvalue, .int m_at, .int m_fault, .ref mwords, .ref mtold, .ref mop, .ref marg, .int m_codes, .ref mnames, .ref mhasHabit, .int (u_1.2.1 0), .ref mfactWords, .ref mfacts, .ref mpile, .ref mstates, .ref misMarked, .int m_inShelf, .int m_inStack, .int m_inPlace, .ref mrow, .int m_rowMany, .ref mthr, .ref mmays, .ref mtall, .ref mweights, .ref mrowOfWare, .ref mneededOf, .int m_goShelf, .int m_goStack, .int m_goLeft, .ref mtried, .ref mbestRow, .int m_bestCost, .int m_bestMany, .int m_bestShelf, .int m_bestSet, .ref mdigits])), (mtold, .inl (cyI, 240, .inl m_told))]) (pc2 := 44) (lv2 := [(0, .ref m0), (1, .int p0), (2, .int p1), (3, .int p2)]) (st2 := [.int (u_12.2.1 0), .int p2]) rfl rfl rfl rfl ?_
          obtain ⟨hw_13_0, hw_13_1⟩ := hw_13
          refine j_icmp_ge (pc := 44) (tgt := 56) C dX11_sorted_44 (by decide) (fun c_14 => ?_) (fun c_14 => ?_)
          · skip
            rw [i_le] at c_14
            refine j_iconst (pc := 56) (v := (-1)) C dX11_sorted_56 (by decide) ?_
            have el_m1 : ((-1) : Int32).toInt = (-1) := rfl
            exact j_iret (pc := 57) C hr hk (fun i => [].getD i 0, fun i => [(-1), (u_1.2.1 0)].getD i 0, fun i => [(u_1.2.2.1 0), (u_1.2.2.1 1), (u_1.2.2.1 2), (u_1.2.2.1 3), (u_1.2.2.1 4), (u_1.2.2.1 5)].getD i (fun _ => 0), fun i => [].getD i (fun _ => 0)) rfl (show (0 ≤ ((u_1.2.1 0)).toInt ∧ ((u_1.2.1 0)).toInt ≤ 1) ∧ (Iv 49152 (0) (100000000) (u_1.2.2.1 4)) ∧ (((u_1.2.1 0)).toInt = 0 → TALL m_told (u_1.2.2.1 3) (u_1.2.2.1 4)) from ⟨by omega, hw_2_1, (fun _ => hw_2_2)⟩) [8, 9, 0, 1, 2, 3, 4, 5, 6, 7] (by decide) rfl (by decide) (by decide) dX11_sorted_57
          · skip
            rw [i_le] at c_14
            refine j_aload_n (pc := 47) C dX11_sorted_47 rfl 0 rfl ?_
            refine j_iload_n (pc := 48) C dX11_sorted_48 rfl 1 rfl ?_
            refine j_iload_n (pc := 49) C dX11_sorted_49 rfl 2 rfl ?_
            refine j_callV (pc := 50) (As := [.int p0, .int p1]) (rest := []) (wr := [(mop, .inl (cyI, 2200, .inl m_op)), (marg, .inl (cyI, 2200, .inl m_arg)), (mfacts, .inl (cyI, 8, .inl (u_1.2.2.1 0))), (mpile, .inl (cyI, 1100, .inl (u_1.2.2.1 1))), (mthr, .inl (cyZ, 144, .inl (u_1.2.2.1 2))), (mmays, .inl (cyZ, 144, .inl (u_1.2.2.1 3))), (mweights, .inl (cyI, 4096, .inl (u_1.2.2.1 5)))]) C (c_X11_canStand l D cyC cyI cyJ cyZ cyO m0 mtold mtall mtape msort mplace mvalue mwords mop marg mnames mhasHabit mfactWords mfacts mpile mstates misMarked mrow mthr mmays mweights mrowOfWare mneededOf mtried mbestRow mdigits p0 p1 0 m_taped m_size m_at m_fault m_codes (u_1.2.1 0) m_inShelf m_inStack m_inPlace m_rowMany m_goShelf m_goStack m_goLeft m_bestCost m_bestMany m_bestShelf m_bestSet m_told (u_1.2.2.1 4) h_m_taped h_m_size h_m_at h_m_fault h_m_codes (by omega) h_m_inShelf h_m_inStack h_m_inPlace h_m_rowMany h_m_goShelf h_m_bestMany h_m_bestShelf (by omega) h_m_told hw_2_1) wd_941 wd_624 wd_942 wd_943 wd_944 ⟨by decide, by decide, rfl⟩ rfl ⟨rfl, rfl, by decide, by decide⟩ ⟨by decide, by decide⟩ [8, 9, 6] [0, 1, 2, 3, 4, 5, 7] rfl rfl ⟨by decide, by decide, by decide⟩ 8 rfl rfl rfl (Nat.le_of_ble_eq_true rfl) dX11_sorted_50 (fun u_15 hw_16 => ?_)
            refine j_eq (ws2 := [(mop, .inl (cyI, 2200, .inl m_op)), (marg, .inl (cyI, 2200, .inl m_arg)), (mfacts, .inl (cyI, 8, .inl (u_1.2.2.1 0))), (mpile, .inl (cyI, 1100, .inl (u_1.2.2.1 1))), (mthr, .inl (cyZ, 144, .inl (u_1.2.2.1 2))), (mmays, .inl (cyZ, 144, .inl (u_1.2.2.1 3))), (mweights, .inl (cyI, 4096, .inl (u_1.2.2.1 5))), (m0, .inr (11, [.int 0, .ref mtape, .int m_taped, .int m_size, .ref msort, .ref mplace, .ref mvalue, .int m_at, .int m_fault, .ref mwords, .ref mtold, .ref mop, .ref marg, .int m_codes, .ref mnames, .ref mhasHabit, .int (u_1.2.1 0), .ref mfactWords, .ref mfacts, .ref mpile, .ref mstates, .ref misMarked, .int m_inShelf, .int m_inStack, .int m_inPlace, .ref mrow, .int m_rowMany, .ref mthr, .ref mmays, .ref mtall, .ref mweights, .ref mrowOfWare, .ref mneededOf, .int m_goShelf, .int m_goStack, .int m_goLeft, .ref mtried, .ref mbestRow, .int m_bestCost, .int m_bestMany, .int m_bestShelf, .int m_bestSet, .ref mdigits])), (mtold, .inl (cyI, 240, .inl m_told)), (mtall, .inl (cyI, 49152, .inl (u_1.2.2.1 4)))]) (pc2 := 53) (lv2 := [(0, .ref m0), (1, .int p0), (2, .int p1), (3, .int p2)]) (st2 := [.int (u_15.2.1 0)]) rfl rfl rfl rfl ?_
            obtain ⟨hw_16_0, hw_16_1⟩ := hw_16
            refine j_if_ne (pc := 53) (tgt := 58) C dX11_sorted_53 (by decide) (fun c_17 => ?_) (fun c_17 => ?_)
            · skip
              have el_0 : (0 : Int32).toInt = 0 := rfl
              rw [i_eq] at c_17
              have k0c_17 : ((u_15.2.1 0)).toInt = 1 := by omega
              have hbi := hw_13_1
              have hp2 := shl1_I (y := (u_4.2.1 0)) (by omega) (by omega)
              rw [ev_6, hw_5_1] at hp2
              have hw9 := (h_m_told 0 (by decide)).2
              have hw8 : hiT 0 = 12 := rfl
              refine j_iload_n (pc := 58) C dX11_sorted_58 rfl 1 rfl ?_
              refine j_istore (pc := 59) (lv' := [(4, .int p0), (0, .ref m0), (1, .int p0), (2, .int p1), (3, .int p2)]) C dX11_sorted_59 (by decide) rfl ?_
              refine j_iconst (pc := 61) (v := (-1)) C dX11_sorted_61 (by decide) ?_
              refine j_istore (pc := 62) (lv' := [(5, .int (-1)), (4, .int p0), (0, .ref m0), (1, .int p0), (2, .int p1), (3, .int p2)]) C dX11_sorted_62 (by decide) rfl ?_
              refine j_iconst (pc := 64) (v := 0) C dX11_sorted_64 (by decide) ?_
              refine j_istore (pc := 65) (lv' := [(6, .int 0), (5, .int (-1)), (4, .int p0), (0, .ref m0), (1, .int p0), (2, .int p1), (3, .int p2)]) C dX11_sorted_65 (by decide) rfl ?_
              refine j_iconst (pc := 67) (v := 0) C dX11_sorted_67 (by decide) ?_
              refine j_istore (pc := 68) (lv' := [(7, .int 0), (6, .int 0), (5, .int (-1)), (4, .int p0), (0, .ref m0), (1, .int p0), (2, .int p1), (3, .int p2)]) C dX11_sorted_68 (by decide) rfl ?_
              have loop_18 : ∀ (k_18 : Nat) (x18_7 : Int32) (x18_6 : Int32) (x18_5 : Int32) (x18_4 : Int32), (0 ≤ (x18_7).toInt ∧ (x18_7).toInt ≤ 13) → (0 ≤ (x18_6).toInt ∧ (x18_6).toInt ≤ 999) → (-1 ≤ (x18_5).toInt ∧ (x18_5).toInt ≤ 11) → (0 ≤ (x18_4).toInt ∧ (x18_4).toInt ≤ 4095) → (bN x18_4 12 = bN p0 12 - x18_7.toInt) → (x18_4.toInt < (2 : Int) ^ (m_told 0).toInt.toNat) → (x18_7.toInt ≤ (p2).toInt → FL m_told (u_1.2.2.1 3) (u_1.2.2.1 4) (0) x18_4 x18_5 x18_6 p1) → (13 - x18_7.toInt).toNat < k_18 → J p l e ({ frames := 5, cells := 0, slots := 0, locals := 117 } : Room) s m args below meth c D A 9 0 0 (QX below D (TY cyC cyI cyJ cyZ cyO) A (fun u => some (.int (u.2.1 0))) (fun u => (0 ≤ (u.2.1 1).toInt ∧ (u.2.1 1).toInt ≤ 1) ∧ (Iv 49152 (0) (100000000) (u.2.2.1 4)) ∧ (((u.2.1 1)).toInt = 0 → TALL m_told (u.2.2.1 3) (u.2.2.1 4))) (fun u => [(m0, .inr (11, [.int 0, .ref mtape, .int m_taped, .int m_size, .ref msort, .ref mplace, .ref mvalue, .int m_at, .int m_fault, .ref mwords, .ref mtold, .ref mop, .ref marg, .int m_codes, .ref mnames, .ref mhasHabit, .int (u.2.1 1), .ref mfactWords, .ref mfacts, .ref mpile, .ref mstates, .ref misMarked, .int m_inShelf, .int m_inStack, .int m_inPlace, .ref mrow, .int m_rowMany, .ref mthr, .ref mmays, .ref mtall, .ref mweights, .ref mrowOfWare, .ref mneededOf, .int m_goShelf, .int m_goStack, .int m_goLeft, .ref mtried, .ref mbestRow, .int m_bestCost, .int m_bestMany, .int m_bestShelf, .int m_bestSet, .ref mdigits])), (mtold, .inl (cyI, 240, .inl m_told)), (mop, .inl (cyI, 2200, .inl m_op)), (marg, .inl (cyI, 2200, .inl m_arg)), (mfacts, .inl (cyI, 8, .inl (u.2.2.1 0))), (mpile, .inl (cyI, 1100, .inl (u.2.2.1 1))), (mthr, .inl (cyZ, 144, .inl (u.2.2.1 2))), (mmays, .inl (cyZ, 144, .inl (u.2.2.1 3))), (mtall, .inl (cyI, 49152, .inl (u.2.2.1 4))), (mweights, .inl (cyI, 4096, .inl (u.2.2.1 5)))]) args s 0 0) [(mop, .inl (cyI, 2200, .inl m_op)), (marg, .inl (cyI, 2200, .inl m_arg)), (mfacts, .inl (cyI, 8, .inl (u_1.2.2.1 0))), (mpile, .inl (cyI, 1100, .inl (u_1.2.2.1 1))), (mthr, .inl (cyZ, 144, .inl (u_1.2.2.1 2))), (mmays, .inl (cyZ, 144, .inl (u_1.2.2.1 3))), (mweights, .inl (cyI, 4096, .inl (u_1.2.2.1 5))), (m0, .inr (11, [.int 0, .ref mtape, .int m_taped, .int m_size, .ref msort, .ref mplace, .ref mvalue, .int m_at, .int m_fault, .ref mwords, .ref mtold, .ref mop, .ref marg, .int m_codes, .ref mnames, .ref mhasHabit, .int (u_1.2.1 0), .ref mfactWords, .ref mfacts, .ref mpile, .ref mstates, .ref misMarked, .int m_inShelf, .int m_inStack, .int m_inPlace, .ref mrow, .int m_rowMany, .ref mthr, .ref mmays, .ref mtall, .ref mweights, .ref mrowOfWare, .ref mneededOf, .int m_goShelf, .int m_goStack, .int m_goLeft, .ref mtried, .ref mbestRow, .int m_bestCost, .int m_bestMany, .int m_bestShelf, .int m_bestSet, .ref mdigits])), (mtold, .inl (cyI, 240, .inl m_told)), (mtall, .inl (cyI, 49152, .inl (u_1.2.2.1 4)))] 70 [(7, .int x18_7), (6, .int x18_6), (5, .int x18_5), (4, .int x18_4), (0, .ref m0), (1, .int p0), (2, .int p1), (3, .int p2)] [] := by
                intro k_18
                induction k_18 with
                | zero =>
                  intro x18_7 x18_6 x18_5 x18_4 hi_18_0 hi_18_1 hi_18_2 hi_18_3 hq_18_0 hq_18_1 hq_18_2 hm_18
                  exact absurd hm_18 (Nat.not_lt_zero _)
                | succ k_18 ih_18 =>
                  intro x18_7 x18_6 x18_5 x18_4 hi_18_0 hi_18_1 hi_18_2 hi_18_3 hq_18_0 hq_18_1 hq_18_2 hm_18
                  refine j_iload (pc := 70) C dX11_sorted_70 0 rfl ?_
                  refine j_iload_n (pc := 72) C dX11_sorted_72 rfl 7 rfl ?_
                  refine j_icmp_gt (pc := 73) (tgt := 144) C dX11_sorted_73 (by decide) (fun c_19 => ?_) (fun c_19 => ?_)
                  · skip
                    rw [i_lt] at c_19
                    refine j_iload (pc := 144) C dX11_sorted_144 2 rfl ?_
                    exact j_iret (pc := 146) C hr hk (fun i => [].getD i 0, fun i => [x18_5, (u_1.2.1 0)].getD i 0, fun i => [(u_1.2.2.1 0), (u_1.2.2.1 1), (u_1.2.2.1 2), (u_1.2.2.1 3), (u_1.2.2.1 4), (u_1.2.2.1 5)].getD i (fun _ => 0), fun i => [].getD i (fun _ => 0)) rfl (show (0 ≤ ((u_1.2.1 0)).toInt ∧ ((u_1.2.1 0)).toInt ≤ 1) ∧ (Iv 49152 (0) (100000000) (u_1.2.2.1 4)) ∧ (((u_1.2.1 0)).toInt = 0 → TALL m_told (u_1.2.2.1 3) (u_1.2.2.1 4)) from ⟨by omega, hw_2_1, (fun _ => hw_2_2)⟩) [7, 8, 0, 1, 2, 3, 4, 5, 9, 6] (by decide) rfl (by decide) (by decide) dX11_sorted_146
                  · skip
                    rw [i_lt] at c_19
                    refine j_iconst (pc := 76) (v := 0) C dX11_sorted_76 (by decide) ?_
                    refine j_istore (pc := 77) (lv' := [(8, .int 0), (7, .int x18_7), (6, .int x18_6), (5, .int x18_5), (4, .int x18_4), (0, .ref m0), (1, .int p0), (2, .int p1), (3, .int p2)]) C dX11_sorted_77 (by decide) rfl ?_
                    have loop_20 : ∀ (k_20 : Nat) (x20_8 : Int32), (0 ≤ (x20_8).toInt ∧ (x20_8).toInt ≤ 11) → (FL m_told (u_1.2.2.1 3) (u_1.2.2.1 4) (x20_8.toInt) x18_4 x18_5 x18_6 p1) → (12 - x20_8.toInt).toNat < k_20 → J p l e ({ frames := 5, cells := 0, slots := 0, locals := 117 } : Room) s m args below meth c D A 9 0 0 (QX below D (TY cyC cyI cyJ cyZ cyO) A (fun u => some (.int (u.2.1 0))) (fun u => (0 ≤ (u.2.1 1).toInt ∧ (u.2.1 1).toInt ≤ 1) ∧ (Iv 49152 (0) (100000000) (u.2.2.1 4)) ∧ (((u.2.1 1)).toInt = 0 → TALL m_told (u.2.2.1 3) (u.2.2.1 4))) (fun u => [(m0, .inr (11, [.int 0, .ref mtape, .int m_taped, .int m_size, .ref msort, .ref mplace, .ref mvalue, .int m_at, .int m_fault, .ref mwords, .ref mtold, .ref mop, .ref marg, .int m_codes, .ref mnames, .ref mhasHabit, .int (u.2.1 1), .ref mfactWords, .ref mfacts, .ref mpile, .ref mstates, .ref misMarked, .int m_inShelf, .int m_inStack, .int m_inPlace, .ref mrow, .int m_rowMany, .ref mthr, .ref mmays, .ref mtall, .ref mweights, .ref mrowOfWare, .ref mneededOf, .int m_goShelf, .int m_goStack, .int m_goLeft, .ref mtried, .ref mbestRow, .int m_bestCost, .int m_bestMany, .int m_bestShelf, .int m_bestSet, .ref mdigits])), (mtold, .inl (cyI, 240, .inl m_told)), (mop, .inl (cyI, 2200, .inl m_op)), (marg, .inl (cyI, 2200, .inl m_arg)), (mfacts, .inl (cyI, 8, .inl (u.2.2.1 0))), (mpile, .inl (cyI, 1100, .inl (u.2.2.1 1))), (mthr, .inl (cyZ, 144, .inl (u.2.2.1 2))), (mmays, .inl (cyZ, 144, .inl (u.2.2.1 3))), (mtall, .inl (cyI, 49152, .inl (u.2.2.1 4))), (mweights, .inl (cyI, 4096, .inl (u.2.2.1 5)))]) args s 0 0) [(mop, .inl (cyI, 2200, .inl m_op)), (marg, .inl (cyI, 2200, .inl m_arg)), (mfacts, .inl (cyI, 8, .inl (u_1.2.2.1 0))), (mpile, .inl (cyI, 1100, .inl (u_1.2.2.1 1))), (mthr, .inl (cyZ, 144, .inl (u_1.2.2.1 2))), (mmays, .inl (cyZ, 144, .inl (u_1.2.2.1 3))), (mweights, .inl (cyI, 4096, .inl (u_1.2.2.1 5))), (m0, .inr (11, [.int 0, .ref mtape, .int m_taped, .int m_size, .ref msort, .ref mplace, .ref mvalue, .int m_at, .int m_fault, .ref mwords, .ref mtold, .ref mop, .ref marg, .int m_codes, .ref mnames, .ref mhasHabit, .int (u_1.2.1 0), .ref mfactWords, .ref mfacts, .ref mpile, .ref mstates, .ref misMarked, .int m_inShelf, .int m_inStack, .int m_inPlace, .ref mrow, .int m_rowMany, .ref mthr, .ref mmays, .ref mtall, .ref mweights, .ref mrowOfWare, .ref mneededOf, .int m_goShelf, .int m_goStack, .int m_goLeft, .ref mtried, .ref mbestRow, .int m_bestCost, .int m_bestMany, .int m_bestShelf, .int m_bestSet, .ref mdigits])), (mtold, .inl (cyI, 240, .inl m_told)), (mtall, .inl (cyI, 49152, .inl (u_1.2.2.1 4)))] 79 [(8, .int x20_8), (7, .int x18_7), (6, .int x18_6), (5, .int x18_5), (4, .int x18_4), (0, .ref m0), (1, .int p0), (2, .int p1), (3, .int p2)] [] := by
                      intro k_20
                      induction k_20 with
                      | zero =>
                        intro x20_8 hi_20_0 hq_20_0 hm_20
                        exact absurd hm_20 (Nat.not_lt_zero _)
                      | succ k_20 ih_20 =>
                        intro x20_8 hi_20_0 hq_20_0 hm_20
                        refine j_aload_n (pc := 79) C dX11_sorted_79 rfl 5 rfl ?_
                        refine j_iload (pc := 80) C dX11_sorted_80 0 rfl ?_
                        refine j_iload (pc := 82) C dX11_sorted_82 4 rfl ?_
                        refine j_iload (pc := 84) C dX11_sorted_84 3 rfl ?_
                        refine j_iload (pc := 86) C dX11_sorted_86 2 rfl ?_
                        refine j_iload_n (pc := 88) C dX11_sorted_88 rfl 7 rfl ?_
                        refine j_callV (pc := 89) (As := [.int x20_8, .int x18_4, .int x18_5, .int x18_6, .int p1]) (rest := []) (wr := [(mop, .inl (cyI, 2200, .inl m_op)), (marg, .inl (cyI, 2200, .inl m_arg)), (mfacts, .inl (cyI, 8, .inl (u_1.2.2.1 0))), (mpile, .inl (cyI, 1100, .inl (u_1.2.2.1 1))), (mthr, .inl (cyZ, 144, .inl (u_1.2.2.1 2))), (mweights, .inl (cyI, 4096, .inl (u_1.2.2.1 5)))]) C (c_X11_mayFollow l D cyC cyI cyJ cyZ cyO m0 mtold mmays mtall mtape msort mplace mvalue mwords mop marg mnames mhasHabit mfactWords mfacts mpile mstates misMarked mrow mthr mweights mrowOfWare mneededOf mtried mbestRow mdigits x20_8 x18_4 x18_5 x18_6 p1 0 m_taped m_size m_at m_fault m_codes (u_1.2.1 0) m_inShelf m_inStack m_inPlace m_rowMany m_goShelf m_goStack m_goLeft m_bestCost m_bestMany m_bestShelf m_bestSet m_told (u_1.2.2.1 3) (u_1.2.2.1 4) h_m_taped h_m_size h_m_at h_m_fault h_m_codes (by omega) h_m_inShelf h_m_inStack h_m_inPlace h_m_rowMany h_m_goShelf h_m_bestMany h_m_bestShelf hi_20_0 hi_18_3 hi_18_2 hi_18_1 (by omega) h_m_told hw_2_1) wd_945 wd_624 wd_946 wd_947 wd_948 ⟨by decide, by decide, rfl⟩ rfl ⟨rfl, rfl, by decide, by decide⟩ ⟨by decide, by decide⟩ [7, 8, 5, 9] [0, 1, 2, 3, 4, 6] rfl rfl ⟨by decide, by decide, by decide⟩ 7 rfl rfl rfl (Nat.le_of_ble_eq_true rfl) dX11_sorted_89 (fun u_21 hw_22 => ?_)
                        refine j_eq (ws2 := [(mop, .inl (cyI, 2200, .inl m_op)), (marg, .inl (cyI, 2200, .inl m_arg)), (mfacts, .inl (cyI, 8, .inl (u_1.2.2.1 0))), (mpile, .inl (cyI, 1100, .inl (u_1.2.2.1 1))), (mthr, .inl (cyZ, 144, .inl (u_1.2.2.1 2))), (mweights, .inl (cyI, 4096, .inl (u_1.2.2.1 5))), (m0, .inr (11, [.int 0, .ref mtape, .int m_taped, .int m_size, .ref msort, .ref mplace, .ref mvalue, .int m_at, .int m_fault, .ref mwords, .ref mtold, .ref mop, .ref marg, .int m_codes, .ref mnames, .ref mhasHabit, .int (u_1.2.1 0), .ref mfactWords, .ref mfacts, .ref mpile, .ref mstates, .ref misMarked, .int m_inShelf, .int m_inStack, .int m_inPlace, .ref mrow, .int m_rowMany, .ref mthr, .ref mmays, .ref mtall, .ref mweights, .ref mrowOfWare, .ref mneededOf, .int m_goShelf, .int m_goStack, .int m_goLeft, .ref mtried, .ref mbestRow, .int m_bestCost, .int m_bestMany, .int m_bestShelf, .int m_bestSet, .ref mdigits])), (mtold, .inl (cyI, 240, .inl m_told)), (mmays, .inl (cyZ, 144, .inl (u_1.2.2.1 3))), (mtall, .inl (cyI, 49152, .inl (u_1.2.2.1 4)))]) (pc2 := 92) (lv2 := [(8, .int x20_8), (7, .int x18_7), (6, .int x18_6), (5, .int x18_5), (4, .int x18_4), (0, .ref m0), (1, .int p0), (2, .int p1), (3, .int p2)]) (st2 := [.int (u_21.2.1 0)]) rfl rfl rfl rfl ?_
                        obtain ⟨hw_22_0, hw_22_1, hw_22_2⟩ := hw_22
                        refine j_if_ne (pc := 92) (tgt := 101) C dX11_sorted_92 (by decide) (fun c_23 => ?_) (fun c_23 => ?_)
                        · skip
                          have el_0 : (0 : Int32).toInt = 0 := rfl
                          rw [i_eq] at c_23
                          have k0c_23 : ((u_21.2.1 0)).toInt = 1 := by omega
                          refine j_iload (pc := 101) C dX11_sorted_101 2 rfl ?_
                          refine j_iload (pc := 103) C dX11_sorted_103 3 rfl ?_
                          refine j_if_ge (pc := 105) (tgt := 112) C dX11_sorted_105 (by decide) (fun c_24 => ?_) (fun c_24 => ?_)
                          · skip
                            have el_0 : (0 : Int32).toInt = 0 := rfl
                            rw [i_le] at c_24
                            refine j_aload_n (pc := 112) C dX11_sorted_112 rfl 5 rfl ?_
                            refine j_iload (pc := 113) C dX11_sorted_113 0 rfl ?_
                            refine j_iload (pc := 115) C dX11_sorted_115 3 rfl ?_
                            refine j_callV (pc := 117) (As := [.int x20_8, .int x18_5]) (rest := [.int x18_6]) (wr := [(mop, .inl (cyI, 2200, .inl m_op)), (marg, .inl (cyI, 2200, .inl m_arg)), (mfacts, .inl (cyI, 8, .inl (u_1.2.2.1 0))), (mpile, .inl (cyI, 1100, .inl (u_1.2.2.1 1))), (mthr, .inl (cyZ, 144, .inl (u_1.2.2.1 2))), (mweights, .inl (cyI, 4096, .inl (u_1.2.2.1 5))), (mmays, .inl (cyZ, 144, .inl (u_1.2.2.1 3))), (mtall, .inl (cyI, 49152, .inl (u_1.2.2.1 4)))]) C (c_X11_rises_f l D cyC cyI cyJ cyZ cyO m0 mtold mtape msort mplace mvalue mwords mop marg mnames mhasHabit mfactWords mfacts mpile mstates misMarked mrow mthr mmays mtall mweights mrowOfWare mneededOf mtried mbestRow mdigits x20_8 x18_5 0 m_taped m_size m_at m_fault m_codes (u_1.2.1 0) m_inShelf m_inStack m_inPlace m_rowMany m_goShelf m_goStack m_goLeft m_bestCost m_bestMany m_bestShelf m_bestSet m_told h_m_taped h_m_size h_m_at h_m_fault h_m_codes (by omega) h_m_inShelf h_m_inStack h_m_inPlace h_m_rowMany h_m_goShelf h_m_bestMany h_m_bestShelf hi_20_0 (by omega) h_m_told) wd_789 wd_624 wd_790 wd_791 wd_792 ⟨by decide, by decide, rfl⟩ rfl ⟨rfl, rfl, by decide, by decide⟩ ⟨by decide, by decide⟩ [6, 7] [0, 1, 2, 3, 4, 5, 8, 9] rfl rfl ⟨by decide, by decide, by decide⟩ 6 rfl rfl rfl (Nat.le_of_ble_eq_true rfl) dX11_sorted_117 (fun u_25 hw_26 => ?_)
                            refine j_eq (ws2 := [(mop, .inl (cyI, 2200, .inl m_op)), (marg, .inl (cyI, 2200, .inl m_arg)), (mfacts, .inl (cyI, 8, .inl (u_1.2.2.1 0))), (mpile, .inl (cyI, 1100, .inl (u_1.2.2.1 1))), (mthr, .inl (cyZ, 144, .inl (u_1.2.2.1 2))), (mweights, .inl (cyI, 4096, .inl (u_1.2.2.1 5))), (mmays, .inl (cyZ, 144, .inl (u_1.2.2.1 3))), (mtall, .inl (cyI, 49152, .inl (u_1.2.2.1 4))), (m0, .inr (11, [.int 0, .ref mtape, .int m_taped, .int m_size, .ref msort, .ref mplace, .ref mvalue, .int m_at, .int m_fault, .ref mwords, .ref mtold, .ref mop, .ref marg, .int m_codes, .ref mnames, .ref mhasHabit, .int (u_1.2.1 0), .ref mfactWords, .ref mfacts, .ref mpile, .ref mstates, .ref misMarked, .int m_inShelf, .int m_inStack, .int m_inPlace, .ref mrow, .int m_rowMany, .ref mthr, .ref mmays, .ref mtall, .ref mweights, .ref mrowOfWare, .ref mneededOf, .int m_goShelf, .int m_goStack, .int m_goLeft, .ref mtried, .ref mbestRow, .int m_bestCost, .int m_bestMany, .int m_bestShelf, .int m_bestSet, .ref mdigits])), (mtold, .inl (cyI, 240, .inl m_told))]) (pc2 := 120) (lv2 := [(8, .int x20_8), (7, .int x18_7), (6, .int x18_6), (5, .int x18_5), (4, .int x18_4), (0, .ref m0), (1, .int p0), (2, .int p1), (3, .int p2)]) (st2 := [.int (u_25.2.1 0), .int x18_6]) rfl rfl rfl rfl ?_
                            obtain ⟨hw_26_0, hw_26_1⟩ := hw_26
                            obtain ⟨v_27, ev_27⟩ : ∃ z : Int32, x18_6 + (u_25.2.1 0) = z := ⟨_, rfl⟩
                            have hv_27 : v_27.toInt = x18_6.toInt + ((u_25.2.1 0)).toInt := by rw [← ev_27]; exact fb_addI (by omega) (by omega)
                            refine j_iadd (pc := 120) (v := v_27) C dX11_sorted_120 ev_27 ?_
                            refine j_istore (pc := 121) (lv' := [(6, .int v_27), (8, .int x20_8), (7, .int x18_7), (5, .int x18_5), (4, .int x18_4), (0, .ref m0), (1, .int p0), (2, .int p1), (3, .int p2)]) C dX11_sorted_121 (by decide) rfl ?_
                            refine j_iload (pc := 123) C dX11_sorted_123 1 rfl ?_
                            refine j_istore (pc := 125) (lv' := [(5, .int x20_8), (6, .int v_27), (8, .int x20_8), (7, .int x18_7), (4, .int x18_4), (0, .ref m0), (1, .int p0), (2, .int p1), (3, .int p2)]) C dX11_sorted_125 (by decide) rfl ?_
                            refine j_iload (pc := 127) C dX11_sorted_127 4 rfl ?_
                            refine j_iconst (pc := 129) (v := 1) C dX11_sorted_129 (by decide) ?_
                            refine j_iload (pc := 130) C dX11_sorted_130 2 rfl ?_
                            obtain ⟨v_28, ev_28⟩ : ∃ z : Int32, 1 <<< (x20_8 &&& 31) = z := ⟨_, rfl⟩
                            have el_1 : (1 : Int32).toInt = 1 := rfl
                            have hv_28 : 1 ≤ v_28.toInt ∧ v_28.toInt ≤ 2048 := by rw [← ev_28]; exact shl1_iv 0 11 (by omega) (by omega) (by omega)
                            refine j_ishl (pc := 132) (v := v_28) C dX11_sorted_132 ev_28 ?_
                            refine j_iconst (pc := 133) (v := (-1)) C dX11_sorted_133 (by decide) ?_
                            obtain ⟨v_29, ev_29⟩ : ∃ z : Int32, v_28 ^^^ (-1) = z := ⟨_, rfl⟩
                            have el_m1 : ((-1) : Int32).toInt = (-1) := rfl
                            refine j_ixor (pc := 134) (v := v_29) C dX11_sorted_134 ev_29 ?_
                            obtain ⟨v_30, ev_30⟩ : ∃ z : Int32, x18_4 &&& v_29 = z := ⟨_, rfl⟩
                            have hv_30 : 0 ≤ v_30.toInt ∧ v_30.toInt ≤ x18_4.toInt := by rw [← ev_30]; exact andb_l (by omega)
                            refine j_iand (pc := 135) (v := v_30) C dX11_sorted_135 ev_30 ?_
                            refine j_istore (pc := 136) (lv' := [(4, .int v_30), (5, .int x20_8), (6, .int v_27), (8, .int x20_8), (7, .int x18_7), (0, .ref m0), (1, .int p0), (2, .int p1), (3, .int p2)]) C dX11_sorted_136 (by decide) rfl ?_
                            obtain ⟨l8, hl81, hl82, -⟩ := hq_20_0
                            obtain ⟨fo1, fo2, fo3⟩ := hw_22_1 (by omega)
                            have ecl : cl x18_4 x20_8 = v_30 := by unfold cl; rw [ev_28, ev_29, ev_30]
                            have hcl := cl_lt (x := x18_4) (l := x20_8) (by omega) (by omega) (by omega) fo1
                            rw [ecl] at hcl
                            have hbn := bN_cl (x := x18_4) (l := x20_8) (by omega) (by omega) fo1 12 (by decide)
                            rw [ecl, if_pos (by omega)] at hbn
                            have hta := hw_2_1 (12 * (x18_4).toInt.toNat + (x20_8).toInt.toNat) (by omega)
                            rw [if_neg (by omega), ← hw_26_1] at fo3
                            have htp := hw_2_2 x18_4 (by omega) (by omega) x20_8 (by omega) (by omega) fo1
                            rw [ecl] at htp
                            obtain ⟨v_31, ev_31⟩ : ∃ z : Int32, x18_7 + 1 = z := ⟨_, rfl⟩
                            have el_1 : (1 : Int32).toInt = 1 := rfl
                            have hv_31 : v_31.toInt = x18_7.toInt + (1 : Int32).toInt := by rw [← ev_31]; exact fb_addI (by omega) (by omega)
                            refine j_iinc (pc := 138) (v := v_31) (lv' := [(7, .int v_31), (4, .int v_30), (5, .int x20_8), (6, .int v_27), (8, .int x20_8), (0, .ref m0), (1, .int p0), (2, .int p1), (3, .int p2)]) C dX11_sorted_138 4 rfl ev_31 (by decide) rfl ?_
                            refine j_goto (pc := 141) (tgt := 70) C dX11_sorted_141 (by decide) ?_
                            refine j_subG (ws' := [(mop, .inl (cyI, 2200, .inl m_op)), (marg, .inl (cyI, 2200, .inl m_arg)), (mfacts, .inl (cyI, 8, .inl (u_1.2.2.1 0))), (mpile, .inl (cyI, 1100, .inl (u_1.2.2.1 1))), (mthr, .inl (cyZ, 144, .inl (u_1.2.2.1 2))), (mmays, .inl (cyZ, 144, .inl (u_1.2.2.1 3))), (mweights, .inl (cyI, 4096, .inl (u_1.2.2.1 5))), (m0, .inr (11, [.int 0, .ref mtape, .int m_taped, .int m_size, .ref msort, .ref mplace, .ref mvalue, .int m_at, .int m_fault, .ref mwords, .ref mtold, .ref mop, .ref marg, .int m_codes, .ref mnames, .ref mhasHabit, .int (u_1.2.1 0), .ref mfactWords, .ref mfacts, .ref mpile, .ref mstates, .ref misMarked, .int m_inShelf, .int m_inStack, .int m_inPlace, .ref mrow, .int m_rowMany, .ref mthr, .ref mmays, .ref mtall, .ref mweights, .ref mrowOfWare, .ref mneededOf, .int m_goShelf, .int m_goStack, .int m_goLeft, .ref mtried, .ref mbestRow, .int m_bestCost, .int m_bestMany, .int m_bestShelf, .int m_bestSet, .ref mdigits])), (mtold, .inl (cyI, 240, .inl m_told)), (mtall, .inl (cyI, 49152, .inl (u_1.2.2.1 4)))]) [0, 1, 2, 3, 4, 6, 5, 8, 9, 7] (by decide) rfl ?_
                            exact j_lv [0, 3, 2, 1, 5, 6, 7, 8] rfl (ih_18 v_31 v_27 x20_8 v_30 (by omega) (by omega) (by omega) (by omega) (by omega) (by omega) (fun hp => by rcases htp with z | z; (exfalso; rw [z, bN_z] at hbn; omega); (obtain ⟨l, l1, l2, l3, l4, l5⟩ := z (by omega); exact ⟨l, l1, l2, l3, fun _ => l4, by (rw [if_neg (by omega)]; omega)⟩)) (by omega))
                          · skip
                            have el_0 : (0 : Int32).toInt = 0 := rfl
                            rw [i_le] at c_24
                            have k0c_24 : x18_5.toInt = -1 := by omega
                            refine j_iconst (pc := 108) (v := 0) C dX11_sorted_108 (by decide) ?_
                            refine j_goto (pc := 109) (tgt := 120) C dX11_sorted_109 (by decide) ?_
                            obtain ⟨v_32, ev_32⟩ : ∃ z : Int32, x18_6 + 0 = z := ⟨_, rfl⟩
                            have el_0 : (0 : Int32).toInt = 0 := rfl
                            have hv_32 : v_32.toInt = x18_6.toInt + (0 : Int32).toInt := by rw [← ev_32]; exact fb_addI (by omega) (by omega)
                            refine j_iadd (pc := 120) (v := v_32) C dX11_sorted_120 ev_32 ?_
                            refine j_istore (pc := 121) (lv' := [(6, .int v_32), (8, .int x20_8), (7, .int x18_7), (5, .int x18_5), (4, .int x18_4), (0, .ref m0), (1, .int p0), (2, .int p1), (3, .int p2)]) C dX11_sorted_121 (by decide) rfl ?_
                            refine j_iload (pc := 123) C dX11_sorted_123 1 rfl ?_
                            refine j_istore (pc := 125) (lv' := [(5, .int x20_8), (6, .int v_32), (8, .int x20_8), (7, .int x18_7), (4, .int x18_4), (0, .ref m0), (1, .int p0), (2, .int p1), (3, .int p2)]) C dX11_sorted_125 (by decide) rfl ?_
                            refine j_iload (pc := 127) C dX11_sorted_127 4 rfl ?_
                            refine j_iconst (pc := 129) (v := 1) C dX11_sorted_129 (by decide) ?_
                            refine j_iload (pc := 130) C dX11_sorted_130 2 rfl ?_
                            obtain ⟨v_33, ev_33⟩ : ∃ z : Int32, 1 <<< (x20_8 &&& 31) = z := ⟨_, rfl⟩
                            have el_1 : (1 : Int32).toInt = 1 := rfl
                            have hv_33 : 1 ≤ v_33.toInt ∧ v_33.toInt ≤ 2048 := by rw [← ev_33]; exact shl1_iv 0 11 (by omega) (by omega) (by omega)
                            refine j_ishl (pc := 132) (v := v_33) C dX11_sorted_132 ev_33 ?_
                            refine j_iconst (pc := 133) (v := (-1)) C dX11_sorted_133 (by decide) ?_
                            obtain ⟨v_34, ev_34⟩ : ∃ z : Int32, v_33 ^^^ (-1) = z := ⟨_, rfl⟩
                            have el_m1 : ((-1) : Int32).toInt = (-1) := rfl
                            refine j_ixor (pc := 134) (v := v_34) C dX11_sorted_134 ev_34 ?_
                            obtain ⟨v_35, ev_35⟩ : ∃ z : Int32, x18_4 &&& v_34 = z := ⟨_, rfl⟩
                            have hv_35 : 0 ≤ v_35.toInt ∧ v_35.toInt ≤ x18_4.toInt := by rw [← ev_35]; exact andb_l (by omega)
                            refine j_iand (pc := 135) (v := v_35) C dX11_sorted_135 ev_35 ?_
                            refine j_istore (pc := 136) (lv' := [(4, .int v_35), (5, .int x20_8), (6, .int v_32), (8, .int x20_8), (7, .int x18_7), (0, .ref m0), (1, .int p0), (2, .int p1), (3, .int p2)]) C dX11_sorted_136 (by decide) rfl ?_
                            obtain ⟨l8, hl81, hl82, -⟩ := hq_20_0
                            obtain ⟨fo1, fo2, fo3⟩ := hw_22_1 (by omega)
                            have ecl : cl x18_4 x20_8 = v_35 := by unfold cl; rw [ev_33, ev_34, ev_35]
                            have hcl := cl_lt (x := x18_4) (l := x20_8) (by omega) (by omega) (by omega) fo1
                            rw [ecl] at hcl
                            have hbn := bN_cl (x := x18_4) (l := x20_8) (by omega) (by omega) fo1 12 (by decide)
                            rw [ecl, if_pos (by omega)] at hbn
                            have hta := hw_2_1 (12 * (x18_4).toInt.toNat + (x20_8).toInt.toNat) (by omega)
                            rw [if_pos (by omega)] at fo3
                            have htp := hw_2_2 x18_4 (by omega) (by omega) x20_8 (by omega) (by omega) fo1
                            rw [ecl] at htp
                            obtain ⟨v_36, ev_36⟩ : ∃ z : Int32, x18_7 + 1 = z := ⟨_, rfl⟩
                            have el_1 : (1 : Int32).toInt = 1 := rfl
                            have hv_36 : v_36.toInt = x18_7.toInt + (1 : Int32).toInt := by rw [← ev_36]; exact fb_addI (by omega) (by omega)
                            refine j_iinc (pc := 138) (v := v_36) (lv' := [(7, .int v_36), (4, .int v_35), (5, .int x20_8), (6, .int v_32), (8, .int x20_8), (0, .ref m0), (1, .int p0), (2, .int p1), (3, .int p2)]) C dX11_sorted_138 4 rfl ev_36 (by decide) rfl ?_
                            refine j_goto (pc := 141) (tgt := 70) C dX11_sorted_141 (by decide) ?_
                            refine j_subG (ws' := [(mop, .inl (cyI, 2200, .inl m_op)), (marg, .inl (cyI, 2200, .inl m_arg)), (mfacts, .inl (cyI, 8, .inl (u_1.2.2.1 0))), (mpile, .inl (cyI, 1100, .inl (u_1.2.2.1 1))), (mthr, .inl (cyZ, 144, .inl (u_1.2.2.1 2))), (mmays, .inl (cyZ, 144, .inl (u_1.2.2.1 3))), (mweights, .inl (cyI, 4096, .inl (u_1.2.2.1 5))), (m0, .inr (11, [.int 0, .ref mtape, .int m_taped, .int m_size, .ref msort, .ref mplace, .ref mvalue, .int m_at, .int m_fault, .ref mwords, .ref mtold, .ref mop, .ref marg, .int m_codes, .ref mnames, .ref mhasHabit, .int (u_1.2.1 0), .ref mfactWords, .ref mfacts, .ref mpile, .ref mstates, .ref misMarked, .int m_inShelf, .int m_inStack, .int m_inPlace, .ref mrow, .int m_rowMany, .ref mthr, .ref mmays, .ref mtall, .ref mweights, .ref mrowOfWare, .ref mneededOf, .int m_goShelf, .int m_goStack, .int m_goLeft, .ref mtried, .ref mbestRow, .int m_bestCost, .int m_bestMany, .int m_bestShelf, .int m_bestSet, .ref mdigits])), (mtold, .inl (cyI, 240, .inl m_told)), (mtall, .inl (cyI, 49152, .inl (u_1.2.2.1 4)))]) [0, 1, 2, 3, 4, 8, 5, 6, 7, 9] (by decide) rfl ?_
                            exact j_lv [0, 3, 2, 1, 5, 6, 7, 8] rfl (ih_18 v_36 v_32 x20_8 v_35 (by omega) (by omega) (by omega) (by omega) (by omega) (by omega) (fun hp => by rcases htp with z | z; (exfalso; rw [z, bN_z] at hbn; omega); (obtain ⟨l, l1, l2, l3, l4, l5⟩ := z (by omega); exact ⟨l, l1, l2, l3, fun _ => l4, by (rw [if_neg (by omega)]; omega)⟩)) (by omega))
                        · skip
                          have el_0 : (0 : Int32).toInt = 0 := rfl
                          rw [i_eq] at c_23
                          obtain ⟨l9, hl1, hl2, hl3⟩ := hq_20_0
                          have hne : ¬ l9.toInt = (x20_8).toInt := fun z => hw_22_2 (by omega) (by rw [← (i_eq l9 x20_8).mpr z]; exact hl3)
                          obtain ⟨v_37, ev_37⟩ : ∃ z : Int32, x20_8 + 1 = z := ⟨_, rfl⟩
                          have el_1 : (1 : Int32).toInt = 1 := rfl
                          have hv_37 : v_37.toInt = x20_8.toInt + (1 : Int32).toInt := by rw [← ev_37]; exact fb_addI (by omega) (by omega)
                          refine j_iinc (pc := 95) (v := v_37) (lv' := [(8, .int v_37), (7, .int x18_7), (6, .int x18_6), (5, .int x18_5), (4, .int x18_4), (0, .ref m0), (1, .int p0), (2, .int p1), (3, .int p2)]) C dX11_sorted_95 0 rfl ev_37 (by decide) rfl ?_
                          refine j_goto (pc := 98) (tgt := 79) C dX11_sorted_98 (by decide) ?_
                          refine j_subG (ws' := [(mop, .inl (cyI, 2200, .inl m_op)), (marg, .inl (cyI, 2200, .inl m_arg)), (mfacts, .inl (cyI, 8, .inl (u_1.2.2.1 0))), (mpile, .inl (cyI, 1100, .inl (u_1.2.2.1 1))), (mthr, .inl (cyZ, 144, .inl (u_1.2.2.1 2))), (mmays, .inl (cyZ, 144, .inl (u_1.2.2.1 3))), (mweights, .inl (cyI, 4096, .inl (u_1.2.2.1 5))), (m0, .inr (11, [.int 0, .ref mtape, .int m_taped, .int m_size, .ref msort, .ref mplace, .ref mvalue, .int m_at, .int m_fault, .ref mwords, .ref mtold, .ref mop, .ref marg, .int m_codes, .ref mnames, .ref mhasHabit, .int (u_1.2.1 0), .ref mfactWords, .ref mfacts, .ref mpile, .ref mstates, .ref misMarked, .int m_inShelf, .int m_inStack, .int m_inPlace, .ref mrow, .int m_rowMany, .ref mthr, .ref mmays, .ref mtall, .ref mweights, .ref mrowOfWare, .ref mneededOf, .int m_goShelf, .int m_goStack, .int m_goLeft, .ref mtried, .ref mbestRow, .int m_bestCost, .int m_bestMany, .int m_bestShelf, .int m_bestSet, .ref mdigits])), (mtold, .inl (cyI, 240, .inl m_told)), (mtall, .inl (cyI, 49152, .inl (u_1.2.2.1 4)))]) [0, 1, 2, 3, 4, 8, 5, 6, 7, 9] (by decide) rfl ?_
                          exact j_lv [0, 1, 2, 3, 4, 5, 6, 7, 8] rfl (ih_20 v_37 (by omega) ⟨l9, by omega, hl2, hl3⟩ (by omega))
                    have el_0 : (0 : Int32).toInt = 0 := rfl
                    exact j_lv [0, 1, 2, 3, 4, 5, 6, 7, 8] rfl (loop_20 4096 0 (by decide) (hq_18_2 (by omega)) (by omega))
              have el_0 : (0 : Int32).toInt = 0 := rfl
              have el_0 : (0 : Int32).toInt = 0 := rfl
              have el_m1 : ((-1) : Int32).toInt = (-1) := rfl
              exact j_lv [0, 1, 2, 3, 4, 5, 6, 7] rfl (loop_18 4096 0 0 (-1) p0 (by decide) (by decide) (by decide) (by omega) (by omega) (by omega) (fun _ => by rcases hw_16_1 with z | z; (exfalso; omega); (obtain ⟨l, l1, l2, l3, l4⟩ := z; exact ⟨l, l1, l2, l3, fun h => absurd h (by decide), by (rw [if_pos (by decide)]; omega)⟩)) (by omega))
            · skip
              have el_0 : (0 : Int32).toInt = 0 := rfl
              rw [i_eq] at c_17
              refine j_iconst (pc := 56) (v := (-1)) C dX11_sorted_56 (by decide) ?_
              have el_m1 : ((-1) : Int32).toInt = (-1) := rfl
              exact j_iret (pc := 57) C hr hk (fun i => [].getD i 0, fun i => [(-1), (u_1.2.1 0)].getD i 0, fun i => [(u_1.2.2.1 0), (u_1.2.2.1 1), (u_1.2.2.1 2), (u_1.2.2.1 3), (u_1.2.2.1 4), (u_1.2.2.1 5)].getD i (fun _ => 0), fun i => [].getD i (fun _ => 0)) rfl (show (0 ≤ ((u_1.2.1 0)).toInt ∧ ((u_1.2.1 0)).toInt ≤ 1) ∧ (Iv 49152 (0) (100000000) (u_1.2.2.1 4)) ∧ (((u_1.2.1 0)).toInt = 0 → TALL m_told (u_1.2.2.1 3) (u_1.2.2.1 4)) from ⟨by omega, hw_2_1, (fun _ => hw_2_2)⟩) [7, 8, 0, 1, 2, 3, 4, 5, 9, 6] (by decide) rfl (by decide) (by decide) dX11_sorted_57
