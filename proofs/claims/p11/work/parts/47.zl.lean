theorem wd_841 : Cond.code yX11_whyNotPut cX11_whyNotPut 5 (some .int) ∈ WALL := wl_in (by decide +kernel) (by decide +kernel)
theorem wd_842 : Cond.methodLink RX11 333 yX11_whyNotPut ∈ WALL := wl_in (by decide +kernel) (by decide +kernel)
theorem wd_843 : Cond.instanceMethod yX11_whyNotPut ∈ WALL := wl_in (by decide +kernel) (by decide +kernel)
theorem wd_844 : Cond.selects RX11 yX11_whyNotPut yX11_whyNotPut ∈ WALL := wl_in (by decide +kernel) (by decide +kernel)
theorem wd_845 : Cond.code yX11_puts cX11_puts 7 none ∈ WALL := wl_in (by decide +kernel) (by decide +kernel)
theorem wd_846 : Cond.methodLink RX11 337 yX11_puts ∈ WALL := wl_in (by decide +kernel) (by decide +kernel)
theorem wd_847 : Cond.instanceMethod yX11_puts ∈ WALL := wl_in (by decide +kernel) (by decide +kernel)
theorem wd_848 : Cond.selects RX11 yX11_puts yX11_puts ∈ WALL := wl_in (by decide +kernel) (by decide +kernel)
theorem dX11_puts_0 : decode cX11_puts 0 = .ok (.iload 4, 2) := by decide +kernel
theorem dX11_puts_2 : decode cX11_puts 2 = .ok (.iconst (-1), 1) := by decide +kernel
theorem dX11_puts_3 : decode cX11_puts 3 = .ok (.if_icmp .ne 12, 3) := by decide +kernel
theorem dX11_puts_6 : decode cX11_puts 6 = .ok (.aload_n 0, 1) := by decide +kernel
theorem dX11_puts_7 : decode cX11_puts 7 = .ok (.iload_n 1, 1) := by decide +kernel
theorem dX11_puts_8 : decode cX11_puts 8 = .ok (.iload_n 3, 1) := by decide +kernel
theorem dX11_puts_9 : decode cX11_puts 9 = .ok (.invokevirtual 291, 3) := by decide +kernel
theorem dX11_puts_12 : decode cX11_puts 12 = .ok (.goto 5, 3) := by decide +kernel
theorem dX11_puts_15 : decode cX11_puts 15 = .ok (.iload 4, 2) := by decide +kernel
theorem dX11_puts_17 : decode cX11_puts 17 = .ok (.istore 5, 2) := by decide +kernel
theorem dX11_puts_19 : decode cX11_puts 19 = .ok (.iload_n 1, 1) := by decide +kernel
theorem dX11_puts_20 : decode cX11_puts 20 = .ok (.iload_n 3, 1) := by decide +kernel
theorem dX11_puts_21 : decode cX11_puts 21 = .ok (.iload 5, 2) := by decide +kernel
theorem dX11_puts_23 : decode cX11_puts 23 = .ok (.invokestatic 294, 3) := by decide +kernel
theorem dX11_puts_26 : decode cX11_puts 26 = .ok (.istore 6, 2) := by decide +kernel
theorem dX11_puts_28 : decode cX11_puts 28 = .ok (.iload 4, 2) := by decide +kernel
theorem dX11_puts_30 : decode cX11_puts 30 = .ok (.iconst (-1), 1) := by decide +kernel
theorem dX11_puts_31 : decode cX11_puts 31 = .ok (.if_icmp .ne 26, 3) := by decide +kernel
theorem dX11_puts_34 : decode cX11_puts 34 = .ok (.aload_n 0, 1) := by decide +kernel
theorem dX11_puts_35 : decode cX11_puts 35 = .ok (.getfield 108, 3) := by decide +kernel
theorem dX11_puts_38 : decode cX11_puts 38 = .ok (.iload 6, 2) := by decide +kernel
theorem dX11_puts_40 : decode cX11_puts 40 = .ok (.iconst 0, 1) := by decide +kernel
theorem dX11_puts_41 : decode cX11_puts 41 = .ok (.iastore, 1) := by decide +kernel
theorem dX11_puts_42 : decode cX11_puts 42 = .ok (.aload_n 0, 1) := by decide +kernel
theorem dX11_puts_43 : decode cX11_puts 43 = .ok (.getfield 108, 3) := by decide +kernel
theorem dX11_puts_46 : decode cX11_puts 46 = .ok (.iload_n 1, 1) := by decide +kernel
theorem dX11_puts_47 : decode cX11_puts 47 = .ok (.bipush 105, 2) := by decide +kernel
theorem dX11_puts_49 : decode cX11_puts 49 = .ok (.iload_n 3, 1) := by decide +kernel
theorem dX11_puts_50 : decode cX11_puts 50 = .ok (.imul, 1) := by decide +kernel
theorem dX11_puts_51 : decode cX11_puts 51 = .ok (.iadd, 1) := by decide +kernel
theorem dX11_puts_52 : decode cX11_puts 52 = .ok (.dup2, 1) := by decide +kernel
theorem dX11_puts_53 : decode cX11_puts 53 = .ok (.iaload, 1) := by decide +kernel
theorem dX11_puts_54 : decode cX11_puts 54 = .ok (.iconst 1, 1) := by decide +kernel
theorem dX11_puts_55 : decode cX11_puts 55 = .ok (.iadd, 1) := by decide +kernel
theorem dX11_puts_56 : decode cX11_puts 56 = .ok (.iastore, 1) := by decide +kernel
theorem dX11_puts_57 : decode cX11_puts 57 = .ok (.aload_n 0, 1) := by decide +kernel
theorem dX11_puts_58 : decode cX11_puts 58 = .ok (.getfield 108, 3) := by decide +kernel
theorem dX11_puts_61 : decode cX11_puts 61 = .ok (.iload 6, 2) := by decide +kernel
theorem dX11_puts_63 : decode cX11_puts 63 = .ok (.iconst 1, 1) := by decide +kernel
theorem dX11_puts_64 : decode cX11_puts 64 = .ok (.iadd, 1) := by decide +kernel
theorem dX11_puts_65 : decode cX11_puts 65 = .ok (.aload_n 0, 1) := by decide +kernel
theorem dX11_puts_66 : decode cX11_puts 66 = .ok (.getfield 108, 3) := by decide +kernel
theorem dX11_puts_69 : decode cX11_puts 69 = .ok (.iload 6, 2) := by decide +kernel
theorem dX11_puts_71 : decode cX11_puts 71 = .ok (.iaload, 1) := by decide +kernel
theorem dX11_puts_72 : decode cX11_puts 72 = .ok (.iadd, 1) := by decide +kernel
theorem dX11_puts_73 : decode cX11_puts 73 = .ok (.iload_n 2, 1) := by decide +kernel
theorem dX11_puts_74 : decode cX11_puts 74 = .ok (.iastore, 1) := by decide +kernel
theorem dX11_puts_75 : decode cX11_puts 75 = .ok (.aload_n 0, 1) := by decide +kernel
theorem dX11_puts_76 : decode cX11_puts 76 = .ok (.getfield 108, 3) := by decide +kernel
theorem dX11_puts_79 : decode cX11_puts 79 = .ok (.iload 6, 2) := by decide +kernel
theorem dX11_puts_81 : decode cX11_puts 81 = .ok (.dup2, 1) := by decide +kernel
theorem dX11_puts_82 : decode cX11_puts 82 = .ok (.iaload, 1) := by decide +kernel
theorem dX11_puts_83 : decode cX11_puts 83 = .ok (.iconst 1, 1) := by decide +kernel
theorem dX11_puts_84 : decode cX11_puts 84 = .ok (.iadd, 1) := by decide +kernel
theorem dX11_puts_85 : decode cX11_puts 85 = .ok (.iastore, 1) := by decide +kernel
theorem dX11_puts_86 : decode cX11_puts 86 = .ok (.return_, 1) := by decide +kernel
theorem dX11_put_0 : decode cX11_put 0 = .ok (.aload_n 0, 1) := by decide +kernel
theorem dX11_put_1 : decode cX11_put 1 = .ok (.iconst 0, 1) := by decide +kernel
theorem dX11_put_2 : decode cX11_put 2 = .ok (.putfield 1, 3) := by decide +kernel
theorem dX11_put_5 : decode cX11_put 5 = .ok (.aload_n 0, 1) := by decide +kernel
theorem dX11_put_6 : decode cX11_put 6 = .ok (.iconst 0, 1) := by decide +kernel
theorem dX11_put_7 : decode cX11_put 7 = .ok (.iload_n 1, 1) := by decide +kernel
theorem dX11_put_8 : decode cX11_put 8 = .ok (.iload_n 2, 1) := by decide +kernel
theorem dX11_put_9 : decode cX11_put 9 = .ok (.iload_n 3, 1) := by decide +kernel
theorem dX11_put_10 : decode cX11_put 10 = .ok (.invokevirtual 333, 3) := by decide +kernel
theorem dX11_put_13 : decode cX11_put 13 = .ok (.istore 4, 2) := by decide +kernel
theorem dX11_put_15 : decode cX11_put 15 = .ok (.iload 4, 2) := by decide +kernel
theorem dX11_put_17 : decode cX11_put 17 = .ok (.ifCond .ne 28, 3) := by decide +kernel
theorem dX11_put_20 : decode cX11_put 20 = .ok (.aload_n 0, 1) := by decide +kernel
theorem dX11_put_21 : decode cX11_put 21 = .ok (.iconst 0, 1) := by decide +kernel
theorem dX11_put_22 : decode cX11_put 22 = .ok (.iload_n 1, 1) := by decide +kernel
theorem dX11_put_23 : decode cX11_put 23 = .ok (.iload_n 2, 1) := by decide +kernel
theorem dX11_put_24 : decode cX11_put 24 = .ok (.iload_n 3, 1) := by decide +kernel
theorem dX11_put_25 : decode cX11_put 25 = .ok (.invokevirtual 337, 3) := by decide +kernel
theorem dX11_put_28 : decode cX11_put 28 = .ok (.aload_n 0, 1) := by decide +kernel
theorem dX11_put_29 : decode cX11_put 29 = .ok (.getfield 108, 3) := by decide +kernel
theorem dX11_put_32 : decode cX11_put 32 = .ok (.sipush 420, 3) := by decide +kernel
theorem dX11_put_35 : decode cX11_put 35 = .ok (.dup2, 1) := by decide +kernel
theorem dX11_put_36 : decode cX11_put 36 = .ok (.iaload, 1) := by decide +kernel
theorem dX11_put_37 : decode cX11_put 37 = .ok (.aload_n 0, 1) := by decide +kernel
theorem dX11_put_38 : decode cX11_put 38 = .ok (.iload_n 1, 1) := by decide +kernel
theorem dX11_put_39 : decode cX11_put 39 = .ok (.iload_n 2, 1) := by decide +kernel
theorem dX11_put_40 : decode cX11_put 40 = .ok (.invokevirtual 341, 3) := by decide +kernel
theorem dX11_put_43 : decode cX11_put 43 = .ok (.iadd, 1) := by decide +kernel
theorem dX11_put_44 : decode cX11_put 44 = .ok (.iastore, 1) := by decide +kernel
theorem dX11_put_45 : decode cX11_put 45 = .ok (.iload 4, 2) := by decide +kernel
theorem dX11_put_47 : decode cX11_put 47 = .ok (.ireturn, 1) := by decide +kernel
set_option maxHeartbeats 4000000 in
set_option maxRecDepth 100000 in
theorem c_X11_puts_0 (l : Launch) (D : DG) (cyC cyI cyJ cyZ cyO : ClassId) (m0 : Nat) (mtold : Nat) (mstates : Nat) (mtape : Nat) (msort : Nat) (mplace : Nat) (mvalue : Nat) (mwords : Nat) (mop : Nat) (marg : Nat) (mnames : Nat) (mhasHabit : Nat) (mfactWords : Nat) (mfacts : Nat) (mpile : Nat) (misMarked : Nat) (mrow : Nat) (mthr : Nat) (mmays : Nat) (mtall : Nat) (mweights : Nat) (mrowOfWare : Nat) (mneededOf : Nat) (mtried : Nat) (mbestRow : Nat) (mdigits : Nat) (p1 : Int32) (p2 : Int32) (p3 : Int32) (m_thrown : Int32) (m_taped : Int32) (m_size : Int32) (m_at : Int32) (m_fault : Int32) (m_codes : Int32) (m_isNew : Int32) (m_inShelf : Int32) (m_inStack : Int32) (m_inPlace : Int32) (m_rowMany : Int32) (m_goShelf : Int32) (m_goStack : Int32) (m_goLeft : Int32) (m_bestCost : Int32) (m_bestMany : Int32) (m_bestShelf : Int32) (m_bestSet : Int32) (m_told : Nat → Int32) (m_states : Nat → Int32) (h_m_taped : 0 ≤ (m_taped).toInt ∧ (m_taped).toInt ≤ 1000) (h_m_size : 0 ≤ (m_size).toInt ∧ (m_size).toInt ≤ 1000) (h_m_at : 0 ≤ (m_at).toInt ∧ (m_at).toInt ≤ 1000) (h_m_fault : 0 ≤ (m_fault).toInt ∧ (m_fault).toInt ≤ 16005) (h_m_codes : 0 ≤ (m_codes).toInt ∧ (m_codes).toInt ≤ 1000) (h_m_isNew : 0 ≤ (m_isNew).toInt ∧ (m_isNew).toInt ≤ 1) (h_m_inShelf : 0 ≤ (m_inShelf).toInt ∧ (m_inShelf).toInt ≤ 3) (h_m_inStack : 0 ≤ (m_inStack).toInt ∧ (m_inStack).toInt ≤ 7) (h_m_inPlace : 0 ≤ (m_inPlace).toInt ∧ (m_inPlace).toInt ≤ 11) (h_m_rowMany : 0 ≤ (m_rowMany).toInt ∧ (m_rowMany).toInt ≤ 12) (h_m_goShelf : -1 ≤ (m_goShelf).toInt ∧ (m_goShelf).toInt ≤ 3) (h_m_bestMany : 0 ≤ (m_bestMany).toInt ∧ (m_bestMany).toInt ≤ 7) (h_m_bestShelf : 0 ≤ (m_bestShelf).toInt ∧ (m_bestShelf).toInt ≤ 3) (h_p1 : 0 ≤ (p1).toInt ∧ (p1).toInt ≤ 11) (h_p2 : 0 ≤ (p2).toInt ∧ (p2).toInt ≤ 3) (h_p3 : -1 ≤ (p3).toInt ∧ (p3).toInt ≤ 7) (h_m_told : TV m_told) (h_m_states : SV m_states) (hDU : DU m_states) (hCR : CRs m_states m_told 0) (hPK : PK m_states m_told 0 0 p1 p2 p3) : KK l D (TY cyC cyI cyJ cyZ cyO) yX11_puts cX11_puts 7 none ({ frames := 1, cells := 0, slots := 0, locals := 22 } : Room) 0 0 [.ref m0, .int 0, .int p1, .int p2, .int p3] [(m0, .inr (11, [.int m_thrown, .ref mtape, .int m_taped, .int m_size, .ref msort, .ref mplace, .ref mvalue, .int m_at, .int m_fault, .ref mwords, .ref mtold, .ref mop, .ref marg, .int m_codes, .ref mnames, .ref mhasHabit, .int m_isNew, .ref mfactWords, .ref mfacts, .ref mpile, .ref mstates, .ref misMarked, .int m_inShelf, .int m_inStack, .int m_inPlace, .ref mrow, .int m_rowMany, .ref mthr, .ref mmays, .ref mtall, .ref mweights, .ref mrowOfWare, .ref mneededOf, .int m_goShelf, .int m_goStack, .int m_goLeft, .ref mtried, .ref mbestRow, .int m_bestCost, .int m_bestMany, .int m_bestShelf, .int m_bestSet, .ref mdigits])), (mtold, .inl (cyI, 240, .inl m_told)), (mstates, .inl (cyI, 2760, .inl m_states))] (fun u => none) (fun u => (SV (u.2.2.1 0)) ∧ (DU (u.2.2.1 0)) ∧ (CRs (u.2.2.1 0) m_told 0) ∧ (∀ j : Nat, (j < 0 ∨ 420 ≤ j) → (u.2.2.1 0) j = m_states j) ∧ (PTS m_states (u.2.2.1 0) 0 p1 p2 p3)) (fun u => [(m0, .inr (11, [.int m_thrown, .ref mtape, .int m_taped, .int m_size, .ref msort, .ref mplace, .ref mvalue, .int m_at, .int m_fault, .ref mwords, .ref mtold, .ref mop, .ref marg, .int m_codes, .ref mnames, .ref mhasHabit, .int m_isNew, .ref mfactWords, .ref mfacts, .ref mpile, .ref mstates, .ref misMarked, .int m_inShelf, .int m_inStack, .int m_inPlace, .ref mrow, .int m_rowMany, .ref mthr, .ref mmays, .ref mtall, .ref mweights, .ref mrowOfWare, .ref mneededOf, .int m_goShelf, .int m_goStack, .int m_goLeft, .ref mtried, .ref mbestRow, .int m_bestCost, .int m_bestMany, .int m_bestShelf, .int m_bestSet, .ref mdigits])), (mtold, .inl (cyI, 240, .inl m_told)), (mstates, .inl (cyI, 2760, .inl (u.2.2.1 0)))]) := by
  refine KK.of (lv0 := [(0, .ref m0), (1, .int 0), (2, .int p1), (3, .int p2), (4, .int p3)]) (by decide) rfl (Nat.le_of_ble_eq_true rfl) ?_
  intro p e s m args below meth c A C hr hk hin
  refine j_iload (pc := 0) C dX11_puts_0 4 rfl ?_
  refine j_iconst (pc := 2) (v := (-1)) C dX11_puts_2 (by decide) ?_
  refine j_icmp_ne (pc := 3) (tgt := 15) C dX11_puts_3 (by decide) (fun c_1 => ?_) (fun c_1 => ?_)
  · skip
    have el_m1 : ((-1) : Int32).toInt = (-1) := rfl
    rw [i_eq] at c_1
    refine j_iload (pc := 15) C dX11_puts_15 4 rfl ?_
    refine j_istore (pc := 17) (lv' := [(5, .int p3), (0, .ref m0), (1, .int 0), (2, .int p1), (3, .int p2), (4, .int p3)]) C dX11_puts_17 (by decide) rfl ?_
    refine j_iload_n (pc := 19) C dX11_puts_19 rfl 2 rfl ?_
    refine j_iload_n (pc := 20) C dX11_puts_20 rfl 4 rfl ?_
    refine j_iload (pc := 21) C dX11_puts_21 0 rfl ?_
    refine j_callS (pc := 23) (As := [.int 0, .int p2, .int p3]) (rest := []) (wr := [(m0, .inr (11, [.int m_thrown, .ref mtape, .int m_taped, .int m_size, .ref msort, .ref mplace, .ref mvalue, .int m_at, .int m_fault, .ref mwords, .ref mtold, .ref mop, .ref marg, .int m_codes, .ref mnames, .ref mhasHabit, .int m_isNew, .ref mfactWords, .ref mfacts, .ref mpile, .ref mstates, .ref misMarked, .int m_inShelf, .int m_inStack, .int m_inPlace, .ref mrow, .int m_rowMany, .ref mthr, .ref mmays, .ref mtall, .ref mweights, .ref mrowOfWare, .ref mneededOf, .int m_goShelf, .int m_goStack, .int m_goLeft, .ref mtried, .ref mbestRow, .int m_bestCost, .int m_bestMany, .int m_bestShelf, .int m_bestSet, .ref mdigits])), (mtold, .inl (cyI, 240, .inl m_told)), (mstates, .inl (cyI, 2760, .inl m_states))]) C (c_X11_stackAt l D cyC cyI cyJ cyZ cyO 0 p2 p3 (by decide) h_p2 (by omega)) wd_773 wd_624 wd_774 wd_775 ⟨by decide, by decide, rfl⟩ rfl ⟨rfl, rfl, by decide, by decide⟩ ⟨by decide, by decide⟩ [] [0, 1, 2] rfl rfl ⟨by decide, by decide, by decide⟩ rfl (Nat.le_of_ble_eq_true rfl) dX11_puts_23 (fun u_2 hw_3 => ?_)
    refine j_eq (ws2 := [(m0, .inr (11, [.int m_thrown, .ref mtape, .int m_taped, .int m_size, .ref msort, .ref mplace, .ref mvalue, .int m_at, .int m_fault, .ref mwords, .ref mtold, .ref mop, .ref marg, .int m_codes, .ref mnames, .ref mhasHabit, .int m_isNew, .ref mfactWords, .ref mfacts, .ref mpile, .ref mstates, .ref misMarked, .int m_inShelf, .int m_inStack, .int m_inPlace, .ref mrow, .int m_rowMany, .ref mthr, .ref mmays, .ref mtall, .ref mweights, .ref mrowOfWare, .ref mneededOf, .int m_goShelf, .int m_goStack, .int m_goLeft, .ref mtried, .ref mbestRow, .int m_bestCost, .int m_bestMany, .int m_bestShelf, .int m_bestSet, .ref mdigits])), (mtold, .inl (cyI, 240, .inl m_told)), (mstates, .inl (cyI, 2760, .inl m_states))]) (pc2 := 26) (lv2 := [(5, .int p3), (0, .ref m0), (1, .int 0), (2, .int p1), (3, .int p2), (4, .int p3)]) (st2 := [.int (u_2.2.1 0)]) rfl rfl rfl rfl ?_
    obtain ⟨hw_3_0, hw_3_1⟩ := hw_3
    have el_0 : (0 : Int32).toInt = 0 := rfl
    have ad_4 : AD (u_2.2.1 0).toInt := ⟨0, (p2).toInt.toNat, (p3).toInt.toNat, by decide, by omega, by omega, by omega⟩
    refine j_istore (pc := 26) (lv' := [(6, .int (u_2.2.1 0)), (5, .int p3), (0, .ref m0), (1, .int 0), (2, .int p1), (3, .int p2), (4, .int p3)]) C dX11_puts_26 (by decide) rfl ?_
    refine j_iload (pc := 28) C dX11_puts_28 6 rfl ?_
    refine j_iconst (pc := 30) (v := (-1)) C dX11_puts_30 (by decide) ?_
    have el_m1 : ((-1) : Int32).toInt = (-1) := rfl
    refine j_icmp_ne_t (pc := 31) (tgt := 57) C dX11_puts_31 (by decide) (by rw [i_eq]; omega) ?_
    refine j_aload_n (pc := 57) C dX11_puts_57 rfl 2 rfl ?_
    refine j_get (pc := 58) (ci := 11) (v := .ref mstates) C inw_11 0 rfl rfl 20 (by decide) wd_764 rfl rfl dX11_puts_58 ?_
    refine j_iload (pc := 61) C dX11_puts_61 0 rfl ?_
    refine j_iconst (pc := 63) (v := 1) C dX11_puts_63 (by decide) ?_
    obtain ⟨v_5, ev_5⟩ : ∃ z : Int32, (u_2.2.1 0) + 1 = z := ⟨_, rfl⟩
    have el_1 : (1 : Int32).toInt = 1 := rfl
    have hv_5 : v_5.toInt = ((u_2.2.1 0)).toInt + (1 : Int32).toInt := by rw [← ev_5]; exact fb_addI (by omega) (by omega)
    refine j_iadd (pc := 64) (v := v_5) C dX11_puts_64 ev_5 ?_
    refine j_aload_n (pc := 65) C dX11_puts_65 rfl 2 rfl ?_
    refine j_get (pc := 66) (ci := 11) (v := .ref mstates) C inw_11 0 rfl rfl 20 (by decide) wd_764 rfl rfl dX11_puts_66 ?_
    refine j_iload (pc := 69) C dX11_puts_69 0 rfl ?_
    obtain ⟨v_6, ev_6⟩ : ∃ z, m_states ((u_2.2.1 0)).toInt.toNat = z := ⟨_, rfl⟩
    have env_6 : (m_states ((u_2.2.1 0)).toInt.toNat).toInt = v_6.toInt := by rw [ev_6]
    have hv_6 : 0 ≤ v_6.toInt ∧ v_6.toInt ≤ 12 := by rw [← ev_6]; exact SV.siz h_m_states ad_4 (by omega)
    refine j_iald (pc := 71) (v := v_6) (k := ((u_2.2.1 0)).toInt.toNat) C 2 1 rfl rfl (i_nn (by omega)) rfl (i_lt_n (by omega) (by omega)) ev_6 dX11_puts_71 ?_
    have hz9 := DU.room (w := p1) (i := ((u_2.2.1 0)).toInt.toNat) hDU h_m_states ad_4.nat (by omega) (PK.ne hPK (by decide) (by omega) (by omega) (by omega) (by omega))
    rw [ev_6] at hz9
    obtain ⟨v_7, ev_7⟩ : ∃ z : Int32, v_5 + v_6 = z := ⟨_, rfl⟩
    have hv_7 : v_7.toInt = v_5.toInt + v_6.toInt := by rw [← ev_7]; exact fb_addI (by omega) (by omega)
    refine j_iadd (pc := 72) (v := v_7) C dX11_puts_72 ev_7 ?_
    refine j_iload_n (pc := 73) C dX11_puts_73 rfl 4 rfl ?_
    obtain ⟨f_8, ef_8⟩ : ∃ z, z = upd m_states (v_7).toInt.toNat p1 := ⟨_, rfl⟩
    have hf_8 : SV f_8 := by rw [ef_8]; exact SV.uwar h_m_states ad_4 (by omega) (by omega) (by omega)
    refine j_iast (pc := 74) (k := (v_7).toInt.toNat) (ws' := [(m0, .inr (11, [.int m_thrown, .ref mtape, .int m_taped, .int m_size, .ref msort, .ref mplace, .ref mvalue, .int m_at, .int m_fault, .ref mwords, .ref mtold, .ref mop, .ref marg, .int m_codes, .ref mnames, .ref mhasHabit, .int m_isNew, .ref mfactWords, .ref mfacts, .ref mpile, .ref mstates, .ref misMarked, .int m_inShelf, .int m_inStack, .int m_inPlace, .ref mrow, .int m_rowMany, .ref mthr, .ref mmays, .ref mtall, .ref mweights, .ref mrowOfWare, .ref mneededOf, .int m_goShelf, .int m_goStack, .int m_goLeft, .ref mtried, .ref mbestRow, .int m_bestCost, .int m_bestMany, .int m_bestShelf, .int m_bestSet, .ref mdigits])), (mtold, .inl (cyI, 240, .inl m_told)), (mstates, .inl (cyI, 2760, .inl f_8))]) C 2 1 rfl rfl (i_nn (by omega)) rfl (i_lt_n (by omega) (by omega)) dX11_puts_74 (by rw [ef_8]; rfl) ?_
    refine j_aload_n (pc := 75) C dX11_puts_75 rfl 2 rfl ?_
    refine j_get (pc := 76) (ci := 11) (v := .ref mstates) C inw_11 0 rfl rfl 20 (by decide) wd_764 rfl rfl dX11_puts_76 ?_
    refine j_iload (pc := 79) C dX11_puts_79 0 rfl ?_
    refine j_dup2 (pc := 81) C dX11_puts_81 rfl rfl ?_
    obtain ⟨v_9, ev_9⟩ : ∃ z, f_8 ((u_2.2.1 0)).toInt.toNat = z := ⟨_, rfl⟩
    have env_9 : (f_8 ((u_2.2.1 0)).toInt.toNat).toInt = v_9.toInt := by rw [ev_9]
    have hv_9 : 0 ≤ v_9.toInt ∧ v_9.toInt ≤ 12 := by rw [← ev_9]; exact SV.siz hf_8 ad_4 (by omega)
    refine j_iald (pc := 82) (v := v_9) (k := ((u_2.2.1 0)).toInt.toNat) C 2 1 rfl rfl (i_nn (by omega)) rfl (i_lt_n (by omega) (by omega)) ev_9 dX11_puts_82 ?_
    have hy8 : v_9.toInt = v_6.toInt := by rw [← ev_9, ef_8, pk_un (show ¬ ((u_2.2.1 0)).toInt.toNat = (v_7).toInt.toNat from (by omega)), ev_6]
    refine j_iconst (pc := 83) (v := 1) C dX11_puts_83 (by decide) ?_
    obtain ⟨v_10, ev_10⟩ : ∃ z : Int32, v_9 + 1 = z := ⟨_, rfl⟩
    have el_1 : (1 : Int32).toInt = 1 := rfl
    have hv_10 : v_10.toInt = v_9.toInt + (1 : Int32).toInt := by rw [← ev_10]; exact fb_addI (by omega) (by omega)
    refine j_iadd (pc := 84) (v := v_10) C dX11_puts_84 ev_10 ?_
    obtain ⟨f_11, ef_11⟩ : ∃ z, z = upd f_8 ((u_2.2.1 0)).toInt.toNat v_10 := ⟨_, rfl⟩
    have hf_11 : SV f_11 := by rw [ef_11]; exact SV.usiz hf_8 ad_4 (by omega) (by omega)
    refine j_iast (pc := 85) (k := ((u_2.2.1 0)).toInt.toNat) (ws' := [(m0, .inr (11, [.int m_thrown, .ref mtape, .int m_taped, .int m_size, .ref msort, .ref mplace, .ref mvalue, .int m_at, .int m_fault, .ref mwords, .ref mtold, .ref mop, .ref marg, .int m_codes, .ref mnames, .ref mhasHabit, .int m_isNew, .ref mfactWords, .ref mfacts, .ref mpile, .ref mstates, .ref misMarked, .int m_inShelf, .int m_inStack, .int m_inPlace, .ref mrow, .int m_rowMany, .ref mthr, .ref mmays, .ref mtall, .ref mweights, .ref mrowOfWare, .ref mneededOf, .int m_goShelf, .int m_goStack, .int m_goLeft, .ref mtried, .ref mbestRow, .int m_bestCost, .int m_bestMany, .int m_bestShelf, .int m_bestSet, .ref mdigits])), (mtold, .inl (cyI, 240, .inl m_told)), (mstates, .inl (cyI, 2760, .inl f_11))]) C 2 1 rfl rfl (i_nn (by omega)) rfl (i_lt_n (by omega) (by omega)) dX11_puts_85 (by rw [ef_11]; rfl) ?_
    exact j_vret (pc := 86) C hr hk (fun i => [].getD i 0, fun i => [].getD i 0, fun i => [f_11].getD i (fun _ => 0), fun i => [].getD i (fun _ => 0)) rfl (show (SV f_11) ∧ (DU f_11) ∧ (CRs f_11 m_told 0) ∧ (∀ j : Nat, (j < 0 ∨ 420 ≤ j) → f_11 j = m_states j) ∧ (PTS m_states f_11 0 p1 p2 p3) from ⟨hf_11, (by rw [ef_11, ef_8]; exact DU.add hDU ad_4.nat (by omega) (by omega) (by omega) (PK.ne hPK (by decide) (by omega) (by omega) (by omega) (by omega)) (by omega)), (by rw [ef_11, ef_8]; exact CRs.stk (CRs.stk hCR ad_4.nat (by omega)) ad_4.nat (by omega)), (fun j hj => by rw [ef_11, pk_un (show ¬ j = ((u_2.2.1 0)).toInt.toNat from (by omega)), ef_8, pk_un (show ¬ j = (v_7).toInt.toNat from (by omega))]), (fun k0 n0 hk hn => by have e1 : plc (p3).toInt (m_states (0 + 105 * (p2).toInt.toNat)).toInt = (p3).toInt := if_neg (by omega); rw [e1] at hk; have e2 : nPt (p3).toInt (m_states (0 + 105 * (p2).toInt.toNat + 1 + 13 * k0)).toInt = (m_states (0 + 105 * (p2).toInt.toNat + 1 + 13 * k0)).toInt := if_neg (by omega); rw [e2] at hn; have e3 : (m_states (0 + 105 * (p2).toInt.toNat + 1 + 13 * k0)).toInt = (v_6).toInt := (by rw [show 0 + 105 * (p2).toInt.toNat + 1 + 13 * k0 = ((u_2.2.1 0)).toInt.toNat from (by omega), ev_6]); exact ⟨⟨by omega, by omega⟩, (by rw [ef_11, pk_un (show ¬ 0 + 105 * (p2).toInt.toNat = ((u_2.2.1 0)).toInt.toNat from (by omega)), ef_8, pk_un (show ¬ 0 + 105 * (p2).toInt.toNat = (v_7).toInt.toNat from (by omega)), if_neg (by omega)]; omega), (by rw [ef_11, show 0 + 105 * (p2).toInt.toNat + 1 + 13 * k0 = ((u_2.2.1 0)).toInt.toNat from (by omega), pk_us]; omega), (by rw [ef_11, pk_un (show ¬ 0 + 105 * (p2).toInt.toNat + 1 + 13 * k0 + 1 + n0 = ((u_2.2.1 0)).toInt.toNat from (by omega)), ef_8, show 0 + 105 * (p2).toInt.toNat + 1 + 13 * k0 + 1 + n0 = (v_7).toInt.toNat from (by omega), pk_us]), (fun j j0 j1 j2 j3 => by rw [ef_11, pk_un (show ¬ j = ((u_2.2.1 0)).toInt.toNat from (by omega)), ef_8, pk_un (show ¬ j = (v_7).toInt.toNat from (by omega))])⟩)⟩) [0, 1, 2] (by decide) rfl (by decide) (by decide) dX11_puts_86
  · skip
    have el_m1 : ((-1) : Int32).toInt = (-1) := rfl
    rw [i_eq] at c_1
    refine j_aload_n (pc := 6) C dX11_puts_6 rfl 0 rfl ?_
    refine j_iload_n (pc := 7) C dX11_puts_7 rfl 1 rfl ?_
    refine j_iload_n (pc := 8) C dX11_puts_8 rfl 3 rfl ?_
    refine j_callV (pc := 9) (As := [.int 0, .int p2]) (rest := []) (wr := [(mtold, .inl (cyI, 240, .inl m_told))]) C (c_X11_stacks_0 l D cyC cyI cyJ cyZ cyO m0 mstates mtape msort mplace mvalue mwords mtold mop marg mnames mhasHabit mfactWords mfacts mpile misMarked mrow mthr mmays mtall mweights mrowOfWare mneededOf mtried mbestRow mdigits p2 m_thrown m_taped m_size m_at m_fault m_codes m_isNew m_inShelf m_inStack m_inPlace m_rowMany m_goShelf m_goStack m_goLeft m_bestCost m_bestMany m_bestShelf m_bestSet m_states h_m_taped h_m_size h_m_at h_m_fault h_m_codes h_m_isNew h_m_inShelf h_m_inStack h_m_inPlace h_m_rowMany h_m_goShelf h_m_bestMany h_m_bestShelf h_p2 h_m_states) wd_769 wd_624 wd_770 wd_771 wd_772 ⟨by decide, by decide, rfl⟩ rfl ⟨rfl, rfl, by decide, by decide⟩ ⟨by decide, by decide⟩ [0, 2] [1] rfl rfl ⟨by decide, by decide, by decide⟩ 0 rfl rfl rfl (Nat.le_of_ble_eq_true rfl) dX11_puts_9 (fun u_12 hw_13 => ?_)
    refine j_eq (ws2 := [(mtold, .inl (cyI, 240, .inl m_told)), (m0, .inr (11, [.int m_thrown, .ref mtape, .int m_taped, .int m_size, .ref msort, .ref mplace, .ref mvalue, .int m_at, .int m_fault, .ref mwords, .ref mtold, .ref mop, .ref marg, .int m_codes, .ref mnames, .ref mhasHabit, .int m_isNew, .ref mfactWords, .ref mfacts, .ref mpile, .ref mstates, .ref misMarked, .int m_inShelf, .int m_inStack, .int m_inPlace, .ref mrow, .int m_rowMany, .ref mthr, .ref mmays, .ref mtall, .ref mweights, .ref mrowOfWare, .ref mneededOf, .int m_goShelf, .int m_goStack, .int m_goLeft, .ref mtried, .ref mbestRow, .int m_bestCost, .int m_bestMany, .int m_bestShelf, .int m_bestSet, .ref mdigits])), (mstates, .inl (cyI, 2760, .inl m_states))]) (pc2 := 12) (lv2 := [(0, .ref m0), (1, .int 0), (2, .int p1), (3, .int p2), (4, .int p3)]) (st2 := [.int (u_12.2.1 0)]) rfl rfl rfl rfl ?_
    obtain ⟨hw_13_0, hw_13_1⟩ := hw_13
    have hx9 := congrArg Int32.toInt hw_13_1
    have hz9 := PK.cnt hPK (by decide) (by omega) hCR (by omega)
    have hy9 := TV.room h_m_told (j := 101 + 3 * (p2).toInt.toNat) (by omega) (by omega)
    refine j_goto (pc := 12) (tgt := 17) C dX11_puts_12 (by decide) ?_
    refine j_istore (pc := 17) (lv' := [(5, .int (u_12.2.1 0)), (0, .ref m0), (1, .int 0), (2, .int p1), (3, .int p2), (4, .int p3)]) C dX11_puts_17 (by decide) rfl ?_
    refine j_iload_n (pc := 19) C dX11_puts_19 rfl 2 rfl ?_
    refine j_iload_n (pc := 20) C dX11_puts_20 rfl 4 rfl ?_
    refine j_iload (pc := 21) C dX11_puts_21 0 rfl ?_
    refine j_callS (pc := 23) (As := [.int 0, .int p2, .int (u_12.2.1 0)]) (rest := []) (wr := [(mtold, .inl (cyI, 240, .inl m_told)), (m0, .inr (11, [.int m_thrown, .ref mtape, .int m_taped, .int m_size, .ref msort, .ref mplace, .ref mvalue, .int m_at, .int m_fault, .ref mwords, .ref mtold, .ref mop, .ref marg, .int m_codes, .ref mnames, .ref mhasHabit, .int m_isNew, .ref mfactWords, .ref mfacts, .ref mpile, .ref mstates, .ref misMarked, .int m_inShelf, .int m_inStack, .int m_inPlace, .ref mrow, .int m_rowMany, .ref mthr, .ref mmays, .ref mtall, .ref mweights, .ref mrowOfWare, .ref mneededOf, .int m_goShelf, .int m_goStack, .int m_goLeft, .ref mtried, .ref mbestRow, .int m_bestCost, .int m_bestMany, .int m_bestShelf, .int m_bestSet, .ref mdigits])), (mstates, .inl (cyI, 2760, .inl m_states))]) C (c_X11_stackAt l D cyC cyI cyJ cyZ cyO 0 p2 (u_12.2.1 0) (by decide) h_p2 (by omega)) wd_773 wd_624 wd_774 wd_775 ⟨by decide, by decide, rfl⟩ rfl ⟨rfl, rfl, by decide, by decide⟩ ⟨by decide, by decide⟩ [] [0, 1, 2] rfl rfl ⟨by decide, by decide, by decide⟩ rfl (Nat.le_of_ble_eq_true rfl) dX11_puts_23 (fun u_14 hw_15 => ?_)
    refine j_eq (ws2 := [(mtold, .inl (cyI, 240, .inl m_told)), (m0, .inr (11, [.int m_thrown, .ref mtape, .int m_taped, .int m_size, .ref msort, .ref mplace, .ref mvalue, .int m_at, .int m_fault, .ref mwords, .ref mtold, .ref mop, .ref marg, .int m_codes, .ref mnames, .ref mhasHabit, .int m_isNew, .ref mfactWords, .ref mfacts, .ref mpile, .ref mstates, .ref misMarked, .int m_inShelf, .int m_inStack, .int m_inPlace, .ref mrow, .int m_rowMany, .ref mthr, .ref mmays, .ref mtall, .ref mweights, .ref mrowOfWare, .ref mneededOf, .int m_goShelf, .int m_goStack, .int m_goLeft, .ref mtried, .ref mbestRow, .int m_bestCost, .int m_bestMany, .int m_bestShelf, .int m_bestSet, .ref mdigits])), (mstates, .inl (cyI, 2760, .inl m_states))]) (pc2 := 26) (lv2 := [(5, .int (u_12.2.1 0)), (0, .ref m0), (1, .int 0), (2, .int p1), (3, .int p2), (4, .int p3)]) (st2 := [.int (u_14.2.1 0)]) rfl rfl rfl rfl ?_
    obtain ⟨hw_15_0, hw_15_1⟩ := hw_15
    have el_0 : (0 : Int32).toInt = 0 := rfl
    have ad_16 : AD (u_14.2.1 0).toInt := ⟨0, (p2).toInt.toNat, ((u_12.2.1 0)).toInt.toNat, by decide, by omega, by omega, by omega⟩
    refine j_istore (pc := 26) (lv' := [(6, .int (u_14.2.1 0)), (5, .int (u_12.2.1 0)), (0, .ref m0), (1, .int 0), (2, .int p1), (3, .int p2), (4, .int p3)]) C dX11_puts_26 (by decide) rfl ?_
    refine j_iload (pc := 28) C dX11_puts_28 6 rfl ?_
    refine j_iconst (pc := 30) (v := (-1)) C dX11_puts_30 (by decide) ?_
    have el_m1 : ((-1) : Int32).toInt = (-1) := rfl
    refine j_icmp_ne_f (pc := 31) (tgt := 57) C dX11_puts_31 (by decide) (by rw [i_eq]; omega) ?_
    refine j_aload_n (pc := 34) C dX11_puts_34 rfl 2 rfl ?_
    refine j_get (pc := 35) (ci := 11) (v := .ref mstates) C inw_11 1 rfl rfl 20 (by decide) wd_764 rfl rfl dX11_puts_35 ?_
    refine j_iload (pc := 38) C dX11_puts_38 0 rfl ?_
    refine j_iconst (pc := 40) (v := 0) C dX11_puts_40 (by decide) ?_
    obtain ⟨f_17, ef_17⟩ : ∃ z, z = upd m_states ((u_14.2.1 0)).toInt.toNat 0 := ⟨_, rfl⟩
    have el_0 : (0 : Int32).toInt = 0 := rfl
    have hf_17 : SV f_17 := by rw [ef_17]; exact SV.usiz h_m_states ad_16 (by omega) (by omega)
    refine j_iast (pc := 41) (k := ((u_14.2.1 0)).toInt.toNat) (ws' := [(mtold, .inl (cyI, 240, .inl m_told)), (m0, .inr (11, [.int m_thrown, .ref mtape, .int m_taped, .int m_size, .ref msort, .ref mplace, .ref mvalue, .int m_at, .int m_fault, .ref mwords, .ref mtold, .ref mop, .ref marg, .int m_codes, .ref mnames, .ref mhasHabit, .int m_isNew, .ref mfactWords, .ref mfacts, .ref mpile, .ref mstates, .ref misMarked, .int m_inShelf, .int m_inStack, .int m_inPlace, .ref mrow, .int m_rowMany, .ref mthr, .ref mmays, .ref mtall, .ref mweights, .ref mrowOfWare, .ref mneededOf, .int m_goShelf, .int m_goStack, .int m_goLeft, .ref mtried, .ref mbestRow, .int m_bestCost, .int m_bestMany, .int m_bestShelf, .int m_bestSet, .ref mdigits])), (mstates, .inl (cyI, 2760, .inl f_17))]) C 2 1 rfl rfl (i_nn (by omega)) rfl (i_lt_n (by omega) (by omega)) dX11_puts_41 (by rw [ef_17]; rfl) ?_
    refine j_aload_n (pc := 42) C dX11_puts_42 rfl 2 rfl ?_
    refine j_get (pc := 43) (ci := 11) (v := .ref mstates) C inw_11 1 rfl rfl 20 (by decide) wd_764 rfl rfl dX11_puts_43 ?_
    refine j_iload_n (pc := 46) C dX11_puts_46 rfl 3 rfl ?_
    refine j_bipush (pc := 47) (v := 105) C dX11_puts_47 (by decide) ?_
    refine j_iload_n (pc := 49) C dX11_puts_49 rfl 5 rfl ?_
    obtain ⟨v_18, ev_18⟩ : ∃ z : Int32, 105 * p2 = z := ⟨_, rfl⟩
    have el_105 : (105 : Int32).toInt = 105 := rfl
    have hv_18 : v_18.toInt = 105 * p2.toInt := by rw [← ev_18]; exact mulL (c := 105) rfl (by omega) (by omega)
    refine j_imul (pc := 50) (v := v_18) C dX11_puts_50 ev_18 ?_
    obtain ⟨v_19, ev_19⟩ : ∃ z : Int32, 0 + v_18 = z := ⟨_, rfl⟩
    have el_0 : (0 : Int32).toInt = 0 := rfl
    have hv_19 : v_19.toInt = (0 : Int32).toInt + v_18.toInt := by rw [← ev_19]; exact fb_addI (by omega) (by omega)
    refine j_iadd (pc := 51) (v := v_19) C dX11_puts_51 ev_19 ?_
    refine j_dup2 (pc := 52) C dX11_puts_52 rfl rfl ?_
    obtain ⟨v_20, ev_20⟩ : ∃ z, f_17 (v_19).toInt.toNat = z := ⟨_, rfl⟩
    have env_20 : (f_17 (v_19).toInt.toNat).toInt = v_20.toInt := by rw [ev_20]
    have hv_20 : 0 ≤ v_20.toInt ∧ v_20.toInt ≤ 8 := by rw [← ev_20]; exact SV.cnt (b := 0) (s := (p2).toInt.toNat) hf_17 (by decide) (by omega) (by omega)
    refine j_iald (pc := 53) (v := v_20) (k := (v_19).toInt.toNat) C 2 1 rfl rfl (i_nn (by omega)) rfl (i_lt_n (by omega) (by omega)) ev_20 dX11_puts_53 ?_
    have hv8 : v_20.toInt = (m_states (0 + 105 * (p2).toInt.toNat)).toInt := by rw [← ev_20, ef_17, pk_un (show ¬ (v_19).toInt.toNat = ((u_14.2.1 0)).toInt.toNat from (by omega)), show (v_19).toInt.toNat = 0 + 105 * (p2).toInt.toNat from (by omega)]
    refine j_iconst (pc := 54) (v := 1) C dX11_puts_54 (by decide) ?_
    obtain ⟨v_21, ev_21⟩ : ∃ z : Int32, v_20 + 1 = z := ⟨_, rfl⟩
    have el_1 : (1 : Int32).toInt = 1 := rfl
    have hv_21 : v_21.toInt = v_20.toInt + (1 : Int32).toInt := by rw [← ev_21]; exact fb_addI (by omega) (by omega)
    refine j_iadd (pc := 55) (v := v_21) C dX11_puts_55 ev_21 ?_
    obtain ⟨f_22, ef_22⟩ : ∃ z, z = upd f_17 (v_19).toInt.toNat v_21 := ⟨_, rfl⟩
    have hf_22 : SV f_22 := by rw [ef_22]; exact SV.ucnt (b := 0) (s := (p2).toInt.toNat) hf_17 (by decide) (by omega) (by omega) (by omega)
    refine j_iast (pc := 56) (k := (v_19).toInt.toNat) (ws' := [(mtold, .inl (cyI, 240, .inl m_told)), (m0, .inr (11, [.int m_thrown, .ref mtape, .int m_taped, .int m_size, .ref msort, .ref mplace, .ref mvalue, .int m_at, .int m_fault, .ref mwords, .ref mtold, .ref mop, .ref marg, .int m_codes, .ref mnames, .ref mhasHabit, .int m_isNew, .ref mfactWords, .ref mfacts, .ref mpile, .ref mstates, .ref misMarked, .int m_inShelf, .int m_inStack, .int m_inPlace, .ref mrow, .int m_rowMany, .ref mthr, .ref mmays, .ref mtall, .ref mweights, .ref mrowOfWare, .ref mneededOf, .int m_goShelf, .int m_goStack, .int m_goLeft, .ref mtried, .ref mbestRow, .int m_bestCost, .int m_bestMany, .int m_bestShelf, .int m_bestSet, .ref mdigits])), (mstates, .inl (cyI, 2760, .inl f_22))]) C 2 1 rfl rfl (i_nn (by omega)) rfl (i_lt_n (by omega) (by omega)) dX11_puts_56 (by rw [ef_22]; rfl) ?_
    refine j_aload_n (pc := 57) C dX11_puts_57 rfl 2 rfl ?_
    refine j_get (pc := 58) (ci := 11) (v := .ref mstates) C inw_11 1 rfl rfl 20 (by decide) wd_764 rfl rfl dX11_puts_58 ?_
    refine j_iload (pc := 61) C dX11_puts_61 0 rfl ?_
    refine j_iconst (pc := 63) (v := 1) C dX11_puts_63 (by decide) ?_
    obtain ⟨v_23, ev_23⟩ : ∃ z : Int32, (u_14.2.1 0) + 1 = z := ⟨_, rfl⟩
    have el_1 : (1 : Int32).toInt = 1 := rfl
    have hv_23 : v_23.toInt = ((u_14.2.1 0)).toInt + (1 : Int32).toInt := by rw [← ev_23]; exact fb_addI (by omega) (by omega)
    refine j_iadd (pc := 64) (v := v_23) C dX11_puts_64 ev_23 ?_
    refine j_aload_n (pc := 65) C dX11_puts_65 rfl 2 rfl ?_
    refine j_get (pc := 66) (ci := 11) (v := .ref mstates) C inw_11 1 rfl rfl 20 (by decide) wd_764 rfl rfl dX11_puts_66 ?_
    refine j_iload (pc := 69) C dX11_puts_69 0 rfl ?_
    obtain ⟨v_24, ev_24⟩ : ∃ z, f_22 ((u_14.2.1 0)).toInt.toNat = z := ⟨_, rfl⟩
    have env_24 : (f_22 ((u_14.2.1 0)).toInt.toNat).toInt = v_24.toInt := by rw [ev_24]
    have hv_24 : 0 ≤ v_24.toInt ∧ v_24.toInt ≤ 12 := by rw [← ev_24]; exact SV.siz hf_22 ad_16 (by omega)
    refine j_iald (pc := 71) (v := v_24) (k := ((u_14.2.1 0)).toInt.toNat) C 2 1 rfl rfl (i_nn (by omega)) rfl (i_lt_n (by omega) (by omega)) ev_24 dX11_puts_71 ?_
    have hz9 : v_24.toInt = 0 := by rw [← ev_24, ef_22, pk_un (show ¬ ((u_14.2.1 0)).toInt.toNat = (v_19).toInt.toNat from (by omega)), ef_17, pk_us]; rfl
    obtain ⟨v_25, ev_25⟩ : ∃ z : Int32, v_23 + v_24 = z := ⟨_, rfl⟩
    have hv_25 : v_25.toInt = v_23.toInt + v_24.toInt := by rw [← ev_25]; exact fb_addI (by omega) (by omega)
    refine j_iadd (pc := 72) (v := v_25) C dX11_puts_72 ev_25 ?_
    refine j_iload_n (pc := 73) C dX11_puts_73 rfl 4 rfl ?_
    obtain ⟨f_26, ef_26⟩ : ∃ z, z = upd f_22 (v_25).toInt.toNat p1 := ⟨_, rfl⟩
    have hf_26 : SV f_26 := by rw [ef_26]; exact SV.uwar hf_22 ad_16 (by omega) (by omega) (by omega)
    refine j_iast (pc := 74) (k := (v_25).toInt.toNat) (ws' := [(mtold, .inl (cyI, 240, .inl m_told)), (m0, .inr (11, [.int m_thrown, .ref mtape, .int m_taped, .int m_size, .ref msort, .ref mplace, .ref mvalue, .int m_at, .int m_fault, .ref mwords, .ref mtold, .ref mop, .ref marg, .int m_codes, .ref mnames, .ref mhasHabit, .int m_isNew, .ref mfactWords, .ref mfacts, .ref mpile, .ref mstates, .ref misMarked, .int m_inShelf, .int m_inStack, .int m_inPlace, .ref mrow, .int m_rowMany, .ref mthr, .ref mmays, .ref mtall, .ref mweights, .ref mrowOfWare, .ref mneededOf, .int m_goShelf, .int m_goStack, .int m_goLeft, .ref mtried, .ref mbestRow, .int m_bestCost, .int m_bestMany, .int m_bestShelf, .int m_bestSet, .ref mdigits])), (mstates, .inl (cyI, 2760, .inl f_26))]) C 2 1 rfl rfl (i_nn (by omega)) rfl (i_lt_n (by omega) (by omega)) dX11_puts_74 (by rw [ef_26]; rfl) ?_
    refine j_aload_n (pc := 75) C dX11_puts_75 rfl 2 rfl ?_
    refine j_get (pc := 76) (ci := 11) (v := .ref mstates) C inw_11 1 rfl rfl 20 (by decide) wd_764 rfl rfl dX11_puts_76 ?_
    refine j_iload (pc := 79) C dX11_puts_79 0 rfl ?_
    refine j_dup2 (pc := 81) C dX11_puts_81 rfl rfl ?_
    obtain ⟨v_27, ev_27⟩ : ∃ z, f_26 ((u_14.2.1 0)).toInt.toNat = z := ⟨_, rfl⟩
    have env_27 : (f_26 ((u_14.2.1 0)).toInt.toNat).toInt = v_27.toInt := by rw [ev_27]
    have hv_27 : 0 ≤ v_27.toInt ∧ v_27.toInt ≤ 12 := by rw [← ev_27]; exact SV.siz hf_26 ad_16 (by omega)
    refine j_iald (pc := 82) (v := v_27) (k := ((u_14.2.1 0)).toInt.toNat) C 2 1 rfl rfl (i_nn (by omega)) rfl (i_lt_n (by omega) (by omega)) ev_27 dX11_puts_82 ?_
    have hy8 : v_27.toInt = v_24.toInt := by rw [← ev_27, ef_26, pk_un (show ¬ ((u_14.2.1 0)).toInt.toNat = (v_25).toInt.toNat from (by omega)), ev_24]
    refine j_iconst (pc := 83) (v := 1) C dX11_puts_83 (by decide) ?_
    obtain ⟨v_28, ev_28⟩ : ∃ z : Int32, v_27 + 1 = z := ⟨_, rfl⟩
    have el_1 : (1 : Int32).toInt = 1 := rfl
    have hv_28 : v_28.toInt = v_27.toInt + (1 : Int32).toInt := by rw [← ev_28]; exact fb_addI (by omega) (by omega)
    refine j_iadd (pc := 84) (v := v_28) C dX11_puts_84 ev_28 ?_
    obtain ⟨f_29, ef_29⟩ : ∃ z, z = upd f_26 ((u_14.2.1 0)).toInt.toNat v_28 := ⟨_, rfl⟩
    have hf_29 : SV f_29 := by rw [ef_29]; exact SV.usiz hf_26 ad_16 (by omega) (by omega)
    refine j_iast (pc := 85) (k := ((u_14.2.1 0)).toInt.toNat) (ws' := [(mtold, .inl (cyI, 240, .inl m_told)), (m0, .inr (11, [.int m_thrown, .ref mtape, .int m_taped, .int m_size, .ref msort, .ref mplace, .ref mvalue, .int m_at, .int m_fault, .ref mwords, .ref mtold, .ref mop, .ref marg, .int m_codes, .ref mnames, .ref mhasHabit, .int m_isNew, .ref mfactWords, .ref mfacts, .ref mpile, .ref mstates, .ref misMarked, .int m_inShelf, .int m_inStack, .int m_inPlace, .ref mrow, .int m_rowMany, .ref mthr, .ref mmays, .ref mtall, .ref mweights, .ref mrowOfWare, .ref mneededOf, .int m_goShelf, .int m_goStack, .int m_goLeft, .ref mtried, .ref mbestRow, .int m_bestCost, .int m_bestMany, .int m_bestShelf, .int m_bestSet, .ref mdigits])), (mstates, .inl (cyI, 2760, .inl f_29))]) C 2 1 rfl rfl (i_nn (by omega)) rfl (i_lt_n (by omega) (by omega)) dX11_puts_85 (by rw [ef_29]; rfl) ?_
    exact j_vret (pc := 86) C hr hk (fun i => [].getD i 0, fun i => [].getD i 0, fun i => [f_29].getD i (fun _ => 0), fun i => [].getD i (fun _ => 0)) rfl (show (SV f_29) ∧ (DU f_29) ∧ (CRs f_29 m_told 0) ∧ (∀ j : Nat, (j < 0 ∨ 420 ≤ j) → f_29 j = m_states j) ∧ (PTS m_states f_29 0 p1 p2 p3) from ⟨hf_29, (by rw [ef_29, ef_26]; exact DU.add (by rw [ef_22, ef_17]; exact DU.out (DU.zero hDU ad_16.nat rfl) (fun i hi => AD.cnt (b := 0) (s := (p2).toInt.toNat) hi (by omega) (by omega))) ad_16.nat (by omega) (by omega) (by omega) (fun p hp => absurd hp (by omega)) (by omega)), (by rw [ef_29, ef_26, ef_22, ef_17]; exact CRs.stk (CRs.stk (CRs.at' (s := (p2).toInt.toNat) (CRs.stk hCR ad_16.nat (by omega)) (by omega) (by omega)) ad_16.nat (by omega)) ad_16.nat (by omega)), (fun j hj => by rw [ef_29, pk_un (show ¬ j = ((u_14.2.1 0)).toInt.toNat from (by omega)), ef_26, pk_un (show ¬ j = (v_25).toInt.toNat from (by omega)), ef_22, pk_un (show ¬ j = (v_19).toInt.toNat from (by omega)), ef_17, pk_un (show ¬ j = ((u_14.2.1 0)).toInt.toNat from (by omega))]), (fun k0 n0 hk hn => by have e1 : plc (p3).toInt (m_states (0 + 105 * (p2).toInt.toNat)).toInt = (m_states (0 + 105 * (p2).toInt.toNat)).toInt := if_pos (by omega); rw [e1] at hk; have e2 : nPt (p3).toInt (m_states (0 + 105 * (p2).toInt.toNat + 1 + 13 * k0)).toInt = 0 := if_pos (by omega); rw [e2] at hn; have ec : (m_states (v_19).toInt.toNat).toInt = (m_states (0 + 105 * (p2).toInt.toNat)).toInt := (by rw [show (v_19).toInt.toNat = 0 + 105 * (p2).toInt.toNat from (by omega)]); exact ⟨⟨by omega, by omega⟩, (by rw [ef_29, pk_un (show ¬ 0 + 105 * (p2).toInt.toNat = ((u_14.2.1 0)).toInt.toNat from (by omega)), ef_26, pk_un (show ¬ 0 + 105 * (p2).toInt.toNat = (v_25).toInt.toNat from (by omega)), ef_22, show 0 + 105 * (p2).toInt.toNat = (v_19).toInt.toNat from (by omega), pk_us, if_pos (by omega)]; omega), (by rw [ef_29, show 0 + 105 * (p2).toInt.toNat + 1 + 13 * k0 = ((u_14.2.1 0)).toInt.toNat from (by omega), pk_us]; omega), (by rw [ef_29, pk_un (show ¬ 0 + 105 * (p2).toInt.toNat + 1 + 13 * k0 + 1 + n0 = ((u_14.2.1 0)).toInt.toNat from (by omega)), ef_26, show 0 + 105 * (p2).toInt.toNat + 1 + 13 * k0 + 1 + n0 = (v_25).toInt.toNat from (by omega), pk_us]), (fun j j0 j1 j2 j3 => by rw [ef_29, pk_un (show ¬ j = ((u_14.2.1 0)).toInt.toNat from (by omega)), ef_26, pk_un (show ¬ j = (v_25).toInt.toNat from (by omega)), ef_22, pk_un (show ¬ j = (v_19).toInt.toNat from (by omega)), ef_17, pk_un (show ¬ j = ((u_14.2.1 0)).toInt.toNat from (by omega))])⟩)⟩) [1, 0, 2] (by decide) rfl (by decide) (by decide) dX11_puts_86
set_option maxHeartbeats 4000000 in
set_option maxRecDepth 100000 in
theorem c_X11_puts_460 (l : Launch) (D : DG) (cyC cyI cyJ cyZ cyO : ClassId) (m0 : Nat) (mtold : Nat) (mstates : Nat) (mtape : Nat) (msort : Nat) (mplace : Nat) (mvalue : Nat) (mwords : Nat) (mop : Nat) (marg : Nat) (mnames : Nat) (mhasHabit : Nat) (mfactWords : Nat) (mfacts : Nat) (mpile : Nat) (misMarked : Nat) (mrow : Nat) (mthr : Nat) (mmays : Nat) (mtall : Nat) (mweights : Nat) (mrowOfWare : Nat) (mneededOf : Nat) (mtried : Nat) (mbestRow : Nat) (mdigits : Nat) (p1 : Int32) (p2 : Int32) (p3 : Int32) (m_thrown : Int32) (m_taped : Int32) (m_size : Int32) (m_at : Int32) (m_fault : Int32) (m_codes : Int32) (m_isNew : Int32) (m_inShelf : Int32) (m_inStack : Int32) (m_inPlace : Int32) (m_rowMany : Int32) (m_goShelf : Int32) (m_goStack : Int32) (m_goLeft : Int32) (m_bestCost : Int32) (m_bestMany : Int32) (m_bestShelf : Int32) (m_bestSet : Int32) (m_told : Nat → Int32) (m_states : Nat → Int32) (h_m_taped : 0 ≤ (m_taped).toInt ∧ (m_taped).toInt ≤ 1000) (h_m_size : 0 ≤ (m_size).toInt ∧ (m_size).toInt ≤ 1000) (h_m_at : 0 ≤ (m_at).toInt ∧ (m_at).toInt ≤ 1000) (h_m_fault : 0 ≤ (m_fault).toInt ∧ (m_fault).toInt ≤ 16005) (h_m_codes : 0 ≤ (m_codes).toInt ∧ (m_codes).toInt ≤ 1000) (h_m_isNew : 0 ≤ (m_isNew).toInt ∧ (m_isNew).toInt ≤ 1) (h_m_inShelf : 0 ≤ (m_inShelf).toInt ∧ (m_inShelf).toInt ≤ 3) (h_m_inStack : 0 ≤ (m_inStack).toInt ∧ (m_inStack).toInt ≤ 7) (h_m_inPlace : 0 ≤ (m_inPlace).toInt ∧ (m_inPlace).toInt ≤ 11) (h_m_rowMany : 0 ≤ (m_rowMany).toInt ∧ (m_rowMany).toInt ≤ 12) (h_m_goShelf : -1 ≤ (m_goShelf).toInt ∧ (m_goShelf).toInt ≤ 3) (h_m_bestMany : 0 ≤ (m_bestMany).toInt ∧ (m_bestMany).toInt ≤ 7) (h_m_bestShelf : 0 ≤ (m_bestShelf).toInt ∧ (m_bestShelf).toInt ≤ 3) (h_p1 : 0 ≤ (p1).toInt ∧ (p1).toInt ≤ 11) (h_p2 : 0 ≤ (p2).toInt ∧ (p2).toInt ≤ 3) (h_p3 : -1 ≤ (p3).toInt ∧ (p3).toInt ≤ 7) (h_m_told : TV m_told) (h_m_states : SV m_states) (hDU : DU m_states) (hCR : CRs m_states m_told 1) (hPK : PK m_states m_told 460 1 p1 p2 p3) : KK l D (TY cyC cyI cyJ cyZ cyO) yX11_puts cX11_puts 7 none ({ frames := 1, cells := 0, slots := 0, locals := 22 } : Room) 0 0 [.ref m0, .int 460, .int p1, .int p2, .int p3] [(m0, .inr (11, [.int m_thrown, .ref mtape, .int m_taped, .int m_size, .ref msort, .ref mplace, .ref mvalue, .int m_at, .int m_fault, .ref mwords, .ref mtold, .ref mop, .ref marg, .int m_codes, .ref mnames, .ref mhasHabit, .int m_isNew, .ref mfactWords, .ref mfacts, .ref mpile, .ref mstates, .ref misMarked, .int m_inShelf, .int m_inStack, .int m_inPlace, .ref mrow, .int m_rowMany, .ref mthr, .ref mmays, .ref mtall, .ref mweights, .ref mrowOfWare, .ref mneededOf, .int m_goShelf, .int m_goStack, .int m_goLeft, .ref mtried, .ref mbestRow, .int m_bestCost, .int m_bestMany, .int m_bestShelf, .int m_bestSet, .ref mdigits])), (mtold, .inl (cyI, 240, .inl m_told)), (mstates, .inl (cyI, 2760, .inl m_states))] (fun u => none) (fun u => (SV (u.2.2.1 0)) ∧ (DU (u.2.2.1 0)) ∧ (CRs (u.2.2.1 0) m_told 1) ∧ (∀ j : Nat, (j < 460 ∨ 880 ≤ j) → (u.2.2.1 0) j = m_states j) ∧ (PTS m_states (u.2.2.1 0) 460 p1 p2 p3)) (fun u => [(m0, .inr (11, [.int m_thrown, .ref mtape, .int m_taped, .int m_size, .ref msort, .ref mplace, .ref mvalue, .int m_at, .int m_fault, .ref mwords, .ref mtold, .ref mop, .ref marg, .int m_codes, .ref mnames, .ref mhasHabit, .int m_isNew, .ref mfactWords, .ref mfacts, .ref mpile, .ref mstates, .ref misMarked, .int m_inShelf, .int m_inStack, .int m_inPlace, .ref mrow, .int m_rowMany, .ref mthr, .ref mmays, .ref mtall, .ref mweights, .ref mrowOfWare, .ref mneededOf, .int m_goShelf, .int m_goStack, .int m_goLeft, .ref mtried, .ref mbestRow, .int m_bestCost, .int m_bestMany, .int m_bestShelf, .int m_bestSet, .ref mdigits])), (mtold, .inl (cyI, 240, .inl m_told)), (mstates, .inl (cyI, 2760, .inl (u.2.2.1 0)))]) := by
  refine KK.of (lv0 := [(0, .ref m0), (1, .int 460), (2, .int p1), (3, .int p2), (4, .int p3)]) (by decide) rfl (Nat.le_of_ble_eq_true rfl) ?_
  intro p e s m args below meth c A C hr hk hin
  refine j_iload (pc := 0) C dX11_puts_0 4 rfl ?_
  refine j_iconst (pc := 2) (v := (-1)) C dX11_puts_2 (by decide) ?_
  refine j_icmp_ne (pc := 3) (tgt := 15) C dX11_puts_3 (by decide) (fun c_1 => ?_) (fun c_1 => ?_)
  · skip
    have el_m1 : ((-1) : Int32).toInt = (-1) := rfl
    rw [i_eq] at c_1
    refine j_iload (pc := 15) C dX11_puts_15 4 rfl ?_
    refine j_istore (pc := 17) (lv' := [(5, .int p3), (0, .ref m0), (1, .int 460), (2, .int p1), (3, .int p2), (4, .int p3)]) C dX11_puts_17 (by decide) rfl ?_
    refine j_iload_n (pc := 19) C dX11_puts_19 rfl 2 rfl ?_
    refine j_iload_n (pc := 20) C dX11_puts_20 rfl 4 rfl ?_
    refine j_iload (pc := 21) C dX11_puts_21 0 rfl ?_
    refine j_callS (pc := 23) (As := [.int 460, .int p2, .int p3]) (rest := []) (wr := [(m0, .inr (11, [.int m_thrown, .ref mtape, .int m_taped, .int m_size, .ref msort, .ref mplace, .ref mvalue, .int m_at, .int m_fault, .ref mwords, .ref mtold, .ref mop, .ref marg, .int m_codes, .ref mnames, .ref mhasHabit, .int m_isNew, .ref mfactWords, .ref mfacts, .ref mpile, .ref mstates, .ref misMarked, .int m_inShelf, .int m_inStack, .int m_inPlace, .ref mrow, .int m_rowMany, .ref mthr, .ref mmays, .ref mtall, .ref mweights, .ref mrowOfWare, .ref mneededOf, .int m_goShelf, .int m_goStack, .int m_goLeft, .ref mtried, .ref mbestRow, .int m_bestCost, .int m_bestMany, .int m_bestShelf, .int m_bestSet, .ref mdigits])), (mtold, .inl (cyI, 240, .inl m_told)), (mstates, .inl (cyI, 2760, .inl m_states))]) C (c_X11_stackAt l D cyC cyI cyJ cyZ cyO 460 p2 p3 (by decide) h_p2 (by omega)) wd_773 wd_624 wd_774 wd_775 ⟨by decide, by decide, rfl⟩ rfl ⟨rfl, rfl, by decide, by decide⟩ ⟨by decide, by decide⟩ [] [0, 1, 2] rfl rfl ⟨by decide, by decide, by decide⟩ rfl (Nat.le_of_ble_eq_true rfl) dX11_puts_23 (fun u_2 hw_3 => ?_)
    refine j_eq (ws2 := [(m0, .inr (11, [.int m_thrown, .ref mtape, .int m_taped, .int m_size, .ref msort, .ref mplace, .ref mvalue, .int m_at, .int m_fault, .ref mwords, .ref mtold, .ref mop, .ref marg, .int m_codes, .ref mnames, .ref mhasHabit, .int m_isNew, .ref mfactWords, .ref mfacts, .ref mpile, .ref mstates, .ref misMarked, .int m_inShelf, .int m_inStack, .int m_inPlace, .ref mrow, .int m_rowMany, .ref mthr, .ref mmays, .ref mtall, .ref mweights, .ref mrowOfWare, .ref mneededOf, .int m_goShelf, .int m_goStack, .int m_goLeft, .ref mtried, .ref mbestRow, .int m_bestCost, .int m_bestMany, .int m_bestShelf, .int m_bestSet, .ref mdigits])), (mtold, .inl (cyI, 240, .inl m_told)), (mstates, .inl (cyI, 2760, .inl m_states))]) (pc2 := 26) (lv2 := [(5, .int p3), (0, .ref m0), (1, .int 460), (2, .int p1), (3, .int p2), (4, .int p3)]) (st2 := [.int (u_2.2.1 0)]) rfl rfl rfl rfl ?_
    obtain ⟨hw_3_0, hw_3_1⟩ := hw_3
    have el_460 : (460 : Int32).toInt = 460 := rfl
    have ad_4 : AD (u_2.2.1 0).toInt := ⟨1, (p2).toInt.toNat, (p3).toInt.toNat, by decide, by omega, by omega, by omega⟩
    refine j_istore (pc := 26) (lv' := [(6, .int (u_2.2.1 0)), (5, .int p3), (0, .ref m0), (1, .int 460), (2, .int p1), (3, .int p2), (4, .int p3)]) C dX11_puts_26 (by decide) rfl ?_
    refine j_iload (pc := 28) C dX11_puts_28 6 rfl ?_
    refine j_iconst (pc := 30) (v := (-1)) C dX11_puts_30 (by decide) ?_
    have el_m1 : ((-1) : Int32).toInt = (-1) := rfl
    refine j_icmp_ne_t (pc := 31) (tgt := 57) C dX11_puts_31 (by decide) (by rw [i_eq]; omega) ?_
    refine j_aload_n (pc := 57) C dX11_puts_57 rfl 2 rfl ?_
    refine j_get (pc := 58) (ci := 11) (v := .ref mstates) C inw_11 0 rfl rfl 20 (by decide) wd_764 rfl rfl dX11_puts_58 ?_
    refine j_iload (pc := 61) C dX11_puts_61 0 rfl ?_
    refine j_iconst (pc := 63) (v := 1) C dX11_puts_63 (by decide) ?_
    obtain ⟨v_5, ev_5⟩ : ∃ z : Int32, (u_2.2.1 0) + 1 = z := ⟨_, rfl⟩
    have el_1 : (1 : Int32).toInt = 1 := rfl
    have hv_5 : v_5.toInt = ((u_2.2.1 0)).toInt + (1 : Int32).toInt := by rw [← ev_5]; exact fb_addI (by omega) (by omega)
    refine j_iadd (pc := 64) (v := v_5) C dX11_puts_64 ev_5 ?_
    refine j_aload_n (pc := 65) C dX11_puts_65 rfl 2 rfl ?_
    refine j_get (pc := 66) (ci := 11) (v := .ref mstates) C inw_11 0 rfl rfl 20 (by decide) wd_764 rfl rfl dX11_puts_66 ?_
    refine j_iload (pc := 69) C dX11_puts_69 0 rfl ?_
    obtain ⟨v_6, ev_6⟩ : ∃ z, m_states ((u_2.2.1 0)).toInt.toNat = z := ⟨_, rfl⟩
    have env_6 : (m_states ((u_2.2.1 0)).toInt.toNat).toInt = v_6.toInt := by rw [ev_6]
    have hv_6 : 0 ≤ v_6.toInt ∧ v_6.toInt ≤ 12 := by rw [← ev_6]; exact SV.siz h_m_states ad_4 (by omega)
    refine j_iald (pc := 71) (v := v_6) (k := ((u_2.2.1 0)).toInt.toNat) C 2 1 rfl rfl (i_nn (by omega)) rfl (i_lt_n (by omega) (by omega)) ev_6 dX11_puts_71 ?_
    have hz9 := DU.room (w := p1) (i := ((u_2.2.1 0)).toInt.toNat) hDU h_m_states ad_4.nat (by omega) (PK.ne hPK (by decide) (by omega) (by omega) (by omega) (by omega))
    rw [ev_6] at hz9
    obtain ⟨v_7, ev_7⟩ : ∃ z : Int32, v_5 + v_6 = z := ⟨_, rfl⟩
    have hv_7 : v_7.toInt = v_5.toInt + v_6.toInt := by rw [← ev_7]; exact fb_addI (by omega) (by omega)
    refine j_iadd (pc := 72) (v := v_7) C dX11_puts_72 ev_7 ?_
    refine j_iload_n (pc := 73) C dX11_puts_73 rfl 4 rfl ?_
    obtain ⟨f_8, ef_8⟩ : ∃ z, z = upd m_states (v_7).toInt.toNat p1 := ⟨_, rfl⟩
    have hf_8 : SV f_8 := by rw [ef_8]; exact SV.uwar h_m_states ad_4 (by omega) (by omega) (by omega)
    refine j_iast (pc := 74) (k := (v_7).toInt.toNat) (ws' := [(m0, .inr (11, [.int m_thrown, .ref mtape, .int m_taped, .int m_size, .ref msort, .ref mplace, .ref mvalue, .int m_at, .int m_fault, .ref mwords, .ref mtold, .ref mop, .ref marg, .int m_codes, .ref mnames, .ref mhasHabit, .int m_isNew, .ref mfactWords, .ref mfacts, .ref mpile, .ref mstates, .ref misMarked, .int m_inShelf, .int m_inStack, .int m_inPlace, .ref mrow, .int m_rowMany, .ref mthr, .ref mmays, .ref mtall, .ref mweights, .ref mrowOfWare, .ref mneededOf, .int m_goShelf, .int m_goStack, .int m_goLeft, .ref mtried, .ref mbestRow, .int m_bestCost, .int m_bestMany, .int m_bestShelf, .int m_bestSet, .ref mdigits])), (mtold, .inl (cyI, 240, .inl m_told)), (mstates, .inl (cyI, 2760, .inl f_8))]) C 2 1 rfl rfl (i_nn (by omega)) rfl (i_lt_n (by omega) (by omega)) dX11_puts_74 (by rw [ef_8]; rfl) ?_
    refine j_aload_n (pc := 75) C dX11_puts_75 rfl 2 rfl ?_
    refine j_get (pc := 76) (ci := 11) (v := .ref mstates) C inw_11 0 rfl rfl 20 (by decide) wd_764 rfl rfl dX11_puts_76 ?_
    refine j_iload (pc := 79) C dX11_puts_79 0 rfl ?_
    refine j_dup2 (pc := 81) C dX11_puts_81 rfl rfl ?_
    obtain ⟨v_9, ev_9⟩ : ∃ z, f_8 ((u_2.2.1 0)).toInt.toNat = z := ⟨_, rfl⟩
    have env_9 : (f_8 ((u_2.2.1 0)).toInt.toNat).toInt = v_9.toInt := by rw [ev_9]
    have hv_9 : 0 ≤ v_9.toInt ∧ v_9.toInt ≤ 12 := by rw [← ev_9]; exact SV.siz hf_8 ad_4 (by omega)
    refine j_iald (pc := 82) (v := v_9) (k := ((u_2.2.1 0)).toInt.toNat) C 2 1 rfl rfl (i_nn (by omega)) rfl (i_lt_n (by omega) (by omega)) ev_9 dX11_puts_82 ?_
    have hy8 : v_9.toInt = v_6.toInt := by rw [← ev_9, ef_8, pk_un (show ¬ ((u_2.2.1 0)).toInt.toNat = (v_7).toInt.toNat from (by omega)), ev_6]
    refine j_iconst (pc := 83) (v := 1) C dX11_puts_83 (by decide) ?_
    obtain ⟨v_10, ev_10⟩ : ∃ z : Int32, v_9 + 1 = z := ⟨_, rfl⟩
    have el_1 : (1 : Int32).toInt = 1 := rfl
    have hv_10 : v_10.toInt = v_9.toInt + (1 : Int32).toInt := by rw [← ev_10]; exact fb_addI (by omega) (by omega)
    refine j_iadd (pc := 84) (v := v_10) C dX11_puts_84 ev_10 ?_
    obtain ⟨f_11, ef_11⟩ : ∃ z, z = upd f_8 ((u_2.2.1 0)).toInt.toNat v_10 := ⟨_, rfl⟩
    have hf_11 : SV f_11 := by rw [ef_11]; exact SV.usiz hf_8 ad_4 (by omega) (by omega)
    refine j_iast (pc := 85) (k := ((u_2.2.1 0)).toInt.toNat) (ws' := [(m0, .inr (11, [.int m_thrown, .ref mtape, .int m_taped, .int m_size, .ref msort, .ref mplace, .ref mvalue, .int m_at, .int m_fault, .ref mwords, .ref mtold, .ref mop, .ref marg, .int m_codes, .ref mnames, .ref mhasHabit, .int m_isNew, .ref mfactWords, .ref mfacts, .ref mpile, .ref mstates, .ref misMarked, .int m_inShelf, .int m_inStack, .int m_inPlace, .ref mrow, .int m_rowMany, .ref mthr, .ref mmays, .ref mtall, .ref mweights, .ref mrowOfWare, .ref mneededOf, .int m_goShelf, .int m_goStack, .int m_goLeft, .ref mtried, .ref mbestRow, .int m_bestCost, .int m_bestMany, .int m_bestShelf, .int m_bestSet, .ref mdigits])), (mtold, .inl (cyI, 240, .inl m_told)), (mstates, .inl (cyI, 2760, .inl f_11))]) C 2 1 rfl rfl (i_nn (by omega)) rfl (i_lt_n (by omega) (by omega)) dX11_puts_85 (by rw [ef_11]; rfl) ?_
    exact j_vret (pc := 86) C hr hk (fun i => [].getD i 0, fun i => [].getD i 0, fun i => [f_11].getD i (fun _ => 0), fun i => [].getD i (fun _ => 0)) rfl (show (SV f_11) ∧ (DU f_11) ∧ (CRs f_11 m_told 1) ∧ (∀ j : Nat, (j < 460 ∨ 880 ≤ j) → f_11 j = m_states j) ∧ (PTS m_states f_11 460 p1 p2 p3) from ⟨hf_11, (by rw [ef_11, ef_8]; exact DU.add hDU ad_4.nat (by omega) (by omega) (by omega) (PK.ne hPK (by decide) (by omega) (by omega) (by omega) (by omega)) (by omega)), (by rw [ef_11, ef_8]; exact CRs.stk (CRs.stk hCR ad_4.nat (by omega)) ad_4.nat (by omega)), (fun j hj => by rw [ef_11, pk_un (show ¬ j = ((u_2.2.1 0)).toInt.toNat from (by omega)), ef_8, pk_un (show ¬ j = (v_7).toInt.toNat from (by omega))]), (fun k0 n0 hk hn => by have e1 : plc (p3).toInt (m_states (460 + 105 * (p2).toInt.toNat)).toInt = (p3).toInt := if_neg (by omega); rw [e1] at hk; have e2 : nPt (p3).toInt (m_states (460 + 105 * (p2).toInt.toNat + 1 + 13 * k0)).toInt = (m_states (460 + 105 * (p2).toInt.toNat + 1 + 13 * k0)).toInt := if_neg (by omega); rw [e2] at hn; have e3 : (m_states (460 + 105 * (p2).toInt.toNat + 1 + 13 * k0)).toInt = (v_6).toInt := (by rw [show 460 + 105 * (p2).toInt.toNat + 1 + 13 * k0 = ((u_2.2.1 0)).toInt.toNat from (by omega), ev_6]); exact ⟨⟨by omega, by omega⟩, (by rw [ef_11, pk_un (show ¬ 460 + 105 * (p2).toInt.toNat = ((u_2.2.1 0)).toInt.toNat from (by omega)), ef_8, pk_un (show ¬ 460 + 105 * (p2).toInt.toNat = (v_7).toInt.toNat from (by omega)), if_neg (by omega)]; omega), (by rw [ef_11, show 460 + 105 * (p2).toInt.toNat + 1 + 13 * k0 = ((u_2.2.1 0)).toInt.toNat from (by omega), pk_us]; omega), (by rw [ef_11, pk_un (show ¬ 460 + 105 * (p2).toInt.toNat + 1 + 13 * k0 + 1 + n0 = ((u_2.2.1 0)).toInt.toNat from (by omega)), ef_8, show 460 + 105 * (p2).toInt.toNat + 1 + 13 * k0 + 1 + n0 = (v_7).toInt.toNat from (by omega), pk_us]), (fun j j0 j1 j2 j3 => by rw [ef_11, pk_un (show ¬ j = ((u_2.2.1 0)).toInt.toNat from (by omega)), ef_8, pk_un (show ¬ j = (v_7).toInt.toNat from (by omega))])⟩)⟩) [0, 1, 2] (by decide) rfl (by decide) (by decide) dX11_puts_86
  · skip
    have el_m1 : ((-1) : Int32).toInt = (-1) := rfl
    rw [i_eq] at c_1
    refine j_aload_n (pc := 6) C dX11_puts_6 rfl 0 rfl ?_
    refine j_iload_n (pc := 7) C dX11_puts_7 rfl 1 rfl ?_
    refine j_iload_n (pc := 8) C dX11_puts_8 rfl 3 rfl ?_
    refine j_callV (pc := 9) (As := [.int 460, .int p2]) (rest := []) (wr := [(mtold, .inl (cyI, 240, .inl m_told))]) C (c_X11_stacks_460 l D cyC cyI cyJ cyZ cyO m0 mstates mtape msort mplace mvalue mwords mtold mop marg mnames mhasHabit mfactWords mfacts mpile misMarked mrow mthr mmays mtall mweights mrowOfWare mneededOf mtried mbestRow mdigits p2 m_thrown m_taped m_size m_at m_fault m_codes m_isNew m_inShelf m_inStack m_inPlace m_rowMany m_goShelf m_goStack m_goLeft m_bestCost m_bestMany m_bestShelf m_bestSet m_states h_m_taped h_m_size h_m_at h_m_fault h_m_codes h_m_isNew h_m_inShelf h_m_inStack h_m_inPlace h_m_rowMany h_m_goShelf h_m_bestMany h_m_bestShelf h_p2 h_m_states) wd_769 wd_624 wd_770 wd_771 wd_772 ⟨by decide, by decide, rfl⟩ rfl ⟨rfl, rfl, by decide, by decide⟩ ⟨by decide, by decide⟩ [0, 2] [1] rfl rfl ⟨by decide, by decide, by decide⟩ 0 rfl rfl rfl (Nat.le_of_ble_eq_true rfl) dX11_puts_9 (fun u_12 hw_13 => ?_)
    refine j_eq (ws2 := [(mtold, .inl (cyI, 240, .inl m_told)), (m0, .inr (11, [.int m_thrown, .ref mtape, .int m_taped, .int m_size, .ref msort, .ref mplace, .ref mvalue, .int m_at, .int m_fault, .ref mwords, .ref mtold, .ref mop, .ref marg, .int m_codes, .ref mnames, .ref mhasHabit, .int m_isNew, .ref mfactWords, .ref mfacts, .ref mpile, .ref mstates, .ref misMarked, .int m_inShelf, .int m_inStack, .int m_inPlace, .ref mrow, .int m_rowMany, .ref mthr, .ref mmays, .ref mtall, .ref mweights, .ref mrowOfWare, .ref mneededOf, .int m_goShelf, .int m_goStack, .int m_goLeft, .ref mtried, .ref mbestRow, .int m_bestCost, .int m_bestMany, .int m_bestShelf, .int m_bestSet, .ref mdigits])), (mstates, .inl (cyI, 2760, .inl m_states))]) (pc2 := 12) (lv2 := [(0, .ref m0), (1, .int 460), (2, .int p1), (3, .int p2), (4, .int p3)]) (st2 := [.int (u_12.2.1 0)]) rfl rfl rfl rfl ?_
    obtain ⟨hw_13_0, hw_13_1⟩ := hw_13
    have hx9 := congrArg Int32.toInt hw_13_1
    have hz9 := PK.cnt hPK (by decide) (by omega) hCR (by omega)
    have hy9 := TV.room h_m_told (j := 101 + 3 * (p2).toInt.toNat) (by omega) (by omega)
    refine j_goto (pc := 12) (tgt := 17) C dX11_puts_12 (by decide) ?_
    refine j_istore (pc := 17) (lv' := [(5, .int (u_12.2.1 0)), (0, .ref m0), (1, .int 460), (2, .int p1), (3, .int p2), (4, .int p3)]) C dX11_puts_17 (by decide) rfl ?_
    refine j_iload_n (pc := 19) C dX11_puts_19 rfl 2 rfl ?_
    refine j_iload_n (pc := 20) C dX11_puts_20 rfl 4 rfl ?_
    refine j_iload (pc := 21) C dX11_puts_21 0 rfl ?_
    refine j_callS (pc := 23) (As := [.int 460, .int p2, .int (u_12.2.1 0)]) (rest := []) (wr := [(mtold, .inl (cyI, 240, .inl m_told)), (m0, .inr (11, [.int m_thrown, .ref mtape, .int m_taped, .int m_size, .ref msort, .ref mplace, .ref mvalue, .int m_at, .int m_fault, .ref mwords, .ref mtold, .ref mop, .ref marg, .int m_codes, .ref mnames, .ref mhasHabit, .int m_isNew, .ref mfactWords, .ref mfacts, .ref mpile, .ref mstates, .ref misMarked, .int m_inShelf, .int m_inStack, .int m_inPlace, .ref mrow, .int m_rowMany, .ref mthr, .ref mmays, .ref mtall, .ref mweights, .ref mrowOfWare, .ref mneededOf, .int m_goShelf, .int m_goStack, .int m_goLeft, .ref mtried, .ref mbestRow, .int m_bestCost, .int m_bestMany, .int m_bestShelf, .int m_bestSet, .ref mdigits])), (mstates, .inl (cyI, 2760, .inl m_states))]) C (c_X11_stackAt l D cyC cyI cyJ cyZ cyO 460 p2 (u_12.2.1 0) (by decide) h_p2 (by omega)) wd_773 wd_624 wd_774 wd_775 ⟨by decide, by decide, rfl⟩ rfl ⟨rfl, rfl, by decide, by decide⟩ ⟨by decide, by decide⟩ [] [0, 1, 2] rfl rfl ⟨by decide, by decide, by decide⟩ rfl (Nat.le_of_ble_eq_true rfl) dX11_puts_23 (fun u_14 hw_15 => ?_)
    refine j_eq (ws2 := [(mtold, .inl (cyI, 240, .inl m_told)), (m0, .inr (11, [.int m_thrown, .ref mtape, .int m_taped, .int m_size, .ref msort, .ref mplace, .ref mvalue, .int m_at, .int m_fault, .ref mwords, .ref mtold, .ref mop, .ref marg, .int m_codes, .ref mnames, .ref mhasHabit, .int m_isNew, .ref mfactWords, .ref mfacts, .ref mpile, .ref mstates, .ref misMarked, .int m_inShelf, .int m_inStack, .int m_inPlace, .ref mrow, .int m_rowMany, .ref mthr, .ref mmays, .ref mtall, .ref mweights, .ref mrowOfWare, .ref mneededOf, .int m_goShelf, .int m_goStack, .int m_goLeft, .ref mtried, .ref mbestRow, .int m_bestCost, .int m_bestMany, .int m_bestShelf, .int m_bestSet, .ref mdigits])), (mstates, .inl (cyI, 2760, .inl m_states))]) (pc2 := 26) (lv2 := [(5, .int (u_12.2.1 0)), (0, .ref m0), (1, .int 460), (2, .int p1), (3, .int p2), (4, .int p3)]) (st2 := [.int (u_14.2.1 0)]) rfl rfl rfl rfl ?_
    obtain ⟨hw_15_0, hw_15_1⟩ := hw_15
    have el_460 : (460 : Int32).toInt = 460 := rfl
    have ad_16 : AD (u_14.2.1 0).toInt := ⟨1, (p2).toInt.toNat, ((u_12.2.1 0)).toInt.toNat, by decide, by omega, by omega, by omega⟩
    refine j_istore (pc := 26) (lv' := [(6, .int (u_14.2.1 0)), (5, .int (u_12.2.1 0)), (0, .ref m0), (1, .int 460), (2, .int p1), (3, .int p2), (4, .int p3)]) C dX11_puts_26 (by decide) rfl ?_
    refine j_iload (pc := 28) C dX11_puts_28 6 rfl ?_
    refine j_iconst (pc := 30) (v := (-1)) C dX11_puts_30 (by decide) ?_
    have el_m1 : ((-1) : Int32).toInt = (-1) := rfl
    refine j_icmp_ne_f (pc := 31) (tgt := 57) C dX11_puts_31 (by decide) (by rw [i_eq]; omega) ?_
    refine j_aload_n (pc := 34) C dX11_puts_34 rfl 2 rfl ?_
    refine j_get (pc := 35) (ci := 11) (v := .ref mstates) C inw_11 1 rfl rfl 20 (by decide) wd_764 rfl rfl dX11_puts_35 ?_
    refine j_iload (pc := 38) C dX11_puts_38 0 rfl ?_
    refine j_iconst (pc := 40) (v := 0) C dX11_puts_40 (by decide) ?_
    obtain ⟨f_17, ef_17⟩ : ∃ z, z = upd m_states ((u_14.2.1 0)).toInt.toNat 0 := ⟨_, rfl⟩
    have el_0 : (0 : Int32).toInt = 0 := rfl
    have hf_17 : SV f_17 := by rw [ef_17]; exact SV.usiz h_m_states ad_16 (by omega) (by omega)
    refine j_iast (pc := 41) (k := ((u_14.2.1 0)).toInt.toNat) (ws' := [(mtold, .inl (cyI, 240, .inl m_told)), (m0, .inr (11, [.int m_thrown, .ref mtape, .int m_taped, .int m_size, .ref msort, .ref mplace, .ref mvalue, .int m_at, .int m_fault, .ref mwords, .ref mtold, .ref mop, .ref marg, .int m_codes, .ref mnames, .ref mhasHabit, .int m_isNew, .ref mfactWords, .ref mfacts, .ref mpile, .ref mstates, .ref misMarked, .int m_inShelf, .int m_inStack, .int m_inPlace, .ref mrow, .int m_rowMany, .ref mthr, .ref mmays, .ref mtall, .ref mweights, .ref mrowOfWare, .ref mneededOf, .int m_goShelf, .int m_goStack, .int m_goLeft, .ref mtried, .ref mbestRow, .int m_bestCost, .int m_bestMany, .int m_bestShelf, .int m_bestSet, .ref mdigits])), (mstates, .inl (cyI, 2760, .inl f_17))]) C 2 1 rfl rfl (i_nn (by omega)) rfl (i_lt_n (by omega) (by omega)) dX11_puts_41 (by rw [ef_17]; rfl) ?_
    refine j_aload_n (pc := 42) C dX11_puts_42 rfl 2 rfl ?_
    refine j_get (pc := 43) (ci := 11) (v := .ref mstates) C inw_11 1 rfl rfl 20 (by decide) wd_764 rfl rfl dX11_puts_43 ?_
    refine j_iload_n (pc := 46) C dX11_puts_46 rfl 3 rfl ?_
    refine j_bipush (pc := 47) (v := 105) C dX11_puts_47 (by decide) ?_
    refine j_iload_n (pc := 49) C dX11_puts_49 rfl 5 rfl ?_
    obtain ⟨v_18, ev_18⟩ : ∃ z : Int32, 105 * p2 = z := ⟨_, rfl⟩
    have el_105 : (105 : Int32).toInt = 105 := rfl
    have hv_18 : v_18.toInt = 105 * p2.toInt := by rw [← ev_18]; exact mulL (c := 105) rfl (by omega) (by omega)
    refine j_imul (pc := 50) (v := v_18) C dX11_puts_50 ev_18 ?_
    obtain ⟨v_19, ev_19⟩ : ∃ z : Int32, 460 + v_18 = z := ⟨_, rfl⟩
    have el_460 : (460 : Int32).toInt = 460 := rfl
    have hv_19 : v_19.toInt = (460 : Int32).toInt + v_18.toInt := by rw [← ev_19]; exact fb_addI (by omega) (by omega)
    refine j_iadd (pc := 51) (v := v_19) C dX11_puts_51 ev_19 ?_
    refine j_dup2 (pc := 52) C dX11_puts_52 rfl rfl ?_
    obtain ⟨v_20, ev_20⟩ : ∃ z, f_17 (v_19).toInt.toNat = z := ⟨_, rfl⟩
    have env_20 : (f_17 (v_19).toInt.toNat).toInt = v_20.toInt := by rw [ev_20]
    have hv_20 : 0 ≤ v_20.toInt ∧ v_20.toInt ≤ 8 := by rw [← ev_20]; exact SV.cnt (b := 1) (s := (p2).toInt.toNat) hf_17 (by decide) (by omega) (by omega)
    refine j_iald (pc := 53) (v := v_20) (k := (v_19).toInt.toNat) C 2 1 rfl rfl (i_nn (by omega)) rfl (i_lt_n (by omega) (by omega)) ev_20 dX11_puts_53 ?_
    have hv8 : v_20.toInt = (m_states (460 + 105 * (p2).toInt.toNat)).toInt := by rw [← ev_20, ef_17, pk_un (show ¬ (v_19).toInt.toNat = ((u_14.2.1 0)).toInt.toNat from (by omega)), show (v_19).toInt.toNat = 460 + 105 * (p2).toInt.toNat from (by omega)]
    refine j_iconst (pc := 54) (v := 1) C dX11_puts_54 (by decide) ?_
    obtain ⟨v_21, ev_21⟩ : ∃ z : Int32, v_20 + 1 = z := ⟨_, rfl⟩
    have el_1 : (1 : Int32).toInt = 1 := rfl
    have hv_21 : v_21.toInt = v_20.toInt + (1 : Int32).toInt := by rw [← ev_21]; exact fb_addI (by omega) (by omega)
    refine j_iadd (pc := 55) (v := v_21) C dX11_puts_55 ev_21 ?_
    obtain ⟨f_22, ef_22⟩ : ∃ z, z = upd f_17 (v_19).toInt.toNat v_21 := ⟨_, rfl⟩
    have hf_22 : SV f_22 := by rw [ef_22]; exact SV.ucnt (b := 1) (s := (p2).toInt.toNat) hf_17 (by decide) (by omega) (by omega) (by omega)
    refine j_iast (pc := 56) (k := (v_19).toInt.toNat) (ws' := [(mtold, .inl (cyI, 240, .inl m_told)), (m0, .inr (11, [.int m_thrown, .ref mtape, .int m_taped, .int m_size, .ref msort, .ref mplace, .ref mvalue, .int m_at, .int m_fault, .ref mwords, .ref mtold, .ref mop, .ref marg, .int m_codes, .ref mnames, .ref mhasHabit, .int m_isNew, .ref mfactWords, .ref mfacts, .ref mpile, .ref mstates, .ref misMarked, .int m_inShelf, .int m_inStack, .int m_inPlace, .ref mrow, .int m_rowMany, .ref mthr, .ref mmays, .ref mtall, .ref mweights, .ref mrowOfWare, .ref mneededOf, .int m_goShelf, .int m_goStack, .int m_goLeft, .ref mtried, .ref mbestRow, .int m_bestCost, .int m_bestMany, .int m_bestShelf, .int m_bestSet, .ref mdigits])), (mstates, .inl (cyI, 2760, .inl f_22))]) C 2 1 rfl rfl (i_nn (by omega)) rfl (i_lt_n (by omega) (by omega)) dX11_puts_56 (by rw [ef_22]; rfl) ?_
    refine j_aload_n (pc := 57) C dX11_puts_57 rfl 2 rfl ?_
    refine j_get (pc := 58) (ci := 11) (v := .ref mstates) C inw_11 1 rfl rfl 20 (by decide) wd_764 rfl rfl dX11_puts_58 ?_
    refine j_iload (pc := 61) C dX11_puts_61 0 rfl ?_
    refine j_iconst (pc := 63) (v := 1) C dX11_puts_63 (by decide) ?_
    obtain ⟨v_23, ev_23⟩ : ∃ z : Int32, (u_14.2.1 0) + 1 = z := ⟨_, rfl⟩
    have el_1 : (1 : Int32).toInt = 1 := rfl
    have hv_23 : v_23.toInt = ((u_14.2.1 0)).toInt + (1 : Int32).toInt := by rw [← ev_23]; exact fb_addI (by omega) (by omega)
    refine j_iadd (pc := 64) (v := v_23) C dX11_puts_64 ev_23 ?_
    refine j_aload_n (pc := 65) C dX11_puts_65 rfl 2 rfl ?_
    refine j_get (pc := 66) (ci := 11) (v := .ref mstates) C inw_11 1 rfl rfl 20 (by decide) wd_764 rfl rfl dX11_puts_66 ?_
    refine j_iload (pc := 69) C dX11_puts_69 0 rfl ?_
    obtain ⟨v_24, ev_24⟩ : ∃ z, f_22 ((u_14.2.1 0)).toInt.toNat = z := ⟨_, rfl⟩
    have env_24 : (f_22 ((u_14.2.1 0)).toInt.toNat).toInt = v_24.toInt := by rw [ev_24]
    have hv_24 : 0 ≤ v_24.toInt ∧ v_24.toInt ≤ 12 := by rw [← ev_24]; exact SV.siz hf_22 ad_16 (by omega)
    refine j_iald (pc := 71) (v := v_24) (k := ((u_14.2.1 0)).toInt.toNat) C 2 1 rfl rfl (i_nn (by omega)) rfl (i_lt_n (by omega) (by omega)) ev_24 dX11_puts_71 ?_
    have hz9 : v_24.toInt = 0 := by rw [← ev_24, ef_22, pk_un (show ¬ ((u_14.2.1 0)).toInt.toNat = (v_19).toInt.toNat from (by omega)), ef_17, pk_us]; rfl
    obtain ⟨v_25, ev_25⟩ : ∃ z : Int32, v_23 + v_24 = z := ⟨_, rfl⟩
    have hv_25 : v_25.toInt = v_23.toInt + v_24.toInt := by rw [← ev_25]; exact fb_addI (by omega) (by omega)
    refine j_iadd (pc := 72) (v := v_25) C dX11_puts_72 ev_25 ?_
    refine j_iload_n (pc := 73) C dX11_puts_73 rfl 4 rfl ?_
    obtain ⟨f_26, ef_26⟩ : ∃ z, z = upd f_22 (v_25).toInt.toNat p1 := ⟨_, rfl⟩
    have hf_26 : SV f_26 := by rw [ef_26]; exact SV.uwar hf_22 ad_16 (by omega) (by omega) (by omega)
    refine j_iast (pc := 74) (k := (v_25).toInt.toNat) (ws' := [(mtold, .inl (cyI, 240, .inl m_told)), (m0, .inr (11, [.int m_thrown, .ref mtape, .int m_taped, .int m_size, .ref msort, .ref mplace, .ref mvalue, .int m_at, .int m_fault, .ref mwords, .ref mtold, .ref mop, .ref marg, .int m_codes, .ref mnames, .ref mhasHabit, .int m_isNew, .ref mfactWords, .ref mfacts, .ref mpile, .ref mstates, .ref misMarked, .int m_inShelf, .int m_inStack, .int m_inPlace, .ref mrow, .int m_rowMany, .ref mthr, .ref mmays, .ref mtall, .ref mweights, .ref mrowOfWare, .ref mneededOf, .int m_goShelf, .int m_goStack, .int m_goLeft, .ref mtried, .ref mbestRow, .int m_bestCost, .int m_bestMany, .int m_bestShelf, .int m_bestSet, .ref mdigits])), (mstates, .inl (cyI, 2760, .inl f_26))]) C 2 1 rfl rfl (i_nn (by omega)) rfl (i_lt_n (by omega) (by omega)) dX11_puts_74 (by rw [ef_26]; rfl) ?_
    refine j_aload_n (pc := 75) C dX11_puts_75 rfl 2 rfl ?_
    refine j_get (pc := 76) (ci := 11) (v := .ref mstates) C inw_11 1 rfl rfl 20 (by decide) wd_764 rfl rfl dX11_puts_76 ?_
    refine j_iload (pc := 79) C dX11_puts_79 0 rfl ?_
    refine j_dup2 (pc := 81) C dX11_puts_81 rfl rfl ?_
    obtain ⟨v_27, ev_27⟩ : ∃ z, f_26 ((u_14.2.1 0)).toInt.toNat = z := ⟨_, rfl⟩
    have env_27 : (f_26 ((u_14.2.1 0)).toInt.toNat).toInt = v_27.toInt := by rw [ev_27]
    have hv_27 : 0 ≤ v_27.toInt ∧ v_27.toInt ≤ 12 := by rw [← ev_27]; exact SV.siz hf_26 ad_16 (by omega)
    refine j_iald (pc := 82) (v := v_27) (k := ((u_14.2.1 0)).toInt.toNat) C 2 1 rfl rfl (i_nn (by omega)) rfl (i_lt_n (by omega) (by omega)) ev_27 dX11_puts_82 ?_
    have hy8 : v_27.toInt = v_24.toInt := by rw [← ev_27, ef_26, pk_un (show ¬ ((u_14.2.1 0)).toInt.toNat = (v_25).toInt.toNat from (by omega)), ev_24]
    refine j_iconst (pc := 83) (v := 1) C dX11_puts_83 (by decide) ?_
    obtain ⟨v_28, ev_28⟩ : ∃ z : Int32, v_27 + 1 = z := ⟨_, rfl⟩
    have el_1 : (1 : Int32).toInt = 1 := rfl
    have hv_28 : v_28.toInt = v_27.toInt + (1 : Int32).toInt := by rw [← ev_28]; exact fb_addI (by omega) (by omega)
    refine j_iadd (pc := 84) (v := v_28) C dX11_puts_84 ev_28 ?_
    obtain ⟨f_29, ef_29⟩ : ∃ z, z = upd f_26 ((u_14.2.1 0)).toInt.toNat v_28 := ⟨_, rfl⟩
    have hf_29 : SV f_29 := by rw [ef_29]; exact SV.usiz hf_26 ad_16 (by omega) (by omega)
    refine j_iast (pc := 85) (k := ((u_14.2.1 0)).toInt.toNat) (ws' := [(mtold, .inl (cyI, 240, .inl m_told)), (m0, .inr (11, [.int m_thrown, .ref mtape, .int m_taped, .int m_size, .ref msort, .ref mplace, .ref mvalue, .int m_at, .int m_fault, .ref mwords, .ref mtold, .ref mop, .ref marg, .int m_codes, .ref mnames, .ref mhasHabit, .int m_isNew, .ref mfactWords, .ref mfacts, .ref mpile, .ref mstates, .ref misMarked, .int m_inShelf, .int m_inStack, .int m_inPlace, .ref mrow, .int m_rowMany, .ref mthr, .ref mmays, .ref mtall, .ref mweights, .ref mrowOfWare, .ref mneededOf, .int m_goShelf, .int m_goStack, .int m_goLeft, .ref mtried, .ref mbestRow, .int m_bestCost, .int m_bestMany, .int m_bestShelf, .int m_bestSet, .ref mdigits])), (mstates, .inl (cyI, 2760, .inl f_29))]) C 2 1 rfl rfl (i_nn (by omega)) rfl (i_lt_n (by omega) (by omega)) dX11_puts_85 (by rw [ef_29]; rfl) ?_
    exact j_vret (pc := 86) C hr hk (fun i => [].getD i 0, fun i => [].getD i 0, fun i => [f_29].getD i (fun _ => 0), fun i => [].getD i (fun _ => 0)) rfl (show (SV f_29) ∧ (DU f_29) ∧ (CRs f_29 m_told 1) ∧ (∀ j : Nat, (j < 460 ∨ 880 ≤ j) → f_29 j = m_states j) ∧ (PTS m_states f_29 460 p1 p2 p3) from ⟨hf_29, (by rw [ef_29, ef_26]; exact DU.add (by rw [ef_22, ef_17]; exact DU.out (DU.zero hDU ad_16.nat rfl) (fun i hi => AD.cnt (b := 1) (s := (p2).toInt.toNat) hi (by omega) (by omega))) ad_16.nat (by omega) (by omega) (by omega) (fun p hp => absurd hp (by omega)) (by omega)), (by rw [ef_29, ef_26, ef_22, ef_17]; exact CRs.stk (CRs.stk (CRs.at' (s := (p2).toInt.toNat) (CRs.stk hCR ad_16.nat (by omega)) (by omega) (by omega)) ad_16.nat (by omega)) ad_16.nat (by omega)), (fun j hj => by rw [ef_29, pk_un (show ¬ j = ((u_14.2.1 0)).toInt.toNat from (by omega)), ef_26, pk_un (show ¬ j = (v_25).toInt.toNat from (by omega)), ef_22, pk_un (show ¬ j = (v_19).toInt.toNat from (by omega)), ef_17, pk_un (show ¬ j = ((u_14.2.1 0)).toInt.toNat from (by omega))]), (fun k0 n0 hk hn => by have e1 : plc (p3).toInt (m_states (460 + 105 * (p2).toInt.toNat)).toInt = (m_states (460 + 105 * (p2).toInt.toNat)).toInt := if_pos (by omega); rw [e1] at hk; have e2 : nPt (p3).toInt (m_states (460 + 105 * (p2).toInt.toNat + 1 + 13 * k0)).toInt = 0 := if_pos (by omega); rw [e2] at hn; have ec : (m_states (v_19).toInt.toNat).toInt = (m_states (460 + 105 * (p2).toInt.toNat)).toInt := (by rw [show (v_19).toInt.toNat = 460 + 105 * (p2).toInt.toNat from (by omega)]); exact ⟨⟨by omega, by omega⟩, (by rw [ef_29, pk_un (show ¬ 460 + 105 * (p2).toInt.toNat = ((u_14.2.1 0)).toInt.toNat from (by omega)), ef_26, pk_un (show ¬ 460 + 105 * (p2).toInt.toNat = (v_25).toInt.toNat from (by omega)), ef_22, show 460 + 105 * (p2).toInt.toNat = (v_19).toInt.toNat from (by omega), pk_us, if_pos (by omega)]; omega), (by rw [ef_29, show 460 + 105 * (p2).toInt.toNat + 1 + 13 * k0 = ((u_14.2.1 0)).toInt.toNat from (by omega), pk_us]; omega), (by rw [ef_29, pk_un (show ¬ 460 + 105 * (p2).toInt.toNat + 1 + 13 * k0 + 1 + n0 = ((u_14.2.1 0)).toInt.toNat from (by omega)), ef_26, show 460 + 105 * (p2).toInt.toNat + 1 + 13 * k0 + 1 + n0 = (v_25).toInt.toNat from (by omega), pk_us]), (fun j j0 j1 j2 j3 => by rw [ef_29, pk_un (show ¬ j = ((u_14.2.1 0)).toInt.toNat from (by omega)), ef_26, pk_un (show ¬ j = (v_25).toInt.toNat from (by omega)), ef_22, pk_un (show ¬ j = (v_19).toInt.toNat from (by omega)), ef_17, pk_un (show ¬ j = ((u_14.2.1 0)).toInt.toNat from (by omega))])⟩)⟩) [1, 0, 2] (by decide) rfl (by decide) (by decide) dX11_puts_86
set_option maxHeartbeats 4000000 in
set_option maxRecDepth 100000 in
theorem c_X11_put (l : Launch) (D : DG) (cyC cyI cyJ cyZ cyO : ClassId) (m0 : Nat) (mtold : Nat) (mop : Nat) (marg : Nat) (mfacts : Nat) (mpile : Nat) (mstates : Nat) (misMarked : Nat) (mrow : Nat) (mtape : Nat) (msort : Nat) (mplace : Nat) (mvalue : Nat) (mwords : Nat) (mnames : Nat) (mhasHabit : Nat) (mfactWords : Nat) (mthr : Nat) (mmays : Nat) (mtall : Nat) (mweights : Nat) (mrowOfWare : Nat) (mneededOf : Nat) (mtried : Nat) (mbestRow : Nat) (mdigits : Nat) (p0 : Int32) (p1 : Int32) (p2 : Int32) (m_thrown : Int32) (m_taped : Int32) (m_size : Int32) (m_at : Int32) (m_fault : Int32) (m_codes : Int32) (m_isNew : Int32) (m_inShelf : Int32) (m_inStack : Int32) (m_inPlace : Int32) (m_rowMany : Int32) (m_goShelf : Int32) (m_goStack : Int32) (m_goLeft : Int32) (m_bestCost : Int32) (m_bestMany : Int32) (m_bestShelf : Int32) (m_bestSet : Int32) (m_told : Nat → Int32) (m_op : Nat → Int32) (m_arg : Nat → Int32) (m_facts : Nat → Int32) (m_pile : Nat → Int32) (m_states : Nat → Int32) (m_isMarked : Nat → Int32) (m_row : Nat → Int32) (h_m_taped : 0 ≤ (m_taped).toInt ∧ (m_taped).toInt ≤ 1000) (h_m_size : 0 ≤ (m_size).toInt ∧ (m_size).toInt ≤ 1000) (h_m_at : 0 ≤ (m_at).toInt ∧ (m_at).toInt ≤ 1000) (h_m_fault : 0 ≤ (m_fault).toInt ∧ (m_fault).toInt ≤ 16005) (h_m_codes : 0 ≤ (m_codes).toInt ∧ (m_codes).toInt ≤ 1000) (h_m_isNew : 0 ≤ (m_isNew).toInt ∧ (m_isNew).toInt ≤ 1) (h_m_inShelf : 0 ≤ (m_inShelf).toInt ∧ (m_inShelf).toInt ≤ 3) (h_m_inStack : 0 ≤ (m_inStack).toInt ∧ (m_inStack).toInt ≤ 7) (h_m_inPlace : 0 ≤ (m_inPlace).toInt ∧ (m_inPlace).toInt ≤ 11) (h_m_rowMany : 0 ≤ (m_rowMany).toInt ∧ (m_rowMany).toInt ≤ 12) (h_m_goShelf : -1 ≤ (m_goShelf).toInt ∧ (m_goShelf).toInt ≤ 3) (h_m_bestMany : 0 ≤ (m_bestMany).toInt ∧ (m_bestMany).toInt ≤ 7) (h_m_bestShelf : 0 ≤ (m_bestShelf).toInt ∧ (m_bestShelf).toInt ≤ 3) (h_m_row : Iv 12 (0) (11) m_row) (h_m_told : TV m_told) (h_m_states : SV m_states) (hwf : WFm m_told m_op m_arg) (hSI : SI m_states m_told m_isMarked) : KK l D (TY cyC cyI cyJ cyZ cyO) yX11_put cX11_put 5 (some .int) ({ frames := 6, cells := 0, slots := 0, locals := 137 } : Room) 0 0 [.ref m0, .int p0, .int p1, .int p2] [(m0, .inr (11, [.int m_thrown, .ref mtape, .int m_taped, .int m_size, .ref msort, .ref mplace, .ref mvalue, .int m_at, .int m_fault, .ref mwords, .ref mtold, .ref mop, .ref marg, .int m_codes, .ref mnames, .ref mhasHabit, .int m_isNew, .ref mfactWords, .ref mfacts, .ref mpile, .ref mstates, .ref misMarked, .int m_inShelf, .int m_inStack, .int m_inPlace, .ref mrow, .int m_rowMany, .ref mthr, .ref mmays, .ref mtall, .ref mweights, .ref mrowOfWare, .ref mneededOf, .int m_goShelf, .int m_goStack, .int m_goLeft, .ref mtried, .ref mbestRow, .int m_bestCost, .int m_bestMany, .int m_bestShelf, .int m_bestSet, .ref mdigits])), (mtold, .inl (cyI, 240, .inl m_told)), (mop, .inl (cyI, 2200, .inl m_op)), (marg, .inl (cyI, 2200, .inl m_arg)), (mfacts, .inl (cyI, 8, .inl m_facts)), (mpile, .inl (cyI, 1100, .inl m_pile)), (mstates, .inl (cyI, 2760, .inl m_states)), (misMarked, .inl (cyZ, 4, .inl m_isMarked)), (mrow, .inl (cyI, 12, .inl m_row))] (fun u => some (.int (u.2.1 0))) (fun u => (0 ≤ (u.2.1 0).toInt ∧ (u.2.1 0).toInt ≤ 6) ∧ (0 ≤ (u.2.1 1).toInt ∧ (u.2.1 1).toInt ≤ 3) ∧ (0 ≤ (u.2.1 2).toInt ∧ (u.2.1 2).toInt ≤ 7) ∧ (0 ≤ (u.2.1 3).toInt ∧ (u.2.1 3).toInt ≤ 11) ∧ (0 ≤ (u.2.1 4).toInt ∧ (u.2.1 4).toInt ≤ 12) ∧ (SV (u.2.2.1 2)) ∧ (Iv 12 (0) (11) (u.2.2.1 3)) ∧ (SI (u.2.2.1 2) m_told m_isMarked) ∧ (∀ j : Nat, (421 ≤ j ∧ (j < 460 ∨ 920 ≤ j)) → (u.2.2.1 2) j = m_states j) ∧ (PUTR (OKP (p0).toInt (p1).toInt (p2).toInt (m_told 0).toInt (m_told 1).toInt (m_states (0 + 105 * (p1).toInt.toNat)).toInt) (NI m_states 0 p0 (m_told 1).toInt) ((p2).toInt = -1 ∧ (m_states (0 + 105 * (p1).toInt.toNat)).toInt = (m_told (101 + 3 * (p1).toInt.toNat)).toInt) (fun x => ∀ E : (Nat → (Nat → Int32) → Int32), ME6 m_told m_op m_arg E → ∀ n : Nat, (n : Int) = nPt (p2).toInt (m_states (0 + 105 * (p1).toInt.toNat + 1 + 13 * (p2).toInt.toNat)).toInt → RFZ (fun u l => mayM m_told E u l) (wtM m_told) (brM m_told) (dpM m_told) (rsM m_told) (upd (fun p => m_states ((0 + 105 * (p1).toInt.toNat + 1 + 13 * (p2).toInt.toNat) + 1 + p)) n p0) (n + 1) (m_told (99 + 3 * (p1).toInt.toNat)) x) (u.2.1 0).toInt) ∧ (IM ((u.2.1 0).toInt = 0) (PTS m_states (u.2.2.1 2) 0 p0 p1 p2)) ∧ (IM (¬ (u.2.1 0).toInt = 0) ((u.2.2.1 2) = m_states)) ∧ (∀ j : Nat, 460 ≤ j → (u.2.2.1 2) j = m_states j)) (fun u => [(m0, .inr (11, [.int 0, .ref mtape, .int m_taped, .int m_size, .ref msort, .ref mplace, .ref mvalue, .int m_at, .int m_fault, .ref mwords, .ref mtold, .ref mop, .ref marg, .int m_codes, .ref mnames, .ref mhasHabit, .int m_isNew, .ref mfactWords, .ref mfacts, .ref mpile, .ref mstates, .ref misMarked, .int (u.2.1 1), .int (u.2.1 2), .int (u.2.1 3), .ref mrow, .int (u.2.1 4), .ref mthr, .ref mmays, .ref mtall, .ref mweights, .ref mrowOfWare, .ref mneededOf, .int m_goShelf, .int m_goStack, .int m_goLeft, .ref mtried, .ref mbestRow, .int m_bestCost, .int m_bestMany, .int m_bestShelf, .int m_bestSet, .ref mdigits])), (mtold, .inl (cyI, 240, .inl m_told)), (mop, .inl (cyI, 2200, .inl m_op)), (marg, .inl (cyI, 2200, .inl m_arg)), (mfacts, .inl (cyI, 8, .inl (u.2.2.1 0))), (mpile, .inl (cyI, 1100, .inl (u.2.2.1 1))), (mstates, .inl (cyI, 2760, .inl (u.2.2.1 2))), (misMarked, .inl (cyZ, 4, .inl m_isMarked)), (mrow, .inl (cyI, 12, .inl (u.2.2.1 3)))]) := by
  refine KK.of (lv0 := [(0, .ref m0), (1, .int p0), (2, .int p1), (3, .int p2)]) (by decide) rfl (Nat.le_of_ble_eq_true rfl) ?_
  intro p e s m args below meth c A C hr hk hin
  refine j_aload_n (pc := 0) C dX11_put_0 rfl 0 rfl ?_
  refine j_iconst (pc := 1) (v := 0) C dX11_put_1 (by decide) ?_
  refine j_put (pc := 2) (ci := 11) (v := .int 0) (ws' := [(m0, .inr (11, [.int 0, .ref mtape, .int m_taped, .int m_size, .ref msort, .ref mplace, .ref mvalue, .int m_at, .int m_fault, .ref mwords, .ref mtold, .ref mop, .ref marg, .int m_codes, .ref mnames, .ref mhasHabit, .int m_isNew, .ref mfactWords, .ref mfacts, .ref mpile, .ref mstates, .ref misMarked, .int m_inShelf, .int m_inStack, .int m_inPlace, .ref mrow, .int m_rowMany, .ref mthr, .ref mmays, .ref mtall, .ref mweights, .ref mrowOfWare, .ref mneededOf, .int m_goShelf, .int m_goStack, .int m_goLeft, .ref mtried, .ref mbestRow, .int m_bestCost, .int m_bestMany, .int m_bestShelf, .int m_bestSet, .ref mdigits])), (mtold, .inl (cyI, 240, .inl m_told)), (mop, .inl (cyI, 2200, .inl m_op)), (marg, .inl (cyI, 2200, .inl m_arg)), (mfacts, .inl (cyI, 8, .inl m_facts)), (mpile, .inl (cyI, 1100, .inl m_pile)), (mstates, .inl (cyI, 2760, .inl m_states)), (misMarked, .inl (cyZ, 4, .inl m_isMarked)), (mrow, .inl (cyI, 12, .inl m_row))]) C inw_11 0 rfl rfl 0 (by decide) wd_629 rfl tyX11_ok nmX11 rfl (tyX11_ok 0 (by decide)) rfl rfl (Nat.le_of_ble_eq_true rfl) dX11_put_2 rfl ?_
  refine j_aload_n (pc := 5) C dX11_put_5 rfl 0 rfl ?_
  refine j_iconst (pc := 6) (v := 0) C dX11_put_6 (by decide) ?_
  refine j_iload_n (pc := 7) C dX11_put_7 rfl 1 rfl ?_
  refine j_iload_n (pc := 8) C dX11_put_8 rfl 2 rfl ?_
  refine j_iload_n (pc := 9) C dX11_put_9 rfl 3 rfl ?_
  refine j_callV (pc := 10) (As := [.int 0, .int p0, .int p1, .int p2]) (rest := []) (wr := [(misMarked, .inl (cyZ, 4, .inl m_isMarked))]) C (c_X11_whyNotPut_0 l D cyC cyI cyJ cyZ cyO m0 mtold mop marg mfacts mpile mstates mrow mtape msort mplace mvalue mwords mnames mhasHabit mfactWords misMarked mthr mmays mtall mweights mrowOfWare mneededOf mtried mbestRow mdigits p0 p1 p2 0 m_taped m_size m_at m_fault m_codes m_isNew m_inShelf m_inStack m_inPlace m_rowMany m_goShelf m_goStack m_goLeft m_bestCost m_bestMany m_bestShelf m_bestSet m_told m_op m_arg m_facts m_pile m_states m_row h_m_taped h_m_size h_m_at h_m_fault h_m_codes h_m_isNew h_m_inShelf h_m_inStack h_m_inPlace h_m_rowMany h_m_goShelf h_m_bestMany h_m_bestShelf h_m_row h_m_told h_m_states hwf hSI.1) wd_841 wd_624 wd_842 wd_843 wd_844 ⟨by decide, by decide, rfl⟩ rfl ⟨rfl, rfl, by decide, by decide⟩ ⟨by decide, by decide⟩ [0, 1, 2, 3, 4, 5, 6, 8] [7] rfl rfl ⟨by decide, by decide, by decide⟩ 0 rfl rfl rfl (Nat.le_of_ble_eq_true rfl) dX11_put_10 (fun u_1 hw_2 => ?_)
  refine j_eq (ws2 := [(misMarked, .inl (cyZ, 4, .inl m_isMarked)), (m0, .inr (11, [.int 0, .ref mtape, .int m_taped, .int m_size, .ref msort, .ref mplace, .ref mvalue, .int m_at, .int m_fault, .ref mwords, .ref mtold, .ref mop, .ref marg, .int m_codes, .ref mnames, .ref mhasHabit, .int m_isNew, .ref mfactWords, .ref mfacts, .ref mpile, .ref mstates, .ref misMarked, .int (u_1.2.1 1), .int (u_1.2.1 2), .int (u_1.2.1 3), .ref mrow, .int (u_1.2.1 4), .ref mthr, .ref mmays, .ref mtall, .ref mweights, .ref mrowOfWare, .ref mneededOf, .int m_goShelf, .int m_goStack, .int m_goLeft, .ref mtried, .ref mbestRow, .int m_bestCost, .int m_bestMany, .int m_bestShelf, .int m_bestSet, .ref mdigits])), (mtold, .inl (cyI, 240, .inl m_told)), (mop, .inl (cyI, 2200, .inl m_op)), (marg, .inl (cyI, 2200, .inl m_arg)), (mfacts, .inl (cyI, 8, .inl (u_1.2.2.1 0))), (mpile, .inl (cyI, 1100, .inl (u_1.2.2.1 1))), (mstates, .inl (cyI, 2760, .inl m_states)), (mrow, .inl (cyI, 12, .inl (u_1.2.2.1 2)))]) (pc2 := 13) (lv2 := [(0, .ref m0), (1, .int p0), (2, .int p1), (3, .int p2)]) (st2 := [.int (u_1.2.1 0)]) rfl rfl rfl rfl ?_
  obtain ⟨hw_2_0, hw_2_1, hw_2_2, hw_2_3, hw_2_4, hw_2_5, hw_2_6, hw_2_7, hw_2_8⟩ := hw_2
  refine j_istore (pc := 13) (lv' := [(4, .int (u_1.2.1 0)), (0, .ref m0), (1, .int p0), (2, .int p1), (3, .int p2)]) C dX11_put_13 (by decide) rfl ?_
  refine j_iload (pc := 15) C dX11_put_15 0 rfl ?_
  refine j_if_ne (pc := 17) (tgt := 45) C dX11_put_17 (by decide) (fun c_3 => ?_) (fun c_3 => ?_)
  · skip
    have el_0 : (0 : Int32).toInt = 0 := rfl
    rw [i_eq] at c_3
    refine j_iload (pc := 45) C dX11_put_45 0 rfl ?_
    exact j_iret (pc := 47) C hr hk (fun i => [].getD i 0, fun i => [(u_1.2.1 0), (u_1.2.1 1), (u_1.2.1 2), (u_1.2.1 3), (u_1.2.1 4)].getD i 0, fun i => [(u_1.2.2.1 0), (u_1.2.2.1 1), m_states, (u_1.2.2.1 2)].getD i (fun _ => 0), fun i => [].getD i (fun _ => 0)) rfl (show (0 ≤ ((u_1.2.1 0)).toInt ∧ ((u_1.2.1 0)).toInt ≤ 6) ∧ (0 ≤ ((u_1.2.1 1)).toInt ∧ ((u_1.2.1 1)).toInt ≤ 3) ∧ (0 ≤ ((u_1.2.1 2)).toInt ∧ ((u_1.2.1 2)).toInt ≤ 7) ∧ (0 ≤ ((u_1.2.1 3)).toInt ∧ ((u_1.2.1 3)).toInt ≤ 11) ∧ (0 ≤ ((u_1.2.1 4)).toInt ∧ ((u_1.2.1 4)).toInt ≤ 12) ∧ (SV m_states) ∧ (Iv 12 (0) (11) (u_1.2.2.1 2)) ∧ (SI m_states m_told m_isMarked) ∧ (∀ j : Nat, (421 ≤ j ∧ (j < 460 ∨ 920 ≤ j)) → m_states j = m_states j) ∧ (PUTR (OKP (p0).toInt (p1).toInt (p2).toInt (m_told 0).toInt (m_told 1).toInt (m_states (0 + 105 * (p1).toInt.toNat)).toInt) (NI m_states 0 p0 (m_told 1).toInt) ((p2).toInt = -1 ∧ (m_states (0 + 105 * (p1).toInt.toNat)).toInt = (m_told (101 + 3 * (p1).toInt.toNat)).toInt) (fun x => ∀ E : (Nat → (Nat → Int32) → Int32), ME6 m_told m_op m_arg E → ∀ n : Nat, (n : Int) = nPt (p2).toInt (m_states (0 + 105 * (p1).toInt.toNat + 1 + 13 * (p2).toInt.toNat)).toInt → RFZ (fun u l => mayM m_told E u l) (wtM m_told) (brM m_told) (dpM m_told) (rsM m_told) (upd (fun p => m_states ((0 + 105 * (p1).toInt.toNat + 1 + 13 * (p2).toInt.toNat) + 1 + p)) n p0) (n + 1) (m_told (99 + 3 * (p1).toInt.toNat)) x) (u_1.2.1 0).toInt) ∧ (IM ((u_1.2.1 0).toInt = 0) (PTS m_states m_states 0 p0 p1 p2)) ∧ (IM (¬ (u_1.2.1 0).toInt = 0) (m_states = m_states)) ∧ (∀ j : Nat, 460 ≤ j → m_states j = m_states j) from ⟨hw_2_0, hw_2_1, hw_2_2, hw_2_3, hw_2_4, h_m_states, hw_2_5, hSI, (fun j hj => rfl), hw_2_8, (fun z9 => by exfalso; omega), (fun _ => rfl), (fun j hj => rfl)⟩) [1, 2, 3, 4, 5, 6, 7, 0, 8] (by decide) rfl (by decide) (by decide) dX11_put_47
  · skip
    have el_0 : (0 : Int32).toInt = 0 := rfl
    rw [i_eq] at c_3
    refine j_aload_n (pc := 20) C dX11_put_20 rfl 1 rfl ?_
    refine j_iconst (pc := 21) (v := 0) C dX11_put_21 (by decide) ?_
    refine j_iload_n (pc := 22) C dX11_put_22 rfl 2 rfl ?_
    refine j_iload_n (pc := 23) C dX11_put_23 rfl 3 rfl ?_
    refine j_iload_n (pc := 24) C dX11_put_24 rfl 4 rfl ?_
    refine j_callV (pc := 25) (As := [.int 0, .int p0, .int p1, .int p2]) (rest := []) (wr := [(misMarked, .inl (cyZ, 4, .inl m_isMarked)), (mop, .inl (cyI, 2200, .inl m_op)), (marg, .inl (cyI, 2200, .inl m_arg)), (mfacts, .inl (cyI, 8, .inl (u_1.2.2.1 0))), (mpile, .inl (cyI, 1100, .inl (u_1.2.2.1 1))), (mrow, .inl (cyI, 12, .inl (u_1.2.2.1 2)))]) C (c_X11_puts_0 l D cyC cyI cyJ cyZ cyO m0 mtold mstates mtape msort mplace mvalue mwords mop marg mnames mhasHabit mfactWords mfacts mpile misMarked mrow mthr mmays mtall mweights mrowOfWare mneededOf mtried mbestRow mdigits p0 p1 p2 0 m_taped m_size m_at m_fault m_codes m_isNew (u_1.2.1 1) (u_1.2.1 2) (u_1.2.1 3) (u_1.2.1 4) m_goShelf m_goStack m_goLeft m_bestCost m_bestMany m_bestShelf m_bestSet m_told m_states h_m_taped h_m_size h_m_at h_m_fault h_m_codes h_m_isNew hw_2_1 hw_2_2 hw_2_3 hw_2_4 h_m_goShelf h_m_bestMany h_m_bestShelf (by omega) (by omega) (by omega) h_m_told h_m_states hSI.1 hSI.2.1 (hw_2_7 (by omega))) wd_845 wd_624 wd_846 wd_847 wd_848 ⟨by decide, by decide, rfl⟩ rfl ⟨rfl, rfl, by decide, by decide⟩ ⟨by decide, by decide⟩ [1, 2, 7] [0, 3, 4, 5, 6, 8] rfl rfl ⟨by decide, by decide, by decide⟩ 1 rfl rfl rfl (Nat.le_of_ble_eq_true rfl) dX11_put_25 (fun u_4 hw_5 => ?_)
    refine j_eq (ws2 := [(misMarked, .inl (cyZ, 4, .inl m_isMarked)), (mop, .inl (cyI, 2200, .inl m_op)), (marg, .inl (cyI, 2200, .inl m_arg)), (mfacts, .inl (cyI, 8, .inl (u_1.2.2.1 0))), (mpile, .inl (cyI, 1100, .inl (u_1.2.2.1 1))), (mrow, .inl (cyI, 12, .inl (u_1.2.2.1 2))), (m0, .inr (11, [.int 0, .ref mtape, .int m_taped, .int m_size, .ref msort, .ref mplace, .ref mvalue, .int m_at, .int m_fault, .ref mwords, .ref mtold, .ref mop, .ref marg, .int m_codes, .ref mnames, .ref mhasHabit, .int m_isNew, .ref mfactWords, .ref mfacts, .ref mpile, .ref mstates, .ref misMarked, .int (u_1.2.1 1), .int (u_1.2.1 2), .int (u_1.2.1 3), .ref mrow, .int (u_1.2.1 4), .ref mthr, .ref mmays, .ref mtall, .ref mweights, .ref mrowOfWare, .ref mneededOf, .int m_goShelf, .int m_goStack, .int m_goLeft, .ref mtried, .ref mbestRow, .int m_bestCost, .int m_bestMany, .int m_bestShelf, .int m_bestSet, .ref mdigits])), (mtold, .inl (cyI, 240, .inl m_told)), (mstates, .inl (cyI, 2760, .inl (u_4.2.2.1 0)))]) (pc2 := 28) (lv2 := [(4, .int (u_1.2.1 0)), (0, .ref m0), (1, .int p0), (2, .int p1), (3, .int p2)]) (st2 := []) rfl rfl rfl rfl ?_
    obtain ⟨hw_5_0, hw_5_1, hw_5_2, hw_5_3, hw_5_4⟩ := hw_5
    refine j_aload_n (pc := 28) C dX11_put_28 rfl 1 rfl ?_
    refine j_get (pc := 29) (ci := 11) (v := .ref mstates) C inw_11 6 rfl rfl 20 (by decide) wd_764 rfl rfl dX11_put_29 ?_
    refine j_sipush (pc := 32) (v := 420) C dX11_put_32 (by decide) ?_
    refine j_dup2 (pc := 35) C dX11_put_35 rfl rfl ?_
    obtain ⟨v_6, ev_6⟩ : ∃ z, (u_4.2.2.1 0) 420 = z := ⟨_, rfl⟩
    have env_6 : ((u_4.2.2.1 0) 420).toInt = v_6.toInt := by rw [ev_6]
    refine j_iald (pc := 36) (v := v_6) (k := 420) C 8 1 rfl rfl (by decide) (by decide) (by decide) ev_6 dX11_put_36 ?_
    refine j_aload_n (pc := 37) C dX11_put_37 rfl 1 rfl ?_
    refine j_iload_n (pc := 38) C dX11_put_38 rfl 2 rfl ?_
    refine j_iload_n (pc := 39) C dX11_put_39 rfl 3 rfl ?_
    refine j_callV (pc := 40) (As := [.int p0, .int p1]) (rest := [.int v_6, .int 420, .ref mstates]) (wr := [(misMarked, .inl (cyZ, 4, .inl m_isMarked)), (mop, .inl (cyI, 2200, .inl m_op)), (marg, .inl (cyI, 2200, .inl m_arg)), (mfacts, .inl (cyI, 8, .inl (u_1.2.2.1 0))), (mpile, .inl (cyI, 1100, .inl (u_1.2.2.1 1))), (mrow, .inl (cyI, 12, .inl (u_1.2.2.1 2))), (mstates, .inl (cyI, 2760, .inl (u_4.2.2.1 0)))]) C (c_X11_costOf l D cyC cyI cyJ cyZ cyO m0 mtold mtape msort mplace mvalue mwords mop marg mnames mhasHabit mfactWords mfacts mpile mstates misMarked mrow mthr mmays mtall mweights mrowOfWare mneededOf mtried mbestRow mdigits p0 p1 0 m_taped m_size m_at m_fault m_codes m_isNew (u_1.2.1 1) (u_1.2.1 2) (u_1.2.1 3) (u_1.2.1 4) m_goShelf m_goStack m_goLeft m_bestCost m_bestMany m_bestShelf m_bestSet m_told h_m_taped h_m_size h_m_at h_m_fault h_m_codes h_m_isNew hw_2_1 hw_2_2 hw_2_3 hw_2_4 h_m_goShelf h_m_bestMany h_m_bestShelf (by omega) (by omega) h_m_told) wd_785 wd_624 wd_786 wd_787 wd_788 ⟨by decide, by decide, rfl⟩ rfl ⟨rfl, rfl, by decide, by decide⟩ ⟨by decide, by decide⟩ [6, 7] [0, 1, 2, 3, 4, 5, 8] rfl rfl ⟨by decide, by decide, by decide⟩ 6 rfl rfl rfl (Nat.le_of_ble_eq_true rfl) dX11_put_40 (fun u_7 hw_8 => ?_)
    refine j_eq (ws2 := [(misMarked, .inl (cyZ, 4, .inl m_isMarked)), (mop, .inl (cyI, 2200, .inl m_op)), (marg, .inl (cyI, 2200, .inl m_arg)), (mfacts, .inl (cyI, 8, .inl (u_1.2.2.1 0))), (mpile, .inl (cyI, 1100, .inl (u_1.2.2.1 1))), (mrow, .inl (cyI, 12, .inl (u_1.2.2.1 2))), (mstates, .inl (cyI, 2760, .inl (u_4.2.2.1 0))), (m0, .inr (11, [.int 0, .ref mtape, .int m_taped, .int m_size, .ref msort, .ref mplace, .ref mvalue, .int m_at, .int m_fault, .ref mwords, .ref mtold, .ref mop, .ref marg, .int m_codes, .ref mnames, .ref mhasHabit, .int m_isNew, .ref mfactWords, .ref mfacts, .ref mpile, .ref mstates, .ref misMarked, .int (u_1.2.1 1), .int (u_1.2.1 2), .int (u_1.2.1 3), .ref mrow, .int (u_1.2.1 4), .ref mthr, .ref mmays, .ref mtall, .ref mweights, .ref mrowOfWare, .ref mneededOf, .int m_goShelf, .int m_goStack, .int m_goLeft, .ref mtried, .ref mbestRow, .int m_bestCost, .int m_bestMany, .int m_bestShelf, .int m_bestSet, .ref mdigits])), (mtold, .inl (cyI, 240, .inl m_told))]) (pc2 := 43) (lv2 := [(4, .int (u_1.2.1 0)), (0, .ref m0), (1, .int p0), (2, .int p1), (3, .int p2)]) (st2 := [.int (u_7.2.1 0), .int v_6, .int 420, .ref mstates]) rfl rfl rfl rfl ?_
    obtain ⟨hw_8_0, hw_8_1⟩ := hw_8
    obtain ⟨v_9, ev_9⟩ : ∃ z : Int32, v_6 + (u_7.2.1 0) = z := ⟨_, rfl⟩
    refine j_iadd (pc := 43) (v := v_9) C dX11_put_43 ev_9 ?_
    obtain ⟨f_10, ef_10⟩ : ∃ z, z = upd (u_4.2.2.1 0) 420 v_9 := ⟨_, rfl⟩
    have hf_10 : SV f_10 := by rw [ef_10]; exact SV.wr hw_5_0 (Or.inl (by decide))
    refine j_iast (pc := 44) (k := 420) (ws' := [(misMarked, .inl (cyZ, 4, .inl m_isMarked)), (mop, .inl (cyI, 2200, .inl m_op)), (marg, .inl (cyI, 2200, .inl m_arg)), (mfacts, .inl (cyI, 8, .inl (u_1.2.2.1 0))), (mpile, .inl (cyI, 1100, .inl (u_1.2.2.1 1))), (mrow, .inl (cyI, 12, .inl (u_1.2.2.1 2))), (mstates, .inl (cyI, 2760, .inl f_10)), (m0, .inr (11, [.int 0, .ref mtape, .int m_taped, .int m_size, .ref msort, .ref mplace, .ref mvalue, .int m_at, .int m_fault, .ref mwords, .ref mtold, .ref mop, .ref marg, .int m_codes, .ref mnames, .ref mhasHabit, .int m_isNew, .ref mfactWords, .ref mfacts, .ref mpile, .ref mstates, .ref misMarked, .int (u_1.2.1 1), .int (u_1.2.1 2), .int (u_1.2.1 3), .ref mrow, .int (u_1.2.1 4), .ref mthr, .ref mmays, .ref mtall, .ref mweights, .ref mrowOfWare, .ref mneededOf, .int m_goShelf, .int m_goStack, .int m_goLeft, .ref mtried, .ref mbestRow, .int m_bestCost, .int m_bestMany, .int m_bestShelf, .int m_bestSet, .ref mdigits])), (mtold, .inl (cyI, 240, .inl m_told))]) C 6 1 rfl rfl (by decide) (by decide) (by decide) dX11_put_44 (by rw [ef_10]; rfl) ?_
    refine j_iload (pc := 45) C dX11_put_45 0 rfl ?_
    exact j_iret (pc := 47) C hr hk (fun i => [].getD i 0, fun i => [(u_1.2.1 0), (u_1.2.1 1), (u_1.2.1 2), (u_1.2.1 3), (u_1.2.1 4)].getD i 0, fun i => [(u_1.2.2.1 0), (u_1.2.2.1 1), f_10, (u_1.2.2.1 2)].getD i (fun _ => 0), fun i => [].getD i (fun _ => 0)) rfl (show (0 ≤ ((u_1.2.1 0)).toInt ∧ ((u_1.2.1 0)).toInt ≤ 6) ∧ (0 ≤ ((u_1.2.1 1)).toInt ∧ ((u_1.2.1 1)).toInt ≤ 3) ∧ (0 ≤ ((u_1.2.1 2)).toInt ∧ ((u_1.2.1 2)).toInt ≤ 7) ∧ (0 ≤ ((u_1.2.1 3)).toInt ∧ ((u_1.2.1 3)).toInt ≤ 11) ∧ (0 ≤ ((u_1.2.1 4)).toInt ∧ ((u_1.2.1 4)).toInt ≤ 12) ∧ (SV f_10) ∧ (Iv 12 (0) (11) (u_1.2.2.1 2)) ∧ (SI f_10 m_told m_isMarked) ∧ (∀ j : Nat, (421 ≤ j ∧ (j < 460 ∨ 920 ≤ j)) → f_10 j = m_states j) ∧ (PUTR (OKP (p0).toInt (p1).toInt (p2).toInt (m_told 0).toInt (m_told 1).toInt (m_states (0 + 105 * (p1).toInt.toNat)).toInt) (NI m_states 0 p0 (m_told 1).toInt) ((p2).toInt = -1 ∧ (m_states (0 + 105 * (p1).toInt.toNat)).toInt = (m_told (101 + 3 * (p1).toInt.toNat)).toInt) (fun x => ∀ E : (Nat → (Nat → Int32) → Int32), ME6 m_told m_op m_arg E → ∀ n : Nat, (n : Int) = nPt (p2).toInt (m_states (0 + 105 * (p1).toInt.toNat + 1 + 13 * (p2).toInt.toNat)).toInt → RFZ (fun u l => mayM m_told E u l) (wtM m_told) (brM m_told) (dpM m_told) (rsM m_told) (upd (fun p => m_states ((0 + 105 * (p1).toInt.toNat + 1 + 13 * (p2).toInt.toNat) + 1 + p)) n p0) (n + 1) (m_told (99 + 3 * (p1).toInt.toNat)) x) (u_1.2.1 0).toInt) ∧ (IM ((u_1.2.1 0).toInt = 0) (PTS m_states f_10 0 p0 p1 p2)) ∧ (IM (¬ (u_1.2.1 0).toInt = 0) (f_10 = m_states)) ∧ (∀ j : Nat, 460 ≤ j → f_10 j = m_states j) from ⟨hw_2_0, hw_2_1, hw_2_2, hw_2_3, hw_2_4, hf_10, hw_2_5, (by rw [ef_10]; exact SI.b0 hSI (DU.out hw_5_1 (fun i hi => AD.tail (b := 0) (r := 420) hi (by decide) (by decide) rfl)) (CRs.out hw_5_2 (fun s hs => by omega)) (fun j hj => by rw [pk_un (show ¬ j = 420 from (by omega))]; exact hw_5_3 j (by omega))), (fun j hj => by rw [ef_10, pk_un (show ¬ j = 420 from (by omega))]; exact hw_5_3 j (by omega)), hw_2_8, (fun _ => PTS.cost hw_5_4 (by omega) (by rw [ef_10, show 420 = 420 from (by first | rfl | omega)])), (fun z9 => by exfalso; omega), (fun j hj => by rw [ef_10, pk_un (show ¬ j = 420 from (by omega))]; exact hw_5_3 j (by omega))⟩) [7, 8, 1, 2, 3, 4, 6, 0, 5] (by decide) rfl (by decide) (by decide) dX11_put_47
