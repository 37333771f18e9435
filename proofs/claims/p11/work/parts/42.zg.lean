theorem wd_781 : Cond.code yX11_takesRow cX11_takesRow 3 none ∈ WALL := wl_in (by decide +kernel) (by decide +kernel)
theorem wd_782 : Cond.methodLink RX11 327 yX11_takesRow ∈ WALL := wl_in (by decide +kernel) (by decide +kernel)
theorem wd_783 : Cond.instanceMethod yX11_takesRow ∈ WALL := wl_in (by decide +kernel) (by decide +kernel)
theorem wd_784 : Cond.selects RX11 yX11_takesRow yX11_takesRow ∈ WALL := wl_in (by decide +kernel) (by decide +kernel)
theorem wd_785 : Cond.code yX11_costOf cX11_costOf 3 (some .int) ∈ WALL := wl_in (by decide +kernel) (by decide +kernel)
theorem wd_786 : Cond.methodLink RX11 341 yX11_costOf ∈ WALL := wl_in (by decide +kernel) (by decide +kernel)
theorem wd_787 : Cond.instanceMethod yX11_costOf ∈ WALL := wl_in (by decide +kernel) (by decide +kernel)
theorem wd_788 : Cond.selects RX11 yX11_costOf yX11_costOf ∈ WALL := wl_in (by decide +kernel) (by decide +kernel)
theorem wd_789 : Cond.code yX11_rises cX11_rises 3 (some .int) ∈ WALL := wl_in (by decide +kernel) (by decide +kernel)
theorem wd_790 : Cond.methodLink RX11 312 yX11_rises ∈ WALL := wl_in (by decide +kernel) (by decide +kernel)
theorem wd_791 : Cond.instanceMethod yX11_rises ∈ WALL := wl_in (by decide +kernel) (by decide +kernel)
theorem wd_792 : Cond.selects RX11 yX11_rises yX11_rises ∈ WALL := wl_in (by decide +kernel) (by decide +kernel)
theorem wd_793 : Cond.code yX11_footAt cX11_footAt 4 (some .int) ∈ WALL := wl_in (by decide +kernel) (by decide +kernel)
theorem wd_794 : Cond.methodLink RX11 315 yX11_footAt ∈ WALL := wl_in (by decide +kernel) (by decide +kernel)
theorem wd_795 : Cond.instanceMethod yX11_footAt ∈ WALL := wl_in (by decide +kernel) (by decide +kernel)
theorem wd_796 : Cond.selects RX11 yX11_footAt yX11_footAt ∈ WALL := wl_in (by decide +kernel) (by decide +kernel)
theorem dX11_takesWithout_0 : decode cX11_takesWithout 0 = .ok (.aload_n 0, 1) := by decide +kernel
theorem dX11_takesWithout_1 : decode cX11_takesWithout 1 = .ok (.iload_n 1, 1) := by decide +kernel
theorem dX11_takesWithout_2 : decode cX11_takesWithout 2 = .ok (.aload_n 0, 1) := by decide +kernel
theorem dX11_takesWithout_3 : decode cX11_takesWithout 3 = .ok (.getfield 297, 3) := by decide +kernel
theorem dX11_takesWithout_6 : decode cX11_takesWithout 6 = .ok (.aload_n 0, 1) := by decide +kernel
theorem dX11_takesWithout_7 : decode cX11_takesWithout 7 = .ok (.getfield 300, 3) := by decide +kernel
theorem dX11_takesWithout_10 : decode cX11_takesWithout 10 = .ok (.invokestatic 294, 3) := by decide +kernel
theorem dX11_takesWithout_13 : decode cX11_takesWithout 13 = .ok (.invokevirtual 327, 3) := by decide +kernel
theorem dX11_takesWithout_16 : decode cX11_takesWithout 16 = .ok (.aload_n 0, 1) := by decide +kernel
theorem dX11_takesWithout_17 : decode cX11_takesWithout 17 = .ok (.getfield 303, 3) := by decide +kernel
theorem dX11_takesWithout_20 : decode cX11_takesWithout 20 = .ok (.istore_n 2, 1) := by decide +kernel
theorem dX11_takesWithout_21 : decode cX11_takesWithout 21 = .ok (.iload_n 2, 1) := by decide +kernel
theorem dX11_takesWithout_22 : decode cX11_takesWithout 22 = .ok (.aload_n 0, 1) := by decide +kernel
theorem dX11_takesWithout_23 : decode cX11_takesWithout 23 = .ok (.getfield 306, 3) := by decide +kernel
theorem dX11_takesWithout_26 : decode cX11_takesWithout 26 = .ok (.iconst 1, 1) := by decide +kernel
theorem dX11_takesWithout_27 : decode cX11_takesWithout 27 = .ok (.isub, 1) := by decide +kernel
theorem dX11_takesWithout_28 : decode cX11_takesWithout 28 = .ok (.if_icmp .ge 23, 3) := by decide +kernel
theorem dX11_takesWithout_31 : decode cX11_takesWithout 31 = .ok (.aload_n 0, 1) := by decide +kernel
theorem dX11_takesWithout_32 : decode cX11_takesWithout 32 = .ok (.getfield 114, 3) := by decide +kernel
theorem dX11_takesWithout_35 : decode cX11_takesWithout 35 = .ok (.iload_n 2, 1) := by decide +kernel
theorem dX11_takesWithout_36 : decode cX11_takesWithout 36 = .ok (.aload_n 0, 1) := by decide +kernel
theorem dX11_takesWithout_37 : decode cX11_takesWithout 37 = .ok (.getfield 114, 3) := by decide +kernel
theorem dX11_takesWithout_40 : decode cX11_takesWithout 40 = .ok (.iload_n 2, 1) := by decide +kernel
theorem dX11_takesWithout_41 : decode cX11_takesWithout 41 = .ok (.iconst 1, 1) := by decide +kernel
theorem dX11_takesWithout_42 : decode cX11_takesWithout 42 = .ok (.iadd, 1) := by decide +kernel
theorem dX11_takesWithout_43 : decode cX11_takesWithout 43 = .ok (.iaload, 1) := by decide +kernel
theorem dX11_takesWithout_44 : decode cX11_takesWithout 44 = .ok (.iastore, 1) := by decide +kernel
theorem dX11_takesWithout_45 : decode cX11_takesWithout 45 = .ok (.iinc 2 1, 3) := by decide +kernel
theorem dX11_takesWithout_48 : decode cX11_takesWithout 48 = .ok (.goto (-27), 3) := by decide +kernel
theorem dX11_takesWithout_51 : decode cX11_takesWithout 51 = .ok (.aload_n 0, 1) := by decide +kernel
theorem dX11_takesWithout_52 : decode cX11_takesWithout 52 = .ok (.dup, 1) := by decide +kernel
theorem dX11_takesWithout_53 : decode cX11_takesWithout 53 = .ok (.getfield 306, 3) := by decide +kernel
theorem dX11_takesWithout_56 : decode cX11_takesWithout 56 = .ok (.iconst 1, 1) := by decide +kernel
theorem dX11_takesWithout_57 : decode cX11_takesWithout 57 = .ok (.isub, 1) := by decide +kernel
theorem dX11_takesWithout_58 : decode cX11_takesWithout 58 = .ok (.putfield 306, 3) := by decide +kernel
theorem dX11_takesWithout_61 : decode cX11_takesWithout 61 = .ok (.return_, 1) := by decide +kernel
theorem dX11_liftCost_0 : decode cX11_liftCost 0 = .ok (.iload_n 1, 1) := by decide +kernel
theorem dX11_liftCost_1 : decode cX11_liftCost 1 = .ok (.aload_n 0, 1) := by decide +kernel
theorem dX11_liftCost_2 : decode cX11_liftCost 2 = .ok (.getfield 297, 3) := by decide +kernel
theorem dX11_liftCost_5 : decode cX11_liftCost 5 = .ok (.aload_n 0, 1) := by decide +kernel
theorem dX11_liftCost_6 : decode cX11_liftCost 6 = .ok (.getfield 300, 3) := by decide +kernel
theorem dX11_liftCost_9 : decode cX11_liftCost 9 = .ok (.invokestatic 294, 3) := by decide +kernel
theorem dX11_liftCost_12 : decode cX11_liftCost 12 = .ok (.istore_n 2, 1) := by decide +kernel
theorem dX11_liftCost_13 : decode cX11_liftCost 13 = .ok (.iconst 0, 1) := by decide +kernel
theorem dX11_liftCost_14 : decode cX11_liftCost 14 = .ok (.istore_n 3, 1) := by decide +kernel
theorem dX11_liftCost_15 : decode cX11_liftCost 15 = .ok (.aload_n 0, 1) := by decide +kernel
theorem dX11_liftCost_16 : decode cX11_liftCost 16 = .ok (.getfield 303, 3) := by decide +kernel
theorem dX11_liftCost_19 : decode cX11_liftCost 19 = .ok (.istore 4, 2) := by decide +kernel
theorem dX11_liftCost_21 : decode cX11_liftCost 21 = .ok (.iload 4, 2) := by decide +kernel
theorem dX11_liftCost_23 : decode cX11_liftCost 23 = .ok (.aload_n 0, 1) := by decide +kernel
theorem dX11_liftCost_24 : decode cX11_liftCost 24 = .ok (.getfield 108, 3) := by decide +kernel
theorem dX11_liftCost_27 : decode cX11_liftCost 27 = .ok (.iload_n 2, 1) := by decide +kernel
theorem dX11_liftCost_28 : decode cX11_liftCost 28 = .ok (.iaload, 1) := by decide +kernel
theorem dX11_liftCost_29 : decode cX11_liftCost 29 = .ok (.if_icmp .ge 46, 3) := by decide +kernel
theorem dX11_liftCost_32 : decode cX11_liftCost 32 = .ok (.iload_n 3, 1) := by decide +kernel
theorem dX11_liftCost_33 : decode cX11_liftCost 33 = .ok (.iload 4, 2) := by decide +kernel
theorem dX11_liftCost_35 : decode cX11_liftCost 35 = .ok (.aload_n 0, 1) := by decide +kernel
theorem dX11_liftCost_36 : decode cX11_liftCost 36 = .ok (.getfield 303, 3) := by decide +kernel
theorem dX11_liftCost_39 : decode cX11_liftCost 39 = .ok (.if_icmp .ne 7, 3) := by decide +kernel
theorem dX11_liftCost_42 : decode cX11_liftCost 42 = .ok (.iconst 1, 1) := by decide +kernel
theorem dX11_liftCost_43 : decode cX11_liftCost 43 = .ok (.goto 4, 3) := by decide +kernel
theorem dX11_liftCost_46 : decode cX11_liftCost 46 = .ok (.iconst 2, 1) := by decide +kernel
theorem dX11_liftCost_47 : decode cX11_liftCost 47 = .ok (.aload_n 0, 1) := by decide +kernel
theorem dX11_liftCost_48 : decode cX11_liftCost 48 = .ok (.aload_n 0, 1) := by decide +kernel
theorem dX11_liftCost_49 : decode cX11_liftCost 49 = .ok (.getfield 108, 3) := by decide +kernel
theorem dX11_liftCost_52 : decode cX11_liftCost 52 = .ok (.iload_n 2, 1) := by decide +kernel
theorem dX11_liftCost_53 : decode cX11_liftCost 53 = .ok (.iconst 1, 1) := by decide +kernel
theorem dX11_liftCost_54 : decode cX11_liftCost 54 = .ok (.iadd, 1) := by decide +kernel
theorem dX11_liftCost_55 : decode cX11_liftCost 55 = .ok (.iload 4, 2) := by decide +kernel
theorem dX11_liftCost_57 : decode cX11_liftCost 57 = .ok (.iadd, 1) := by decide +kernel
theorem dX11_liftCost_58 : decode cX11_liftCost 58 = .ok (.iaload, 1) := by decide +kernel
theorem dX11_liftCost_59 : decode cX11_liftCost 59 = .ok (.aload_n 0, 1) := by decide +kernel
theorem dX11_liftCost_60 : decode cX11_liftCost 60 = .ok (.getfield 297, 3) := by decide +kernel
theorem dX11_liftCost_63 : decode cX11_liftCost 63 = .ok (.invokevirtual 341, 3) := by decide +kernel
theorem dX11_liftCost_66 : decode cX11_liftCost 66 = .ok (.imul, 1) := by decide +kernel
theorem dX11_liftCost_67 : decode cX11_liftCost 67 = .ok (.iadd, 1) := by decide +kernel
theorem dX11_liftCost_68 : decode cX11_liftCost 68 = .ok (.istore_n 3, 1) := by decide +kernel
theorem dX11_liftCost_69 : decode cX11_liftCost 69 = .ok (.iinc 4 1, 3) := by decide +kernel
theorem dX11_liftCost_72 : decode cX11_liftCost 72 = .ok (.goto (-51), 3) := by decide +kernel
theorem dX11_liftCost_75 : decode cX11_liftCost 75 = .ok (.iload_n 3, 1) := by decide +kernel
theorem dX11_liftCost_76 : decode cX11_liftCost 76 = .ok (.ireturn, 1) := by decide +kernel
theorem dX11_footAt_0 : decode cX11_footAt 0 = .ok (.iconst 0, 1) := by decide +kernel
theorem dX11_footAt_1 : decode cX11_footAt 1 = .ok (.istore_n 2, 1) := by decide +kernel
theorem dX11_footAt_2 : decode cX11_footAt 2 = .ok (.iconst 1, 1) := by decide +kernel
theorem dX11_footAt_3 : decode cX11_footAt 3 = .ok (.istore_n 3, 1) := by decide +kernel
theorem dX11_footAt_4 : decode cX11_footAt 4 = .ok (.iload_n 3, 1) := by decide +kernel
theorem dX11_footAt_5 : decode cX11_footAt 5 = .ok (.iload_n 1, 1) := by decide +kernel
theorem dX11_footAt_6 : decode cX11_footAt 6 = .ok (.if_icmp .gt 30, 3) := by decide +kernel
theorem dX11_footAt_9 : decode cX11_footAt 9 = .ok (.iload_n 2, 1) := by decide +kernel
theorem dX11_footAt_10 : decode cX11_footAt 10 = .ok (.aload_n 0, 1) := by decide +kernel
theorem dX11_footAt_11 : decode cX11_footAt 11 = .ok (.aload_n 0, 1) := by decide +kernel
theorem dX11_footAt_12 : decode cX11_footAt 12 = .ok (.getfield 114, 3) := by decide +kernel
theorem dX11_footAt_15 : decode cX11_footAt 15 = .ok (.iload_n 3, 1) := by decide +kernel
theorem dX11_footAt_16 : decode cX11_footAt 16 = .ok (.iaload, 1) := by decide +kernel
theorem dX11_footAt_17 : decode cX11_footAt 17 = .ok (.aload_n 0, 1) := by decide +kernel
theorem dX11_footAt_18 : decode cX11_footAt 18 = .ok (.getfield 114, 3) := by decide +kernel
theorem dX11_footAt_21 : decode cX11_footAt 21 = .ok (.iload_n 3, 1) := by decide +kernel
theorem dX11_footAt_22 : decode cX11_footAt 22 = .ok (.iconst 1, 1) := by decide +kernel
theorem dX11_footAt_23 : decode cX11_footAt 23 = .ok (.isub, 1) := by decide +kernel
theorem dX11_footAt_24 : decode cX11_footAt 24 = .ok (.iaload, 1) := by decide +kernel
theorem dX11_footAt_25 : decode cX11_footAt 25 = .ok (.invokevirtual 312, 3) := by decide +kernel
theorem dX11_footAt_28 : decode cX11_footAt 28 = .ok (.iadd, 1) := by decide +kernel
theorem dX11_footAt_29 : decode cX11_footAt 29 = .ok (.istore_n 2, 1) := by decide +kernel
theorem dX11_footAt_30 : decode cX11_footAt 30 = .ok (.iinc 3 1, 3) := by decide +kernel
theorem dX11_footAt_33 : decode cX11_footAt 33 = .ok (.goto (-29), 3) := by decide +kernel
theorem dX11_footAt_36 : decode cX11_footAt 36 = .ok (.iload_n 2, 1) := by decide +kernel
theorem dX11_footAt_37 : decode cX11_footAt 37 = .ok (.ireturn, 1) := by decide +kernel
theorem dX11_highest_0 : decode cX11_highest 0 = .ok (.iconst 0, 1) := by decide +kernel
theorem dX11_highest_1 : decode cX11_highest 1 = .ok (.istore_n 1, 1) := by decide +kernel
theorem dX11_highest_2 : decode cX11_highest 2 = .ok (.iconst 0, 1) := by decide +kernel
theorem dX11_highest_3 : decode cX11_highest 3 = .ok (.istore_n 2, 1) := by decide +kernel
theorem dX11_highest_4 : decode cX11_highest 4 = .ok (.iload_n 2, 1) := by decide +kernel
theorem dX11_highest_5 : decode cX11_highest 5 = .ok (.aload_n 0, 1) := by decide +kernel
theorem dX11_highest_6 : decode cX11_highest 6 = .ok (.getfield 306, 3) := by decide +kernel
theorem dX11_highest_9 : decode cX11_highest 9 = .ok (.if_icmp .ge 38, 3) := by decide +kernel
theorem dX11_highest_12 : decode cX11_highest 12 = .ok (.aload_n 0, 1) := by decide +kernel
theorem dX11_highest_13 : decode cX11_highest 13 = .ok (.iload_n 2, 1) := by decide +kernel
theorem dX11_highest_14 : decode cX11_highest 14 = .ok (.invokevirtual 315, 3) := by decide +kernel
theorem dX11_highest_17 : decode cX11_highest 17 = .ok (.aload_n 0, 1) := by decide +kernel
theorem dX11_highest_18 : decode cX11_highest 18 = .ok (.aload_n 0, 1) := by decide +kernel
theorem dX11_highest_19 : decode cX11_highest 19 = .ok (.getfield 114, 3) := by decide +kernel
theorem dX11_highest_22 : decode cX11_highest 22 = .ok (.iload_n 2, 1) := by decide +kernel
theorem dX11_highest_23 : decode cX11_highest 23 = .ok (.iaload, 1) := by decide +kernel
theorem dX11_highest_24 : decode cX11_highest 24 = .ok (.iconst 1, 1) := by decide +kernel
theorem dX11_highest_25 : decode cX11_highest 25 = .ok (.invokevirtual 271, 3) := by decide +kernel
theorem dX11_highest_28 : decode cX11_highest 28 = .ok (.iadd, 1) := by decide +kernel
theorem dX11_highest_29 : decode cX11_highest 29 = .ok (.istore_n 3, 1) := by decide +kernel
theorem dX11_highest_30 : decode cX11_highest 30 = .ok (.iload_n 3, 1) := by decide +kernel
theorem dX11_highest_31 : decode cX11_highest 31 = .ok (.iload_n 1, 1) := by decide +kernel
theorem dX11_highest_32 : decode cX11_highest 32 = .ok (.if_icmp .le 7, 3) := by decide +kernel
theorem dX11_highest_35 : decode cX11_highest 35 = .ok (.iload_n 3, 1) := by decide +kernel
theorem dX11_highest_36 : decode cX11_highest 36 = .ok (.goto 4, 3) := by decide +kernel
theorem dX11_highest_39 : decode cX11_highest 39 = .ok (.iload_n 1, 1) := by decide +kernel
theorem dX11_highest_40 : decode cX11_highest 40 = .ok (.istore_n 1, 1) := by decide +kernel
theorem dX11_highest_41 : decode cX11_highest 41 = .ok (.iinc 2 1, 3) := by decide +kernel
theorem dX11_highest_44 : decode cX11_highest 44 = .ok (.goto (-40), 3) := by decide +kernel
theorem dX11_highest_47 : decode cX11_highest 47 = .ok (.iload_n 1, 1) := by decide +kernel
theorem dX11_highest_48 : decode cX11_highest 48 = .ok (.ireturn, 1) := by decide +kernel
set_option maxHeartbeats 4000000 in
set_option maxRecDepth 100000 in
theorem c_X11_takesWithout_0 (l : Launch) (D : DG) (cyC cyI cyJ cyZ cyO : ClassId) (m0 : Nat) (mstates : Nat) (mrow : Nat) (mtape : Nat) (msort : Nat) (mplace : Nat) (mvalue : Nat) (mwords : Nat) (mtold : Nat) (mop : Nat) (marg : Nat) (mnames : Nat) (mhasHabit : Nat) (mfactWords : Nat) (mfacts : Nat) (mpile : Nat) (misMarked : Nat) (mthr : Nat) (mmays : Nat) (mtall : Nat) (mweights : Nat) (mrowOfWare : Nat) (mneededOf : Nat) (mtried : Nat) (mbestRow : Nat) (mdigits : Nat) (m_thrown : Int32) (m_taped : Int32) (m_size : Int32) (m_at : Int32) (m_fault : Int32) (m_codes : Int32) (m_isNew : Int32) (m_inShelf : Int32) (m_inStack : Int32) (m_inPlace : Int32) (m_rowMany : Int32) (m_goShelf : Int32) (m_goStack : Int32) (m_goLeft : Int32) (m_bestCost : Int32) (m_bestMany : Int32) (m_bestShelf : Int32) (m_bestSet : Int32) (m_states : Nat → Int32) (m_row : Nat → Int32) (h_m_taped : 0 ≤ (m_taped).toInt ∧ (m_taped).toInt ≤ 1000) (h_m_size : 0 ≤ (m_size).toInt ∧ (m_size).toInt ≤ 1000) (h_m_at : 0 ≤ (m_at).toInt ∧ (m_at).toInt ≤ 1000) (h_m_fault : 0 ≤ (m_fault).toInt ∧ (m_fault).toInt ≤ 16005) (h_m_codes : 0 ≤ (m_codes).toInt ∧ (m_codes).toInt ≤ 1000) (h_m_isNew : 0 ≤ (m_isNew).toInt ∧ (m_isNew).toInt ≤ 1) (h_m_inShelf : 0 ≤ (m_inShelf).toInt ∧ (m_inShelf).toInt ≤ 3) (h_m_inStack : 0 ≤ (m_inStack).toInt ∧ (m_inStack).toInt ≤ 7) (h_m_inPlace : 0 ≤ (m_inPlace).toInt ∧ (m_inPlace).toInt ≤ 11) (h_m_rowMany : 0 ≤ (m_rowMany).toInt ∧ (m_rowMany).toInt ≤ 12) (h_m_goShelf : -1 ≤ (m_goShelf).toInt ∧ (m_goShelf).toInt ≤ 3) (h_m_bestMany : 0 ≤ (m_bestMany).toInt ∧ (m_bestMany).toInt ≤ 7) (h_m_bestShelf : 0 ≤ (m_bestShelf).toInt ∧ (m_bestShelf).toInt ≤ 3) (h_m_row : Iv 12 (0) (11) m_row) (h_m_states : SV m_states) (hip : (m_inPlace).toInt < (m_states (0 + 105 * (m_inShelf).toInt.toNat + 1 + 13 * (m_inStack).toInt.toNat)).toInt) : KK l D (TY cyC cyI cyJ cyZ cyO) yX11_takesWithout cX11_takesWithout 3 none ({ frames := 1, cells := 0, slots := 0, locals := 22 } : Room) 0 0 [.ref m0, .int 0] [(m0, .inr (11, [.int m_thrown, .ref mtape, .int m_taped, .int m_size, .ref msort, .ref mplace, .ref mvalue, .int m_at, .int m_fault, .ref mwords, .ref mtold, .ref mop, .ref marg, .int m_codes, .ref mnames, .ref mhasHabit, .int m_isNew, .ref mfactWords, .ref mfacts, .ref mpile, .ref mstates, .ref misMarked, .int m_inShelf, .int m_inStack, .int m_inPlace, .ref mrow, .int m_rowMany, .ref mthr, .ref mmays, .ref mtall, .ref mweights, .ref mrowOfWare, .ref mneededOf, .int m_goShelf, .int m_goStack, .int m_goLeft, .ref mtried, .ref mbestRow, .int m_bestCost, .int m_bestMany, .int m_bestShelf, .int m_bestSet, .ref mdigits])), (mstates, .inl (cyI, 2760, .inl m_states)), (mrow, .inl (cyI, 12, .inl m_row))] (fun u => none) (fun u => (0 ≤ (u.2.1 0).toInt ∧ (u.2.1 0).toInt ≤ 11) ∧ (Iv 12 (0) (11) (u.2.2.1 0)) ∧ (((u.2.1 0)).toInt = (m_states (0 + 105 * (m_inShelf).toInt.toNat + 1 + 13 * (m_inStack).toInt.toNat)).toInt - 1) ∧ (∀ p : Nat, (p : Int) < (m_states (0 + 105 * (m_inShelf).toInt.toNat + 1 + 13 * (m_inStack).toInt.toNat)).toInt - 1 → (u.2.2.1 0) p = m_states ((0 + 105 * (m_inShelf).toInt.toNat + 1 + 13 * (m_inStack).toInt.toNat) + 1 + (if (p : Int) < (m_inPlace).toInt then p else p + 1)))) (fun u => [(m0, .inr (11, [.int m_thrown, .ref mtape, .int m_taped, .int m_size, .ref msort, .ref mplace, .ref mvalue, .int m_at, .int m_fault, .ref mwords, .ref mtold, .ref mop, .ref marg, .int m_codes, .ref mnames, .ref mhasHabit, .int m_isNew, .ref mfactWords, .ref mfacts, .ref mpile, .ref mstates, .ref misMarked, .int m_inShelf, .int m_inStack, .int m_inPlace, .ref mrow, .int (u.2.1 0), .ref mthr, .ref mmays, .ref mtall, .ref mweights, .ref mrowOfWare, .ref mneededOf, .int m_goShelf, .int m_goStack, .int m_goLeft, .ref mtried, .ref mbestRow, .int m_bestCost, .int m_bestMany, .int m_bestShelf, .int m_bestSet, .ref mdigits])), (mstates, .inl (cyI, 2760, .inl m_states)), (mrow, .inl (cyI, 12, .inl (u.2.2.1 0)))]) := by
  refine KK.of (lv0 := [(0, .ref m0), (1, .int 0)]) (by decide) rfl (Nat.le_of_ble_eq_true rfl) ?_
  intro p e s m args below meth c A C hr hk hin
  refine j_aload_n (pc := 0) C dX11_takesWithout_0 rfl 0 rfl ?_
  refine j_iload_n (pc := 1) C dX11_takesWithout_1 rfl 1 rfl ?_
  refine j_aload_n (pc := 2) C dX11_takesWithout_2 rfl 0 rfl ?_
  refine j_get (pc := 3) (ci := 11) (v := .int m_inShelf) C inw_11 0 rfl rfl 22 (by decide) wd_776 rfl rfl dX11_takesWithout_3 ?_
  refine j_aload_n (pc := 6) C dX11_takesWithout_6 rfl 0 rfl ?_
  refine j_get (pc := 7) (ci := 11) (v := .int m_inStack) C inw_11 0 rfl rfl 23 (by decide) wd_777 rfl rfl dX11_takesWithout_7 ?_
  refine j_callS (pc := 10) (As := [.int 0, .int m_inShelf, .int m_inStack]) (rest := [.ref m0]) (wr := [(m0, .inr (11, [.int m_thrown, .ref mtape, .int m_taped, .int m_size, .ref msort, .ref mplace, .ref mvalue, .int m_at, .int m_fault, .ref mwords, .ref mtold, .ref mop, .ref marg, .int m_codes, .ref mnames, .ref mhasHabit, .int m_isNew, .ref mfactWords, .ref mfacts, .ref mpile, .ref mstates, .ref misMarked, .int m_inShelf, .int m_inStack, .int m_inPlace, .ref mrow, .int m_rowMany, .ref mthr, .ref mmays, .ref mtall, .ref mweights, .ref mrowOfWare, .ref mneededOf, .int m_goShelf, .int m_goStack, .int m_goLeft, .ref mtried, .ref mbestRow, .int m_bestCost, .int m_bestMany, .int m_bestShelf, .int m_bestSet, .ref mdigits])), (mstates, .inl (cyI, 2760, .inl m_states)), (mrow, .inl (cyI, 12, .inl m_row))]) C (c_X11_stackAt l D cyC cyI cyJ cyZ cyO 0 m_inShelf m_inStack (by decide) h_m_inShelf (by omega)) wd_773 wd_624 wd_774 wd_775 ⟨by decide, by decide, rfl⟩ rfl ⟨rfl, rfl, by decide, by decide⟩ ⟨by decide, by decide⟩ [] [0, 1, 2] rfl rfl ⟨by decide, by decide, by decide⟩ rfl (Nat.le_of_ble_eq_true rfl) dX11_takesWithout_10 (fun u_1 hw_2 => ?_)
  refine j_eq (ws2 := [(m0, .inr (11, [.int m_thrown, .ref mtape, .int m_taped, .int m_size, .ref msort, .ref mplace, .ref mvalue, .int m_at, .int m_fault, .ref mwords, .ref mtold, .ref mop, .ref marg, .int m_codes, .ref mnames, .ref mhasHabit, .int m_isNew, .ref mfactWords, .ref mfacts, .ref mpile, .ref mstates, .ref misMarked, .int m_inShelf, .int m_inStack, .int m_inPlace, .ref mrow, .int m_rowMany, .ref mthr, .ref mmays, .ref mtall, .ref mweights, .ref mrowOfWare, .ref mneededOf, .int m_goShelf, .int m_goStack, .int m_goLeft, .ref mtried, .ref mbestRow, .int m_bestCost, .int m_bestMany, .int m_bestShelf, .int m_bestSet, .ref mdigits])), (mstates, .inl (cyI, 2760, .inl m_states)), (mrow, .inl (cyI, 12, .inl m_row))]) (pc2 := 13) (lv2 := [(0, .ref m0), (1, .int 0)]) (st2 := [.int (u_1.2.1 0), .ref m0]) rfl rfl rfl rfl ?_
  obtain ⟨hw_2_0, hw_2_1⟩ := hw_2
  have el_0 : (0 : Int32).toInt = 0 := rfl
  have ad_3 : AD (u_1.2.1 0).toInt := ⟨0, (m_inShelf).toInt.toNat, (m_inStack).toInt.toNat, by decide, by omega, by omega, by omega⟩
  refine j_callV (pc := 13) (As := [.int (u_1.2.1 0)]) (rest := []) (wr := []) C (c_X11_takesRow l D cyC cyI cyJ cyZ cyO m0 mstates mrow mtape msort mplace mvalue mwords mtold mop marg mnames mhasHabit mfactWords mfacts mpile misMarked mthr mmays mtall mweights mrowOfWare mneededOf mtried mbestRow mdigits (u_1.2.1 0) m_thrown m_taped m_size m_at m_fault m_codes m_isNew m_inShelf m_inStack m_inPlace m_rowMany m_goShelf m_goStack m_goLeft m_bestCost m_bestMany m_bestShelf m_bestSet m_states m_row h_m_taped h_m_size h_m_at h_m_fault h_m_codes h_m_isNew h_m_inShelf h_m_inStack h_m_inPlace h_m_rowMany h_m_goShelf h_m_bestMany h_m_bestShelf (by omega) h_m_row h_m_states ad_3) wd_781 wd_624 wd_782 wd_783 wd_784 ⟨by decide, by decide, rfl⟩ rfl ⟨rfl, rfl, by decide, by decide⟩ ⟨by decide, by decide⟩ [0, 1, 2] [] rfl rfl ⟨by decide, by decide, by decide⟩ 0 rfl rfl rfl (Nat.le_of_ble_eq_true rfl) dX11_takesWithout_13 (fun u_4 hw_5 => ?_)
  refine j_eq (ws2 := [(m0, .inr (11, [.int m_thrown, .ref mtape, .int m_taped, .int m_size, .ref msort, .ref mplace, .ref mvalue, .int m_at, .int m_fault, .ref mwords, .ref mtold, .ref mop, .ref marg, .int m_codes, .ref mnames, .ref mhasHabit, .int m_isNew, .ref mfactWords, .ref mfacts, .ref mpile, .ref mstates, .ref misMarked, .int m_inShelf, .int m_inStack, .int m_inPlace, .ref mrow, .int (u_4.2.1 0), .ref mthr, .ref mmays, .ref mtall, .ref mweights, .ref mrowOfWare, .ref mneededOf, .int m_goShelf, .int m_goStack, .int m_goLeft, .ref mtried, .ref mbestRow, .int m_bestCost, .int m_bestMany, .int m_bestShelf, .int m_bestSet, .ref mdigits])), (mstates, .inl (cyI, 2760, .inl m_states)), (mrow, .inl (cyI, 12, .inl (u_4.2.2.1 0)))]) (pc2 := 16) (lv2 := [(0, .ref m0), (1, .int 0)]) (st2 := []) rfl rfl rfl rfl ?_
  obtain ⟨hw_5_0, hw_5_1, hw_5_2, hw_5_3⟩ := hw_5
  have ea9 : ((u_1.2.1 0)).toInt.toNat = (0 + 105 * (m_inShelf).toInt.toNat + 1 + 13 * (m_inStack).toInt.toNat) := (by omega)
  have er9 := congrArg Int32.toInt hw_5_2
  rw [ea9] at er9
  refine j_aload_n (pc := 16) C dX11_takesWithout_16 rfl 0 rfl ?_
  refine j_get (pc := 17) (ci := 11) (v := .int m_inPlace) C inw_11 0 rfl rfl 24 (by decide) wd_778 rfl rfl dX11_takesWithout_17 ?_
  refine j_istore_n (pc := 20) (lv' := [(2, .int m_inPlace), (0, .ref m0), (1, .int 0)]) C dX11_takesWithout_20 rfl (by decide) rfl ?_
  have loop_6 : ∀ (k_6 : Nat) (x6_2 : Int32) (g6_mrow : Nat → Int32), (0 ≤ (x6_2).toInt ∧ (x6_2).toInt ≤ 12) → (Iv 12 (0) (11) g6_mrow) → ((m_inPlace).toInt ≤ x6_2.toInt ∧ x6_2.toInt ≤ (m_states (0 + 105 * (m_inShelf).toInt.toNat + 1 + 13 * (m_inStack).toInt.toNat)).toInt - 1) → (∀ p : Nat, (p : Int) < (m_states (0 + 105 * (m_inShelf).toInt.toNat + 1 + 13 * (m_inStack).toInt.toNat)).toInt → ((p : Int) < x6_2.toInt → g6_mrow p = m_states ((0 + 105 * (m_inShelf).toInt.toNat + 1 + 13 * (m_inStack).toInt.toNat) + 1 + (if (p : Int) < (m_inPlace).toInt then p else p + 1))) ∧ (x6_2.toInt ≤ (p : Int) → g6_mrow p = m_states ((0 + 105 * (m_inShelf).toInt.toNat + 1 + 13 * (m_inStack).toInt.toNat) + 1 + p))) → (12 - x6_2.toInt).toNat < k_6 → J p l e ({ frames := 1, cells := 0, slots := 0, locals := 22 } : Room) s m args below meth c D A 3 0 0 (QX below D (TY cyC cyI cyJ cyZ cyO) A (fun u => none) (fun u => (0 ≤ (u.2.1 0).toInt ∧ (u.2.1 0).toInt ≤ 11) ∧ (Iv 12 (0) (11) (u.2.2.1 0)) ∧ (((u.2.1 0)).toInt = (m_states (0 + 105 * (m_inShelf).toInt.toNat + 1 + 13 * (m_inStack).toInt.toNat)).toInt - 1) ∧ (∀ p : Nat, (p : Int) < (m_states (0 + 105 * (m_inShelf).toInt.toNat + 1 + 13 * (m_inStack).toInt.toNat)).toInt - 1 → (u.2.2.1 0) p = m_states ((0 + 105 * (m_inShelf).toInt.toNat + 1 + 13 * (m_inStack).toInt.toNat) + 1 + (if (p : Int) < (m_inPlace).toInt then p else p + 1)))) (fun u => [(m0, .inr (11, [.int m_thrown, .ref mtape, .int m_taped, .int m_size, .ref msort, .ref mplace, .ref mvalue, .int m_at, .int m_fault, .ref mwords, .ref mtold, .ref mop, .ref marg, .int m_codes, .ref mnames, .ref mhasHabit, .int m_isNew, .ref mfactWords, .ref mfacts, .ref mpile, .ref mstates, .ref misMarked, .int m_inShelf, .int m_inStack, .int m_inPlace, .ref mrow, .int (u.2.1 0), .ref mthr, .ref mmays, .ref mtall, .ref mweights, .ref mrowOfWare, .ref mneededOf, .int m_goShelf, .int m_goStack, .int m_goLeft, .ref mtried, .ref mbestRow, .int m_bestCost, .int m_bestMany, .int m_bestShelf, .int m_bestSet, .ref mdigits])), (mstates, .inl (cyI, 2760, .inl m_states)), (mrow, .inl (cyI, 12, .inl (u.2.2.1 0)))]) args s 0 0) [(m0, .inr (11, [.int m_thrown, .ref mtape, .int m_taped, .int m_size, .ref msort, .ref mplace, .ref mvalue, .int m_at, .int m_fault, .ref mwords, .ref mtold, .ref mop, .ref marg, .int m_codes, .ref mnames, .ref mhasHabit, .int m_isNew, .ref mfactWords, .ref mfacts, .ref mpile, .ref mstates, .ref misMarked, .int m_inShelf, .int m_inStack, .int m_inPlace, .ref mrow, .int (u_4.2.1 0), .ref mthr, .ref mmays, .ref mtall, .ref mweights, .ref mrowOfWare, .ref mneededOf, .int m_goShelf, .int m_goStack, .int m_goLeft, .ref mtried, .ref mbestRow, .int m_bestCost, .int m_bestMany, .int m_bestShelf, .int m_bestSet, .ref mdigits])), (mstates, .inl (cyI, 2760, .inl m_states)), (mrow, .inl (cyI, 12, .inl g6_mrow))] 21 [(2, .int x6_2), (0, .ref m0), (1, .int 0)] [] := by
    intro k_6
    induction k_6 with
    | zero =>
      intro x6_2 g6_mrow hi_6_0 hi_6_1 hr_6 hq_6_0 hm_6
      exact absurd hm_6 (Nat.not_lt_zero _)
    | succ k_6 ih_6 =>
      intro x6_2 g6_mrow hi_6_0 hi_6_1 hr_6 hq_6_0 hm_6
      refine j_iload_n (pc := 21) C dX11_takesWithout_21 rfl 0 rfl ?_
      refine j_aload_n (pc := 22) C dX11_takesWithout_22 rfl 1 rfl ?_
      refine j_get (pc := 23) (ci := 11) (v := .int (u_4.2.1 0)) C inw_11 0 rfl rfl 26 (by decide) wd_779 rfl rfl dX11_takesWithout_23 ?_
      refine j_iconst (pc := 26) (v := 1) C dX11_takesWithout_26 (by decide) ?_
      obtain ⟨v_7, ev_7⟩ : ∃ z : Int32, (u_4.2.1 0) - 1 = z := ⟨_, rfl⟩
      have el_1 : (1 : Int32).toInt = 1 := rfl
      have hv_7 : v_7.toInt = ((u_4.2.1 0)).toInt - (1 : Int32).toInt := by rw [← ev_7]; exact fb_subI (by omega) (by omega)
      refine j_isub (pc := 27) (v := v_7) C dX11_takesWithout_27 ev_7 ?_
      refine j_icmp_ge (pc := 28) (tgt := 51) C dX11_takesWithout_28 (by decide) (fun c_8 => ?_) (fun c_8 => ?_)
      · skip
        rw [i_le] at c_8
        refine j_aload_n (pc := 51) C dX11_takesWithout_51 rfl 1 rfl ?_
        refine j_dup (pc := 52) C dX11_takesWithout_52 rfl ?_
        refine j_get (pc := 53) (ci := 11) (v := .int (u_4.2.1 0)) C inw_11 0 rfl rfl 26 (by decide) wd_779 rfl rfl dX11_takesWithout_53 ?_
        refine j_iconst (pc := 56) (v := 1) C dX11_takesWithout_56 (by decide) ?_
        obtain ⟨v_9, ev_9⟩ : ∃ z : Int32, (u_4.2.1 0) - 1 = z := ⟨_, rfl⟩
        have el_1 : (1 : Int32).toInt = 1 := rfl
        have hv_9 : v_9.toInt = ((u_4.2.1 0)).toInt - (1 : Int32).toInt := by rw [← ev_9]; exact fb_subI (by omega) (by omega)
        refine j_isub (pc := 57) (v := v_9) C dX11_takesWithout_57 ev_9 ?_
        refine j_put (pc := 58) (ci := 11) (v := .int v_9) (ws' := [(m0, .inr (11, [.int m_thrown, .ref mtape, .int m_taped, .int m_size, .ref msort, .ref mplace, .ref mvalue, .int m_at, .int m_fault, .ref mwords, .ref mtold, .ref mop, .ref marg, .int m_codes, .ref mnames, .ref mhasHabit, .int m_isNew, .ref mfactWords, .ref mfacts, .ref mpile, .ref mstates, .ref misMarked, .int m_inShelf, .int m_inStack, .int m_inPlace, .ref mrow, .int v_9, .ref mthr, .ref mmays, .ref mtall, .ref mweights, .ref mrowOfWare, .ref mneededOf, .int m_goShelf, .int m_goStack, .int m_goLeft, .ref mtried, .ref mbestRow, .int m_bestCost, .int m_bestMany, .int m_bestShelf, .int m_bestSet, .ref mdigits])), (mstates, .inl (cyI, 2760, .inl m_states)), (mrow, .inl (cyI, 12, .inl g6_mrow))]) C inw_11 0 rfl rfl 26 (by decide) wd_779 rfl tyX11_ok nmX11 rfl (tyX11_ok 26 (by decide)) rfl rfl (Nat.le_of_ble_eq_true rfl) dX11_takesWithout_58 rfl ?_
        exact j_vret (pc := 61) C hr hk (fun i => [].getD i 0, fun i => [v_9].getD i 0, fun i => [g6_mrow].getD i (fun _ => 0), fun i => [].getD i (fun _ => 0)) rfl (show (0 ≤ (v_9).toInt ∧ (v_9).toInt ≤ 11) ∧ (Iv 12 (0) (11) g6_mrow) ∧ ((v_9).toInt = (m_states (0 + 105 * (m_inShelf).toInt.toNat + 1 + 13 * (m_inStack).toInt.toNat)).toInt - 1) ∧ (∀ p : Nat, (p : Int) < (m_states (0 + 105 * (m_inShelf).toInt.toNat + 1 + 13 * (m_inStack).toInt.toNat)).toInt - 1 → g6_mrow p = m_states ((0 + 105 * (m_inShelf).toInt.toNat + 1 + 13 * (m_inStack).toInt.toNat) + 1 + (if (p : Int) < (m_inPlace).toInt then p else p + 1))) from ⟨by omega, hi_6_1, by omega, (fun p hp => (hq_6_0 p (by omega)).1 (by omega))⟩) [0, 1, 2] (by decide) rfl (by decide) (by decide) dX11_takesWithout_61
      · skip
        rw [i_le] at c_8
        refine j_aload_n (pc := 31) C dX11_takesWithout_31 rfl 1 rfl ?_
        refine j_get (pc := 32) (ci := 11) (v := .ref mrow) C inw_11 0 rfl rfl 25 (by decide) wd_780 rfl rfl dX11_takesWithout_32 ?_
        refine j_iload_n (pc := 35) C dX11_takesWithout_35 rfl 0 rfl ?_
        refine j_aload_n (pc := 36) C dX11_takesWithout_36 rfl 1 rfl ?_
        refine j_get (pc := 37) (ci := 11) (v := .ref mrow) C inw_11 0 rfl rfl 25 (by decide) wd_780 rfl rfl dX11_takesWithout_37 ?_
        refine j_iload_n (pc := 40) C dX11_takesWithout_40 rfl 0 rfl ?_
        refine j_iconst (pc := 41) (v := 1) C dX11_takesWithout_41 (by decide) ?_
        obtain ⟨v_10, ev_10⟩ : ∃ z : Int32, x6_2 + 1 = z := ⟨_, rfl⟩
        have el_1 : (1 : Int32).toInt = 1 := rfl
        have hv_10 : v_10.toInt = x6_2.toInt + (1 : Int32).toInt := by rw [← ev_10]; exact fb_addI (by omega) (by omega)
        refine j_iadd (pc := 42) (v := v_10) C dX11_takesWithout_42 ev_10 ?_
        obtain ⟨v_11, ev_11⟩ : ∃ z, g6_mrow (v_10).toInt.toNat = z := ⟨_, rfl⟩
        have env_11 : (g6_mrow (v_10).toInt.toNat).toInt = v_11.toInt := by rw [ev_11]
        have hv_11 := hi_6_1 (v_10).toInt.toNat (i_lt_n (by omega) (by omega)); rw [ev_11] at hv_11
        refine j_iald (pc := 43) (v := v_11) (k := (v_10).toInt.toNat) C 2 1 rfl rfl (i_nn (by omega)) rfl (i_lt_n (by omega) (by omega)) ev_11 dX11_takesWithout_43 ?_
        obtain ⟨f_12, ef_12⟩ : ∃ z, z = upd g6_mrow (x6_2).toInt.toNat v_11 := ⟨_, rfl⟩
        have hf_12 : Iv 12 (0) (11) f_12 := by rw [ef_12]; exact Iv.upd hi_6_1 (by omega) (by omega)
        refine j_iast (pc := 44) (k := (x6_2).toInt.toNat) (ws' := [(m0, .inr (11, [.int m_thrown, .ref mtape, .int m_taped, .int m_size, .ref msort, .ref mplace, .ref mvalue, .int m_at, .int m_fault, .ref mwords, .ref mtold, .ref mop, .ref marg, .int m_codes, .ref mnames, .ref mhasHabit, .int m_isNew, .ref mfactWords, .ref mfacts, .ref mpile, .ref mstates, .ref misMarked, .int m_inShelf, .int m_inStack, .int m_inPlace, .ref mrow, .int (u_4.2.1 0), .ref mthr, .ref mmays, .ref mtall, .ref mweights, .ref mrowOfWare, .ref mneededOf, .int m_goShelf, .int m_goStack, .int m_goLeft, .ref mtried, .ref mbestRow, .int m_bestCost, .int m_bestMany, .int m_bestShelf, .int m_bestSet, .ref mdigits])), (mstates, .inl (cyI, 2760, .inl m_states)), (mrow, .inl (cyI, 12, .inl f_12))]) C 2 1 rfl rfl (i_nn hi_6_0.1) rfl (i_lt_n hi_6_0.1 (by omega)) dX11_takesWithout_44 (by rw [ef_12]; rfl) ?_
        obtain ⟨v_13, ev_13⟩ : ∃ z : Int32, x6_2 + 1 = z := ⟨_, rfl⟩
        have el_1 : (1 : Int32).toInt = 1 := rfl
        have hv_13 : v_13.toInt = x6_2.toInt + (1 : Int32).toInt := by rw [← ev_13]; exact fb_addI (by omega) (by omega)
        refine j_iinc (pc := 45) (v := v_13) (lv' := [(2, .int v_13), (0, .ref m0), (1, .int 0)]) C dX11_takesWithout_45 0 rfl ev_13 (by decide) rfl ?_
        refine j_goto (pc := 48) (tgt := 21) C dX11_takesWithout_48 (by decide) ?_
        exact j_lv [0, 1, 2] rfl (ih_6 v_13 f_12 (by omega) hf_12 (by omega) (fun p hp => by rw [ef_12]; by_cases ep : p = (x6_2).toInt.toNat; (subst ep; rw [pk_us]; refine ⟨fun _ => ?_, fun h => absurd h (by omega)⟩; rw [if_neg (by omega), ← ev_11, (hq_6_0 _ (by omega)).2 (by omega)]; congr 1; omega); (rw [pk_un ep]; exact ⟨fun h => (hq_6_0 p hp).1 (by omega), fun h => (hq_6_0 p hp).2 (by omega)⟩)) (by omega))
  exact j_lv [0, 1, 2] rfl (loop_6 4096 m_inPlace (u_4.2.2.1 0) (by omega) hw_5_1 (by omega) (fun p hp => ⟨fun h => by rw [if_pos (by omega), hw_5_3 p (by omega), ea9], fun _ => by rw [hw_5_3 p (by omega), ea9]⟩) (by omega))
set_option maxHeartbeats 4000000 in
set_option maxRecDepth 100000 in
theorem c_X11_liftCost_0 (l : Launch) (D : DG) (cyC cyI cyJ cyZ cyO : ClassId) (m0 : Nat) (mtold : Nat) (mstates : Nat) (mtape : Nat) (msort : Nat) (mplace : Nat) (mvalue : Nat) (mwords : Nat) (mop : Nat) (marg : Nat) (mnames : Nat) (mhasHabit : Nat) (mfactWords : Nat) (mfacts : Nat) (mpile : Nat) (misMarked : Nat) (mrow : Nat) (mthr : Nat) (mmays : Nat) (mtall : Nat) (mweights : Nat) (mrowOfWare : Nat) (mneededOf : Nat) (mtried : Nat) (mbestRow : Nat) (mdigits : Nat) (m_thrown : Int32) (m_taped : Int32) (m_size : Int32) (m_at : Int32) (m_fault : Int32) (m_codes : Int32) (m_isNew : Int32) (m_inShelf : Int32) (m_inStack : Int32) (m_inPlace : Int32) (m_rowMany : Int32) (m_goShelf : Int32) (m_goStack : Int32) (m_goLeft : Int32) (m_bestCost : Int32) (m_bestMany : Int32) (m_bestShelf : Int32) (m_bestSet : Int32) (m_told : Nat → Int32) (m_states : Nat → Int32) (h_m_taped : 0 ≤ (m_taped).toInt ∧ (m_taped).toInt ≤ 1000) (h_m_size : 0 ≤ (m_size).toInt ∧ (m_size).toInt ≤ 1000) (h_m_at : 0 ≤ (m_at).toInt ∧ (m_at).toInt ≤ 1000) (h_m_fault : 0 ≤ (m_fault).toInt ∧ (m_fault).toInt ≤ 16005) (h_m_codes : 0 ≤ (m_codes).toInt ∧ (m_codes).toInt ≤ 1000) (h_m_isNew : 0 ≤ (m_isNew).toInt ∧ (m_isNew).toInt ≤ 1) (h_m_inShelf : 0 ≤ (m_inShelf).toInt ∧ (m_inShelf).toInt ≤ 3) (h_m_inStack : 0 ≤ (m_inStack).toInt ∧ (m_inStack).toInt ≤ 7) (h_m_inPlace : 0 ≤ (m_inPlace).toInt ∧ (m_inPlace).toInt ≤ 11) (h_m_rowMany : 0 ≤ (m_rowMany).toInt ∧ (m_rowMany).toInt ≤ 12) (h_m_goShelf : -1 ≤ (m_goShelf).toInt ∧ (m_goShelf).toInt ≤ 3) (h_m_bestMany : 0 ≤ (m_bestMany).toInt ∧ (m_bestMany).toInt ≤ 7) (h_m_bestShelf : 0 ≤ (m_bestShelf).toInt ∧ (m_bestShelf).toInt ≤ 3) (h_m_told : TV m_told) (h_m_states : SV m_states) : KK l D (TY cyC cyI cyJ cyZ cyO) yX11_liftCost cX11_liftCost 5 (some .int) ({ frames := 2, cells := 0, slots := 0, locals := 44 } : Room) 0 0 [.ref m0, .int 0] [(m0, .inr (11, [.int m_thrown, .ref mtape, .int m_taped, .int m_size, .ref msort, .ref mplace, .ref mvalue, .int m_at, .int m_fault, .ref mwords, .ref mtold, .ref mop, .ref marg, .int m_codes, .ref mnames, .ref mhasHabit, .int m_isNew, .ref mfactWords, .ref mfacts, .ref mpile, .ref mstates, .ref misMarked, .int m_inShelf, .int m_inStack, .int m_inPlace, .ref mrow, .int m_rowMany, .ref mthr, .ref mmays, .ref mtall, .ref mweights, .ref mrowOfWare, .ref mneededOf, .int m_goShelf, .int m_goStack, .int m_goLeft, .ref mtried, .ref mbestRow, .int m_bestCost, .int m_bestMany, .int m_bestShelf, .int m_bestSet, .ref mdigits])), (mtold, .inl (cyI, 240, .inl m_told)), (mstates, .inl (cyI, 2760, .inl m_states))] (fun u => some (.int (u.2.1 0))) (fun u => (0 ≤ (u.2.1 0).toInt ∧ (u.2.1 0).toInt ≤ 47952) ∧ ((u.2.1 0) = lcF (wtM m_told) (fun p => m_states ((0 + 105 * (m_inShelf).toInt.toNat + 1 + 13 * (m_inStack).toInt.toNat) + 1 + p)) (m_told (99 + 3 * (m_inShelf).toInt.toNat + 1)) (m_inPlace).toInt.toNat (m_states (0 + 105 * (m_inShelf).toInt.toNat + 1 + 13 * (m_inStack).toInt.toNat)).toInt.toNat)) (fun u => [(m0, .inr (11, [.int m_thrown, .ref mtape, .int m_taped, .int m_size, .ref msort, .ref mplace, .ref mvalue, .int m_at, .int m_fault, .ref mwords, .ref mtold, .ref mop, .ref marg, .int m_codes, .ref mnames, .ref mhasHabit, .int m_isNew, .ref mfactWords, .ref mfacts, .ref mpile, .ref mstates, .ref misMarked, .int m_inShelf, .int m_inStack, .int m_inPlace, .ref mrow, .int m_rowMany, .ref mthr, .ref mmays, .ref mtall, .ref mweights, .ref mrowOfWare, .ref mneededOf, .int m_goShelf, .int m_goStack, .int m_goLeft, .ref mtried, .ref mbestRow, .int m_bestCost, .int m_bestMany, .int m_bestShelf, .int m_bestSet, .ref mdigits])), (mtold, .inl (cyI, 240, .inl m_told)), (mstates, .inl (cyI, 2760, .inl m_states))]) := by
  refine KK.of (lv0 := [(0, .ref m0), (1, .int 0)]) (by decide) rfl (Nat.le_of_ble_eq_true rfl) ?_
  intro p e s m args below meth c A C hr hk hin
  refine j_iload_n (pc := 0) C dX11_liftCost_0 rfl 1 rfl ?_
  refine j_aload_n (pc := 1) C dX11_liftCost_1 rfl 0 rfl ?_
  refine j_get (pc := 2) (ci := 11) (v := .int m_inShelf) C inw_11 0 rfl rfl 22 (by decide) wd_776 rfl rfl dX11_liftCost_2 ?_
  refine j_aload_n (pc := 5) C dX11_liftCost_5 rfl 0 rfl ?_
  refine j_get (pc := 6) (ci := 11) (v := .int m_inStack) C inw_11 0 rfl rfl 23 (by decide) wd_777 rfl rfl dX11_liftCost_6 ?_
  refine j_callS (pc := 9) (As := [.int 0, .int m_inShelf, .int m_inStack]) (rest := []) (wr := [(m0, .inr (11, [.int m_thrown, .ref mtape, .int m_taped, .int m_size, .ref msort, .ref mplace, .ref mvalue, .int m_at, .int m_fault, .ref mwords, .ref mtold, .ref mop, .ref marg, .int m_codes, .ref mnames, .ref mhasHabit, .int m_isNew, .ref mfactWords, .ref mfacts, .ref mpile, .ref mstates, .ref misMarked, .int m_inShelf, .int m_inStack, .int m_inPlace, .ref mrow, .int m_rowMany, .ref mthr, .ref mmays, .ref mtall, .ref mweights, .ref mrowOfWare, .ref mneededOf, .int m_goShelf, .int m_goStack, .int m_goLeft, .ref mtried, .ref mbestRow, .int m_bestCost, .int m_bestMany, .int m_bestShelf, .int m_bestSet, .ref mdigits])), (mtold, .inl (cyI, 240, .inl m_told)), (mstates, .inl (cyI, 2760, .inl m_states))]) C (c_X11_stackAt l D cyC cyI cyJ cyZ cyO 0 m_inShelf m_inStack (by decide) h_m_inShelf (by omega)) wd_773 wd_624 wd_774 wd_775 ⟨by decide, by decide, rfl⟩ rfl ⟨rfl, rfl, by decide, by decide⟩ ⟨by decide, by decide⟩ [] [0, 1, 2] rfl rfl ⟨by decide, by decide, by decide⟩ rfl (Nat.le_of_ble_eq_true rfl) dX11_liftCost_9 (fun u_1 hw_2 => ?_)
  refine j_eq (ws2 := [(m0, .inr (11, [.int m_thrown, .ref mtape, .int m_taped, .int m_size, .ref msort, .ref mplace, .ref mvalue, .int m_at, .int m_fault, .ref mwords, .ref mtold, .ref mop, .ref marg, .int m_codes, .ref mnames, .ref mhasHabit, .int m_isNew, .ref mfactWords, .ref mfacts, .ref mpile, .ref mstates, .ref misMarked, .int m_inShelf, .int m_inStack, .int m_inPlace, .ref mrow, .int m_rowMany, .ref mthr, .ref mmays, .ref mtall, .ref mweights, .ref mrowOfWare, .ref mneededOf, .int m_goShelf, .int m_goStack, .int m_goLeft, .ref mtried, .ref mbestRow, .int m_bestCost, .int m_bestMany, .int m_bestShelf, .int m_bestSet, .ref mdigits])), (mtold, .inl (cyI, 240, .inl m_told)), (mstates, .inl (cyI, 2760, .inl m_states))]) (pc2 := 12) (lv2 := [(0, .ref m0), (1, .int 0)]) (st2 := [.int (u_1.2.1 0)]) rfl rfl rfl rfl ?_
  obtain ⟨hw_2_0, hw_2_1⟩ := hw_2
  have el_0 : (0 : Int32).toInt = 0 := rfl
  have ad_3 : AD (u_1.2.1 0).toInt := ⟨0, (m_inShelf).toInt.toNat, (m_inStack).toInt.toNat, by decide, by omega, by omega, by omega⟩
  refine j_istore_n (pc := 12) (lv' := [(2, .int (u_1.2.1 0)), (0, .ref m0), (1, .int 0)]) C dX11_liftCost_12 rfl (by decide) rfl ?_
  refine j_iconst (pc := 13) (v := 0) C dX11_liftCost_13 (by decide) ?_
  refine j_istore_n (pc := 14) (lv' := [(3, .int 0), (2, .int (u_1.2.1 0)), (0, .ref m0), (1, .int 0)]) C dX11_liftCost_14 rfl (by decide) rfl ?_
  refine j_aload_n (pc := 15) C dX11_liftCost_15 rfl 2 rfl ?_
  refine j_get (pc := 16) (ci := 11) (v := .int m_inPlace) C inw_11 0 rfl rfl 24 (by decide) wd_778 rfl rfl dX11_liftCost_16 ?_
  refine j_istore (pc := 19) (lv' := [(4, .int m_inPlace), (3, .int 0), (2, .int (u_1.2.1 0)), (0, .ref m0), (1, .int 0)]) C dX11_liftCost_19 (by decide) rfl ?_
  have loop_4 : ∀ (k_4 : Nat) (x4_4 : Int32) (x4_3 : Int32), (0 ≤ (x4_4).toInt ∧ (x4_4).toInt ≤ 12) → (0 ≤ (x4_3).toInt ∧ (x4_3).toInt ≤ 47952) → (x4_3.toInt ≤ 3996 * x4_4.toInt ∧ (m_inPlace).toInt ≤ x4_4.toInt ∧ (x4_4.toInt ≤ (m_states (0 + 105 * (m_inShelf).toInt.toNat + 1 + 13 * (m_inStack).toInt.toNat)).toInt ∨ x4_4.toInt = (m_inPlace).toInt)) → (x4_3 = lcF (wtM m_told) (fun p => m_states ((0 + 105 * (m_inShelf).toInt.toNat + 1 + 13 * (m_inStack).toInt.toNat) + 1 + p)) (m_told (99 + 3 * (m_inShelf).toInt.toNat + 1)) (m_inPlace).toInt.toNat (x4_4.toInt).toNat) → (12 - x4_4.toInt).toNat < k_4 → J p l e ({ frames := 2, cells := 0, slots := 0, locals := 44 } : Room) s m args below meth c D A 5 0 0 (QX below D (TY cyC cyI cyJ cyZ cyO) A (fun u => some (.int (u.2.1 0))) (fun u => (0 ≤ (u.2.1 0).toInt ∧ (u.2.1 0).toInt ≤ 47952) ∧ ((u.2.1 0) = lcF (wtM m_told) (fun p => m_states ((0 + 105 * (m_inShelf).toInt.toNat + 1 + 13 * (m_inStack).toInt.toNat) + 1 + p)) (m_told (99 + 3 * (m_inShelf).toInt.toNat + 1)) (m_inPlace).toInt.toNat (m_states (0 + 105 * (m_inShelf).toInt.toNat + 1 + 13 * (m_inStack).toInt.toNat)).toInt.toNat)) (fun u => [(m0, .inr (11, [.int m_thrown, .ref mtape, .int m_taped, .int m_size, .ref msort, .ref mplace, .ref mvalue, .int m_at, .int m_fault, .ref mwords, .ref mtold, .ref mop, .ref marg, .int m_codes, .ref mnames, .ref mhasHabit, .int m_isNew, .ref mfactWords, .ref mfacts, .ref mpile, .ref mstates, .ref misMarked, .int m_inShelf, .int m_inStack, .int m_inPlace, .ref mrow, .int m_rowMany, .ref mthr, .ref mmays, .ref mtall, .ref mweights, .ref mrowOfWare, .ref mneededOf, .int m_goShelf, .int m_goStack, .int m_goLeft, .ref mtried, .ref mbestRow, .int m_bestCost, .int m_bestMany, .int m_bestShelf, .int m_bestSet, .ref mdigits])), (mtold, .inl (cyI, 240, .inl m_told)), (mstates, .inl (cyI, 2760, .inl m_states))]) args s 0 0) [(m0, .inr (11, [.int m_thrown, .ref mtape, .int m_taped, .int m_size, .ref msort, .ref mplace, .ref mvalue, .int m_at, .int m_fault, .ref mwords, .ref mtold, .ref mop, .ref marg, .int m_codes, .ref mnames, .ref mhasHabit, .int m_isNew, .ref mfactWords, .ref mfacts, .ref mpile, .ref mstates, .ref misMarked, .int m_inShelf, .int m_inStack, .int m_inPlace, .ref mrow, .int m_rowMany, .ref mthr, .ref mmays, .ref mtall, .ref mweights, .ref mrowOfWare, .ref mneededOf, .int m_goShelf, .int m_goStack, .int m_goLeft, .ref mtried, .ref mbestRow, .int m_bestCost, .int m_bestMany, .int m_bestShelf, .int m_bestSet, .ref mdigits])), (mtold, .inl (cyI, 240, .inl m_told)), (mstates, .inl (cyI, 2760, .inl m_states))] 21 [(4, .int x4_4), (3, .int x4_3), (2, .int (u_1.2.1 0)), (0, .ref m0), (1, .int 0)] [] := by
    intro k_4
    induction k_4 with
    | zero =>
      intro x4_4 x4_3 hi_4_0 hi_4_1 hr_4 hq_4_0 hm_4
      exact absurd hm_4 (Nat.not_lt_zero _)
    | succ k_4 ih_4 =>
      intro x4_4 x4_3 hi_4_0 hi_4_1 hr_4 hq_4_0 hm_4
      refine j_iload (pc := 21) C dX11_liftCost_21 0 rfl ?_
      refine j_aload_n (pc := 23) C dX11_liftCost_23 rfl 3 rfl ?_
      refine j_get (pc := 24) (ci := 11) (v := .ref mstates) C inw_11 0 rfl rfl 20 (by decide) wd_764 rfl rfl dX11_liftCost_24 ?_
      refine j_iload_n (pc := 27) C dX11_liftCost_27 rfl 2 rfl ?_
      obtain ⟨v_5, ev_5⟩ : ∃ z, m_states ((u_1.2.1 0)).toInt.toNat = z := ⟨_, rfl⟩
      have env_5 : (m_states ((u_1.2.1 0)).toInt.toNat).toInt = v_5.toInt := by rw [ev_5]
      have hv_5 : 0 ≤ v_5.toInt ∧ v_5.toInt ≤ 12 := by rw [← ev_5]; exact SV.siz h_m_states ad_3 (by omega)
      refine j_iald (pc := 28) (v := v_5) (k := ((u_1.2.1 0)).toInt.toNat) C 2 1 rfl rfl (i_nn (by omega)) rfl (i_lt_n (by omega) (by omega)) ev_5 dX11_liftCost_28 ?_
      have ea9 : (m_states (0 + 105 * (m_inShelf).toInt.toNat + 1 + 13 * (m_inStack).toInt.toNat)).toInt = (v_5).toInt := by rw [show (0 + 105 * (m_inShelf).toInt.toNat + 1 + 13 * (m_inStack).toInt.toNat) = ((u_1.2.1 0)).toInt.toNat from (by omega), ev_5]
      refine j_icmp_ge (pc := 29) (tgt := 75) C dX11_liftCost_29 (by decide) (fun c_6 => ?_) (fun c_6 => ?_)
      · skip
        rw [i_le] at c_6
        refine j_iload_n (pc := 75) C dX11_liftCost_75 rfl 1 rfl ?_
        exact j_iret (pc := 76) C hr hk (fun i => [].getD i 0, fun i => [x4_3].getD i 0, fun i => [].getD i (fun _ => 0), fun i => [].getD i (fun _ => 0)) rfl (show (0 ≤ (x4_3).toInt ∧ (x4_3).toInt ≤ 47952) ∧ (x4_3 = lcF (wtM m_told) (fun p => m_states ((0 + 105 * (m_inShelf).toInt.toNat + 1 + 13 * (m_inStack).toInt.toNat) + 1 + p)) (m_told (99 + 3 * (m_inShelf).toInt.toNat + 1)) (m_inPlace).toInt.toNat (m_states (0 + 105 * (m_inShelf).toInt.toNat + 1 + 13 * (m_inStack).toInt.toNat)).toInt.toNat) from ⟨hi_4_1, (by rcases (by omega : (x4_4).toInt = (m_states (0 + 105 * (m_inShelf).toInt.toNat + 1 + 13 * (m_inStack).toInt.toNat)).toInt ∨ (x4_4).toInt = (m_inPlace).toInt ∧ (m_states (0 + 105 * (m_inShelf).toInt.toNat + 1 + 13 * (m_inStack).toInt.toNat)).toInt ≤ (m_inPlace).toInt) with z | z; (rw [show (m_states (0 + 105 * (m_inShelf).toInt.toNat + 1 + 13 * (m_inStack).toInt.toNat)).toInt.toNat = (x4_4).toInt.toNat from (by omega)]; exact hq_4_0); (rw [hq_4_0, show (x4_4).toInt.toNat = (m_inPlace).toInt.toNat from (by omega), lcF_0 _ _ _ (Nat.le_refl _), lcF_0 _ _ _ (by omega)]))⟩) [0, 1, 2] (by decide) rfl (by decide) (by decide) dX11_liftCost_76
      · skip
        rw [i_le] at c_6
        refine j_iload_n (pc := 32) C dX11_liftCost_32 rfl 1 rfl ?_
        refine j_iload (pc := 33) C dX11_liftCost_33 0 rfl ?_
        refine j_aload_n (pc := 35) C dX11_liftCost_35 rfl 3 rfl ?_
        refine j_get (pc := 36) (ci := 11) (v := .int m_inPlace) C inw_11 0 rfl rfl 24 (by decide) wd_778 rfl rfl dX11_liftCost_36 ?_
        refine j_icmp_ne (pc := 39) (tgt := 46) C dX11_liftCost_39 (by decide) (fun c_7 => ?_) (fun c_7 => ?_)
        · skip
          rw [i_eq] at c_7
          refine j_iconst (pc := 46) (v := 2) C dX11_liftCost_46 (by decide) ?_
          refine j_aload_n (pc := 47) C dX11_liftCost_47 rfl 3 rfl ?_
          refine j_aload_n (pc := 48) C dX11_liftCost_48 rfl 3 rfl ?_
          refine j_get (pc := 49) (ci := 11) (v := .ref mstates) C inw_11 0 rfl rfl 20 (by decide) wd_764 rfl rfl dX11_liftCost_49 ?_
          refine j_iload_n (pc := 52) C dX11_liftCost_52 rfl 2 rfl ?_
          refine j_iconst (pc := 53) (v := 1) C dX11_liftCost_53 (by decide) ?_
          obtain ⟨v_8, ev_8⟩ : ∃ z : Int32, (u_1.2.1 0) + 1 = z := ⟨_, rfl⟩
          have el_1 : (1 : Int32).toInt = 1 := rfl
          have hv_8 : v_8.toInt = ((u_1.2.1 0)).toInt + (1 : Int32).toInt := by rw [← ev_8]; exact fb_addI (by omega) (by omega)
          refine j_iadd (pc := 54) (v := v_8) C dX11_liftCost_54 ev_8 ?_
          refine j_iload (pc := 55) C dX11_liftCost_55 0 rfl ?_
          obtain ⟨v_9, ev_9⟩ : ∃ z : Int32, v_8 + x4_4 = z := ⟨_, rfl⟩
          have hv_9 : v_9.toInt = v_8.toInt + x4_4.toInt := by rw [← ev_9]; exact fb_addI (by omega) (by omega)
          refine j_iadd (pc := 57) (v := v_9) C dX11_liftCost_57 ev_9 ?_
          obtain ⟨v_10, ev_10⟩ : ∃ z, m_states (v_9).toInt.toNat = z := ⟨_, rfl⟩
          have env_10 : (m_states (v_9).toInt.toNat).toInt = v_10.toInt := by rw [ev_10]
          have hv_10 : 0 ≤ v_10.toInt ∧ v_10.toInt ≤ 11 := by rw [← ev_10]; exact SV.war h_m_states ad_3 (by omega) (by omega)
          refine j_iald (pc := 58) (v := v_10) (k := (v_9).toInt.toNat) C 2 1 rfl rfl (i_nn (by omega)) rfl (i_lt_n (by omega) (by omega)) ev_10 dX11_liftCost_58 ?_
          refine j_aload_n (pc := 59) C dX11_liftCost_59 rfl 3 rfl ?_
          refine j_get (pc := 60) (ci := 11) (v := .int m_inShelf) C inw_11 0 rfl rfl 22 (by decide) wd_776 rfl rfl dX11_liftCost_60 ?_
          refine j_callV (pc := 63) (As := [.int v_10, .int m_inShelf]) (rest := [.int 2, .int x4_3]) (wr := [(mstates, .inl (cyI, 2760, .inl m_states))]) C (c_X11_costOf l D cyC cyI cyJ cyZ cyO m0 mtold mtape msort mplace mvalue mwords mop marg mnames mhasHabit mfactWords mfacts mpile mstates misMarked mrow mthr mmays mtall mweights mrowOfWare mneededOf mtried mbestRow mdigits v_10 m_inShelf m_thrown m_taped m_size m_at m_fault m_codes m_isNew m_inShelf m_inStack m_inPlace m_rowMany m_goShelf m_goStack m_goLeft m_bestCost m_bestMany m_bestShelf m_bestSet m_told h_m_taped h_m_size h_m_at h_m_fault h_m_codes h_m_isNew h_m_inShelf h_m_inStack h_m_inPlace h_m_rowMany h_m_goShelf h_m_bestMany h_m_bestShelf (by omega) h_m_inShelf h_m_told) wd_785 wd_624 wd_786 wd_787 wd_788 ⟨by decide, by decide, rfl⟩ rfl ⟨rfl, rfl, by decide, by decide⟩ ⟨by decide, by decide⟩ [0, 1] [2] rfl rfl ⟨by decide, by decide, by decide⟩ 0 rfl rfl rfl (Nat.le_of_ble_eq_true rfl) dX11_liftCost_63 (fun u_11 hw_12 => ?_)
          refine j_eq (ws2 := [(mstates, .inl (cyI, 2760, .inl m_states)), (m0, .inr (11, [.int m_thrown, .ref mtape, .int m_taped, .int m_size, .ref msort, .ref mplace, .ref mvalue, .int m_at, .int m_fault, .ref mwords, .ref mtold, .ref mop, .ref marg, .int m_codes, .ref mnames, .ref mhasHabit, .int m_isNew, .ref mfactWords, .ref mfacts, .ref mpile, .ref mstates, .ref misMarked, .int m_inShelf, .int m_inStack, .int m_inPlace, .ref mrow, .int m_rowMany, .ref mthr, .ref mmays, .ref mtall, .ref mweights, .ref mrowOfWare, .ref mneededOf, .int m_goShelf, .int m_goStack, .int m_goLeft, .ref mtried, .ref mbestRow, .int m_bestCost, .int m_bestMany, .int m_bestShelf, .int m_bestSet, .ref mdigits])), (mtold, .inl (cyI, 240, .inl m_told))]) (pc2 := 66) (lv2 := [(4, .int x4_4), (3, .int x4_3), (2, .int (u_1.2.1 0)), (0, .ref m0), (1, .int 0)]) (st2 := [.int (u_11.2.1 0), .int 2, .int x4_3]) rfl rfl rfl rfl ?_
          obtain ⟨hw_12_0, hw_12_1⟩ := hw_12
          obtain ⟨v_13, ev_13⟩ : ∃ z : Int32, 2 * (u_11.2.1 0) = z := ⟨_, rfl⟩
          have el_2 : (2 : Int32).toInt = 2 := rfl
          have hv_13 : v_13.toInt = 2 * ((u_11.2.1 0)).toInt := by rw [← ev_13]; exact mulL (c := 2) rfl (by omega) (by omega)
          refine j_imul (pc := 66) (v := v_13) C dX11_liftCost_66 ev_13 ?_
          obtain ⟨v_14, ev_14⟩ : ∃ z : Int32, x4_3 + v_13 = z := ⟨_, rfl⟩
          have hv_14 : v_14.toInt = x4_3.toInt + v_13.toInt := by rw [← ev_14]; exact fb_addI (by omega) (by omega)
          refine j_iadd (pc := 67) (v := v_14) C dX11_liftCost_67 ev_14 ?_
          refine j_istore_n (pc := 68) (lv' := [(3, .int v_14), (4, .int x4_4), (2, .int (u_1.2.1 0)), (0, .ref m0), (1, .int 0)]) C dX11_liftCost_68 rfl (by decide) rfl ?_
          obtain ⟨v_15, ev_15⟩ : ∃ z : Int32, x4_4 + 1 = z := ⟨_, rfl⟩
          have el_1 : (1 : Int32).toInt = 1 := rfl
          have hv_15 : v_15.toInt = x4_4.toInt + (1 : Int32).toInt := by rw [← ev_15]; exact fb_addI (by omega) (by omega)
          refine j_iinc (pc := 69) (v := v_15) (lv' := [(4, .int v_15), (3, .int v_14), (2, .int (u_1.2.1 0)), (0, .ref m0), (1, .int 0)]) C dX11_liftCost_69 1 rfl ev_15 (by decide) rfl ?_
          refine j_goto (pc := 72) (tgt := 21) C dX11_liftCost_72 (by decide) ?_
          refine j_subG (ws' := [(m0, .inr (11, [.int m_thrown, .ref mtape, .int m_taped, .int m_size, .ref msort, .ref mplace, .ref mvalue, .int m_at, .int m_fault, .ref mwords, .ref mtold, .ref mop, .ref marg, .int m_codes, .ref mnames, .ref mhasHabit, .int m_isNew, .ref mfactWords, .ref mfacts, .ref mpile, .ref mstates, .ref misMarked, .int m_inShelf, .int m_inStack, .int m_inPlace, .ref mrow, .int m_rowMany, .ref mthr, .ref mmays, .ref mtall, .ref mweights, .ref mrowOfWare, .ref mneededOf, .int m_goShelf, .int m_goStack, .int m_goLeft, .ref mtried, .ref mbestRow, .int m_bestCost, .int m_bestMany, .int m_bestShelf, .int m_bestSet, .ref mdigits])), (mtold, .inl (cyI, 240, .inl m_told)), (mstates, .inl (cyI, 2760, .inl m_states))]) [1, 2, 0] (by decide) rfl ?_
          exact j_lv [0, 1, 2, 3, 4] rfl (ih_4 v_15 v_14 (by omega) (by omega) (by omega) (by have y0 : (u_11.2.1 0) = wtM m_told (v_10).toInt.toNat + (m_told (99 + 3 * (m_inShelf).toInt.toNat + 1)) := hw_12_1; rw [show (v_15.toInt).toNat = (x4_4).toInt.toNat + 1 from (by omega), lcF_s, if_pos (by omega), ← hq_4_0, if_neg (by omega)]; show v_14 = x4_3 + 2 * (wtM m_told (m_states ((0 + 105 * (m_inShelf).toInt.toNat + 1 + 13 * (m_inStack).toInt.toNat) + 1 + (x4_4).toInt.toNat)).toInt.toNat + (m_told (99 + 3 * (m_inShelf).toInt.toNat + 1))); rw [show (0 + 105 * (m_inShelf).toInt.toNat + 1 + 13 * (m_inStack).toInt.toNat) + 1 + (x4_4).toInt.toNat = (v_9).toInt.toNat from (by omega), ev_10, ← y0, ev_13]; exact ev_14.symm) (by omega))
        · skip
          rw [i_eq] at c_7
          refine j_iconst (pc := 42) (v := 1) C dX11_liftCost_42 (by decide) ?_
          refine j_goto (pc := 43) (tgt := 47) C dX11_liftCost_43 (by decide) ?_
          refine j_aload_n (pc := 47) C dX11_liftCost_47 rfl 3 rfl ?_
          refine j_aload_n (pc := 48) C dX11_liftCost_48 rfl 3 rfl ?_
          refine j_get (pc := 49) (ci := 11) (v := .ref mstates) C inw_11 0 rfl rfl 20 (by decide) wd_764 rfl rfl dX11_liftCost_49 ?_
          refine j_iload_n (pc := 52) C dX11_liftCost_52 rfl 2 rfl ?_
          refine j_iconst (pc := 53) (v := 1) C dX11_liftCost_53 (by decide) ?_
          obtain ⟨v_16, ev_16⟩ : ∃ z : Int32, (u_1.2.1 0) + 1 = z := ⟨_, rfl⟩
          have el_1 : (1 : Int32).toInt = 1 := rfl
          have hv_16 : v_16.toInt = ((u_1.2.1 0)).toInt + (1 : Int32).toInt := by rw [← ev_16]; exact fb_addI (by omega) (by omega)
          refine j_iadd (pc := 54) (v := v_16) C dX11_liftCost_54 ev_16 ?_
          refine j_iload (pc := 55) C dX11_liftCost_55 0 rfl ?_
          obtain ⟨v_17, ev_17⟩ : ∃ z : Int32, v_16 + x4_4 = z := ⟨_, rfl⟩
          have hv_17 : v_17.toInt = v_16.toInt + x4_4.toInt := by rw [← ev_17]; exact fb_addI (by omega) (by omega)
          refine j_iadd (pc := 57) (v := v_17) C dX11_liftCost_57 ev_17 ?_
          obtain ⟨v_18, ev_18⟩ : ∃ z, m_states (v_17).toInt.toNat = z := ⟨_, rfl⟩
          have env_18 : (m_states (v_17).toInt.toNat).toInt = v_18.toInt := by rw [ev_18]
          have hv_18 : 0 ≤ v_18.toInt ∧ v_18.toInt ≤ 11 := by rw [← ev_18]; exact SV.war h_m_states ad_3 (by omega) (by omega)
          refine j_iald (pc := 58) (v := v_18) (k := (v_17).toInt.toNat) C 2 1 rfl rfl (i_nn (by omega)) rfl (i_lt_n (by omega) (by omega)) ev_18 dX11_liftCost_58 ?_
          refine j_aload_n (pc := 59) C dX11_liftCost_59 rfl 3 rfl ?_
          refine j_get (pc := 60) (ci := 11) (v := .int m_inShelf) C inw_11 0 rfl rfl 22 (by decide) wd_776 rfl rfl dX11_liftCost_60 ?_
          refine j_callV (pc := 63) (As := [.int v_18, .int m_inShelf]) (rest := [.int 1, .int x4_3]) (wr := [(mstates, .inl (cyI, 2760, .inl m_states))]) C (c_X11_costOf l D cyC cyI cyJ cyZ cyO m0 mtold mtape msort mplace mvalue mwords mop marg mnames mhasHabit mfactWords mfacts mpile mstates misMarked mrow mthr mmays mtall mweights mrowOfWare mneededOf mtried mbestRow mdigits v_18 m_inShelf m_thrown m_taped m_size m_at m_fault m_codes m_isNew m_inShelf m_inStack m_inPlace m_rowMany m_goShelf m_goStack m_goLeft m_bestCost m_bestMany m_bestShelf m_bestSet m_told h_m_taped h_m_size h_m_at h_m_fault h_m_codes h_m_isNew h_m_inShelf h_m_inStack h_m_inPlace h_m_rowMany h_m_goShelf h_m_bestMany h_m_bestShelf (by omega) h_m_inShelf h_m_told) wd_785 wd_624 wd_786 wd_787 wd_788 ⟨by decide, by decide, rfl⟩ rfl ⟨rfl, rfl, by decide, by decide⟩ ⟨by decide, by decide⟩ [0, 1] [2] rfl rfl ⟨by decide, by decide, by decide⟩ 0 rfl rfl rfl (Nat.le_of_ble_eq_true rfl) dX11_liftCost_63 (fun u_19 hw_20 => ?_)
          refine j_eq (ws2 := [(mstates, .inl (cyI, 2760, .inl m_states)), (m0, .inr (11, [.int m_thrown, .ref mtape, .int m_taped, .int m_size, .ref msort, .ref mplace, .ref mvalue, .int m_at, .int m_fault, .ref mwords, .ref mtold, .ref mop, .ref marg, .int m_codes, .ref mnames, .ref mhasHabit, .int m_isNew, .ref mfactWords, .ref mfacts, .ref mpile, .ref mstates, .ref misMarked, .int m_inShelf, .int m_inStack, .int m_inPlace, .ref mrow, .int m_rowMany, .ref mthr, .ref mmays, .ref mtall, .ref mweights, .ref mrowOfWare, .ref mneededOf, .int m_goShelf, .int m_goStack, .int m_goLeft, .ref mtried, .ref mbestRow, .int m_bestCost, .int m_bestMany, .int m_bestShelf, .int m_bestSet, .ref mdigits])), (mtold, .inl (cyI, 240, .inl m_told))]) (pc2 := 66) (lv2 := [(4, .int x4_4), (3, .int x4_3), (2, .int (u_1.2.1 0)), (0, .ref m0), (1, .int 0)]) (st2 := [.int (u_19.2.1 0), .int 1, .int x4_3]) rfl rfl rfl rfl ?_
          obtain ⟨hw_20_0, hw_20_1⟩ := hw_20
          obtain ⟨v_21, ev_21⟩ : ∃ z : Int32, 1 * (u_19.2.1 0) = z := ⟨_, rfl⟩
          have el_1 : (1 : Int32).toInt = 1 := rfl
          have hv_21 : v_21.toInt = 1 * ((u_19.2.1 0)).toInt := by rw [← ev_21]; exact mulL (c := 1) rfl (by omega) (by omega)
          refine j_imul (pc := 66) (v := v_21) C dX11_liftCost_66 ev_21 ?_
          obtain ⟨v_22, ev_22⟩ : ∃ z : Int32, x4_3 + v_21 = z := ⟨_, rfl⟩
          have hv_22 : v_22.toInt = x4_3.toInt + v_21.toInt := by rw [← ev_22]; exact fb_addI (by omega) (by omega)
          refine j_iadd (pc := 67) (v := v_22) C dX11_liftCost_67 ev_22 ?_
          refine j_istore_n (pc := 68) (lv' := [(3, .int v_22), (4, .int x4_4), (2, .int (u_1.2.1 0)), (0, .ref m0), (1, .int 0)]) C dX11_liftCost_68 rfl (by decide) rfl ?_
          obtain ⟨v_23, ev_23⟩ : ∃ z : Int32, x4_4 + 1 = z := ⟨_, rfl⟩
          have el_1 : (1 : Int32).toInt = 1 := rfl
          have hv_23 : v_23.toInt = x4_4.toInt + (1 : Int32).toInt := by rw [← ev_23]; exact fb_addI (by omega) (by omega)
          refine j_iinc (pc := 69) (v := v_23) (lv' := [(4, .int v_23), (3, .int v_22), (2, .int (u_1.2.1 0)), (0, .ref m0), (1, .int 0)]) C dX11_liftCost_69 1 rfl ev_23 (by decide) rfl ?_
          refine j_goto (pc := 72) (tgt := 21) C dX11_liftCost_72 (by decide) ?_
          refine j_subG (ws' := [(m0, .inr (11, [.int m_thrown, .ref mtape, .int m_taped, .int m_size, .ref msort, .ref mplace, .ref mvalue, .int m_at, .int m_fault, .ref mwords, .ref mtold, .ref mop, .ref marg, .int m_codes, .ref mnames, .ref mhasHabit, .int m_isNew, .ref mfactWords, .ref mfacts, .ref mpile, .ref mstates, .ref misMarked, .int m_inShelf, .int m_inStack, .int m_inPlace, .ref mrow, .int m_rowMany, .ref mthr, .ref mmays, .ref mtall, .ref mweights, .ref mrowOfWare, .ref mneededOf, .int m_goShelf, .int m_goStack, .int m_goLeft, .ref mtried, .ref mbestRow, .int m_bestCost, .int m_bestMany, .int m_bestShelf, .int m_bestSet, .ref mdigits])), (mtold, .inl (cyI, 240, .inl m_told)), (mstates, .inl (cyI, 2760, .inl m_states))]) [1, 2, 0] (by decide) rfl ?_
          exact j_lv [0, 1, 2, 3, 4] rfl (ih_4 v_23 v_22 (by omega) (by omega) (by omega) (by have y0 : (u_19.2.1 0) = wtM m_told (v_18).toInt.toNat + (m_told (99 + 3 * (m_inShelf).toInt.toNat + 1)) := hw_20_1; rw [show (v_23.toInt).toNat = (x4_4).toInt.toNat + 1 from (by omega), lcF_s, if_pos (by omega), ← hq_4_0, if_pos (by omega)]; show v_22 = x4_3 + 1 * (wtM m_told (m_states ((0 + 105 * (m_inShelf).toInt.toNat + 1 + 13 * (m_inStack).toInt.toNat) + 1 + (x4_4).toInt.toNat)).toInt.toNat + (m_told (99 + 3 * (m_inShelf).toInt.toNat + 1))); rw [show (0 + 105 * (m_inShelf).toInt.toNat + 1 + 13 * (m_inStack).toInt.toNat) + 1 + (x4_4).toInt.toNat = (v_17).toInt.toNat from (by omega), ev_18, ← y0, ev_21]; exact ev_22.symm) (by omega))
  have el_0 : (0 : Int32).toInt = 0 := rfl
  exact j_lv [0, 1, 2, 3, 4] rfl (loop_4 4096 m_inPlace 0 (by omega) (by decide) (by omega) (lcF_0 _ _ _ (Nat.le_refl _)).symm (by omega))
set_option maxHeartbeats 4000000 in
set_option maxRecDepth 100000 in
theorem c_X11_takesWithout_460 (l : Launch) (D : DG) (cyC cyI cyJ cyZ cyO : ClassId) (m0 : Nat) (mstates : Nat) (mrow : Nat) (mtape : Nat) (msort : Nat) (mplace : Nat) (mvalue : Nat) (mwords : Nat) (mtold : Nat) (mop : Nat) (marg : Nat) (mnames : Nat) (mhasHabit : Nat) (mfactWords : Nat) (mfacts : Nat) (mpile : Nat) (misMarked : Nat) (mthr : Nat) (mmays : Nat) (mtall : Nat) (mweights : Nat) (mrowOfWare : Nat) (mneededOf : Nat) (mtried : Nat) (mbestRow : Nat) (mdigits : Nat) (m_thrown : Int32) (m_taped : Int32) (m_size : Int32) (m_at : Int32) (m_fault : Int32) (m_codes : Int32) (m_isNew : Int32) (m_inShelf : Int32) (m_inStack : Int32) (m_inPlace : Int32) (m_rowMany : Int32) (m_goShelf : Int32) (m_goStack : Int32) (m_goLeft : Int32) (m_bestCost : Int32) (m_bestMany : Int32) (m_bestShelf : Int32) (m_bestSet : Int32) (m_states : Nat → Int32) (m_row : Nat → Int32) (h_m_taped : 0 ≤ (m_taped).toInt ∧ (m_taped).toInt ≤ 1000) (h_m_size : 0 ≤ (m_size).toInt ∧ (m_size).toInt ≤ 1000) (h_m_at : 0 ≤ (m_at).toInt ∧ (m_at).toInt ≤ 1000) (h_m_fault : 0 ≤ (m_fault).toInt ∧ (m_fault).toInt ≤ 16005) (h_m_codes : 0 ≤ (m_codes).toInt ∧ (m_codes).toInt ≤ 1000) (h_m_isNew : 0 ≤ (m_isNew).toInt ∧ (m_isNew).toInt ≤ 1) (h_m_inShelf : 0 ≤ (m_inShelf).toInt ∧ (m_inShelf).toInt ≤ 3) (h_m_inStack : 0 ≤ (m_inStack).toInt ∧ (m_inStack).toInt ≤ 7) (h_m_inPlace : 0 ≤ (m_inPlace).toInt ∧ (m_inPlace).toInt ≤ 11) (h_m_rowMany : 0 ≤ (m_rowMany).toInt ∧ (m_rowMany).toInt ≤ 12) (h_m_goShelf : -1 ≤ (m_goShelf).toInt ∧ (m_goShelf).toInt ≤ 3) (h_m_bestMany : 0 ≤ (m_bestMany).toInt ∧ (m_bestMany).toInt ≤ 7) (h_m_bestShelf : 0 ≤ (m_bestShelf).toInt ∧ (m_bestShelf).toInt ≤ 3) (h_m_row : Iv 12 (0) (11) m_row) (h_m_states : SV m_states) (hip : (m_inPlace).toInt < (m_states (460 + 105 * (m_inShelf).toInt.toNat + 1 + 13 * (m_inStack).toInt.toNat)).toInt) : KK l D (TY cyC cyI cyJ cyZ cyO) yX11_takesWithout cX11_takesWithout 3 none ({ frames := 1, cells := 0, slots := 0, locals := 22 } : Room) 0 0 [.ref m0, .int 460] [(m0, .inr (11, [.int m_thrown, .ref mtape, .int m_taped, .int m_size, .ref msort, .ref mplace, .ref mvalue, .int m_at, .int m_fault, .ref mwords, .ref mtold, .ref mop, .ref marg, .int m_codes, .ref mnames, .ref mhasHabit, .int m_isNew, .ref mfactWords, .ref mfacts, .ref mpile, .ref mstates, .ref misMarked, .int m_inShelf, .int m_inStack, .int m_inPlace, .ref mrow, .int m_rowMany, .ref mthr, .ref mmays, .ref mtall, .ref mweights, .ref mrowOfWare, .ref mneededOf, .int m_goShelf, .int m_goStack, .int m_goLeft, .ref mtried, .ref mbestRow, .int m_bestCost, .int m_bestMany, .int m_bestShelf, .int m_bestSet, .ref mdigits])), (mstates, .inl (cyI, 2760, .inl m_states)), (mrow, .inl (cyI, 12, .inl m_row))] (fun u => none) (fun u => (0 ≤ (u.2.1 0).toInt ∧ (u.2.1 0).toInt ≤ 11) ∧ (Iv 12 (0) (11) (u.2.2.1 0)) ∧ (((u.2.1 0)).toInt = (m_states (460 + 105 * (m_inShelf).toInt.toNat + 1 + 13 * (m_inStack).toInt.toNat)).toInt - 1) ∧ (∀ p : Nat, (p : Int) < (m_states (460 + 105 * (m_inShelf).toInt.toNat + 1 + 13 * (m_inStack).toInt.toNat)).toInt - 1 → (u.2.2.1 0) p = m_states ((460 + 105 * (m_inShelf).toInt.toNat + 1 + 13 * (m_inStack).toInt.toNat) + 1 + (if (p : Int) < (m_inPlace).toInt then p else p + 1)))) (fun u => [(m0, .inr (11, [.int m_thrown, .ref mtape, .int m_taped, .int m_size, .ref msort, .ref mplace, .ref mvalue, .int m_at, .int m_fault, .ref mwords, .ref mtold, .ref mop, .ref marg, .int m_codes, .ref mnames, .ref mhasHabit, .int m_isNew, .ref mfactWords, .ref mfacts, .ref mpile, .ref mstates, .ref misMarked, .int m_inShelf, .int m_inStack, .int m_inPlace, .ref mrow, .int (u.2.1 0), .ref mthr, .ref mmays, .ref mtall, .ref mweights, .ref mrowOfWare, .ref mneededOf, .int m_goShelf, .int m_goStack, .int m_goLeft, .ref mtried, .ref mbestRow, .int m_bestCost, .int m_bestMany, .int m_bestShelf, .int m_bestSet, .ref mdigits])), (mstates, .inl (cyI, 2760, .inl m_states)), (mrow, .inl (cyI, 12, .inl (u.2.2.1 0)))]) := by
  refine KK.of (lv0 := [(0, .ref m0), (1, .int 460)]) (by decide) rfl (Nat.le_of_ble_eq_true rfl) ?_
  intro p e s m args below meth c A C hr hk hin
  refine j_aload_n (pc := 0) C dX11_takesWithout_0 rfl 0 rfl ?_
  refine j_iload_n (pc := 1) C dX11_takesWithout_1 rfl 1 rfl ?_
  refine j_aload_n (pc := 2) C dX11_takesWithout_2 rfl 0 rfl ?_
  refine j_get (pc := 3) (ci := 11) (v := .int m_inShelf) C inw_11 0 rfl rfl 22 (by decide) wd_776 rfl rfl dX11_takesWithout_3 ?_
  refine j_aload_n (pc := 6) C dX11_takesWithout_6 rfl 0 rfl ?_
  refine j_get (pc := 7) (ci := 11) (v := .int m_inStack) C inw_11 0 rfl rfl 23 (by decide) wd_777 rfl rfl dX11_takesWithout_7 ?_
  refine j_callS (pc := 10) (As := [.int 460, .int m_inShelf, .int m_inStack]) (rest := [.ref m0]) (wr := [(m0, .inr (11, [.int m_thrown, .ref mtape, .int m_taped, .int m_size, .ref msort, .ref mplace, .ref mvalue, .int m_at, .int m_fault, .ref mwords, .ref mtold, .ref mop, .ref marg, .int m_codes, .ref mnames, .ref mhasHabit, .int m_isNew, .ref mfactWords, .ref mfacts, .ref mpile, .ref mstates, .ref misMarked, .int m_inShelf, .int m_inStack, .int m_inPlace, .ref mrow, .int m_rowMany, .ref mthr, .ref mmays, .ref mtall, .ref mweights, .ref mrowOfWare, .ref mneededOf, .int m_goShelf, .int m_goStack, .int m_goLeft, .ref mtried, .ref mbestRow, .int m_bestCost, .int m_bestMany, .int m_bestShelf, .int m_bestSet, .ref mdigits])), (mstates, .inl (cyI, 2760, .inl m_states)), (mrow, .inl (cyI, 12, .inl m_row))]) C (c_X11_stackAt l D cyC cyI cyJ cyZ cyO 460 m_inShelf m_inStack (by decide) h_m_inShelf (by omega)) wd_773 wd_624 wd_774 wd_775 ⟨by decide, by decide, rfl⟩ rfl ⟨rfl, rfl, by decide, by decide⟩ ⟨by decide, by decide⟩ [] [0, 1, 2] rfl rfl ⟨by decide, by decide, by decide⟩ rfl (Nat.le_of_ble_eq_true rfl) dX11_takesWithout_10 (fun u_1 hw_2 => ?_)
  refine j_eq (ws2 := [(m0, .inr (11, [.int m_thrown, .ref mtape, .int m_taped, .int m_size, .ref msort, .ref mplace, .ref mvalue, .int m_at, .int m_fault, .ref mwords, .ref mtold, .ref mop, .ref marg, .int m_codes, .ref mnames, .ref mhasHabit, .int m_isNew, .ref mfactWords, .ref mfacts, .ref mpile, .ref mstates, .ref misMarked, .int m_inShelf, .int m_inStack, .int m_inPlace, .ref mrow, .int m_rowMany, .ref mthr, .ref mmays, .ref mtall, .ref mweights, .ref mrowOfWare, .ref mneededOf, .int m_goShelf, .int m_goStack, .int m_goLeft, .ref mtried, .ref mbestRow, .int m_bestCost, .int m_bestMany, .int m_bestShelf, .int m_bestSet, .ref mdigits])), (mstates, .inl (cyI, 2760, .inl m_states)), (mrow, .inl (cyI, 12, .inl m_row))]) (pc2 := 13) (lv2 := [(0, .ref m0), (1, .int 460)]) (st2 := [.int (u_1.2.1 0), .ref m0]) rfl rfl rfl rfl ?_
  obtain ⟨hw_2_0, hw_2_1⟩ := hw_2
  have el_460 : (460 : Int32).toInt = 460 := rfl
  have ad_3 : AD (u_1.2.1 0).toInt := ⟨1, (m_inShelf).toInt.toNat, (m_inStack).toInt.toNat, by decide, by omega, by omega, by omega⟩
  refine j_callV (pc := 13) (As := [.int (u_1.2.1 0)]) (rest := []) (wr := []) C (c_X11_takesRow l D cyC cyI cyJ cyZ cyO m0 mstates mrow mtape msort mplace mvalue mwords mtold mop marg mnames mhasHabit mfactWords mfacts mpile misMarked mthr mmays mtall mweights mrowOfWare mneededOf mtried mbestRow mdigits (u_1.2.1 0) m_thrown m_taped m_size m_at m_fault m_codes m_isNew m_inShelf m_inStack m_inPlace m_rowMany m_goShelf m_goStack m_goLeft m_bestCost m_bestMany m_bestShelf m_bestSet m_states m_row h_m_taped h_m_size h_m_at h_m_fault h_m_codes h_m_isNew h_m_inShelf h_m_inStack h_m_inPlace h_m_rowMany h_m_goShelf h_m_bestMany h_m_bestShelf (by omega) h_m_row h_m_states ad_3) wd_781 wd_624 wd_782 wd_783 wd_784 ⟨by decide, by decide, rfl⟩ rfl ⟨rfl, rfl, by decide, by decide⟩ ⟨by decide, by decide⟩ [0, 1, 2] [] rfl rfl ⟨by decide, by decide, by decide⟩ 0 rfl rfl rfl (Nat.le_of_ble_eq_true rfl) dX11_takesWithout_13 (fun u_4 hw_5 => ?_)
  refine j_eq (ws2 := [(m0, .inr (11, [.int m_thrown, .ref mtape, .int m_taped, .int m_size, .ref msort, .ref mplace, .ref mvalue, .int m_at, .int m_fault, .ref mwords, .ref mtold, .ref mop, .ref marg, .int m_codes, .ref mnames, .ref mhasHabit, .int m_isNew, .ref mfactWords, .ref mfacts, .ref mpile, .ref mstates, .ref misMarked, .int m_inShelf, .int m_inStack, .int m_inPlace, .ref mrow, .int (u_4.2.1 0), .ref mthr, .ref mmays, .ref mtall, .ref mweights, .ref mrowOfWare, .ref mneededOf, .int m_goShelf, .int m_goStack, .int m_goLeft, .ref mtried, .ref mbestRow, .int m_bestCost, .int m_bestMany, .int m_bestShelf, .int m_bestSet, .ref mdigits])), (mstates, .inl (cyI, 2760, .inl m_states)), (mrow, .inl (cyI, 12, .inl (u_4.2.2.1 0)))]) (pc2 := 16) (lv2 := [(0, .ref m0), (1, .int 460)]) (st2 := []) rfl rfl rfl rfl ?_
  obtain ⟨hw_5_0, hw_5_1, hw_5_2, hw_5_3⟩ := hw_5
  have ea9 : ((u_1.2.1 0)).toInt.toNat = (460 + 105 * (m_inShelf).toInt.toNat + 1 + 13 * (m_inStack).toInt.toNat) := (by omega)
  have er9 := congrArg Int32.toInt hw_5_2
  rw [ea9] at er9
  refine j_aload_n (pc := 16) C dX11_takesWithout_16 rfl 0 rfl ?_
  refine j_get (pc := 17) (ci := 11) (v := .int m_inPlace) C inw_11 0 rfl rfl 24 (by decide) wd_778 rfl rfl dX11_takesWithout_17 ?_
  refine j_istore_n (pc := 20) (lv' := [(2, .int m_inPlace), (0, .ref m0), (1, .int 460)]) C dX11_takesWithout_20 rfl (by decide) rfl ?_
  have loop_6 : ∀ (k_6 : Nat) (x6_2 : Int32) (g6_mrow : Nat → Int32), (0 ≤ (x6_2).toInt ∧ (x6_2).toInt ≤ 12) → (Iv 12 (0) (11) g6_mrow) → ((m_inPlace).toInt ≤ x6_2.toInt ∧ x6_2.toInt ≤ (m_states (460 + 105 * (m_inShelf).toInt.toNat + 1 + 13 * (m_inStack).toInt.toNat)).toInt - 1) → (∀ p : Nat, (p : Int) < (m_states (460 + 105 * (m_inShelf).toInt.toNat + 1 + 13 * (m_inStack).toInt.toNat)).toInt → ((p : Int) < x6_2.toInt → g6_mrow p = m_states ((460 + 105 * (m_inShelf).toInt.toNat + 1 + 13 * (m_inStack).toInt.toNat) + 1 + (if (p : Int) < (m_inPlace).toInt then p else p + 1))) ∧ (x6_2.toInt ≤ (p : Int) → g6_mrow p = m_states ((460 + 105 * (m_inShelf).toInt.toNat + 1 + 13 * (m_inStack).toInt.toNat) + 1 + p))) → (12 - x6_2.toInt).toNat < k_6 → J p l e ({ frames := 1, cells := 0, slots := 0, locals := 22 } : Room) s m args below meth c D A 3 0 0 (QX below D (TY cyC cyI cyJ cyZ cyO) A (fun u => none) (fun u => (0 ≤ (u.2.1 0).toInt ∧ (u.2.1 0).toInt ≤ 11) ∧ (Iv 12 (0) (11) (u.2.2.1 0)) ∧ (((u.2.1 0)).toInt = (m_states (460 + 105 * (m_inShelf).toInt.toNat + 1 + 13 * (m_inStack).toInt.toNat)).toInt - 1) ∧ (∀ p : Nat, (p : Int) < (m_states (460 + 105 * (m_inShelf).toInt.toNat + 1 + 13 * (m_inStack).toInt.toNat)).toInt - 1 → (u.2.2.1 0) p = m_states ((460 + 105 * (m_inShelf).toInt.toNat + 1 + 13 * (m_inStack).toInt.toNat) + 1 + (if (p : Int) < (m_inPlace).toInt then p else p + 1)))) (fun u => [(m0, .inr (11, [.int m_thrown, .ref mtape, .int m_taped, .int m_size, .ref msort, .ref mplace, .ref mvalue, .int m_at, .int m_fault, .ref mwords, .ref mtold, .ref mop, .ref marg, .int m_codes, .ref mnames, .ref mhasHabit, .int m_isNew, .ref mfactWords, .ref mfacts, .ref mpile, .ref mstates, .ref misMarked, .int m_inShelf, .int m_inStack, .int m_inPlace, .ref mrow, .int (u.2.1 0), .ref mthr, .ref mmays, .ref mtall, .ref mweights, .ref mrowOfWare, .ref mneededOf, .int m_goShelf, .int m_goStack, .int m_goLeft, .ref mtried, .ref mbestRow, .int m_bestCost, .int m_bestMany, .int m_bestShelf, .int m_bestSet, .ref mdigits])), (mstates, .inl (cyI, 2760, .inl m_states)), (mrow, .inl (cyI, 12, .inl (u.2.2.1 0)))]) args s 0 0) [(m0, .inr (11, [.int m_thrown, .ref mtape, .int m_taped, .int m_size, .ref msort, .ref mplace, .ref mvalue, .int m_at, .int m_fault, .ref mwords, .ref mtold, .ref mop, .ref marg, .int m_codes, .ref mnames, .ref mhasHabit, .int m_isNew, .ref mfactWords, .ref mfacts, .ref mpile, .ref mstates, .ref misMarked, .int m_inShelf, .int m_inStack, .int m_inPlace, .ref mrow, .int (u_4.2.1 0), .ref mthr, .ref mmays, .ref mtall, .ref mweights, .ref mrowOfWare, .ref mneededOf, .int m_goShelf, .int m_goStack, .int m_goLeft, .ref mtried, .ref mbestRow, .int m_bestCost, .int m_bestMany, .int m_bestShelf, .int m_bestSet, .ref mdigits])), (mstates, .inl (cyI, 2760, .inl m_states)), (mrow, .inl (cyI, 12, .inl g6_mrow))] 21 [(2, .int x6_2), (0, .ref m0), (1, .int 460)] [] := by
    intro k_6
    induction k_6 with
    | zero =>
      intro x6_2 g6_mrow hi_6_0 hi_6_1 hr_6 hq_6_0 hm_6
      exact absurd hm_6 (Nat.not_lt_zero _)
    | succ k_6 ih_6 =>
      intro x6_2 g6_mrow hi_6_0 hi_6_1 hr_6 hq_6_0 hm_6
      refine j_iload_n (pc := 21) C dX11_takesWithout_21 rfl 0 rfl ?_
      refine j_aload_n (pc := 22) C dX11_takesWithout_22 rfl 1 rfl ?_
      refine j_get (pc := 23) (ci := 11) (v := .int (u_4.2.1 0)) C inw_11 0 rfl rfl 26 (by decide) wd_779 rfl rfl dX11_takesWithout_23 ?_
      refine j_iconst (pc := 26) (v := 1) C dX11_takesWithout_26 (by decide) ?_
      obtain ⟨v_7, ev_7⟩ : ∃ z : Int32, (u_4.2.1 0) - 1 = z := ⟨_, rfl⟩
      have el_1 : (1 : Int32).toInt = 1 := rfl
      have hv_7 : v_7.toInt = ((u_4.2.1 0)).toInt - (1 : Int32).toInt := by rw [← ev_7]; exact fb_subI (by omega) (by omega)
      refine j_isub (pc := 27) (v := v_7) C dX11_takesWithout_27 ev_7 ?_
      refine j_icmp_ge (pc := 28) (tgt := 51) C dX11_takesWithout_28 (by decide) (fun c_8 => ?_) (fun c_8 => ?_)
      · skip
        rw [i_le] at c_8
        refine j_aload_n (pc := 51) C dX11_takesWithout_51 rfl 1 rfl ?_
        refine j_dup (pc := 52) C dX11_takesWithout_52 rfl ?_
        refine j_get (pc := 53) (ci := 11) (v := .int (u_4.2.1 0)) C inw_11 0 rfl rfl 26 (by decide) wd_779 rfl rfl dX11_takesWithout_53 ?_
        refine j_iconst (pc := 56) (v := 1) C dX11_takesWithout_56 (by decide) ?_
        obtain ⟨v_9, ev_9⟩ : ∃ z : Int32, (u_4.2.1 0) - 1 = z := ⟨_, rfl⟩
        have el_1 : (1 : Int32).toInt = 1 := rfl
        have hv_9 : v_9.toInt = ((u_4.2.1 0)).toInt - (1 : Int32).toInt := by rw [← ev_9]; exact fb_subI (by omega) (by omega)
        refine j_isub (pc := 57) (v := v_9) C dX11_takesWithout_57 ev_9 ?_
        refine j_put (pc := 58) (ci := 11) (v := .int v_9) (ws' := [(m0, .inr (11, [.int m_thrown, .ref mtape, .int m_taped, .int m_size, .ref msort, .ref mplace, .ref mvalue, .int m_at, .int m_fault, .ref mwords, .ref mtold, .ref mop, .ref marg, .int m_codes, .ref mnames, .ref mhasHabit, .int m_isNew, .ref mfactWords, .ref mfacts, .ref mpile, .ref mstates, .ref misMarked, .int m_inShelf, .int m_inStack, .int m_inPlace, .ref mrow, .int v_9, .ref mthr, .ref mmays, .ref mtall, .ref mweights, .ref mrowOfWare, .ref mneededOf, .int m_goShelf, .int m_goStack, .int m_goLeft, .ref mtried, .ref mbestRow, .int m_bestCost, .int m_bestMany, .int m_bestShelf, .int m_bestSet, .ref mdigits])), (mstates, .inl (cyI, 2760, .inl m_states)), (mrow, .inl (cyI, 12, .inl g6_mrow))]) C inw_11 0 rfl rfl 26 (by decide) wd_779 rfl tyX11_ok nmX11 rfl (tyX11_ok 26 (by decide)) rfl rfl (Nat.le_of_ble_eq_true rfl) dX11_takesWithout_58 rfl ?_
        exact j_vret (pc := 61) C hr hk (fun i => [].getD i 0, fun i => [v_9].getD i 0, fun i => [g6_mrow].getD i (fun _ => 0), fun i => [].getD i (fun _ => 0)) rfl (show (0 ≤ (v_9).toInt ∧ (v_9).toInt ≤ 11) ∧ (Iv 12 (0) (11) g6_mrow) ∧ ((v_9).toInt = (m_states (460 + 105 * (m_inShelf).toInt.toNat + 1 + 13 * (m_inStack).toInt.toNat)).toInt - 1) ∧ (∀ p : Nat, (p : Int) < (m_states (460 + 105 * (m_inShelf).toInt.toNat + 1 + 13 * (m_inStack).toInt.toNat)).toInt - 1 → g6_mrow p = m_states ((460 + 105 * (m_inShelf).toInt.toNat + 1 + 13 * (m_inStack).toInt.toNat) + 1 + (if (p : Int) < (m_inPlace).toInt then p else p + 1))) from ⟨by omega, hi_6_1, by omega, (fun p hp => (hq_6_0 p (by omega)).1 (by omega))⟩) [0, 1, 2] (by decide) rfl (by decide) (by decide) dX11_takesWithout_61
      · skip
        rw [i_le] at c_8
        refine j_aload_n (pc := 31) C dX11_takesWithout_31 rfl 1 rfl ?_
        refine j_get (pc := 32) (ci := 11) (v := .ref mrow) C inw_11 0 rfl rfl 25 (by decide) wd_780 rfl rfl dX11_takesWithout_32 ?_
        refine j_iload_n (pc := 35) C dX11_takesWithout_35 rfl 0 rfl ?_
        refine j_aload_n (pc := 36) C dX11_takesWithout_36 rfl 1 rfl ?_
        refine j_get (pc := 37) (ci := 11) (v := .ref mrow) C inw_11 0 rfl rfl 25 (by decide) wd_780 rfl rfl dX11_takesWithout_37 ?_
        refine j_iload_n (pc := 40) C dX11_takesWithout_40 rfl 0 rfl ?_
        refine j_iconst (pc := 41) (v := 1) C dX11_takesWithout_41 (by decide) ?_
        obtain ⟨v_10, ev_10⟩ : ∃ z : Int32, x6_2 + 1 = z := ⟨_, rfl⟩
        have el_1 : (1 : Int32).toInt = 1 := rfl
        have hv_10 : v_10.toInt = x6_2.toInt + (1 : Int32).toInt := by rw [← ev_10]; exact fb_addI (by omega) (by omega)
        refine j_iadd (pc := 42) (v := v_10) C dX11_takesWithout_42 ev_10 ?_
        obtain ⟨v_11, ev_11⟩ : ∃ z, g6_mrow (v_10).toInt.toNat = z := ⟨_, rfl⟩
        have env_11 : (g6_mrow (v_10).toInt.toNat).toInt = v_11.toInt := by rw [ev_11]
        have hv_11 := hi_6_1 (v_10).toInt.toNat (i_lt_n (by omega) (by omega)); rw [ev_11] at hv_11
        refine j_iald (pc := 43) (v := v_11) (k := (v_10).toInt.toNat) C 2 1 rfl rfl (i_nn (by omega)) rfl (i_lt_n (by omega) (by omega)) ev_11 dX11_takesWithout_43 ?_
        obtain ⟨f_12, ef_12⟩ : ∃ z, z = upd g6_mrow (x6_2).toInt.toNat v_11 := ⟨_, rfl⟩
        have hf_12 : Iv 12 (0) (11) f_12 := by rw [ef_12]; exact Iv.upd hi_6_1 (by omega) (by omega)
        refine j_iast (pc := 44) (k := (x6_2).toInt.toNat) (ws' := [(m0, .inr (11, [.int m_thrown, .ref mtape, .int m_taped, .int m_size, .ref msort, .ref mplace, .ref mvalue, .int m_at, .int m_fault, .ref mwords, .ref mtold, .ref mop, .ref marg, .int m_codes, .ref mnames, .ref mhasHabit, .int m_isNew, .ref mfactWords, .ref mfacts, .ref mpile, .ref mstates, .ref misMarked, .int m_inShelf, .int m_inStack, .int m_inPlace, .ref mrow, .int (u_4.2.1 0), .ref mthr, .ref mmays, .ref mtall, .ref mweights, .ref mrowOfWare, .ref mneededOf, .int m_goShelf, .int m_goStack, .int m_goLeft, .ref mtried, .ref mbestRow, .int m_bestCost, .int m_bestMany, .int m_bestShelf, .int m_bestSet, .ref mdigits])), (mstates, .inl (cyI, 2760, .inl m_states)), (mrow, .inl (cyI, 12, .inl f_12))]) C 2 1 rfl rfl (i_nn hi_6_0.1) rfl (i_lt_n hi_6_0.1 (by omega)) dX11_takesWithout_44 (by rw [ef_12]; rfl) ?_
        obtain ⟨v_13, ev_13⟩ : ∃ z : Int32, x6_2 + 1 = z := ⟨_, rfl⟩
        have el_1 : (1 : Int32).toInt = 1 := rfl
        have hv_13 : v_13.toInt = x6_2.toInt + (1 : Int32).toInt := by rw [← ev_13]; exact fb_addI (by omega) (by omega)
        refine j_iinc (pc := 45) (v := v_13) (lv' := [(2, .int v_13), (0, .ref m0), (1, .int 460)]) C dX11_takesWithout_45 0 rfl ev_13 (by decide) rfl ?_
        refine j_goto (pc := 48) (tgt := 21) C dX11_takesWithout_48 (by decide) ?_
        exact j_lv [0, 1, 2] rfl (ih_6 v_13 f_12 (by omega) hf_12 (by omega) (fun p hp => by rw [ef_12]; by_cases ep : p = (x6_2).toInt.toNat; (subst ep; rw [pk_us]; refine ⟨fun _ => ?_, fun h => absurd h (by omega)⟩; rw [if_neg (by omega), ← ev_11, (hq_6_0 _ (by omega)).2 (by omega)]; congr 1; omega); (rw [pk_un ep]; exact ⟨fun h => (hq_6_0 p hp).1 (by omega), fun h => (hq_6_0 p hp).2 (by omega)⟩)) (by omega))
  exact j_lv [0, 1, 2] rfl (loop_6 4096 m_inPlace (u_4.2.2.1 0) (by omega) hw_5_1 (by omega) (fun p hp => ⟨fun h => by rw [if_pos (by omega), hw_5_3 p (by omega), ea9], fun _ => by rw [hw_5_3 p (by omega), ea9]⟩) (by omega))
set_option maxHeartbeats 4000000 in
set_option maxRecDepth 100000 in
theorem c_X11_liftCost_460 (l : Launch) (D : DG) (cyC cyI cyJ cyZ cyO : ClassId) (m0 : Nat) (mtold : Nat) (mstates : Nat) (mtape : Nat) (msort : Nat) (mplace : Nat) (mvalue : Nat) (mwords : Nat) (mop : Nat) (marg : Nat) (mnames : Nat) (mhasHabit : Nat) (mfactWords : Nat) (mfacts : Nat) (mpile : Nat) (misMarked : Nat) (mrow : Nat) (mthr : Nat) (mmays : Nat) (mtall : Nat) (mweights : Nat) (mrowOfWare : Nat) (mneededOf : Nat) (mtried : Nat) (mbestRow : Nat) (mdigits : Nat) (m_thrown : Int32) (m_taped : Int32) (m_size : Int32) (m_at : Int32) (m_fault : Int32) (m_codes : Int32) (m_isNew : Int32) (m_inShelf : Int32) (m_inStack : Int32) (m_inPlace : Int32) (m_rowMany : Int32) (m_goShelf : Int32) (m_goStack : Int32) (m_goLeft : Int32) (m_bestCost : Int32) (m_bestMany : Int32) (m_bestShelf : Int32) (m_bestSet : Int32) (m_told : Nat → Int32) (m_states : Nat → Int32) (h_m_taped : 0 ≤ (m_taped).toInt ∧ (m_taped).toInt ≤ 1000) (h_m_size : 0 ≤ (m_size).toInt ∧ (m_size).toInt ≤ 1000) (h_m_at : 0 ≤ (m_at).toInt ∧ (m_at).toInt ≤ 1000) (h_m_fault : 0 ≤ (m_fault).toInt ∧ (m_fault).toInt ≤ 16005) (h_m_codes : 0 ≤ (m_codes).toInt ∧ (m_codes).toInt ≤ 1000) (h_m_isNew : 0 ≤ (m_isNew).toInt ∧ (m_isNew).toInt ≤ 1) (h_m_inShelf : 0 ≤ (m_inShelf).toInt ∧ (m_inShelf).toInt ≤ 3) (h_m_inStack : 0 ≤ (m_inStack).toInt ∧ (m_inStack).toInt ≤ 7) (h_m_inPlace : 0 ≤ (m_inPlace).toInt ∧ (m_inPlace).toInt ≤ 11) (h_m_rowMany : 0 ≤ (m_rowMany).toInt ∧ (m_rowMany).toInt ≤ 12) (h_m_goShelf : -1 ≤ (m_goShelf).toInt ∧ (m_goShelf).toInt ≤ 3) (h_m_bestMany : 0 ≤ (m_bestMany).toInt ∧ (m_bestMany).toInt ≤ 7) (h_m_bestShelf : 0 ≤ (m_bestShelf).toInt ∧ (m_bestShelf).toInt ≤ 3) (h_m_told : TV m_told) (h_m_states : SV m_states) : KK l D (TY cyC cyI cyJ cyZ cyO) yX11_liftCost cX11_liftCost 5 (some .int) ({ frames := 2, cells := 0, slots := 0, locals := 44 } : Room) 0 0 [.ref m0, .int 460] [(m0, .inr (11, [.int m_thrown, .ref mtape, .int m_taped, .int m_size, .ref msort, .ref mplace, .ref mvalue, .int m_at, .int m_fault, .ref mwords, .ref mtold, .ref mop, .ref marg, .int m_codes, .ref mnames, .ref mhasHabit, .int m_isNew, .ref mfactWords, .ref mfacts, .ref mpile, .ref mstates, .ref misMarked, .int m_inShelf, .int m_inStack, .int m_inPlace, .ref mrow, .int m_rowMany, .ref mthr, .ref mmays, .ref mtall, .ref mweights, .ref mrowOfWare, .ref mneededOf, .int m_goShelf, .int m_goStack, .int m_goLeft, .ref mtried, .ref mbestRow, .int m_bestCost, .int m_bestMany, .int m_bestShelf, .int m_bestSet, .ref mdigits])), (mtold, .inl (cyI, 240, .inl m_told)), (mstates, .inl (cyI, 2760, .inl m_states))] (fun u => some (.int (u.2.1 0))) (fun u => ((u.2.1 0) = lcF (wtM m_told) (fun p => m_states ((460 + 105 * (m_inShelf).toInt.toNat + 1 + 13 * (m_inStack).toInt.toNat) + 1 + p)) (m_told (99 + 3 * (m_inShelf).toInt.toNat + 1)) (m_inPlace).toInt.toNat (m_states (460 + 105 * (m_inShelf).toInt.toNat + 1 + 13 * (m_inStack).toInt.toNat)).toInt.toNat)) (fun u => [(m0, .inr (11, [.int m_thrown, .ref mtape, .int m_taped, .int m_size, .ref msort, .ref mplace, .ref mvalue, .int m_at, .int m_fault, .ref mwords, .ref mtold, .ref mop, .ref marg, .int m_codes, .ref mnames, .ref mhasHabit, .int m_isNew, .ref mfactWords, .ref mfacts, .ref mpile, .ref mstates, .ref misMarked, .int m_inShelf, .int m_inStack, .int m_inPlace, .ref mrow, .int m_rowMany, .ref mthr, .ref mmays, .ref mtall, .ref mweights, .ref mrowOfWare, .ref mneededOf, .int m_goShelf, .int m_goStack, .int m_goLeft, .ref mtried, .ref mbestRow, .int m_bestCost, .int m_bestMany, .int m_bestShelf, .int m_bestSet, .ref mdigits])), (mtold, .inl (cyI, 240, .inl m_told)), (mstates, .inl (cyI, 2760, .inl m_states))]) := by
  refine KK.of (lv0 := [(0, .ref m0), (1, .int 460)]) (by decide) rfl (Nat.le_of_ble_eq_true rfl) ?_
  intro p e s m args below meth c A C hr hk hin
  refine j_iload_n (pc := 0) C dX11_liftCost_0 rfl 1 rfl ?_
  refine j_aload_n (pc := 1) C dX11_liftCost_1 rfl 0 rfl ?_
  refine j_get (pc := 2) (ci := 11) (v := .int m_inShelf) C inw_11 0 rfl rfl 22 (by decide) wd_776 rfl rfl dX11_liftCost_2 ?_
  refine j_aload_n (pc := 5) C dX11_liftCost_5 rfl 0 rfl ?_
  refine j_get (pc := 6) (ci := 11) (v := .int m_inStack) C inw_11 0 rfl rfl 23 (by decide) wd_777 rfl rfl dX11_liftCost_6 ?_
  refine j_callS (pc := 9) (As := [.int 460, .int m_inShelf, .int m_inStack]) (rest := []) (wr := [(m0, .inr (11, [.int m_thrown, .ref mtape, .int m_taped, .int m_size, .ref msort, .ref mplace, .ref mvalue, .int m_at, .int m_fault, .ref mwords, .ref mtold, .ref mop, .ref marg, .int m_codes, .ref mnames, .ref mhasHabit, .int m_isNew, .ref mfactWords, .ref mfacts, .ref mpile, .ref mstates, .ref misMarked, .int m_inShelf, .int m_inStack, .int m_inPlace, .ref mrow, .int m_rowMany, .ref mthr, .ref mmays, .ref mtall, .ref mweights, .ref mrowOfWare, .ref mneededOf, .int m_goShelf, .int m_goStack, .int m_goLeft, .ref mtried, .ref mbestRow, .int m_bestCost, .int m_bestMany, .int m_bestShelf, .int m_bestSet, .ref mdigits])), (mtold, .inl (cyI, 240, .inl m_told)), (mstates, .inl (cyI, 2760, .inl m_states))]) C (c_X11_stackAt l D cyC cyI cyJ cyZ cyO 460 m_inShelf m_inStack (by decide) h_m_inShelf (by omega)) wd_773 wd_624 wd_774 wd_775 ⟨by decide, by decide, rfl⟩ rfl ⟨rfl, rfl, by decide, by decide⟩ ⟨by decide, by decide⟩ [] [0, 1, 2] rfl rfl ⟨by decide, by decide, by decide⟩ rfl (Nat.le_of_ble_eq_true rfl) dX11_liftCost_9 (fun u_1 hw_2 => ?_)
  refine j_eq (ws2 := [(m0, .inr (11, [.int m_thrown, .ref mtape, .int m_taped, .int m_size, .ref msort, .ref mplace, .ref mvalue, .int m_at, .int m_fault, .ref mwords, .ref mtold, .ref mop, .ref marg, .int m_codes, .ref mnames, .ref mhasHabit, .int m_isNew, .ref mfactWords, .ref mfacts, .ref mpile, .ref mstates, .ref misMarked, .int m_inShelf, .int m_inStack, .int m_inPlace, .ref mrow, .int m_rowMany, .ref mthr, .ref mmays, .ref mtall, .ref mweights, .ref mrowOfWare, .ref mneededOf, .int m_goShelf, .int m_goStack, .int m_goLeft, .ref mtried, .ref mbestRow, .int m_bestCost, .int m_bestMany, .int m_bestShelf, .int m_bestSet, .ref mdigits])), (mtold, .inl (cyI, 240, .inl m_told)), (mstates, .inl (cyI, 2760, .inl m_states))]) (pc2 := 12) (lv2 := [(0, .ref m0), (1, .int 460)]) (st2 := [.int (u_1.2.1 0)]) rfl rfl rfl rfl ?_
  obtain ⟨hw_2_0, hw_2_1⟩ := hw_2
  have el_460 : (460 : Int32).toInt = 460 := rfl
  have ad_3 : AD (u_1.2.1 0).toInt := ⟨1, (m_inShelf).toInt.toNat, (m_inStack).toInt.toNat, by decide, by omega, by omega, by omega⟩
  refine j_istore_n (pc := 12) (lv' := [(2, .int (u_1.2.1 0)), (0, .ref m0), (1, .int 460)]) C dX11_liftCost_12 rfl (by decide) rfl ?_
  refine j_iconst (pc := 13) (v := 0) C dX11_liftCost_13 (by decide) ?_
  refine j_istore_n (pc := 14) (lv' := [(3, .int 0), (2, .int (u_1.2.1 0)), (0, .ref m0), (1, .int 460)]) C dX11_liftCost_14 rfl (by decide) rfl ?_
  refine j_aload_n (pc := 15) C dX11_liftCost_15 rfl 2 rfl ?_
  refine j_get (pc := 16) (ci := 11) (v := .int m_inPlace) C inw_11 0 rfl rfl 24 (by decide) wd_778 rfl rfl dX11_liftCost_16 ?_
  refine j_istore (pc := 19) (lv' := [(4, .int m_inPlace), (3, .int 0), (2, .int (u_1.2.1 0)), (0, .ref m0), (1, .int 460)]) C dX11_liftCost_19 (by decide) rfl ?_
  have loop_4 : ∀ (k_4 : Nat) (x4_4 : Int32) (x4_3 : Int32), (0 ≤ (x4_4).toInt ∧ (x4_4).toInt ≤ 12) → ((m_inPlace).toInt ≤ x4_4.toInt ∧ (x4_4.toInt ≤ (m_states (460 + 105 * (m_inShelf).toInt.toNat + 1 + 13 * (m_inStack).toInt.toNat)).toInt ∨ x4_4.toInt = (m_inPlace).toInt)) → (x4_3 = lcF (wtM m_told) (fun p => m_states ((460 + 105 * (m_inShelf).toInt.toNat + 1 + 13 * (m_inStack).toInt.toNat) + 1 + p)) (m_told (99 + 3 * (m_inShelf).toInt.toNat + 1)) (m_inPlace).toInt.toNat (x4_4.toInt).toNat) → (12 - x4_4.toInt).toNat < k_4 → J p l e ({ frames := 2, cells := 0, slots := 0, locals := 44 } : Room) s m args below meth c D A 5 0 0 (QX below D (TY cyC cyI cyJ cyZ cyO) A (fun u => some (.int (u.2.1 0))) (fun u => ((u.2.1 0) = lcF (wtM m_told) (fun p => m_states ((460 + 105 * (m_inShelf).toInt.toNat + 1 + 13 * (m_inStack).toInt.toNat) + 1 + p)) (m_told (99 + 3 * (m_inShelf).toInt.toNat + 1)) (m_inPlace).toInt.toNat (m_states (460 + 105 * (m_inShelf).toInt.toNat + 1 + 13 * (m_inStack).toInt.toNat)).toInt.toNat)) (fun u => [(m0, .inr (11, [.int m_thrown, .ref mtape, .int m_taped, .int m_size, .ref msort, .ref mplace, .ref mvalue, .int m_at, .int m_fault, .ref mwords, .ref mtold, .ref mop, .ref marg, .int m_codes, .ref mnames, .ref mhasHabit, .int m_isNew, .ref mfactWords, .ref mfacts, .ref mpile, .ref mstates, .ref misMarked, .int m_inShelf, .int m_inStack, .int m_inPlace, .ref mrow, .int m_rowMany, .ref mthr, .ref mmays, .ref mtall, .ref mweights, .ref mrowOfWare, .ref mneededOf, .int m_goShelf, .int m_goStack, .int m_goLeft, .ref mtried, .ref mbestRow, .int m_bestCost, .int m_bestMany, .int m_bestShelf, .int m_bestSet, .ref mdigits])), (mtold, .inl (cyI, 240, .inl m_told)), (mstates, .inl (cyI, 2760, .inl m_states))]) args s 0 0) [(m0, .inr (11, [.int m_thrown, .ref mtape, .int m_taped, .int m_size, .ref msort, .ref mplace, .ref mvalue, .int m_at, .int m_fault, .ref mwords, .ref mtold, .ref mop, .ref marg, .int m_codes, .ref mnames, .ref mhasHabit, .int m_isNew, .ref mfactWords, .ref mfacts, .ref mpile, .ref mstates, .ref misMarked, .int m_inShelf, .int m_inStack, .int m_inPlace, .ref mrow, .int m_rowMany, .ref mthr, .ref mmays, .ref mtall, .ref mweights, .ref mrowOfWare, .ref mneededOf, .int m_goShelf, .int m_goStack, .int m_goLeft, .ref mtried, .ref mbestRow, .int m_bestCost, .int m_bestMany, .int m_bestShelf, .int m_bestSet, .ref mdigits])), (mtold, .inl (cyI, 240, .inl m_told)), (mstates, .inl (cyI, 2760, .inl m_states))] 21 [(4, .int x4_4), (3, .int x4_3), (2, .int (u_1.2.1 0)), (0, .ref m0), (1, .int 460)] [] := by
    intro k_4
    induction k_4 with
    | zero =>
      intro x4_4 x4_3 hi_4_0 hr_4 hq_4_0 hm_4
      exact absurd hm_4 (Nat.not_lt_zero _)
    | succ k_4 ih_4 =>
      intro x4_4 x4_3 hi_4_0 hr_4 hq_4_0 hm_4
      refine j_iload (pc := 21) C dX11_liftCost_21 0 rfl ?_
      refine j_aload_n (pc := 23) C dX11_liftCost_23 rfl 3 rfl ?_
      refine j_get (pc := 24) (ci := 11) (v := .ref mstates) C inw_11 0 rfl rfl 20 (by decide) wd_764 rfl rfl dX11_liftCost_24 ?_
      refine j_iload_n (pc := 27) C dX11_liftCost_27 rfl 2 rfl ?_
      obtain ⟨v_5, ev_5⟩ : ∃ z, m_states ((u_1.2.1 0)).toInt.toNat = z := ⟨_, rfl⟩
      have env_5 : (m_states ((u_1.2.1 0)).toInt.toNat).toInt = v_5.toInt := by rw [ev_5]
      have hv_5 : 0 ≤ v_5.toInt ∧ v_5.toInt ≤ 12 := by rw [← ev_5]; exact SV.siz h_m_states ad_3 (by omega)
      refine j_iald (pc := 28) (v := v_5) (k := ((u_1.2.1 0)).toInt.toNat) C 2 1 rfl rfl (i_nn (by omega)) rfl (i_lt_n (by omega) (by omega)) ev_5 dX11_liftCost_28 ?_
      have ea9 : (m_states (460 + 105 * (m_inShelf).toInt.toNat + 1 + 13 * (m_inStack).toInt.toNat)).toInt = (v_5).toInt := by rw [show (460 + 105 * (m_inShelf).toInt.toNat + 1 + 13 * (m_inStack).toInt.toNat) = ((u_1.2.1 0)).toInt.toNat from (by omega), ev_5]
      refine j_icmp_ge (pc := 29) (tgt := 75) C dX11_liftCost_29 (by decide) (fun c_6 => ?_) (fun c_6 => ?_)
      · skip
        rw [i_le] at c_6
        refine j_iload_n (pc := 75) C dX11_liftCost_75 rfl 1 rfl ?_
        exact j_iret (pc := 76) C hr hk (fun i => [].getD i 0, fun i => [x4_3].getD i 0, fun i => [].getD i (fun _ => 0), fun i => [].getD i (fun _ => 0)) rfl (show (x4_3 = lcF (wtM m_told) (fun p => m_states ((460 + 105 * (m_inShelf).toInt.toNat + 1 + 13 * (m_inStack).toInt.toNat) + 1 + p)) (m_told (99 + 3 * (m_inShelf).toInt.toNat + 1)) (m_inPlace).toInt.toNat (m_states (460 + 105 * (m_inShelf).toInt.toNat + 1 + 13 * (m_inStack).toInt.toNat)).toInt.toNat) from ((by rcases (by omega : (x4_4).toInt = (m_states (460 + 105 * (m_inShelf).toInt.toNat + 1 + 13 * (m_inStack).toInt.toNat)).toInt ∨ (x4_4).toInt = (m_inPlace).toInt ∧ (m_states (460 + 105 * (m_inShelf).toInt.toNat + 1 + 13 * (m_inStack).toInt.toNat)).toInt ≤ (m_inPlace).toInt) with z | z; (rw [show (m_states (460 + 105 * (m_inShelf).toInt.toNat + 1 + 13 * (m_inStack).toInt.toNat)).toInt.toNat = (x4_4).toInt.toNat from (by omega)]; exact hq_4_0); (rw [hq_4_0, show (x4_4).toInt.toNat = (m_inPlace).toInt.toNat from (by omega), lcF_0 _ _ _ (Nat.le_refl _), lcF_0 _ _ _ (by omega)])))) [0, 1, 2] (by decide) rfl (by decide) (by decide) dX11_liftCost_76
      · skip
        rw [i_le] at c_6
        refine j_iload_n (pc := 32) C dX11_liftCost_32 rfl 1 rfl ?_
        refine j_iload (pc := 33) C dX11_liftCost_33 0 rfl ?_
        refine j_aload_n (pc := 35) C dX11_liftCost_35 rfl 3 rfl ?_
        refine j_get (pc := 36) (ci := 11) (v := .int m_inPlace) C inw_11 0 rfl rfl 24 (by decide) wd_778 rfl rfl dX11_liftCost_36 ?_
        refine j_icmp_ne (pc := 39) (tgt := 46) C dX11_liftCost_39 (by decide) (fun c_7 => ?_) (fun c_7 => ?_)
        · skip
          rw [i_eq] at c_7
          refine j_iconst (pc := 46) (v := 2) C dX11_liftCost_46 (by decide) ?_
          refine j_aload_n (pc := 47) C dX11_liftCost_47 rfl 3 rfl ?_
          refine j_aload_n (pc := 48) C dX11_liftCost_48 rfl 3 rfl ?_
          refine j_get (pc := 49) (ci := 11) (v := .ref mstates) C inw_11 0 rfl rfl 20 (by decide) wd_764 rfl rfl dX11_liftCost_49 ?_
          refine j_iload_n (pc := 52) C dX11_liftCost_52 rfl 2 rfl ?_
          refine j_iconst (pc := 53) (v := 1) C dX11_liftCost_53 (by decide) ?_
          obtain ⟨v_8, ev_8⟩ : ∃ z : Int32, (u_1.2.1 0) + 1 = z := ⟨_, rfl⟩
          have el_1 : (1 : Int32).toInt = 1 := rfl
          have hv_8 : v_8.toInt = ((u_1.2.1 0)).toInt + (1 : Int32).toInt := by rw [← ev_8]; exact fb_addI (by omega) (by omega)
          refine j_iadd (pc := 54) (v := v_8) C dX11_liftCost_54 ev_8 ?_
          refine j_iload (pc := 55) C dX11_liftCost_55 0 rfl ?_
          obtain ⟨v_9, ev_9⟩ : ∃ z : Int32, v_8 + x4_4 = z := ⟨_, rfl⟩
          have hv_9 : v_9.toInt = v_8.toInt + x4_4.toInt := by rw [← ev_9]; exact fb_addI (by omega) (by omega)
          refine j_iadd (pc := 57) (v := v_9) C dX11_liftCost_57 ev_9 ?_
          obtain ⟨v_10, ev_10⟩ : ∃ z, m_states (v_9).toInt.toNat = z := ⟨_, rfl⟩
          have env_10 : (m_states (v_9).toInt.toNat).toInt = v_10.toInt := by rw [ev_10]
          have hv_10 : 0 ≤ v_10.toInt ∧ v_10.toInt ≤ 11 := by rw [← ev_10]; exact SV.war h_m_states ad_3 (by omega) (by omega)
          refine j_iald (pc := 58) (v := v_10) (k := (v_9).toInt.toNat) C 2 1 rfl rfl (i_nn (by omega)) rfl (i_lt_n (by omega) (by omega)) ev_10 dX11_liftCost_58 ?_
          refine j_aload_n (pc := 59) C dX11_liftCost_59 rfl 3 rfl ?_
          refine j_get (pc := 60) (ci := 11) (v := .int m_inShelf) C inw_11 0 rfl rfl 22 (by decide) wd_776 rfl rfl dX11_liftCost_60 ?_
          refine j_callV (pc := 63) (As := [.int v_10, .int m_inShelf]) (rest := [.int 2, .int x4_3]) (wr := [(mstates, .inl (cyI, 2760, .inl m_states))]) C (c_X11_costOf l D cyC cyI cyJ cyZ cyO m0 mtold mtape msort mplace mvalue mwords mop marg mnames mhasHabit mfactWords mfacts mpile mstates misMarked mrow mthr mmays mtall mweights mrowOfWare mneededOf mtried mbestRow mdigits v_10 m_inShelf m_thrown m_taped m_size m_at m_fault m_codes m_isNew m_inShelf m_inStack m_inPlace m_rowMany m_goShelf m_goStack m_goLeft m_bestCost m_bestMany m_bestShelf m_bestSet m_told h_m_taped h_m_size h_m_at h_m_fault h_m_codes h_m_isNew h_m_inShelf h_m_inStack h_m_inPlace h_m_rowMany h_m_goShelf h_m_bestMany h_m_bestShelf (by omega) h_m_inShelf h_m_told) wd_785 wd_624 wd_786 wd_787 wd_788 ⟨by decide, by decide, rfl⟩ rfl ⟨rfl, rfl, by decide, by decide⟩ ⟨by decide, by decide⟩ [0, 1] [2] rfl rfl ⟨by decide, by decide, by decide⟩ 0 rfl rfl rfl (Nat.le_of_ble_eq_true rfl) dX11_liftCost_63 (fun u_11 hw_12 => ?_)
          refine j_eq (ws2 := [(mstates, .inl (cyI, 2760, .inl m_states)), (m0, .inr (11, [.int m_thrown, .ref mtape, .int m_taped, .int m_size, .ref msort, .ref mplace, .ref mvalue, .int m_at, .int m_fault, .ref mwords, .ref mtold, .ref mop, .ref marg, .int m_codes, .ref mnames, .ref mhasHabit, .int m_isNew, .ref mfactWords, .ref mfacts, .ref mpile, .ref mstates, .ref misMarked, .int m_inShelf, .int m_inStack, .int m_inPlace, .ref mrow, .int m_rowMany, .ref mthr, .ref mmays, .ref mtall, .ref mweights, .ref mrowOfWare, .ref mneededOf, .int m_goShelf, .int m_goStack, .int m_goLeft, .ref mtried, .ref mbestRow, .int m_bestCost, .int m_bestMany, .int m_bestShelf, .int m_bestSet, .ref mdigits])), (mtold, .inl (cyI, 240, .inl m_told))]) (pc2 := 66) (lv2 := [(4, .int x4_4), (3, .int x4_3), (2, .int (u_1.2.1 0)), (0, .ref m0), (1, .int 460)]) (st2 := [.int (u_11.2.1 0), .int 2, .int x4_3]) rfl rfl rfl rfl ?_
          obtain ⟨hw_12_0, hw_12_1⟩ := hw_12
          obtain ⟨v_13, ev_13⟩ : ∃ z : Int32, 2 * (u_11.2.1 0) = z := ⟨_, rfl⟩
          have el_2 : (2 : Int32).toInt = 2 := rfl
          have hv_13 : v_13.toInt = 2 * ((u_11.2.1 0)).toInt := by rw [← ev_13]; exact mulL (c := 2) rfl (by omega) (by omega)
          refine j_imul (pc := 66) (v := v_13) C dX11_liftCost_66 ev_13 ?_
          obtain ⟨v_14, ev_14⟩ : ∃ z : Int32, x4_3 + v_13 = z := ⟨_, rfl⟩
          refine j_iadd (pc := 67) (v := v_14) C dX11_liftCost_67 ev_14 ?_
          refine j_istore_n (pc := 68) (lv' := [(3, .int v_14), (4, .int x4_4), (2, .int (u_1.2.1 0)), (0, .ref m0), (1, .int 460)]) C dX11_liftCost_68 rfl (by decide) rfl ?_
          obtain ⟨v_15, ev_15⟩ : ∃ z : Int32, x4_4 + 1 = z := ⟨_, rfl⟩
          have el_1 : (1 : Int32).toInt = 1 := rfl
          have hv_15 : v_15.toInt = x4_4.toInt + (1 : Int32).toInt := by rw [← ev_15]; exact fb_addI (by omega) (by omega)
          refine j_iinc (pc := 69) (v := v_15) (lv' := [(4, .int v_15), (3, .int v_14), (2, .int (u_1.2.1 0)), (0, .ref m0), (1, .int 460)]) C dX11_liftCost_69 1 rfl ev_15 (by decide) rfl ?_
          refine j_goto (pc := 72) (tgt := 21) C dX11_liftCost_72 (by decide) ?_
          refine j_subG (ws' := [(m0, .inr (11, [.int m_thrown, .ref mtape, .int m_taped, .int m_size, .ref msort, .ref mplace, .ref mvalue, .int m_at, .int m_fault, .ref mwords, .ref mtold, .ref mop, .ref marg, .int m_codes, .ref mnames, .ref mhasHabit, .int m_isNew, .ref mfactWords, .ref mfacts, .ref mpile, .ref mstates, .ref misMarked, .int m_inShelf, .int m_inStack, .int m_inPlace, .ref mrow, .int m_rowMany, .ref mthr, .ref mmays, .ref mtall, .ref mweights, .ref mrowOfWare, .ref mneededOf, .int m_goShelf, .int m_goStack, .int m_goLeft, .ref mtried, .ref mbestRow, .int m_bestCost, .int m_bestMany, .int m_bestShelf, .int m_bestSet, .ref mdigits])), (mtold, .inl (cyI, 240, .inl m_told)), (mstates, .inl (cyI, 2760, .inl m_states))]) [1, 2, 0] (by decide) rfl ?_
          exact j_lv [0, 1, 2, 3, 4] rfl (ih_4 v_15 v_14 (by omega) (by omega) (by have y0 : (u_11.2.1 0) = wtM m_told (v_10).toInt.toNat + (m_told (99 + 3 * (m_inShelf).toInt.toNat + 1)) := hw_12_1; rw [show (v_15.toInt).toNat = (x4_4).toInt.toNat + 1 from (by omega), lcF_s, if_pos (by omega), ← hq_4_0, if_neg (by omega)]; show v_14 = x4_3 + 2 * (wtM m_told (m_states ((460 + 105 * (m_inShelf).toInt.toNat + 1 + 13 * (m_inStack).toInt.toNat) + 1 + (x4_4).toInt.toNat)).toInt.toNat + (m_told (99 + 3 * (m_inShelf).toInt.toNat + 1))); rw [show (460 + 105 * (m_inShelf).toInt.toNat + 1 + 13 * (m_inStack).toInt.toNat) + 1 + (x4_4).toInt.toNat = (v_9).toInt.toNat from (by omega), ev_10, ← y0, ev_13]; exact ev_14.symm) (by omega))
        · skip
          rw [i_eq] at c_7
          refine j_iconst (pc := 42) (v := 1) C dX11_liftCost_42 (by decide) ?_
          refine j_goto (pc := 43) (tgt := 47) C dX11_liftCost_43 (by decide) ?_
          refine j_aload_n (pc := 47) C dX11_liftCost_47 rfl 3 rfl ?_
          refine j_aload_n (pc := 48) C dX11_liftCost_48 rfl 3 rfl ?_
          refine j_get (pc := 49) (ci := 11) (v := .ref mstates) C inw_11 0 rfl rfl 20 (by decide) wd_764 rfl rfl dX11_liftCost_49 ?_
          refine j_iload_n (pc := 52) C dX11_liftCost_52 rfl 2 rfl ?_
          refine j_iconst (pc := 53) (v := 1) C dX11_liftCost_53 (by decide) ?_
          obtain ⟨v_16, ev_16⟩ : ∃ z : Int32, (u_1.2.1 0) + 1 = z := ⟨_, rfl⟩
          have el_1 : (1 : Int32).toInt = 1 := rfl
          have hv_16 : v_16.toInt = ((u_1.2.1 0)).toInt + (1 : Int32).toInt := by rw [← ev_16]; exact fb_addI (by omega) (by omega)
          refine j_iadd (pc := 54) (v := v_16) C dX11_liftCost_54 ev_16 ?_
          refine j_iload (pc := 55) C dX11_liftCost_55 0 rfl ?_
          obtain ⟨v_17, ev_17⟩ : ∃ z : Int32, v_16 + x4_4 = z := ⟨_, rfl⟩
          have hv_17 : v_17.toInt = v_16.toInt + x4_4.toInt := by rw [← ev_17]; exact fb_addI (by omega) (by omega)
          refine j_iadd (pc := 57) (v := v_17) C dX11_liftCost_57 ev_17 ?_
          obtain ⟨v_18, ev_18⟩ : ∃ z, m_states (v_17).toInt.toNat = z := ⟨_, rfl⟩
          have env_18 : (m_states (v_17).toInt.toNat).toInt = v_18.toInt := by rw [ev_18]
          have hv_18 : 0 ≤ v_18.toInt ∧ v_18.toInt ≤ 11 := by rw [← ev_18]; exact SV.war h_m_states ad_3 (by omega) (by omega)
          refine j_iald (pc := 58) (v := v_18) (k := (v_17).toInt.toNat) C 2 1 rfl rfl (i_nn (by omega)) rfl (i_lt_n (by omega) (by omega)) ev_18 dX11_liftCost_58 ?_
          refine j_aload_n (pc := 59) C dX11_liftCost_59 rfl 3 rfl ?_
          refine j_get (pc := 60) (ci := 11) (v := .int m_inShelf) C inw_11 0 rfl rfl 22 (by decide) wd_776 rfl rfl dX11_liftCost_60 ?_
          refine j_callV (pc := 63) (As := [.int v_18, .int m_inShelf]) (rest := [.int 1, .int x4_3]) (wr := [(mstates, .inl (cyI, 2760, .inl m_states))]) C (c_X11_costOf l D cyC cyI cyJ cyZ cyO m0 mtold mtape msort mplace mvalue mwords mop marg mnames mhasHabit mfactWords mfacts mpile mstates misMarked mrow mthr mmays mtall mweights mrowOfWare mneededOf mtried mbestRow mdigits v_18 m_inShelf m_thrown m_taped m_size m_at m_fault m_codes m_isNew m_inShelf m_inStack m_inPlace m_rowMany m_goShelf m_goStack m_goLeft m_bestCost m_bestMany m_bestShelf m_bestSet m_told h_m_taped h_m_size h_m_at h_m_fault h_m_codes h_m_isNew h_m_inShelf h_m_inStack h_m_inPlace h_m_rowMany h_m_goShelf h_m_bestMany h_m_bestShelf (by omega) h_m_inShelf h_m_told) wd_785 wd_624 wd_786 wd_787 wd_788 ⟨by decide, by decide, rfl⟩ rfl ⟨rfl, rfl, by decide, by decide⟩ ⟨by decide, by decide⟩ [0, 1] [2] rfl rfl ⟨by decide, by decide, by decide⟩ 0 rfl rfl rfl (Nat.le_of_ble_eq_true rfl) dX11_liftCost_63 (fun u_19 hw_20 => ?_)
          refine j_eq (ws2 := [(mstates, .inl (cyI, 2760, .inl m_states)), (m0, .inr (11, [.int m_thrown, .ref mtape, .int m_taped, .int m_size, .ref msort, .ref mplace, .ref mvalue, .int m_at, .int m_fault, .ref mwords, .ref mtold, .ref mop, .ref marg, .int m_codes, .ref mnames, .ref mhasHabit, .int m_isNew, .ref mfactWords, .ref mfacts, .ref mpile, .ref mstates, .ref misMarked, .int m_inShelf, .int m_inStack, .int m_inPlace, .ref mrow, .int m_rowMany, .ref mthr, .ref mmays, .ref mtall, .ref mweights, .ref mrowOfWare, .ref mneededOf, .int m_goShelf, .int m_goStack, .int m_goLeft, .ref mtried, .ref mbestRow, .int m_bestCost, .int m_bestMany, .int m_bestShelf, .int m_bestSet, .ref mdigits])), (mtold, .inl (cyI, 240, .inl m_told))]) (pc2 := 66) (lv2 := [(4, .int x4_4), (3, .int x4_3), (2, .int (u_1.2.1 0)), (0, .ref m0), (1, .int 460)]) (st2 := [.int (u_19.2.1 0), .int 1, .int x4_3]) rfl rfl rfl rfl ?_
          obtain ⟨hw_20_0, hw_20_1⟩ := hw_20
          obtain ⟨v_21, ev_21⟩ : ∃ z : Int32, 1 * (u_19.2.1 0) = z := ⟨_, rfl⟩
          have el_1 : (1 : Int32).toInt = 1 := rfl
          have hv_21 : v_21.toInt = 1 * ((u_19.2.1 0)).toInt := by rw [← ev_21]; exact mulL (c := 1) rfl (by omega) (by omega)
          refine j_imul (pc := 66) (v := v_21) C dX11_liftCost_66 ev_21 ?_
          obtain ⟨v_22, ev_22⟩ : ∃ z : Int32, x4_3 + v_21 = z := ⟨_, rfl⟩
          refine j_iadd (pc := 67) (v := v_22) C dX11_liftCost_67 ev_22 ?_
          refine j_istore_n (pc := 68) (lv' := [(3, .int v_22), (4, .int x4_4), (2, .int (u_1.2.1 0)), (0, .ref m0), (1, .int 460)]) C dX11_liftCost_68 rfl (by decide) rfl ?_
          obtain ⟨v_23, ev_23⟩ : ∃ z : Int32, x4_4 + 1 = z := ⟨_, rfl⟩
          have el_1 : (1 : Int32).toInt = 1 := rfl
          have hv_23 : v_23.toInt = x4_4.toInt + (1 : Int32).toInt := by rw [← ev_23]; exact fb_addI (by omega) (by omega)
          refine j_iinc (pc := 69) (v := v_23) (lv' := [(4, .int v_23), (3, .int v_22), (2, .int (u_1.2.1 0)), (0, .ref m0), (1, .int 460)]) C dX11_liftCost_69 1 rfl ev_23 (by decide) rfl ?_
          refine j_goto (pc := 72) (tgt := 21) C dX11_liftCost_72 (by decide) ?_
          refine j_subG (ws' := [(m0, .inr (11, [.int m_thrown, .ref mtape, .int m_taped, .int m_size, .ref msort, .ref mplace, .ref mvalue, .int m_at, .int m_fault, .ref mwords, .ref mtold, .ref mop, .ref marg, .int m_codes, .ref mnames, .ref mhasHabit, .int m_isNew, .ref mfactWords, .ref mfacts, .ref mpile, .ref mstates, .ref misMarked, .int m_inShelf, .int m_inStack, .int m_inPlace, .ref mrow, .int m_rowMany, .ref mthr, .ref mmays, .ref mtall, .ref mweights, .ref mrowOfWare, .ref mneededOf, .int m_goShelf, .int m_goStack, .int m_goLeft, .ref mtried, .ref mbestRow, .int m_bestCost, .int m_bestMany, .int m_bestShelf, .int m_bestSet, .ref mdigits])), (mtold, .inl (cyI, 240, .inl m_told)), (mstates, .inl (cyI, 2760, .inl m_states))]) [1, 2, 0] (by decide) rfl ?_
          exact j_lv [0, 1, 2, 3, 4] rfl (ih_4 v_23 v_22 (by omega) (by omega) (by have y0 : (u_19.2.1 0) = wtM m_told (v_18).toInt.toNat + (m_told (99 + 3 * (m_inShelf).toInt.toNat + 1)) := hw_20_1; rw [show (v_23.toInt).toNat = (x4_4).toInt.toNat + 1 from (by omega), lcF_s, if_pos (by omega), ← hq_4_0, if_pos (by omega)]; show v_22 = x4_3 + 1 * (wtM m_told (m_states ((460 + 105 * (m_inShelf).toInt.toNat + 1 + 13 * (m_inStack).toInt.toNat) + 1 + (x4_4).toInt.toNat)).toInt.toNat + (m_told (99 + 3 * (m_inShelf).toInt.toNat + 1))); rw [show (460 + 105 * (m_inShelf).toInt.toNat + 1 + 13 * (m_inStack).toInt.toNat) + 1 + (x4_4).toInt.toNat = (v_17).toInt.toNat from (by omega), ev_18, ← y0, ev_21]; exact ev_22.symm) (by omega))
  have el_0 : (0 : Int32).toInt = 0 := rfl
  exact j_lv [0, 1, 2, 3, 4] rfl (loop_4 4096 m_inPlace 0 (by omega) (by omega) (lcF_0 _ _ _ (Nat.le_refl _)).symm (by omega))
set_option maxHeartbeats 4000000 in
set_option maxRecDepth 100000 in
theorem c_X11_footAt (l : Launch) (D : DG) (cyC cyI cyJ cyZ cyO : ClassId) (m0 : Nat) (mtold : Nat) (mrow : Nat) (mtape : Nat) (msort : Nat) (mplace : Nat) (mvalue : Nat) (mwords : Nat) (mop : Nat) (marg : Nat) (mnames : Nat) (mhasHabit : Nat) (mfactWords : Nat) (mfacts : Nat) (mpile : Nat) (mstates : Nat) (misMarked : Nat) (mthr : Nat) (mmays : Nat) (mtall : Nat) (mweights : Nat) (mrowOfWare : Nat) (mneededOf : Nat) (mtried : Nat) (mbestRow : Nat) (mdigits : Nat) (p0 : Int32) (m_thrown : Int32) (m_taped : Int32) (m_size : Int32) (m_at : Int32) (m_fault : Int32) (m_codes : Int32) (m_isNew : Int32) (m_inShelf : Int32) (m_inStack : Int32) (m_inPlace : Int32) (m_rowMany : Int32) (m_goShelf : Int32) (m_goStack : Int32) (m_goLeft : Int32) (m_bestCost : Int32) (m_bestMany : Int32) (m_bestShelf : Int32) (m_bestSet : Int32) (m_told : Nat → Int32) (m_row : Nat → Int32) (h_m_taped : 0 ≤ (m_taped).toInt ∧ (m_taped).toInt ≤ 1000) (h_m_size : 0 ≤ (m_size).toInt ∧ (m_size).toInt ≤ 1000) (h_m_at : 0 ≤ (m_at).toInt ∧ (m_at).toInt ≤ 1000) (h_m_fault : 0 ≤ (m_fault).toInt ∧ (m_fault).toInt ≤ 16005) (h_m_codes : 0 ≤ (m_codes).toInt ∧ (m_codes).toInt ≤ 1000) (h_m_isNew : 0 ≤ (m_isNew).toInt ∧ (m_isNew).toInt ≤ 1) (h_m_inShelf : 0 ≤ (m_inShelf).toInt ∧ (m_inShelf).toInt ≤ 3) (h_m_inStack : 0 ≤ (m_inStack).toInt ∧ (m_inStack).toInt ≤ 7) (h_m_inPlace : 0 ≤ (m_inPlace).toInt ∧ (m_inPlace).toInt ≤ 11) (h_m_rowMany : 0 ≤ (m_rowMany).toInt ∧ (m_rowMany).toInt ≤ 12) (h_m_goShelf : -1 ≤ (m_goShelf).toInt ∧ (m_goShelf).toInt ≤ 3) (h_m_bestMany : 0 ≤ (m_bestMany).toInt ∧ (m_bestMany).toInt ≤ 7) (h_m_bestShelf : 0 ≤ (m_bestShelf).toInt ∧ (m_bestShelf).toInt ≤ 3) (h_p0 : -1 ≤ (p0).toInt ∧ (p0).toInt ≤ 11) (h_m_row : Iv 12 (0) (11) m_row) (h_m_told : TV m_told) : KK l D (TY cyC cyI cyJ cyZ cyO) yX11_footAt cX11_footAt 4 (some .int) ({ frames := 2, cells := 0, slots := 0, locals := 44 } : Room) 0 0 [.ref m0, .int p0] [(m0, .inr (11, [.int m_thrown, .ref mtape, .int m_taped, .int m_size, .ref msort, .ref mplace, .ref mvalue, .int m_at, .int m_fault, .ref mwords, .ref mtold, .ref mop, .ref marg, .int m_codes, .ref mnames, .ref mhasHabit, .int m_isNew, .ref mfactWords, .ref mfacts, .ref mpile, .ref mstates, .ref misMarked, .int m_inShelf, .int m_inStack, .int m_inPlace, .ref mrow, .int m_rowMany, .ref mthr, .ref mmays, .ref mtall, .ref mweights, .ref mrowOfWare, .ref mneededOf, .int m_goShelf, .int m_goStack, .int m_goLeft, .ref mtried, .ref mbestRow, .int m_bestCost, .int m_bestMany, .int m_bestShelf, .int m_bestSet, .ref mdigits])), (mtold, .inl (cyI, 240, .inl m_told)), (mrow, .inl (cyI, 12, .inl m_row))] (fun u => some (.int (u.2.1 0))) (fun u => ((u.2.1 0) = ftF (rsM m_told) m_row (p0).toInt.toNat)) (fun u => [(m0, .inr (11, [.int m_thrown, .ref mtape, .int m_taped, .int m_size, .ref msort, .ref mplace, .ref mvalue, .int m_at, .int m_fault, .ref mwords, .ref mtold, .ref mop, .ref marg, .int m_codes, .ref mnames, .ref mhasHabit, .int m_isNew, .ref mfactWords, .ref mfacts, .ref mpile, .ref mstates, .ref misMarked, .int m_inShelf, .int m_inStack, .int m_inPlace, .ref mrow, .int m_rowMany, .ref mthr, .ref mmays, .ref mtall, .ref mweights, .ref mrowOfWare, .ref mneededOf, .int m_goShelf, .int m_goStack, .int m_goLeft, .ref mtried, .ref mbestRow, .int m_bestCost, .int m_bestMany, .int m_bestShelf, .int m_bestSet, .ref mdigits])), (mtold, .inl (cyI, 240, .inl m_told)), (mrow, .inl (cyI, 12, .inl m_row))]) := by
  refine KK.of (lv0 := [(0, .ref m0), (1, .int p0)]) (by decide) rfl (Nat.le_of_ble_eq_true rfl) ?_
  intro p e s m args below meth c A C hr hk hin
  refine j_iconst (pc := 0) (v := 0) C dX11_footAt_0 (by decide) ?_
  refine j_istore_n (pc := 1) (lv' := [(2, .int 0), (0, .ref m0), (1, .int p0)]) C dX11_footAt_1 rfl (by decide) rfl ?_
  refine j_iconst (pc := 2) (v := 1) C dX11_footAt_2 (by decide) ?_
  refine j_istore_n (pc := 3) (lv' := [(3, .int 1), (2, .int 0), (0, .ref m0), (1, .int p0)]) C dX11_footAt_3 rfl (by decide) rfl ?_
  have loop_1 : ∀ (k_1 : Nat) (x1_3 : Int32) (x1_2 : Int32), (1 ≤ (x1_3).toInt ∧ (x1_3).toInt ≤ 12) → (x1_3.toInt ≤ (p0).toInt + 1 ∨ x1_3.toInt = 1) → (x1_2 = ftF (rsM m_told) m_row (x1_3.toInt - 1).toNat) → (12 - x1_3.toInt).toNat < k_1 → J p l e ({ frames := 2, cells := 0, slots := 0, locals := 44 } : Room) s m args below meth c D A 4 0 0 (QX below D (TY cyC cyI cyJ cyZ cyO) A (fun u => some (.int (u.2.1 0))) (fun u => ((u.2.1 0) = ftF (rsM m_told) m_row (p0).toInt.toNat)) (fun u => [(m0, .inr (11, [.int m_thrown, .ref mtape, .int m_taped, .int m_size, .ref msort, .ref mplace, .ref mvalue, .int m_at, .int m_fault, .ref mwords, .ref mtold, .ref mop, .ref marg, .int m_codes, .ref mnames, .ref mhasHabit, .int m_isNew, .ref mfactWords, .ref mfacts, .ref mpile, .ref mstates, .ref misMarked, .int m_inShelf, .int m_inStack, .int m_inPlace, .ref mrow, .int m_rowMany, .ref mthr, .ref mmays, .ref mtall, .ref mweights, .ref mrowOfWare, .ref mneededOf, .int m_goShelf, .int m_goStack, .int m_goLeft, .ref mtried, .ref mbestRow, .int m_bestCost, .int m_bestMany, .int m_bestShelf, .int m_bestSet, .ref mdigits])), (mtold, .inl (cyI, 240, .inl m_told)), (mrow, .inl (cyI, 12, .inl m_row))]) args s 0 0) [(m0, .inr (11, [.int m_thrown, .ref mtape, .int m_taped, .int m_size, .ref msort, .ref mplace, .ref mvalue, .int m_at, .int m_fault, .ref mwords, .ref mtold, .ref mop, .ref marg, .int m_codes, .ref mnames, .ref mhasHabit, .int m_isNew, .ref mfactWords, .ref mfacts, .ref mpile, .ref mstates, .ref misMarked, .int m_inShelf, .int m_inStack, .int m_inPlace, .ref mrow, .int m_rowMany, .ref mthr, .ref mmays, .ref mtall, .ref mweights, .ref mrowOfWare, .ref mneededOf, .int m_goShelf, .int m_goStack, .int m_goLeft, .ref mtried, .ref mbestRow, .int m_bestCost, .int m_bestMany, .int m_bestShelf, .int m_bestSet, .ref mdigits])), (mtold, .inl (cyI, 240, .inl m_told)), (mrow, .inl (cyI, 12, .inl m_row))] 4 [(3, .int x1_3), (2, .int x1_2), (0, .ref m0), (1, .int p0)] [] := by
    intro k_1
    induction k_1 with
    | zero =>
      intro x1_3 x1_2 hi_1_0 hr_1 hq_1_0 hm_1
      exact absurd hm_1 (Nat.not_lt_zero _)
    | succ k_1 ih_1 =>
      intro x1_3 x1_2 hi_1_0 hr_1 hq_1_0 hm_1
      refine j_iload_n (pc := 4) C dX11_footAt_4 rfl 0 rfl ?_
      refine j_iload_n (pc := 5) C dX11_footAt_5 rfl 3 rfl ?_
      refine j_icmp_gt (pc := 6) (tgt := 36) C dX11_footAt_6 (by decide) (fun c_2 => ?_) (fun c_2 => ?_)
      · skip
        rw [i_lt] at c_2
        refine j_iload_n (pc := 36) C dX11_footAt_36 rfl 1 rfl ?_
        exact j_iret (pc := 37) C hr hk (fun i => [].getD i 0, fun i => [x1_2].getD i 0, fun i => [].getD i (fun _ => 0), fun i => [].getD i (fun _ => 0)) rfl (show (x1_2 = ftF (rsM m_told) m_row (p0).toInt.toNat) from ((by rw [show (p0).toInt.toNat = ((x1_3).toInt - 1).toNat from (by omega)]; exact hq_1_0))) [0, 1, 2] (by decide) rfl (by decide) (by decide) dX11_footAt_37
      · skip
        rw [i_lt] at c_2
        refine j_iload_n (pc := 9) C dX11_footAt_9 rfl 1 rfl ?_
        refine j_aload_n (pc := 10) C dX11_footAt_10 rfl 2 rfl ?_
        refine j_aload_n (pc := 11) C dX11_footAt_11 rfl 2 rfl ?_
        refine j_get (pc := 12) (ci := 11) (v := .ref mrow) C inw_11 0 rfl rfl 25 (by decide) wd_780 rfl rfl dX11_footAt_12 ?_
        refine j_iload_n (pc := 15) C dX11_footAt_15 rfl 0 rfl ?_
        obtain ⟨v_3, ev_3⟩ : ∃ z, m_row (x1_3).toInt.toNat = z := ⟨_, rfl⟩
        have env_3 : (m_row (x1_3).toInt.toNat).toInt = v_3.toInt := by rw [ev_3]
        have hv_3 := h_m_row (x1_3).toInt.toNat (i_lt_n (Int.le_trans (by decide) hi_1_0.1) (by omega)); rw [ev_3] at hv_3
        refine j_iald (pc := 16) (v := v_3) (k := (x1_3).toInt.toNat) C 2 1 rfl rfl (i_nn (Int.le_trans (by decide) hi_1_0.1)) rfl (i_lt_n (Int.le_trans (by decide) hi_1_0.1) (by omega)) ev_3 dX11_footAt_16 ?_
        refine j_aload_n (pc := 17) C dX11_footAt_17 rfl 2 rfl ?_
        refine j_get (pc := 18) (ci := 11) (v := .ref mrow) C inw_11 0 rfl rfl 25 (by decide) wd_780 rfl rfl dX11_footAt_18 ?_
        refine j_iload_n (pc := 21) C dX11_footAt_21 rfl 0 rfl ?_
        refine j_iconst (pc := 22) (v := 1) C dX11_footAt_22 (by decide) ?_
        obtain ⟨v_4, ev_4⟩ : ∃ z : Int32, x1_3 - 1 = z := ⟨_, rfl⟩
        have el_1 : (1 : Int32).toInt = 1 := rfl
        have hv_4 : v_4.toInt = x1_3.toInt - (1 : Int32).toInt := by rw [← ev_4]; exact fb_subI (by omega) (by omega)
        refine j_isub (pc := 23) (v := v_4) C dX11_footAt_23 ev_4 ?_
        obtain ⟨v_5, ev_5⟩ : ∃ z, m_row (v_4).toInt.toNat = z := ⟨_, rfl⟩
        have env_5 : (m_row (v_4).toInt.toNat).toInt = v_5.toInt := by rw [ev_5]
        have hv_5 := h_m_row (v_4).toInt.toNat (i_lt_n (by omega) (by omega)); rw [ev_5] at hv_5
        refine j_iald (pc := 24) (v := v_5) (k := (v_4).toInt.toNat) C 2 1 rfl rfl (i_nn (by omega)) rfl (i_lt_n (by omega) (by omega)) ev_5 dX11_footAt_24 ?_
        refine j_callV (pc := 25) (As := [.int v_3, .int v_5]) (rest := [.int x1_2]) (wr := [(mrow, .inl (cyI, 12, .inl m_row))]) C (c_X11_rises l D cyC cyI cyJ cyZ cyO m0 mtold mtape msort mplace mvalue mwords mop marg mnames mhasHabit mfactWords mfacts mpile mstates misMarked mrow mthr mmays mtall mweights mrowOfWare mneededOf mtried mbestRow mdigits v_3 v_5 m_thrown m_taped m_size m_at m_fault m_codes m_isNew m_inShelf m_inStack m_inPlace m_rowMany m_goShelf m_goStack m_goLeft m_bestCost m_bestMany m_bestShelf m_bestSet m_told h_m_taped h_m_size h_m_at h_m_fault h_m_codes h_m_isNew h_m_inShelf h_m_inStack h_m_inPlace h_m_rowMany h_m_goShelf h_m_bestMany h_m_bestShelf hv_3 hv_5 h_m_told) wd_789 wd_624 wd_790 wd_791 wd_792 ⟨by decide, by decide, rfl⟩ rfl ⟨rfl, rfl, by decide, by decide⟩ ⟨by decide, by decide⟩ [0, 1] [2] rfl rfl ⟨by decide, by decide, by decide⟩ 0 rfl rfl rfl (Nat.le_of_ble_eq_true rfl) dX11_footAt_25 (fun u_6 hw_7 => ?_)
        refine j_eq (ws2 := [(mrow, .inl (cyI, 12, .inl m_row)), (m0, .inr (11, [.int m_thrown, .ref mtape, .int m_taped, .int m_size, .ref msort, .ref mplace, .ref mvalue, .int m_at, .int m_fault, .ref mwords, .ref mtold, .ref mop, .ref marg, .int m_codes, .ref mnames, .ref mhasHabit, .int m_isNew, .ref mfactWords, .ref mfacts, .ref mpile, .ref mstates, .ref misMarked, .int m_inShelf, .int m_inStack, .int m_inPlace, .ref mrow, .int m_rowMany, .ref mthr, .ref mmays, .ref mtall, .ref mweights, .ref mrowOfWare, .ref mneededOf, .int m_goShelf, .int m_goStack, .int m_goLeft, .ref mtried, .ref mbestRow, .int m_bestCost, .int m_bestMany, .int m_bestShelf, .int m_bestSet, .ref mdigits])), (mtold, .inl (cyI, 240, .inl m_told))]) (pc2 := 28) (lv2 := [(3, .int x1_3), (2, .int x1_2), (0, .ref m0), (1, .int p0)]) (st2 := [.int (u_6.2.1 0), .int x1_2]) rfl rfl rfl rfl ?_
        obtain ⟨hw_7_0, hw_7_1⟩ := hw_7
        obtain ⟨v_8, ev_8⟩ : ∃ z : Int32, x1_2 + (u_6.2.1 0) = z := ⟨_, rfl⟩
        refine j_iadd (pc := 28) (v := v_8) C dX11_footAt_28 ev_8 ?_
        refine j_istore_n (pc := 29) (lv' := [(2, .int v_8), (3, .int x1_3), (0, .ref m0), (1, .int p0)]) C dX11_footAt_29 rfl (by decide) rfl ?_
        obtain ⟨v_9, ev_9⟩ : ∃ z : Int32, x1_3 + 1 = z := ⟨_, rfl⟩
        have el_1 : (1 : Int32).toInt = 1 := rfl
        have hv_9 : v_9.toInt = x1_3.toInt + (1 : Int32).toInt := by rw [← ev_9]; exact fb_addI (by omega) (by omega)
        refine j_iinc (pc := 30) (v := v_9) (lv' := [(3, .int v_9), (2, .int v_8), (0, .ref m0), (1, .int p0)]) C dX11_footAt_30 1 rfl ev_9 (by decide) rfl ?_
        refine j_goto (pc := 33) (tgt := 4) C dX11_footAt_33 (by decide) ?_
        refine j_subG (ws' := [(m0, .inr (11, [.int m_thrown, .ref mtape, .int m_taped, .int m_size, .ref msort, .ref mplace, .ref mvalue, .int m_at, .int m_fault, .ref mwords, .ref mtold, .ref mop, .ref marg, .int m_codes, .ref mnames, .ref mhasHabit, .int m_isNew, .ref mfactWords, .ref mfacts, .ref mpile, .ref mstates, .ref misMarked, .int m_inShelf, .int m_inStack, .int m_inPlace, .ref mrow, .int m_rowMany, .ref mthr, .ref mmays, .ref mtall, .ref mweights, .ref mrowOfWare, .ref mneededOf, .int m_goShelf, .int m_goStack, .int m_goLeft, .ref mtried, .ref mbestRow, .int m_bestCost, .int m_bestMany, .int m_bestShelf, .int m_bestSet, .ref mdigits])), (mtold, .inl (cyI, 240, .inl m_told)), (mrow, .inl (cyI, 12, .inl m_row))]) [1, 2, 0] (by decide) rfl ?_
        exact j_lv [0, 1, 2, 3] rfl (ih_1 v_9 v_8 (by omega) (by omega) (by rw [show (v_9.toInt - 1).toNat = ((x1_3).toInt - 1).toNat + 1 from (by omega), ftF_s, ← hq_1_0, show ((x1_3).toInt - 1).toNat + 1 = (x1_3).toInt.toNat from (by omega), show ((x1_3).toInt - 1).toNat = (v_4).toInt.toNat from (by omega), ev_3, ev_5, ← hw_7_1]; exact ev_8.symm) (by omega))
  have el_1 : (1 : Int32).toInt = 1 := rfl
  have el_0 : (0 : Int32).toInt = 0 := rfl
  exact j_lv [0, 1, 2, 3] rfl (loop_1 4096 1 0 (by decide) (by omega) rfl (by omega))
set_option maxHeartbeats 4000000 in
set_option maxRecDepth 100000 in
theorem c_X11_highest (l : Launch) (D : DG) (cyC cyI cyJ cyZ cyO : ClassId) (m0 : Nat) (mtold : Nat) (mrow : Nat) (mtape : Nat) (msort : Nat) (mplace : Nat) (mvalue : Nat) (mwords : Nat) (mop : Nat) (marg : Nat) (mnames : Nat) (mhasHabit : Nat) (mfactWords : Nat) (mfacts : Nat) (mpile : Nat) (mstates : Nat) (misMarked : Nat) (mthr : Nat) (mmays : Nat) (mtall : Nat) (mweights : Nat) (mrowOfWare : Nat) (mneededOf : Nat) (mtried : Nat) (mbestRow : Nat) (mdigits : Nat) (m_thrown : Int32) (m_taped : Int32) (m_size : Int32) (m_at : Int32) (m_fault : Int32) (m_codes : Int32) (m_isNew : Int32) (m_inShelf : Int32) (m_inStack : Int32) (m_inPlace : Int32) (m_rowMany : Int32) (m_goShelf : Int32) (m_goStack : Int32) (m_goLeft : Int32) (m_bestCost : Int32) (m_bestMany : Int32) (m_bestShelf : Int32) (m_bestSet : Int32) (m_told : Nat → Int32) (m_row : Nat → Int32) (h_m_taped : 0 ≤ (m_taped).toInt ∧ (m_taped).toInt ≤ 1000) (h_m_size : 0 ≤ (m_size).toInt ∧ (m_size).toInt ≤ 1000) (h_m_at : 0 ≤ (m_at).toInt ∧ (m_at).toInt ≤ 1000) (h_m_fault : 0 ≤ (m_fault).toInt ∧ (m_fault).toInt ≤ 16005) (h_m_codes : 0 ≤ (m_codes).toInt ∧ (m_codes).toInt ≤ 1000) (h_m_isNew : 0 ≤ (m_isNew).toInt ∧ (m_isNew).toInt ≤ 1) (h_m_inShelf : 0 ≤ (m_inShelf).toInt ∧ (m_inShelf).toInt ≤ 3) (h_m_inStack : 0 ≤ (m_inStack).toInt ∧ (m_inStack).toInt ≤ 7) (h_m_inPlace : 0 ≤ (m_inPlace).toInt ∧ (m_inPlace).toInt ≤ 11) (h_m_rowMany : 0 ≤ (m_rowMany).toInt ∧ (m_rowMany).toInt ≤ 12) (h_m_goShelf : -1 ≤ (m_goShelf).toInt ∧ (m_goShelf).toInt ≤ 3) (h_m_bestMany : 0 ≤ (m_bestMany).toInt ∧ (m_bestMany).toInt ≤ 7) (h_m_bestShelf : 0 ≤ (m_bestShelf).toInt ∧ (m_bestShelf).toInt ≤ 3) (h_m_row : Iv 12 (0) (11) m_row) (h_m_told : TV m_told) : KK l D (TY cyC cyI cyJ cyZ cyO) yX11_highest cX11_highest 4 (some .int) ({ frames := 3, cells := 0, slots := 0, locals := 67 } : Room) 0 0 [.ref m0] [(m0, .inr (11, [.int m_thrown, .ref mtape, .int m_taped, .int m_size, .ref msort, .ref mplace, .ref mvalue, .int m_at, .int m_fault, .ref mwords, .ref mtold, .ref mop, .ref marg, .int m_codes, .ref mnames, .ref mhasHabit, .int m_isNew, .ref mfactWords, .ref mfacts, .ref mpile, .ref mstates, .ref misMarked, .int m_inShelf, .int m_inStack, .int m_inPlace, .ref mrow, .int m_rowMany, .ref mthr, .ref mmays, .ref mtall, .ref mweights, .ref mrowOfWare, .ref mneededOf, .int m_goShelf, .int m_goStack, .int m_goLeft, .ref mtried, .ref mbestRow, .int m_bestCost, .int m_bestMany, .int m_bestShelf, .int m_bestSet, .ref mdigits])), (mtold, .inl (cyI, 240, .inl m_told)), (mrow, .inl (cyI, 12, .inl m_row))] (fun u => some (.int (u.2.1 0))) (fun u => ((u.2.1 0) = hiF (rsM m_told) (dpM m_told) m_row (m_rowMany).toInt.toNat)) (fun u => [(m0, .inr (11, [.int m_thrown, .ref mtape, .int m_taped, .int m_size, .ref msort, .ref mplace, .ref mvalue, .int m_at, .int m_fault, .ref mwords, .ref mtold, .ref mop, .ref marg, .int m_codes, .ref mnames, .ref mhasHabit, .int m_isNew, .ref mfactWords, .ref mfacts, .ref mpile, .ref mstates, .ref misMarked, .int m_inShelf, .int m_inStack, .int m_inPlace, .ref mrow, .int m_rowMany, .ref mthr, .ref mmays, .ref mtall, .ref mweights, .ref mrowOfWare, .ref mneededOf, .int m_goShelf, .int m_goStack, .int m_goLeft, .ref mtried, .ref mbestRow, .int m_bestCost, .int m_bestMany, .int m_bestShelf, .int m_bestSet, .ref mdigits])), (mtold, .inl (cyI, 240, .inl m_told)), (mrow, .inl (cyI, 12, .inl m_row))]) := by
  refine KK.of (lv0 := [(0, .ref m0)]) (by decide) rfl (Nat.le_of_ble_eq_true rfl) ?_
  intro p e s m args below meth c A C hr hk hin
  refine j_iconst (pc := 0) (v := 0) C dX11_highest_0 (by decide) ?_
  refine j_istore_n (pc := 1) (lv' := [(1, .int 0), (0, .ref m0)]) C dX11_highest_1 rfl (by decide) rfl ?_
  refine j_iconst (pc := 2) (v := 0) C dX11_highest_2 (by decide) ?_
  refine j_istore_n (pc := 3) (lv' := [(2, .int 0), (1, .int 0), (0, .ref m0)]) C dX11_highest_3 rfl (by decide) rfl ?_
  have loop_1 : ∀ (k_1 : Nat) (x1_2 : Int32) (x1_1 : Int32), (0 ≤ (x1_2).toInt ∧ (x1_2).toInt ≤ 12) → (x1_2.toInt ≤ (m_rowMany).toInt) → (x1_1 = hiF (rsM m_told) (dpM m_told) m_row (x1_2.toInt).toNat) → (12 - x1_2.toInt).toNat < k_1 → J p l e ({ frames := 3, cells := 0, slots := 0, locals := 67 } : Room) s m args below meth c D A 4 0 0 (QX below D (TY cyC cyI cyJ cyZ cyO) A (fun u => some (.int (u.2.1 0))) (fun u => ((u.2.1 0) = hiF (rsM m_told) (dpM m_told) m_row (m_rowMany).toInt.toNat)) (fun u => [(m0, .inr (11, [.int m_thrown, .ref mtape, .int m_taped, .int m_size, .ref msort, .ref mplace, .ref mvalue, .int m_at, .int m_fault, .ref mwords, .ref mtold, .ref mop, .ref marg, .int m_codes, .ref mnames, .ref mhasHabit, .int m_isNew, .ref mfactWords, .ref mfacts, .ref mpile, .ref mstates, .ref misMarked, .int m_inShelf, .int m_inStack, .int m_inPlace, .ref mrow, .int m_rowMany, .ref mthr, .ref mmays, .ref mtall, .ref mweights, .ref mrowOfWare, .ref mneededOf, .int m_goShelf, .int m_goStack, .int m_goLeft, .ref mtried, .ref mbestRow, .int m_bestCost, .int m_bestMany, .int m_bestShelf, .int m_bestSet, .ref mdigits])), (mtold, .inl (cyI, 240, .inl m_told)), (mrow, .inl (cyI, 12, .inl m_row))]) args s 0 0) [(m0, .inr (11, [.int m_thrown, .ref mtape, .int m_taped, .int m_size, .ref msort, .ref mplace, .ref mvalue, .int m_at, .int m_fault, .ref mwords, .ref mtold, .ref mop, .ref marg, .int m_codes, .ref mnames, .ref mhasHabit, .int m_isNew, .ref mfactWords, .ref mfacts, .ref mpile, .ref mstates, .ref misMarked, .int m_inShelf, .int m_inStack, .int m_inPlace, .ref mrow, .int m_rowMany, .ref mthr, .ref mmays, .ref mtall, .ref mweights, .ref mrowOfWare, .ref mneededOf, .int m_goShelf, .int m_goStack, .int m_goLeft, .ref mtried, .ref mbestRow, .int m_bestCost, .int m_bestMany, .int m_bestShelf, .int m_bestSet, .ref mdigits])), (mtold, .inl (cyI, 240, .inl m_told)), (mrow, .inl (cyI, 12, .inl m_row))] 4 [(2, .int x1_2), (1, .int x1_1), (0, .ref m0)] [] := by
    intro k_1
    induction k_1 with
    | zero =>
      intro x1_2 x1_1 hi_1_0 hr_1 hq_1_0 hm_1
      exact absurd hm_1 (Nat.not_lt_zero _)
    | succ k_1 ih_1 =>
      intro x1_2 x1_1 hi_1_0 hr_1 hq_1_0 hm_1
      refine j_iload_n (pc := 4) C dX11_highest_4 rfl 0 rfl ?_
      refine j_aload_n (pc := 5) C dX11_highest_5 rfl 2 rfl ?_
      refine j_get (pc := 6) (ci := 11) (v := .int m_rowMany) C inw_11 0 rfl rfl 26 (by decide) wd_779 rfl rfl dX11_highest_6 ?_
      refine j_icmp_ge (pc := 9) (tgt := 47) C dX11_highest_9 (by decide) (fun c_2 => ?_) (fun c_2 => ?_)
      · skip
        rw [i_le] at c_2
        refine j_iload_n (pc := 47) C dX11_highest_47 rfl 1 rfl ?_
        exact j_iret (pc := 48) C hr hk (fun i => [].getD i 0, fun i => [x1_1].getD i 0, fun i => [].getD i (fun _ => 0), fun i => [].getD i (fun _ => 0)) rfl (show (x1_1 = hiF (rsM m_told) (dpM m_told) m_row (m_rowMany).toInt.toNat) from ((by rw [show (m_rowMany).toInt.toNat = (x1_2).toInt.toNat from (by omega)]; exact hq_1_0))) [0, 1, 2] (by decide) rfl (by decide) (by decide) dX11_highest_48
      · skip
        rw [i_le] at c_2
        refine j_aload_n (pc := 12) C dX11_highest_12 rfl 2 rfl ?_
        refine j_iload_n (pc := 13) C dX11_highest_13 rfl 0 rfl ?_
        refine j_callV (pc := 14) (As := [.int x1_2]) (rest := []) (wr := []) C (c_X11_footAt l D cyC cyI cyJ cyZ cyO m0 mtold mrow mtape msort mplace mvalue mwords mop marg mnames mhasHabit mfactWords mfacts mpile mstates misMarked mthr mmays mtall mweights mrowOfWare mneededOf mtried mbestRow mdigits x1_2 m_thrown m_taped m_size m_at m_fault m_codes m_isNew m_inShelf m_inStack m_inPlace m_rowMany m_goShelf m_goStack m_goLeft m_bestCost m_bestMany m_bestShelf m_bestSet m_told m_row h_m_taped h_m_size h_m_at h_m_fault h_m_codes h_m_isNew h_m_inShelf h_m_inStack h_m_inPlace h_m_rowMany h_m_goShelf h_m_bestMany h_m_bestShelf (by omega) h_m_row h_m_told) wd_793 wd_624 wd_794 wd_795 wd_796 ⟨by decide, by decide, rfl⟩ rfl ⟨rfl, rfl, by decide, by decide⟩ ⟨by decide, by decide⟩ [0, 1, 2] [] rfl rfl ⟨by decide, by decide, by decide⟩ 0 rfl rfl rfl (Nat.le_of_ble_eq_true rfl) dX11_highest_14 (fun u_3 hw_4 => ?_)
        refine j_eq (ws2 := [(m0, .inr (11, [.int m_thrown, .ref mtape, .int m_taped, .int m_size, .ref msort, .ref mplace, .ref mvalue, .int m_at, .int m_fault, .ref mwords, .ref mtold, .ref mop, .ref marg, .int m_codes, .ref mnames, .ref mhasHabit, .int m_isNew, .ref mfactWords, .ref mfacts, .ref mpile, .ref mstates, .ref misMarked, .int m_inShelf, .int m_inStack, .int m_inPlace, .ref mrow, .int m_rowMany, .ref mthr, .ref mmays, .ref mtall, .ref mweights, .ref mrowOfWare, .ref mneededOf, .int m_goShelf, .int m_goStack, .int m_goLeft, .ref mtried, .ref mbestRow, .int m_bestCost, .int m_bestMany, .int m_bestShelf, .int m_bestSet, .ref mdigits])), (mtold, .inl (cyI, 240, .inl m_told)), (mrow, .inl (cyI, 12, .inl m_row))]) (pc2 := 17) (lv2 := [(2, .int x1_2), (1, .int x1_1), (0, .ref m0)]) (st2 := [.int (u_3.2.1 0)]) rfl rfl rfl rfl ?_
        have hw_4_0 : (u_3.2.1 0) = ftF (rsM m_told) m_row (x1_2).toInt.toNat := hw_4
        refine j_aload_n (pc := 17) C dX11_highest_17 rfl 2 rfl ?_
        refine j_aload_n (pc := 18) C dX11_highest_18 rfl 2 rfl ?_
        refine j_get (pc := 19) (ci := 11) (v := .ref mrow) C inw_11 0 rfl rfl 25 (by decide) wd_780 rfl rfl dX11_highest_19 ?_
        refine j_iload_n (pc := 22) C dX11_highest_22 rfl 0 rfl ?_
        obtain ⟨v_5, ev_5⟩ : ∃ z, m_row (x1_2).toInt.toNat = z := ⟨_, rfl⟩
        have env_5 : (m_row (x1_2).toInt.toNat).toInt = v_5.toInt := by rw [ev_5]
        have hv_5 := h_m_row (x1_2).toInt.toNat (i_lt_n hi_1_0.1 (by omega)); rw [ev_5] at hv_5
        refine j_iald (pc := 23) (v := v_5) (k := (x1_2).toInt.toNat) C 2 1 rfl rfl (i_nn hi_1_0.1) rfl (i_lt_n hi_1_0.1 (by omega)) ev_5 dX11_highest_23 ?_
        refine j_iconst (pc := 24) (v := 1) C dX11_highest_24 (by decide) ?_
        refine j_callV (pc := 25) (As := [.int v_5, .int 1]) (rest := [.int (u_3.2.1 0)]) (wr := [(mrow, .inl (cyI, 12, .inl m_row))]) C (c_X11_wareOf l D cyC cyI cyJ cyZ cyO m0 mtold mtape msort mplace mvalue mwords mop marg mnames mhasHabit mfactWords mfacts mpile mstates misMarked mrow mthr mmays mtall mweights mrowOfWare mneededOf mtried mbestRow mdigits v_5 1 m_thrown m_taped m_size m_at m_fault m_codes m_isNew m_inShelf m_inStack m_inPlace m_rowMany m_goShelf m_goStack m_goLeft m_bestCost m_bestMany m_bestShelf m_bestSet m_told h_m_taped h_m_size h_m_at h_m_fault h_m_codes h_m_isNew h_m_inShelf h_m_inStack h_m_inPlace h_m_rowMany h_m_goShelf h_m_bestMany h_m_bestShelf hv_5 (by decide) h_m_told) wd_756 wd_624 wd_757 wd_758 wd_759 ⟨by decide, by decide, rfl⟩ rfl ⟨rfl, rfl, by decide, by decide⟩ ⟨by decide, by decide⟩ [0, 1] [2] rfl rfl ⟨by decide, by decide, by decide⟩ 0 rfl rfl rfl (Nat.le_of_ble_eq_true rfl) dX11_highest_25 (fun u_6 hw_7 => ?_)
        refine j_eq (ws2 := [(mrow, .inl (cyI, 12, .inl m_row)), (m0, .inr (11, [.int m_thrown, .ref mtape, .int m_taped, .int m_size, .ref msort, .ref mplace, .ref mvalue, .int m_at, .int m_fault, .ref mwords, .ref mtold, .ref mop, .ref marg, .int m_codes, .ref mnames, .ref mhasHabit, .int m_isNew, .ref mfactWords, .ref mfacts, .ref mpile, .ref mstates, .ref misMarked, .int m_inShelf, .int m_inStack, .int m_inPlace, .ref mrow, .int m_rowMany, .ref mthr, .ref mmays, .ref mtall, .ref mweights, .ref mrowOfWare, .ref mneededOf, .int m_goShelf, .int m_goStack, .int m_goLeft, .ref mtried, .ref mbestRow, .int m_bestCost, .int m_bestMany, .int m_bestShelf, .int m_bestSet, .ref mdigits])), (mtold, .inl (cyI, 240, .inl m_told))]) (pc2 := 28) (lv2 := [(2, .int x1_2), (1, .int x1_1), (0, .ref m0)]) (st2 := [.int (u_6.2.1 0), .int (u_3.2.1 0)]) rfl rfl rfl rfl ?_
        obtain ⟨hw_7_0, hw_7_1⟩ := hw_7
        obtain ⟨v_8, ev_8⟩ : ∃ z : Int32, (u_3.2.1 0) + (u_6.2.1 0) = z := ⟨_, rfl⟩
        refine j_iadd (pc := 28) (v := v_8) C dX11_highest_28 ev_8 ?_
        refine j_istore_n (pc := 29) (lv' := [(3, .int v_8), (2, .int x1_2), (1, .int x1_1), (0, .ref m0)]) C dX11_highest_29 rfl (by decide) rfl ?_
        have hr9 : v_8 = ftF (rsM m_told) m_row (x1_2).toInt.toNat + dpM m_told (m_row (x1_2).toInt.toNat).toInt.toNat := by have y0 : (u_6.2.1 0) = dpM m_told (v_5).toInt.toNat := hw_7_1; rw [← ev_8, hw_4_0, y0, ev_5]
        refine j_iload_n (pc := 30) C dX11_highest_30 rfl 0 rfl ?_
        refine j_iload_n (pc := 31) C dX11_highest_31 rfl 2 rfl ?_
        refine j_icmp_le (pc := 32) (tgt := 39) C dX11_highest_32 (by decide) (fun c_9 => ?_) (fun c_9 => ?_)
        · skip
          rw [i_le] at c_9
          refine j_iload_n (pc := 39) C dX11_highest_39 rfl 2 rfl ?_
          refine j_istore_n (pc := 40) (lv' := [(1, .int x1_1), (3, .int v_8), (2, .int x1_2), (0, .ref m0)]) C dX11_highest_40 rfl (by decide) rfl ?_
          obtain ⟨v_10, ev_10⟩ : ∃ z : Int32, x1_2 + 1 = z := ⟨_, rfl⟩
          have el_1 : (1 : Int32).toInt = 1 := rfl
          have hv_10 : v_10.toInt = x1_2.toInt + (1 : Int32).toInt := by rw [← ev_10]; exact fb_addI (by omega) (by omega)
          refine j_iinc (pc := 41) (v := v_10) (lv' := [(2, .int v_10), (1, .int x1_1), (3, .int v_8), (0, .ref m0)]) C dX11_highest_41 2 rfl ev_10 (by decide) rfl ?_
          refine j_goto (pc := 44) (tgt := 4) C dX11_highest_44 (by decide) ?_
          refine j_subG (ws' := [(m0, .inr (11, [.int m_thrown, .ref mtape, .int m_taped, .int m_size, .ref msort, .ref mplace, .ref mvalue, .int m_at, .int m_fault, .ref mwords, .ref mtold, .ref mop, .ref marg, .int m_codes, .ref mnames, .ref mhasHabit, .int m_isNew, .ref mfactWords, .ref mfacts, .ref mpile, .ref mstates, .ref misMarked, .int m_inShelf, .int m_inStack, .int m_inPlace, .ref mrow, .int m_rowMany, .ref mthr, .ref mmays, .ref mtall, .ref mweights, .ref mrowOfWare, .ref mneededOf, .int m_goShelf, .int m_goStack, .int m_goLeft, .ref mtried, .ref mbestRow, .int m_bestCost, .int m_bestMany, .int m_bestShelf, .int m_bestSet, .ref mdigits])), (mtold, .inl (cyI, 240, .inl m_told)), (mrow, .inl (cyI, 12, .inl m_row))]) [1, 2, 0] (by decide) rfl ?_
          exact j_lv [0, 1, 3] rfl (ih_1 v_10 x1_1 (by omega) (by omega) (by rw [show (v_10.toInt).toNat = (x1_2).toInt.toNat + 1 from (by omega), hiF_s, ← hq_1_0, ← hr9]; exact (if_neg (by rw [i_lt]; omega)).symm) (by omega))
        · skip
          rw [i_le] at c_9
          refine j_iload_n (pc := 35) C dX11_highest_35 rfl 0 rfl ?_
          refine j_goto (pc := 36) (tgt := 40) C dX11_highest_36 (by decide) ?_
          refine j_istore_n (pc := 40) (lv' := [(1, .int v_8), (3, .int v_8), (2, .int x1_2), (0, .ref m0)]) C dX11_highest_40 rfl (by decide) rfl ?_
          obtain ⟨v_11, ev_11⟩ : ∃ z : Int32, x1_2 + 1 = z := ⟨_, rfl⟩
          have el_1 : (1 : Int32).toInt = 1 := rfl
          have hv_11 : v_11.toInt = x1_2.toInt + (1 : Int32).toInt := by rw [← ev_11]; exact fb_addI (by omega) (by omega)
          refine j_iinc (pc := 41) (v := v_11) (lv' := [(2, .int v_11), (1, .int v_8), (3, .int v_8), (0, .ref m0)]) C dX11_highest_41 2 rfl ev_11 (by decide) rfl ?_
          refine j_goto (pc := 44) (tgt := 4) C dX11_highest_44 (by decide) ?_
          refine j_subG (ws' := [(m0, .inr (11, [.int m_thrown, .ref mtape, .int m_taped, .int m_size, .ref msort, .ref mplace, .ref mvalue, .int m_at, .int m_fault, .ref mwords, .ref mtold, .ref mop, .ref marg, .int m_codes, .ref mnames, .ref mhasHabit, .int m_isNew, .ref mfactWords, .ref mfacts, .ref mpile, .ref mstates, .ref misMarked, .int m_inShelf, .int m_inStack, .int m_inPlace, .ref mrow, .int m_rowMany, .ref mthr, .ref mmays, .ref mtall, .ref mweights, .ref mrowOfWare, .ref mneededOf, .int m_goShelf, .int m_goStack, .int m_goLeft, .ref mtried, .ref mbestRow, .int m_bestCost, .int m_bestMany, .int m_bestShelf, .int m_bestSet, .ref mdigits])), (mtold, .inl (cyI, 240, .inl m_told)), (mrow, .inl (cyI, 12, .inl m_row))]) [1, 2, 0] (by decide) rfl ?_
          exact j_lv [0, 1, 3] rfl (ih_1 v_11 v_8 (by omega) (by omega) (by rw [show (v_11.toInt).toNat = (x1_2).toInt.toNat + 1 from (by omega), hiF_s, ← hq_1_0, ← hr9]; exact (if_pos (by rw [i_lt]; omega)).symm) (by omega))
  have el_0 : (0 : Int32).toInt = 0 := rfl
  have el_0 : (0 : Int32).toInt = 0 := rfl
  exact j_lv [0, 1, 2] rfl (loop_1 4096 0 0 (by decide) (by omega) rfl (by omega))
