theorem wd_652 : Cond.fieldLink RX11 80 "BowlShelfModel" "words" "[J" ∈ WALL := wl_in (by decide +kernel) (by decide +kernel)
theorem wd_653 : Cond.code yX11_isSign cX11_isSign 2 (some .boolean) ∈ WALL := wl_in (by decide +kernel) (by decide +kernel)
theorem wd_654 : Cond.methodLink RX11 178 yX11_isSign ∈ WALL := wl_in (by decide +kernel) (by decide +kernel)
theorem wd_655 : Cond.instanceMethod yX11_isSign ∈ WALL := wl_in (by decide +kernel) (by decide +kernel)
theorem wd_656 : Cond.selects RX11 yX11_isSign yX11_isSign ∈ WALL := wl_in (by decide +kernel) (by decide +kernel)
theorem wd_657 : Cond.code yX11_wrong cX11_wrong 2 none ∈ WALL := wl_in (by decide +kernel) (by decide +kernel)
theorem wd_658 : Cond.methodLink RX11 181 yX11_wrong ∈ WALL := wl_in (by decide +kernel) (by decide +kernel)
theorem wd_659 : Cond.instanceMethod yX11_wrong ∈ WALL := wl_in (by decide +kernel) (by decide +kernel)
theorem wd_660 : Cond.selects RX11 yX11_wrong yX11_wrong ∈ WALL := wl_in (by decide +kernel) (by decide +kernel)
theorem wd_661 : Cond.code yX11_isWord cX11_isWord 2 (some .boolean) ∈ WALL := wl_in (by decide +kernel) (by decide +kernel)
theorem wd_662 : Cond.methodLink RX11 185 yX11_isWord ∈ WALL := wl_in (by decide +kernel) (by decide +kernel)
theorem wd_663 : Cond.instanceMethod yX11_isWord ∈ WALL := wl_in (by decide +kernel) (by decide +kernel)
theorem wd_664 : Cond.selects RX11 yX11_isWord yX11_isWord ∈ WALL := wl_in (by decide +kernel) (by decide +kernel)
theorem wd_665 : Cond.code yX11_hasWord cX11_hasWord 3 (some .boolean) ∈ WALL := wl_in (by decide +kernel) (by decide +kernel)
theorem wd_666 : Cond.methodLink RX11 188 yX11_hasWord ∈ WALL := wl_in (by decide +kernel) (by decide +kernel)
theorem wd_667 : Cond.instanceMethod yX11_hasWord ∈ WALL := wl_in (by decide +kernel) (by decide +kernel)
theorem wd_668 : Cond.selects RX11 yX11_hasWord yX11_hasWord ∈ WALL := wl_in (by decide +kernel) (by decide +kernel)
theorem dX11_wrong_0 : decode cX11_wrong 0 = .ok (.aload_n 0, 1) := by decide +kernel
theorem dX11_wrong_1 : decode cX11_wrong 1 = .ok (.getfield 175, 3) := by decide +kernel
theorem dX11_wrong_4 : decode cX11_wrong 4 = .ok (.ifCond .ne 21, 3) := by decide +kernel
theorem dX11_wrong_7 : decode cX11_wrong 7 = .ok (.aload_n 0, 1) := by decide +kernel
theorem dX11_wrong_8 : decode cX11_wrong 8 = .ok (.iload_n 1, 1) := by decide +kernel
theorem dX11_wrong_9 : decode cX11_wrong 9 = .ok (.bipush 16, 2) := by decide +kernel
theorem dX11_wrong_11 : decode cX11_wrong 11 = .ok (.aload_n 0, 1) := by decide +kernel
theorem dX11_wrong_12 : decode cX11_wrong 12 = .ok (.getfield 27, 3) := by decide +kernel
theorem dX11_wrong_15 : decode cX11_wrong 15 = .ok (.aload_n 0, 1) := by decide +kernel
theorem dX11_wrong_16 : decode cX11_wrong 16 = .ok (.getfield 172, 3) := by decide +kernel
theorem dX11_wrong_19 : decode cX11_wrong 19 = .ok (.iaload, 1) := by decide +kernel
theorem dX11_wrong_20 : decode cX11_wrong 20 = .ok (.imul, 1) := by decide +kernel
theorem dX11_wrong_21 : decode cX11_wrong 21 = .ok (.iadd, 1) := by decide +kernel
theorem dX11_wrong_22 : decode cX11_wrong 22 = .ok (.putfield 175, 3) := by decide +kernel
theorem dX11_wrong_25 : decode cX11_wrong 25 = .ok (.return_, 1) := by decide +kernel
theorem dX11_isSign_0 : decode cX11_isSign 0 = .ok (.aload_n 0, 1) := by decide +kernel
theorem dX11_isSign_1 : decode cX11_isSign 1 = .ok (.getfield 175, 3) := by decide +kernel
theorem dX11_isSign_4 : decode cX11_isSign 4 = .ok (.ifCond .ne 35, 3) := by decide +kernel
theorem dX11_isSign_7 : decode cX11_isSign 7 = .ok (.aload_n 0, 1) := by decide +kernel
theorem dX11_isSign_8 : decode cX11_isSign 8 = .ok (.getfield 24, 3) := by decide +kernel
theorem dX11_isSign_11 : decode cX11_isSign 11 = .ok (.aload_n 0, 1) := by decide +kernel
theorem dX11_isSign_12 : decode cX11_isSign 12 = .ok (.getfield 172, 3) := by decide +kernel
theorem dX11_isSign_15 : decode cX11_isSign 15 = .ok (.iaload, 1) := by decide +kernel
theorem dX11_isSign_16 : decode cX11_isSign 16 = .ok (.iconst 3, 1) := by decide +kernel
theorem dX11_isSign_17 : decode cX11_isSign 17 = .ok (.if_icmp .ne 22, 3) := by decide +kernel
theorem dX11_isSign_20 : decode cX11_isSign 20 = .ok (.aload_n 0, 1) := by decide +kernel
theorem dX11_isSign_21 : decode cX11_isSign 21 = .ok (.getfield 30, 3) := by decide +kernel
theorem dX11_isSign_24 : decode cX11_isSign 24 = .ok (.aload_n 0, 1) := by decide +kernel
theorem dX11_isSign_25 : decode cX11_isSign 25 = .ok (.getfield 172, 3) := by decide +kernel
theorem dX11_isSign_28 : decode cX11_isSign 28 = .ok (.laload, 1) := by decide +kernel
theorem dX11_isSign_29 : decode cX11_isSign 29 = .ok (.iload_n 1, 1) := by decide +kernel
theorem dX11_isSign_30 : decode cX11_isSign 30 = .ok (.i2l, 1) := by decide +kernel
theorem dX11_isSign_31 : decode cX11_isSign 31 = .ok (.lcmp, 1) := by decide +kernel
theorem dX11_isSign_32 : decode cX11_isSign 32 = .ok (.ifCond .ne 7, 3) := by decide +kernel
theorem dX11_isSign_35 : decode cX11_isSign 35 = .ok (.iconst 1, 1) := by decide +kernel
theorem dX11_isSign_36 : decode cX11_isSign 36 = .ok (.goto 4, 3) := by decide +kernel
theorem dX11_isSign_39 : decode cX11_isSign 39 = .ok (.iconst 0, 1) := by decide +kernel
theorem dX11_isSign_40 : decode cX11_isSign 40 = .ok (.ireturn, 1) := by decide +kernel
theorem dX11_isWord_0 : decode cX11_isWord 0 = .ok (.aload_n 0, 1) := by decide +kernel
theorem dX11_isWord_1 : decode cX11_isWord 1 = .ok (.getfield 175, 3) := by decide +kernel
theorem dX11_isWord_4 : decode cX11_isWord 4 = .ok (.ifCond .ne 39, 3) := by decide +kernel
theorem dX11_isWord_7 : decode cX11_isWord 7 = .ok (.aload_n 0, 1) := by decide +kernel
theorem dX11_isWord_8 : decode cX11_isWord 8 = .ok (.getfield 24, 3) := by decide +kernel
theorem dX11_isWord_11 : decode cX11_isWord 11 = .ok (.aload_n 0, 1) := by decide +kernel
theorem dX11_isWord_12 : decode cX11_isWord 12 = .ok (.getfield 172, 3) := by decide +kernel
theorem dX11_isWord_15 : decode cX11_isWord 15 = .ok (.iaload, 1) := by decide +kernel
theorem dX11_isWord_16 : decode cX11_isWord 16 = .ok (.iconst 1, 1) := by decide +kernel
theorem dX11_isWord_17 : decode cX11_isWord 17 = .ok (.if_icmp .ne 26, 3) := by decide +kernel
theorem dX11_isWord_20 : decode cX11_isWord 20 = .ok (.aload_n 0, 1) := by decide +kernel
theorem dX11_isWord_21 : decode cX11_isWord 21 = .ok (.getfield 30, 3) := by decide +kernel
theorem dX11_isWord_24 : decode cX11_isWord 24 = .ok (.aload_n 0, 1) := by decide +kernel
theorem dX11_isWord_25 : decode cX11_isWord 25 = .ok (.getfield 172, 3) := by decide +kernel
theorem dX11_isWord_28 : decode cX11_isWord 28 = .ok (.laload, 1) := by decide +kernel
theorem dX11_isWord_29 : decode cX11_isWord 29 = .ok (.aload_n 0, 1) := by decide +kernel
theorem dX11_isWord_30 : decode cX11_isWord 30 = .ok (.getfield 80, 3) := by decide +kernel
theorem dX11_isWord_33 : decode cX11_isWord 33 = .ok (.iload_n 1, 1) := by decide +kernel
theorem dX11_isWord_34 : decode cX11_isWord 34 = .ok (.laload, 1) := by decide +kernel
theorem dX11_isWord_35 : decode cX11_isWord 35 = .ok (.lcmp, 1) := by decide +kernel
theorem dX11_isWord_36 : decode cX11_isWord 36 = .ok (.ifCond .ne 7, 3) := by decide +kernel
theorem dX11_isWord_39 : decode cX11_isWord 39 = .ok (.iconst 1, 1) := by decide +kernel
theorem dX11_isWord_40 : decode cX11_isWord 40 = .ok (.goto 4, 3) := by decide +kernel
theorem dX11_isWord_43 : decode cX11_isWord 43 = .ok (.iconst 0, 1) := by decide +kernel
theorem dX11_isWord_44 : decode cX11_isWord 44 = .ok (.ireturn, 1) := by decide +kernel
theorem dX11_takeSign_0 : decode cX11_takeSign 0 = .ok (.aload_n 0, 1) := by decide +kernel
theorem dX11_takeSign_1 : decode cX11_takeSign 1 = .ok (.iload_n 1, 1) := by decide +kernel
theorem dX11_takeSign_2 : decode cX11_takeSign 2 = .ok (.invokevirtual 178, 3) := by decide +kernel
theorem dX11_takeSign_5 : decode cX11_takeSign 5 = .ok (.ifCond .eq 16, 3) := by decide +kernel
theorem dX11_takeSign_8 : decode cX11_takeSign 8 = .ok (.aload_n 0, 1) := by decide +kernel
theorem dX11_takeSign_9 : decode cX11_takeSign 9 = .ok (.dup, 1) := by decide +kernel
theorem dX11_takeSign_10 : decode cX11_takeSign 10 = .ok (.getfield 172, 3) := by decide +kernel
theorem dX11_takeSign_13 : decode cX11_takeSign 13 = .ok (.iconst 1, 1) := by decide +kernel
theorem dX11_takeSign_14 : decode cX11_takeSign 14 = .ok (.iadd, 1) := by decide +kernel
theorem dX11_takeSign_15 : decode cX11_takeSign 15 = .ok (.putfield 172, 3) := by decide +kernel
theorem dX11_takeSign_18 : decode cX11_takeSign 18 = .ok (.goto 8, 3) := by decide +kernel
theorem dX11_takeSign_21 : decode cX11_takeSign 21 = .ok (.aload_n 0, 1) := by decide +kernel
theorem dX11_takeSign_22 : decode cX11_takeSign 22 = .ok (.iconst 1, 1) := by decide +kernel
theorem dX11_takeSign_23 : decode cX11_takeSign 23 = .ok (.invokevirtual 181, 3) := by decide +kernel
theorem dX11_takeSign_26 : decode cX11_takeSign 26 = .ok (.return_, 1) := by decide +kernel
theorem dX11_hasSign_0 : decode cX11_hasSign 0 = .ok (.aload_n 0, 1) := by decide +kernel
theorem dX11_hasSign_1 : decode cX11_hasSign 1 = .ok (.iload_n 1, 1) := by decide +kernel
theorem dX11_hasSign_2 : decode cX11_hasSign 2 = .ok (.invokevirtual 178, 3) := by decide +kernel
theorem dX11_hasSign_5 : decode cX11_hasSign 5 = .ok (.istore_n 2, 1) := by decide +kernel
theorem dX11_hasSign_6 : decode cX11_hasSign 6 = .ok (.aload_n 0, 1) := by decide +kernel
theorem dX11_hasSign_7 : decode cX11_hasSign 7 = .ok (.dup, 1) := by decide +kernel
theorem dX11_hasSign_8 : decode cX11_hasSign 8 = .ok (.getfield 172, 3) := by decide +kernel
theorem dX11_hasSign_11 : decode cX11_hasSign 11 = .ok (.iload_n 2, 1) := by decide +kernel
theorem dX11_hasSign_12 : decode cX11_hasSign 12 = .ok (.ifCond .eq 7, 3) := by decide +kernel
theorem dX11_hasSign_15 : decode cX11_hasSign 15 = .ok (.iconst 1, 1) := by decide +kernel
theorem dX11_hasSign_16 : decode cX11_hasSign 16 = .ok (.goto 4, 3) := by decide +kernel
theorem dX11_hasSign_19 : decode cX11_hasSign 19 = .ok (.iconst 0, 1) := by decide +kernel
theorem dX11_hasSign_20 : decode cX11_hasSign 20 = .ok (.iadd, 1) := by decide +kernel
theorem dX11_hasSign_21 : decode cX11_hasSign 21 = .ok (.putfield 172, 3) := by decide +kernel
theorem dX11_hasSign_24 : decode cX11_hasSign 24 = .ok (.iload_n 2, 1) := by decide +kernel
theorem dX11_hasSign_25 : decode cX11_hasSign 25 = .ok (.ireturn, 1) := by decide +kernel
theorem dX11_hasWord_0 : decode cX11_hasWord 0 = .ok (.aload_n 0, 1) := by decide +kernel
theorem dX11_hasWord_1 : decode cX11_hasWord 1 = .ok (.iload_n 1, 1) := by decide +kernel
theorem dX11_hasWord_2 : decode cX11_hasWord 2 = .ok (.invokevirtual 185, 3) := by decide +kernel
theorem dX11_hasWord_5 : decode cX11_hasWord 5 = .ok (.istore_n 2, 1) := by decide +kernel
theorem dX11_hasWord_6 : decode cX11_hasWord 6 = .ok (.aload_n 0, 1) := by decide +kernel
theorem dX11_hasWord_7 : decode cX11_hasWord 7 = .ok (.dup, 1) := by decide +kernel
theorem dX11_hasWord_8 : decode cX11_hasWord 8 = .ok (.getfield 172, 3) := by decide +kernel
theorem dX11_hasWord_11 : decode cX11_hasWord 11 = .ok (.iload_n 2, 1) := by decide +kernel
theorem dX11_hasWord_12 : decode cX11_hasWord 12 = .ok (.ifCond .eq 7, 3) := by decide +kernel
theorem dX11_hasWord_15 : decode cX11_hasWord 15 = .ok (.iconst 1, 1) := by decide +kernel
theorem dX11_hasWord_16 : decode cX11_hasWord 16 = .ok (.goto 4, 3) := by decide +kernel
theorem dX11_hasWord_19 : decode cX11_hasWord 19 = .ok (.iconst 0, 1) := by decide +kernel
theorem dX11_hasWord_20 : decode cX11_hasWord 20 = .ok (.iadd, 1) := by decide +kernel
theorem dX11_hasWord_21 : decode cX11_hasWord 21 = .ok (.putfield 172, 3) := by decide +kernel
theorem dX11_hasWord_24 : decode cX11_hasWord 24 = .ok (.iload_n 2, 1) := by decide +kernel
theorem dX11_hasWord_25 : decode cX11_hasWord 25 = .ok (.ireturn, 1) := by decide +kernel
theorem dX11_takeWord_0 : decode cX11_takeWord 0 = .ok (.aload_n 0, 1) := by decide +kernel
theorem dX11_takeWord_1 : decode cX11_takeWord 1 = .ok (.iload_n 1, 1) := by decide +kernel
theorem dX11_takeWord_2 : decode cX11_takeWord 2 = .ok (.invokevirtual 188, 3) := by decide +kernel
theorem dX11_takeWord_5 : decode cX11_takeWord 5 = .ok (.ifCond .ne 8, 3) := by decide +kernel
theorem dX11_takeWord_8 : decode cX11_takeWord 8 = .ok (.aload_n 0, 1) := by decide +kernel
theorem dX11_takeWord_9 : decode cX11_takeWord 9 = .ok (.iconst 1, 1) := by decide +kernel
theorem dX11_takeWord_10 : decode cX11_takeWord 10 = .ok (.invokevirtual 181, 3) := by decide +kernel
theorem dX11_takeWord_13 : decode cX11_takeWord 13 = .ok (.return_, 1) := by decide +kernel
set_option maxHeartbeats 4000000 in
set_option maxRecDepth 100000 in
theorem c_X11_wrong (l : Launch) (D : DG) (cyC cyI cyJ cyZ cyO : ClassId) (m0 : Nat) (mplace : Nat) (mtape : Nat) (msort : Nat) (mvalue : Nat) (mwords : Nat) (mtold : Nat) (mop : Nat) (marg : Nat) (mnames : Nat) (mhasHabit : Nat) (mfactWords : Nat) (mfacts : Nat) (mpile : Nat) (mstates : Nat) (misMarked : Nat) (mrow : Nat) (mthr : Nat) (mmays : Nat) (mtall : Nat) (mweights : Nat) (mrowOfWare : Nat) (mneededOf : Nat) (mtried : Nat) (mbestRow : Nat) (mdigits : Nat) (p0 : Int32) (m_thrown : Int32) (m_taped : Int32) (m_size : Int32) (m_at : Int32) (m_fault : Int32) (m_codes : Int32) (m_isNew : Int32) (m_inShelf : Int32) (m_inStack : Int32) (m_inPlace : Int32) (m_rowMany : Int32) (m_goShelf : Int32) (m_goStack : Int32) (m_goLeft : Int32) (m_bestCost : Int32) (m_bestMany : Int32) (m_bestShelf : Int32) (m_bestSet : Int32) (m_place : Nat → Int32) (h_m_taped : 0 ≤ (m_taped).toInt ∧ (m_taped).toInt ≤ 1000) (h_m_size : 0 ≤ (m_size).toInt ∧ (m_size).toInt ≤ 1000) (h_m_at : 0 ≤ (m_at).toInt ∧ (m_at).toInt ≤ 1000) (h_m_fault : 0 ≤ (m_fault).toInt ∧ (m_fault).toInt ≤ 16005) (h_m_codes : 0 ≤ (m_codes).toInt ∧ (m_codes).toInt ≤ 1000) (h_m_isNew : 0 ≤ (m_isNew).toInt ∧ (m_isNew).toInt ≤ 1) (h_m_inShelf : 0 ≤ (m_inShelf).toInt ∧ (m_inShelf).toInt ≤ 3) (h_m_inStack : 0 ≤ (m_inStack).toInt ∧ (m_inStack).toInt ≤ 7) (h_m_inPlace : 0 ≤ (m_inPlace).toInt ∧ (m_inPlace).toInt ≤ 11) (h_m_rowMany : 0 ≤ (m_rowMany).toInt ∧ (m_rowMany).toInt ≤ 12) (h_m_goShelf : -1 ≤ (m_goShelf).toInt ∧ (m_goShelf).toInt ≤ 3) (h_m_bestMany : 0 ≤ (m_bestMany).toInt ∧ (m_bestMany).toInt ≤ 7) (h_m_bestShelf : 0 ≤ (m_bestShelf).toInt ∧ (m_bestShelf).toInt ≤ 3) (h_p0 : 1 ≤ (p0).toInt ∧ (p0).toInt ≤ 5) (h_m_place : Iv 1002 (0) (1000) m_place) : KK l D (TY cyC cyI cyJ cyZ cyO) yX11_wrong cX11_wrong 2 none ({ frames := 0, cells := 0, slots := 0, locals := 0 } : Room) 0 0 [.ref m0, .int p0] [(m0, .inr (11, [.int m_thrown, .ref mtape, .int m_taped, .int m_size, .ref msort, .ref mplace, .ref mvalue, .int m_at, .int m_fault, .ref mwords, .ref mtold, .ref mop, .ref marg, .int m_codes, .ref mnames, .ref mhasHabit, .int m_isNew, .ref mfactWords, .ref mfacts, .ref mpile, .ref mstates, .ref misMarked, .int m_inShelf, .int m_inStack, .int m_inPlace, .ref mrow, .int m_rowMany, .ref mthr, .ref mmays, .ref mtall, .ref mweights, .ref mrowOfWare, .ref mneededOf, .int m_goShelf, .int m_goStack, .int m_goLeft, .ref mtried, .ref mbestRow, .int m_bestCost, .int m_bestMany, .int m_bestShelf, .int m_bestSet, .ref mdigits])), (mplace, .inl (cyI, 1002, .inl m_place))] (fun u => none) (fun u => (1 ≤ (u.2.1 0).toInt ∧ (u.2.1 0).toInt ≤ 16005) ∧ ((m_fault).toInt ≤ ((u.2.1 0)).toInt) ∧ ((m_fault).toInt = 0 → ((u.2.1 0)).toInt = (p0).toInt + 16 * (m_place (m_at).toInt.toNat).toInt) ∧ (¬ (m_fault).toInt = 0 → ((u.2.1 0)).toInt = (m_fault).toInt)) (fun u => [(m0, .inr (11, [.int m_thrown, .ref mtape, .int m_taped, .int m_size, .ref msort, .ref mplace, .ref mvalue, .int m_at, .int (u.2.1 0), .ref mwords, .ref mtold, .ref mop, .ref marg, .int m_codes, .ref mnames, .ref mhasHabit, .int m_isNew, .ref mfactWords, .ref mfacts, .ref mpile, .ref mstates, .ref misMarked, .int m_inShelf, .int m_inStack, .int m_inPlace, .ref mrow, .int m_rowMany, .ref mthr, .ref mmays, .ref mtall, .ref mweights, .ref mrowOfWare, .ref mneededOf, .int m_goShelf, .int m_goStack, .int m_goLeft, .ref mtried, .ref mbestRow, .int m_bestCost, .int m_bestMany, .int m_bestShelf, .int m_bestSet, .ref mdigits])), (mplace, .inl (cyI, 1002, .inl m_place))]) := by
  refine KK.of (lv0 := [(0, .ref m0), (1, .int p0)]) (by decide) rfl (Nat.le_of_ble_eq_true rfl) ?_
  intro p e s m args below meth c A C hr hk hin
  refine j_aload_n (pc := 0) C dX11_wrong_0 rfl 0 rfl ?_
  refine j_get (pc := 1) (ci := 11) (v := .int m_fault) C inw_11 0 rfl rfl 8 (by decide) wd_638 rfl rfl dX11_wrong_1 ?_
  refine j_if_ne (pc := 4) (tgt := 25) C dX11_wrong_4 (by decide) (fun c_1 => ?_) (fun c_1 => ?_)
  · skip
    have el_0 : (0 : Int32).toInt = 0 := rfl
    rw [i_eq] at c_1
    exact j_vret (pc := 25) C hr hk (fun i => [].getD i 0, fun i => [m_fault].getD i 0, fun i => [].getD i (fun _ => 0), fun i => [].getD i (fun _ => 0)) rfl (show (1 ≤ (m_fault).toInt ∧ (m_fault).toInt ≤ 16005) ∧ ((m_fault).toInt ≤ (m_fault).toInt) ∧ ((m_fault).toInt = 0 → (m_fault).toInt = (p0).toInt + 16 * (m_place (m_at).toInt.toNat).toInt) ∧ (¬ (m_fault).toInt = 0 → (m_fault).toInt = (m_fault).toInt) from ⟨by omega, by omega, by omega, by omega⟩) [0, 1] (by decide) rfl (by decide) (by decide) dX11_wrong_25
  · skip
    have el_0 : (0 : Int32).toInt = 0 := rfl
    rw [i_eq] at c_1
    refine j_aload_n (pc := 7) C dX11_wrong_7 rfl 0 rfl ?_
    refine j_iload_n (pc := 8) C dX11_wrong_8 rfl 1 rfl ?_
    refine j_bipush (pc := 9) (v := 16) C dX11_wrong_9 (by decide) ?_
    refine j_aload_n (pc := 11) C dX11_wrong_11 rfl 0 rfl ?_
    refine j_get (pc := 12) (ci := 11) (v := .ref mplace) C inw_11 0 rfl rfl 5 (by decide) wd_636 rfl rfl dX11_wrong_12 ?_
    refine j_aload_n (pc := 15) C dX11_wrong_15 rfl 0 rfl ?_
    refine j_get (pc := 16) (ci := 11) (v := .int m_at) C inw_11 0 rfl rfl 7 (by decide) wd_637 rfl rfl dX11_wrong_16 ?_
    obtain ⟨v_2, ev_2⟩ : ∃ z, m_place (m_at).toInt.toNat = z := ⟨_, rfl⟩
    have env_2 : (m_place (m_at).toInt.toNat).toInt = v_2.toInt := by rw [ev_2]
    have hv_2 := h_m_place (m_at).toInt.toNat (i_lt_n h_m_at.1 (Int.lt_of_le_of_lt h_m_at.2 (by decide))); rw [ev_2] at hv_2
    refine j_iald (pc := 19) (v := v_2) (k := (m_at).toInt.toNat) C 1 1 rfl rfl (i_nn h_m_at.1) rfl (i_lt_n h_m_at.1 (Int.lt_of_le_of_lt h_m_at.2 (by decide))) ev_2 dX11_wrong_19 ?_
    obtain ⟨v_3, ev_3⟩ : ∃ z : Int32, 16 * v_2 = z := ⟨_, rfl⟩
    have el_16 : (16 : Int32).toInt = 16 := rfl
    have hv_3 : v_3.toInt = 16 * v_2.toInt := by rw [← ev_3]; exact mulL (c := 16) rfl (by omega) (by omega)
    refine j_imul (pc := 20) (v := v_3) C dX11_wrong_20 ev_3 ?_
    obtain ⟨v_4, ev_4⟩ : ∃ z : Int32, p0 + v_3 = z := ⟨_, rfl⟩
    have hv_4 : v_4.toInt = p0.toInt + v_3.toInt := by rw [← ev_4]; exact fb_addI (by omega) (by omega)
    refine j_iadd (pc := 21) (v := v_4) C dX11_wrong_21 ev_4 ?_
    refine j_put (pc := 22) (ci := 11) (v := .int v_4) (ws' := [(m0, .inr (11, [.int m_thrown, .ref mtape, .int m_taped, .int m_size, .ref msort, .ref mplace, .ref mvalue, .int m_at, .int v_4, .ref mwords, .ref mtold, .ref mop, .ref marg, .int m_codes, .ref mnames, .ref mhasHabit, .int m_isNew, .ref mfactWords, .ref mfacts, .ref mpile, .ref mstates, .ref misMarked, .int m_inShelf, .int m_inStack, .int m_inPlace, .ref mrow, .int m_rowMany, .ref mthr, .ref mmays, .ref mtall, .ref mweights, .ref mrowOfWare, .ref mneededOf, .int m_goShelf, .int m_goStack, .int m_goLeft, .ref mtried, .ref mbestRow, .int m_bestCost, .int m_bestMany, .int m_bestShelf, .int m_bestSet, .ref mdigits])), (mplace, .inl (cyI, 1002, .inl m_place))]) C inw_11 0 rfl rfl 8 (by decide) wd_638 rfl tyX11_ok nmX11 rfl (tyX11_ok 8 (by decide)) rfl rfl (Nat.le_of_ble_eq_true rfl) dX11_wrong_22 rfl ?_
    exact j_vret (pc := 25) C hr hk (fun i => [].getD i 0, fun i => [v_4].getD i 0, fun i => [].getD i (fun _ => 0), fun i => [].getD i (fun _ => 0)) rfl (show (1 ≤ (v_4).toInt ∧ (v_4).toInt ≤ 16005) ∧ ((m_fault).toInt ≤ (v_4).toInt) ∧ ((m_fault).toInt = 0 → (v_4).toInt = (p0).toInt + 16 * (m_place (m_at).toInt.toNat).toInt) ∧ (¬ (m_fault).toInt = 0 → (v_4).toInt = (m_fault).toInt) from ⟨by omega, by omega, by omega, by omega⟩) [0, 1] (by decide) rfl (by decide) (by decide) dX11_wrong_25
set_option maxHeartbeats 4000000 in
set_option maxRecDepth 100000 in
theorem c_X11_isSign (l : Launch) (D : DG) (cyC cyI cyJ cyZ cyO : ClassId) (m0 : Nat) (msort : Nat) (mvalue : Nat) (mtape : Nat) (mplace : Nat) (mwords : Nat) (mtold : Nat) (mop : Nat) (marg : Nat) (mnames : Nat) (mhasHabit : Nat) (mfactWords : Nat) (mfacts : Nat) (mpile : Nat) (mstates : Nat) (misMarked : Nat) (mrow : Nat) (mthr : Nat) (mmays : Nat) (mtall : Nat) (mweights : Nat) (mrowOfWare : Nat) (mneededOf : Nat) (mtried : Nat) (mbestRow : Nat) (mdigits : Nat) (p0 : Int32) (m_thrown : Int32) (m_taped : Int32) (m_size : Int32) (m_at : Int32) (m_fault : Int32) (m_codes : Int32) (m_isNew : Int32) (m_inShelf : Int32) (m_inStack : Int32) (m_inPlace : Int32) (m_rowMany : Int32) (m_goShelf : Int32) (m_goStack : Int32) (m_goLeft : Int32) (m_bestCost : Int32) (m_bestMany : Int32) (m_bestShelf : Int32) (m_bestSet : Int32) (m_sort : Nat → Int32) (m_value : Nat → Int64) (h_m_taped : 0 ≤ (m_taped).toInt ∧ (m_taped).toInt ≤ 1000) (h_m_size : 0 ≤ (m_size).toInt ∧ (m_size).toInt ≤ 1000) (h_m_at : 0 ≤ (m_at).toInt ∧ (m_at).toInt ≤ 1000) (h_m_fault : 0 ≤ (m_fault).toInt ∧ (m_fault).toInt ≤ 16005) (h_m_codes : 0 ≤ (m_codes).toInt ∧ (m_codes).toInt ≤ 1000) (h_m_isNew : 0 ≤ (m_isNew).toInt ∧ (m_isNew).toInt ≤ 1) (h_m_inShelf : 0 ≤ (m_inShelf).toInt ∧ (m_inShelf).toInt ≤ 3) (h_m_inStack : 0 ≤ (m_inStack).toInt ∧ (m_inStack).toInt ≤ 7) (h_m_inPlace : 0 ≤ (m_inPlace).toInt ∧ (m_inPlace).toInt ≤ 11) (h_m_rowMany : 0 ≤ (m_rowMany).toInt ∧ (m_rowMany).toInt ≤ 12) (h_m_goShelf : -1 ≤ (m_goShelf).toInt ∧ (m_goShelf).toInt ≤ 3) (h_m_bestMany : 0 ≤ (m_bestMany).toInt ∧ (m_bestMany).toInt ≤ 7) (h_m_bestShelf : 0 ≤ (m_bestShelf).toInt ∧ (m_bestShelf).toInt ≤ 3) (hN1 : eN m_sort ≤ 1000) (hN2 : (m_at).toInt ≤ ((eN m_sort : Nat) : Int)) : KK l D (TY cyC cyI cyJ cyZ cyO) yX11_isSign cX11_isSign 2 (some .boolean) ({ frames := 0, cells := 0, slots := 0, locals := 0 } : Room) 0 0 [.ref m0, .int p0] [(m0, .inr (11, [.int m_thrown, .ref mtape, .int m_taped, .int m_size, .ref msort, .ref mplace, .ref mvalue, .int m_at, .int m_fault, .ref mwords, .ref mtold, .ref mop, .ref marg, .int m_codes, .ref mnames, .ref mhasHabit, .int m_isNew, .ref mfactWords, .ref mfacts, .ref mpile, .ref mstates, .ref misMarked, .int m_inShelf, .int m_inStack, .int m_inPlace, .ref mrow, .int m_rowMany, .ref mthr, .ref mmays, .ref mtall, .ref mweights, .ref mrowOfWare, .ref mneededOf, .int m_goShelf, .int m_goStack, .int m_goLeft, .ref mtried, .ref mbestRow, .int m_bestCost, .int m_bestMany, .int m_bestShelf, .int m_bestSet, .ref mdigits])), (msort, .inl (cyI, 1002, .inl m_sort)), (mvalue, .inl (cyJ, 1002, .inr (.inl m_value)))] (fun u => some (.int (u.2.1 0))) (fun u => (0 ≤ (u.2.1 0).toInt ∧ (u.2.1 0).toInt ≤ 1) ∧ ((u.2.1 0).toInt = sgnI m_fault (m_sort (m_at).toInt.toNat) (m_value (m_at).toInt.toNat) p0) ∧ ((u.2.1 0).toInt = 0 ∨ (m_at).toInt < ((eN m_sort : Nat) : Int) ∧ (m_fault).toInt = 0)) (fun u => [(m0, .inr (11, [.int m_thrown, .ref mtape, .int m_taped, .int m_size, .ref msort, .ref mplace, .ref mvalue, .int m_at, .int m_fault, .ref mwords, .ref mtold, .ref mop, .ref marg, .int m_codes, .ref mnames, .ref mhasHabit, .int m_isNew, .ref mfactWords, .ref mfacts, .ref mpile, .ref mstates, .ref misMarked, .int m_inShelf, .int m_inStack, .int m_inPlace, .ref mrow, .int m_rowMany, .ref mthr, .ref mmays, .ref mtall, .ref mweights, .ref mrowOfWare, .ref mneededOf, .int m_goShelf, .int m_goStack, .int m_goLeft, .ref mtried, .ref mbestRow, .int m_bestCost, .int m_bestMany, .int m_bestShelf, .int m_bestSet, .ref mdigits])), (msort, .inl (cyI, 1002, .inl m_sort)), (mvalue, .inl (cyJ, 1002, .inr (.inl m_value)))]) := by
  refine KK.of (lv0 := [(0, .ref m0), (1, .int p0)]) (by decide) rfl (Nat.le_of_ble_eq_true rfl) ?_
  intro p e s m args below meth c A C hr hk hin
  refine j_aload_n (pc := 0) C dX11_isSign_0 rfl 0 rfl ?_
  refine j_get (pc := 1) (ci := 11) (v := .int m_fault) C inw_11 0 rfl rfl 8 (by decide) wd_638 rfl rfl dX11_isSign_1 ?_
  refine j_if_ne (pc := 4) (tgt := 39) C dX11_isSign_4 (by decide) (fun c_1 => ?_) (fun c_1 => ?_)
  · skip
    have el_0 : (0 : Int32).toInt = 0 := rfl
    rw [i_eq] at c_1
    refine j_iconst (pc := 39) (v := 0) C dX11_isSign_39 (by decide) ?_
    have el_0 : (0 : Int32).toInt = 0 := rfl
    have el_0 : (0 : Int32).toInt = 0 := rfl
    have el_0 : (0 : Int32).toInt = 0 := rfl
    exact j_zret (pc := 40) C hr rfl hk (fun i => [].getD i 0, fun i => [0].getD i 0, fun i => [].getD i (fun _ => 0), fun i => [].getD i (fun _ => 0)) rfl (show (0 ≤ ((0 : Int32)).toInt ∧ ((0 : Int32)).toInt ≤ 1) ∧ ((0 : Int32).toInt = sgnI m_fault (m_sort (m_at).toInt.toNat) (m_value (m_at).toInt.toNat) p0) ∧ ((0 : Int32).toInt = 0 ∨ (m_at).toInt < ((eN m_sort : Nat) : Int) ∧ (m_fault).toInt = 0) from ⟨by omega, by (have z : sgnI m_fault (m_sort (m_at).toInt.toNat) (m_value (m_at).toInt.toNat) p0 = 0 := if_neg (fun z => absurd (congrArg Int32.toInt z.1) (by omega))); omega, by omega⟩) [0, 1, 2] (by decide) rfl (by decide) (by decide) dX11_isSign_40
  · skip
    have el_0 : (0 : Int32).toInt = 0 := rfl
    rw [i_eq] at c_1
    refine j_aload_n (pc := 7) C dX11_isSign_7 rfl 0 rfl ?_
    refine j_get (pc := 8) (ci := 11) (v := .ref msort) C inw_11 0 rfl rfl 4 (by decide) wd_635 rfl rfl dX11_isSign_8 ?_
    refine j_aload_n (pc := 11) C dX11_isSign_11 rfl 0 rfl ?_
    refine j_get (pc := 12) (ci := 11) (v := .int m_at) C inw_11 0 rfl rfl 7 (by decide) wd_637 rfl rfl dX11_isSign_12 ?_
    obtain ⟨v_2, ev_2⟩ : ∃ z, m_sort (m_at).toInt.toNat = z := ⟨_, rfl⟩
    have env_2 : (m_sort (m_at).toInt.toNat).toInt = v_2.toInt := by rw [ev_2]
    have hNv_2 := eN_rd (f := m_sort) (x := m_at) ev_2 (by omega) (by omega)
    refine j_iald (pc := 15) (v := v_2) (k := (m_at).toInt.toNat) C 1 1 rfl rfl (i_nn h_m_at.1) rfl (i_lt_n h_m_at.1 (Int.lt_of_le_of_lt h_m_at.2 (by decide))) ev_2 dX11_isSign_15 ?_
    refine j_iconst (pc := 16) (v := 3) C dX11_isSign_16 (by decide) ?_
    refine j_icmp_ne (pc := 17) (tgt := 39) C dX11_isSign_17 (by decide) (fun c_3 => ?_) (fun c_3 => ?_)
    · skip
      have el_3 : (3 : Int32).toInt = 3 := rfl
      rw [i_eq] at c_3
      refine j_iconst (pc := 39) (v := 0) C dX11_isSign_39 (by decide) ?_
      have el_0 : (0 : Int32).toInt = 0 := rfl
      have el_0 : (0 : Int32).toInt = 0 := rfl
      have el_0 : (0 : Int32).toInt = 0 := rfl
      exact j_zret (pc := 40) C hr rfl hk (fun i => [].getD i 0, fun i => [0].getD i 0, fun i => [].getD i (fun _ => 0), fun i => [].getD i (fun _ => 0)) rfl (show (0 ≤ ((0 : Int32)).toInt ∧ ((0 : Int32)).toInt ≤ 1) ∧ ((0 : Int32).toInt = sgnI m_fault (m_sort (m_at).toInt.toNat) (m_value (m_at).toInt.toNat) p0) ∧ ((0 : Int32).toInt = 0 ∨ (m_at).toInt < ((eN m_sort : Nat) : Int) ∧ (m_fault).toInt = 0) from ⟨by omega, by (have z : sgnI m_fault (m_sort (m_at).toInt.toNat) (m_value (m_at).toInt.toNat) p0 = 0 := if_neg (fun z => absurd (congrArg Int32.toInt (ev_2.symm.trans z.2.1)) (by omega))); omega, by omega⟩) [0, 1, 2] (by decide) rfl (by decide) (by decide) dX11_isSign_40
    · skip
      have el_3 : (3 : Int32).toInt = 3 := rfl
      rw [i_eq] at c_3
      refine j_aload_n (pc := 20) C dX11_isSign_20 rfl 0 rfl ?_
      refine j_get (pc := 21) (ci := 11) (v := .ref mvalue) C inw_11 0 rfl rfl 6 (by decide) wd_645 rfl rfl dX11_isSign_21 ?_
      refine j_aload_n (pc := 24) C dX11_isSign_24 rfl 0 rfl ?_
      refine j_get (pc := 25) (ci := 11) (v := .int m_at) C inw_11 0 rfl rfl 7 (by decide) wd_637 rfl rfl dX11_isSign_25 ?_
      obtain ⟨v_4, ev_4⟩ : ∃ z, m_value (m_at).toInt.toNat = z := ⟨_, rfl⟩
      refine j_lald (pc := 28) (v := v_4) (k := (m_at).toInt.toNat) C 2 2 rfl rfl (i_nn h_m_at.1) rfl (i_lt_n h_m_at.1 (Int.lt_of_le_of_lt h_m_at.2 (by decide))) ev_4 dX11_isSign_28 ?_
      refine j_iload_n (pc := 29) C dX11_isSign_29 rfl 1 rfl ?_
      refine j_i2l (pc := 30) C dX11_isSign_30 rfl ?_
      obtain ⟨v_5, ev_5⟩ : ∃ z : Int32, lc v_4 ((p0).toInt64) = z := ⟨_, rfl⟩
      have hv_5 := lc_eq ev_5
      refine j_lcmp (pc := 31) (v := v_5) C dX11_isSign_31 ev_5 ?_
      refine j_if_ne (pc := 32) (tgt := 39) C dX11_isSign_32 (by decide) (fun c_6 => ?_) (fun c_6 => ?_)
      · skip
        have el_0 : (0 : Int32).toInt = 0 := rfl
        rw [i_eq] at c_6
        refine j_iconst (pc := 39) (v := 0) C dX11_isSign_39 (by decide) ?_
        have el_0 : (0 : Int32).toInt = 0 := rfl
        have el_0 : (0 : Int32).toInt = 0 := rfl
        have el_0 : (0 : Int32).toInt = 0 := rfl
        exact j_zret (pc := 40) C hr rfl hk (fun i => [].getD i 0, fun i => [0].getD i 0, fun i => [].getD i (fun _ => 0), fun i => [].getD i (fun _ => 0)) rfl (show (0 ≤ ((0 : Int32)).toInt ∧ ((0 : Int32)).toInt ≤ 1) ∧ ((0 : Int32).toInt = sgnI m_fault (m_sort (m_at).toInt.toNat) (m_value (m_at).toInt.toNat) p0) ∧ ((0 : Int32).toInt = 0 ∨ (m_at).toInt < ((eN m_sort : Nat) : Int) ∧ (m_fault).toInt = 0) from ⟨by omega, by (have z : sgnI m_fault (m_sort (m_at).toInt.toNat) (m_value (m_at).toInt.toNat) p0 = 0 := if_neg (fun z => absurd (hv_5.1.mpr (ev_4.symm.trans z.2.2)) (by rw [i_eq]; omega))); omega, by omega⟩) [0, 1, 2] (by decide) rfl (by decide) (by decide) dX11_isSign_40
      · skip
        have el_0 : (0 : Int32).toInt = 0 := rfl
        rw [i_eq] at c_6
        refine j_iconst (pc := 35) (v := 1) C dX11_isSign_35 (by decide) ?_
        refine j_goto (pc := 36) (tgt := 40) C dX11_isSign_36 (by decide) ?_
        have el_1 : (1 : Int32).toInt = 1 := rfl
        have el_1 : (1 : Int32).toInt = 1 := rfl
        have el_1 : (1 : Int32).toInt = 1 := rfl
        exact j_zret (pc := 40) C hr rfl hk (fun i => [].getD i 0, fun i => [1].getD i 0, fun i => [].getD i (fun _ => 0), fun i => [].getD i (fun _ => 0)) rfl (show (0 ≤ ((1 : Int32)).toInt ∧ ((1 : Int32)).toInt ≤ 1) ∧ ((1 : Int32).toInt = sgnI m_fault (m_sort (m_at).toInt.toNat) (m_value (m_at).toInt.toNat) p0) ∧ ((1 : Int32).toInt = 0 ∨ (m_at).toInt < ((eN m_sort : Nat) : Int) ∧ (m_fault).toInt = 0) from ⟨by omega, by (have z : sgnI m_fault (m_sort (m_at).toInt.toNat) (m_value (m_at).toInt.toNat) p0 = 1 := if_pos ⟨(i_eq _ _).mpr (by omega), ev_2.trans ((i_eq _ _).mpr (by omega)), ev_4.trans (hv_5.1.mp ((i_eq _ _).mpr (by omega)))⟩); omega, by omega⟩) [0, 1, 2] (by decide) rfl (by decide) (by decide) dX11_isSign_40
set_option maxHeartbeats 4000000 in
set_option maxRecDepth 100000 in
theorem c_X11_isWord (l : Launch) (D : DG) (cyC cyI cyJ cyZ cyO : ClassId) (m0 : Nat) (msort : Nat) (mvalue : Nat) (mwords : Nat) (mtape : Nat) (mplace : Nat) (mtold : Nat) (mop : Nat) (marg : Nat) (mnames : Nat) (mhasHabit : Nat) (mfactWords : Nat) (mfacts : Nat) (mpile : Nat) (mstates : Nat) (misMarked : Nat) (mrow : Nat) (mthr : Nat) (mmays : Nat) (mtall : Nat) (mweights : Nat) (mrowOfWare : Nat) (mneededOf : Nat) (mtried : Nat) (mbestRow : Nat) (mdigits : Nat) (p0 : Int32) (m_thrown : Int32) (m_taped : Int32) (m_size : Int32) (m_at : Int32) (m_fault : Int32) (m_codes : Int32) (m_isNew : Int32) (m_inShelf : Int32) (m_inStack : Int32) (m_inPlace : Int32) (m_rowMany : Int32) (m_goShelf : Int32) (m_goStack : Int32) (m_goLeft : Int32) (m_bestCost : Int32) (m_bestMany : Int32) (m_bestShelf : Int32) (m_bestSet : Int32) (m_sort : Nat → Int32) (m_value : Nat → Int64) (m_words : Nat → Int64) (h_m_taped : 0 ≤ (m_taped).toInt ∧ (m_taped).toInt ≤ 1000) (h_m_size : 0 ≤ (m_size).toInt ∧ (m_size).toInt ≤ 1000) (h_m_at : 0 ≤ (m_at).toInt ∧ (m_at).toInt ≤ 1000) (h_m_fault : 0 ≤ (m_fault).toInt ∧ (m_fault).toInt ≤ 16005) (h_m_codes : 0 ≤ (m_codes).toInt ∧ (m_codes).toInt ≤ 1000) (h_m_isNew : 0 ≤ (m_isNew).toInt ∧ (m_isNew).toInt ≤ 1) (h_m_inShelf : 0 ≤ (m_inShelf).toInt ∧ (m_inShelf).toInt ≤ 3) (h_m_inStack : 0 ≤ (m_inStack).toInt ∧ (m_inStack).toInt ≤ 7) (h_m_inPlace : 0 ≤ (m_inPlace).toInt ∧ (m_inPlace).toInt ≤ 11) (h_m_rowMany : 0 ≤ (m_rowMany).toInt ∧ (m_rowMany).toInt ≤ 12) (h_m_goShelf : -1 ≤ (m_goShelf).toInt ∧ (m_goShelf).toInt ≤ 3) (h_m_bestMany : 0 ≤ (m_bestMany).toInt ∧ (m_bestMany).toInt ≤ 7) (h_m_bestShelf : 0 ≤ (m_bestShelf).toInt ∧ (m_bestShelf).toInt ≤ 3) (h_p0 : 0 ≤ (p0).toInt ∧ (p0).toInt ≤ 22) (hN1 : eN m_sort ≤ 1000) (hN2 : (m_at).toInt ≤ ((eN m_sort : Nat) : Int)) : KK l D (TY cyC cyI cyJ cyZ cyO) yX11_isWord cX11_isWord 2 (some .boolean) ({ frames := 0, cells := 0, slots := 0, locals := 0 } : Room) 0 0 [.ref m0, .int p0] [(m0, .inr (11, [.int m_thrown, .ref mtape, .int m_taped, .int m_size, .ref msort, .ref mplace, .ref mvalue, .int m_at, .int m_fault, .ref mwords, .ref mtold, .ref mop, .ref marg, .int m_codes, .ref mnames, .ref mhasHabit, .int m_isNew, .ref mfactWords, .ref mfacts, .ref mpile, .ref mstates, .ref misMarked, .int m_inShelf, .int m_inStack, .int m_inPlace, .ref mrow, .int m_rowMany, .ref mthr, .ref mmays, .ref mtall, .ref mweights, .ref mrowOfWare, .ref mneededOf, .int m_goShelf, .int m_goStack, .int m_goLeft, .ref mtried, .ref mbestRow, .int m_bestCost, .int m_bestMany, .int m_bestShelf, .int m_bestSet, .ref mdigits])), (msort, .inl (cyI, 1002, .inl m_sort)), (mvalue, .inl (cyJ, 1002, .inr (.inl m_value))), (mwords, .inl (cyJ, 23, .inr (.inl m_words)))] (fun u => some (.int (u.2.1 0))) (fun u => (0 ≤ (u.2.1 0).toInt ∧ (u.2.1 0).toInt ≤ 1) ∧ ((u.2.1 0).toInt = wrdI m_fault (m_sort (m_at).toInt.toNat) (m_value (m_at).toInt.toNat) (m_words (p0).toInt.toNat)) ∧ ((u.2.1 0).toInt = 0 ∨ (m_at).toInt < ((eN m_sort : Nat) : Int) ∧ (m_fault).toInt = 0)) (fun u => [(m0, .inr (11, [.int m_thrown, .ref mtape, .int m_taped, .int m_size, .ref msort, .ref mplace, .ref mvalue, .int m_at, .int m_fault, .ref mwords, .ref mtold, .ref mop, .ref marg, .int m_codes, .ref mnames, .ref mhasHabit, .int m_isNew, .ref mfactWords, .ref mfacts, .ref mpile, .ref mstates, .ref misMarked, .int m_inShelf, .int m_inStack, .int m_inPlace, .ref mrow, .int m_rowMany, .ref mthr, .ref mmays, .ref mtall, .ref mweights, .ref mrowOfWare, .ref mneededOf, .int m_goShelf, .int m_goStack, .int m_goLeft, .ref mtried, .ref mbestRow, .int m_bestCost, .int m_bestMany, .int m_bestShelf, .int m_bestSet, .ref mdigits])), (msort, .inl (cyI, 1002, .inl m_sort)), (mvalue, .inl (cyJ, 1002, .inr (.inl m_value))), (mwords, .inl (cyJ, 23, .inr (.inl m_words)))]) := by
  refine KK.of (lv0 := [(0, .ref m0), (1, .int p0)]) (by decide) rfl (Nat.le_of_ble_eq_true rfl) ?_
  intro p e s m args below meth c A C hr hk hin
  refine j_aload_n (pc := 0) C dX11_isWord_0 rfl 0 rfl ?_
  refine j_get (pc := 1) (ci := 11) (v := .int m_fault) C inw_11 0 rfl rfl 8 (by decide) wd_638 rfl rfl dX11_isWord_1 ?_
  refine j_if_ne (pc := 4) (tgt := 43) C dX11_isWord_4 (by decide) (fun c_1 => ?_) (fun c_1 => ?_)
  · skip
    have el_0 : (0 : Int32).toInt = 0 := rfl
    rw [i_eq] at c_1
    refine j_iconst (pc := 43) (v := 0) C dX11_isWord_43 (by decide) ?_
    have el_0 : (0 : Int32).toInt = 0 := rfl
    have el_0 : (0 : Int32).toInt = 0 := rfl
    have el_0 : (0 : Int32).toInt = 0 := rfl
    exact j_zret (pc := 44) C hr rfl hk (fun i => [].getD i 0, fun i => [0].getD i 0, fun i => [].getD i (fun _ => 0), fun i => [].getD i (fun _ => 0)) rfl (show (0 ≤ ((0 : Int32)).toInt ∧ ((0 : Int32)).toInt ≤ 1) ∧ ((0 : Int32).toInt = wrdI m_fault (m_sort (m_at).toInt.toNat) (m_value (m_at).toInt.toNat) (m_words (p0).toInt.toNat)) ∧ ((0 : Int32).toInt = 0 ∨ (m_at).toInt < ((eN m_sort : Nat) : Int) ∧ (m_fault).toInt = 0) from ⟨by omega, by (have z : wrdI m_fault (m_sort (m_at).toInt.toNat) (m_value (m_at).toInt.toNat) (m_words (p0).toInt.toNat) = 0 := if_neg (fun z => absurd (congrArg Int32.toInt z.1) (by omega))); omega, by omega⟩) [0, 1, 2, 3] (by decide) rfl (by decide) (by decide) dX11_isWord_44
  · skip
    have el_0 : (0 : Int32).toInt = 0 := rfl
    rw [i_eq] at c_1
    refine j_aload_n (pc := 7) C dX11_isWord_7 rfl 0 rfl ?_
    refine j_get (pc := 8) (ci := 11) (v := .ref msort) C inw_11 0 rfl rfl 4 (by decide) wd_635 rfl rfl dX11_isWord_8 ?_
    refine j_aload_n (pc := 11) C dX11_isWord_11 rfl 0 rfl ?_
    refine j_get (pc := 12) (ci := 11) (v := .int m_at) C inw_11 0 rfl rfl 7 (by decide) wd_637 rfl rfl dX11_isWord_12 ?_
    obtain ⟨v_2, ev_2⟩ : ∃ z, m_sort (m_at).toInt.toNat = z := ⟨_, rfl⟩
    have env_2 : (m_sort (m_at).toInt.toNat).toInt = v_2.toInt := by rw [ev_2]
    have hNv_2 := eN_rd (f := m_sort) (x := m_at) ev_2 (by omega) (by omega)
    refine j_iald (pc := 15) (v := v_2) (k := (m_at).toInt.toNat) C 1 1 rfl rfl (i_nn h_m_at.1) rfl (i_lt_n h_m_at.1 (Int.lt_of_le_of_lt h_m_at.2 (by decide))) ev_2 dX11_isWord_15 ?_
    refine j_iconst (pc := 16) (v := 1) C dX11_isWord_16 (by decide) ?_
    refine j_icmp_ne (pc := 17) (tgt := 43) C dX11_isWord_17 (by decide) (fun c_3 => ?_) (fun c_3 => ?_)
    · skip
      have el_1 : (1 : Int32).toInt = 1 := rfl
      rw [i_eq] at c_3
      refine j_iconst (pc := 43) (v := 0) C dX11_isWord_43 (by decide) ?_
      have el_0 : (0 : Int32).toInt = 0 := rfl
      have el_0 : (0 : Int32).toInt = 0 := rfl
      have el_0 : (0 : Int32).toInt = 0 := rfl
      exact j_zret (pc := 44) C hr rfl hk (fun i => [].getD i 0, fun i => [0].getD i 0, fun i => [].getD i (fun _ => 0), fun i => [].getD i (fun _ => 0)) rfl (show (0 ≤ ((0 : Int32)).toInt ∧ ((0 : Int32)).toInt ≤ 1) ∧ ((0 : Int32).toInt = wrdI m_fault (m_sort (m_at).toInt.toNat) (m_value (m_at).toInt.toNat) (m_words (p0).toInt.toNat)) ∧ ((0 : Int32).toInt = 0 ∨ (m_at).toInt < ((eN m_sort : Nat) : Int) ∧ (m_fault).toInt = 0) from ⟨by omega, by (have z : wrdI m_fault (m_sort (m_at).toInt.toNat) (m_value (m_at).toInt.toNat) (m_words (p0).toInt.toNat) = 0 := if_neg (fun z => absurd (congrArg Int32.toInt (ev_2.symm.trans z.2.1)) (by omega))); omega, by omega⟩) [0, 1, 2, 3] (by decide) rfl (by decide) (by decide) dX11_isWord_44
    · skip
      have el_1 : (1 : Int32).toInt = 1 := rfl
      rw [i_eq] at c_3
      refine j_aload_n (pc := 20) C dX11_isWord_20 rfl 0 rfl ?_
      refine j_get (pc := 21) (ci := 11) (v := .ref mvalue) C inw_11 0 rfl rfl 6 (by decide) wd_645 rfl rfl dX11_isWord_21 ?_
      refine j_aload_n (pc := 24) C dX11_isWord_24 rfl 0 rfl ?_
      refine j_get (pc := 25) (ci := 11) (v := .int m_at) C inw_11 0 rfl rfl 7 (by decide) wd_637 rfl rfl dX11_isWord_25 ?_
      obtain ⟨v_4, ev_4⟩ : ∃ z, m_value (m_at).toInt.toNat = z := ⟨_, rfl⟩
      refine j_lald (pc := 28) (v := v_4) (k := (m_at).toInt.toNat) C 2 2 rfl rfl (i_nn h_m_at.1) rfl (i_lt_n h_m_at.1 (Int.lt_of_le_of_lt h_m_at.2 (by decide))) ev_4 dX11_isWord_28 ?_
      refine j_aload_n (pc := 29) C dX11_isWord_29 rfl 0 rfl ?_
      refine j_get (pc := 30) (ci := 11) (v := .ref mwords) C inw_11 0 rfl rfl 9 (by decide) wd_652 rfl rfl dX11_isWord_30 ?_
      refine j_iload_n (pc := 33) C dX11_isWord_33 rfl 1 rfl ?_
      obtain ⟨v_5, ev_5⟩ : ∃ z, m_words (p0).toInt.toNat = z := ⟨_, rfl⟩
      refine j_lald (pc := 34) (v := v_5) (k := (p0).toInt.toNat) C 3 2 rfl rfl (i_nn h_p0.1) rfl (i_lt_n h_p0.1 (Int.lt_of_le_of_lt h_p0.2 (by decide))) ev_5 dX11_isWord_34 ?_
      obtain ⟨v_6, ev_6⟩ : ∃ z : Int32, lc v_4 v_5 = z := ⟨_, rfl⟩
      have hv_6 := lc_eq ev_6
      refine j_lcmp (pc := 35) (v := v_6) C dX11_isWord_35 ev_6 ?_
      refine j_if_ne (pc := 36) (tgt := 43) C dX11_isWord_36 (by decide) (fun c_7 => ?_) (fun c_7 => ?_)
      · skip
        have el_0 : (0 : Int32).toInt = 0 := rfl
        rw [i_eq] at c_7
        refine j_iconst (pc := 43) (v := 0) C dX11_isWord_43 (by decide) ?_
        have el_0 : (0 : Int32).toInt = 0 := rfl
        have el_0 : (0 : Int32).toInt = 0 := rfl
        have el_0 : (0 : Int32).toInt = 0 := rfl
        exact j_zret (pc := 44) C hr rfl hk (fun i => [].getD i 0, fun i => [0].getD i 0, fun i => [].getD i (fun _ => 0), fun i => [].getD i (fun _ => 0)) rfl (show (0 ≤ ((0 : Int32)).toInt ∧ ((0 : Int32)).toInt ≤ 1) ∧ ((0 : Int32).toInt = wrdI m_fault (m_sort (m_at).toInt.toNat) (m_value (m_at).toInt.toNat) (m_words (p0).toInt.toNat)) ∧ ((0 : Int32).toInt = 0 ∨ (m_at).toInt < ((eN m_sort : Nat) : Int) ∧ (m_fault).toInt = 0) from ⟨by omega, by (have z : wrdI m_fault (m_sort (m_at).toInt.toNat) (m_value (m_at).toInt.toNat) (m_words (p0).toInt.toNat) = 0 := if_neg (fun z => absurd (hv_6.1.mpr (ev_4.symm.trans (z.2.2.trans ev_5))) (by rw [i_eq]; omega))); omega, by omega⟩) [0, 1, 2, 3] (by decide) rfl (by decide) (by decide) dX11_isWord_44
      · skip
        have el_0 : (0 : Int32).toInt = 0 := rfl
        rw [i_eq] at c_7
        refine j_iconst (pc := 39) (v := 1) C dX11_isWord_39 (by decide) ?_
        refine j_goto (pc := 40) (tgt := 44) C dX11_isWord_40 (by decide) ?_
        have el_1 : (1 : Int32).toInt = 1 := rfl
        have el_1 : (1 : Int32).toInt = 1 := rfl
        have el_1 : (1 : Int32).toInt = 1 := rfl
        exact j_zret (pc := 44) C hr rfl hk (fun i => [].getD i 0, fun i => [1].getD i 0, fun i => [].getD i (fun _ => 0), fun i => [].getD i (fun _ => 0)) rfl (show (0 ≤ ((1 : Int32)).toInt ∧ ((1 : Int32)).toInt ≤ 1) ∧ ((1 : Int32).toInt = wrdI m_fault (m_sort (m_at).toInt.toNat) (m_value (m_at).toInt.toNat) (m_words (p0).toInt.toNat)) ∧ ((1 : Int32).toInt = 0 ∨ (m_at).toInt < ((eN m_sort : Nat) : Int) ∧ (m_fault).toInt = 0) from ⟨by omega, by (have z : wrdI m_fault (m_sort (m_at).toInt.toNat) (m_value (m_at).toInt.toNat) (m_words (p0).toInt.toNat) = 1 := if_pos ⟨(i_eq _ _).mpr (by omega), ev_2.trans ((i_eq _ _).mpr (by omega)), ev_4.trans ((hv_6.1.mp ((i_eq _ _).mpr (by omega))).trans ev_5.symm)⟩); omega, by omega⟩) [0, 1, 2, 3] (by decide) rfl (by decide) (by decide) dX11_isWord_44
set_option maxHeartbeats 4000000 in
set_option maxRecDepth 100000 in
theorem c_X11_takeSign (l : Launch) (D : DG) (cyC cyI cyJ cyZ cyO : ClassId) (m0 : Nat) (msort : Nat) (mplace : Nat) (mvalue : Nat) (mwords : Nat) (mtape : Nat) (mtold : Nat) (mop : Nat) (marg : Nat) (mnames : Nat) (mhasHabit : Nat) (mfactWords : Nat) (mfacts : Nat) (mpile : Nat) (mstates : Nat) (misMarked : Nat) (mrow : Nat) (mthr : Nat) (mmays : Nat) (mtall : Nat) (mweights : Nat) (mrowOfWare : Nat) (mneededOf : Nat) (mtried : Nat) (mbestRow : Nat) (mdigits : Nat) (p0 : Int32) (m_thrown : Int32) (m_taped : Int32) (m_size : Int32) (m_at : Int32) (m_fault : Int32) (m_codes : Int32) (m_isNew : Int32) (m_inShelf : Int32) (m_inStack : Int32) (m_inPlace : Int32) (m_rowMany : Int32) (m_goShelf : Int32) (m_goStack : Int32) (m_goLeft : Int32) (m_bestCost : Int32) (m_bestMany : Int32) (m_bestShelf : Int32) (m_bestSet : Int32) (m_sort : Nat → Int32) (m_place : Nat → Int32) (m_value : Nat → Int64) (m_words : Nat → Int64) (T : Nat → Int × Int64 × Nat) (h_m_taped : 0 ≤ (m_taped).toInt ∧ (m_taped).toInt ≤ 1000) (h_m_size : 0 ≤ (m_size).toInt ∧ (m_size).toInt ≤ 1000) (h_m_at : 0 ≤ (m_at).toInt ∧ (m_at).toInt ≤ 1000) (h_m_fault : 0 ≤ (m_fault).toInt ∧ (m_fault).toInt ≤ 16005) (h_m_codes : 0 ≤ (m_codes).toInt ∧ (m_codes).toInt ≤ 1000) (h_m_isNew : 0 ≤ (m_isNew).toInt ∧ (m_isNew).toInt ≤ 1) (h_m_inShelf : 0 ≤ (m_inShelf).toInt ∧ (m_inShelf).toInt ≤ 3) (h_m_inStack : 0 ≤ (m_inStack).toInt ∧ (m_inStack).toInt ≤ 7) (h_m_inPlace : 0 ≤ (m_inPlace).toInt ∧ (m_inPlace).toInt ≤ 11) (h_m_rowMany : 0 ≤ (m_rowMany).toInt ∧ (m_rowMany).toInt ≤ 12) (h_m_goShelf : -1 ≤ (m_goShelf).toInt ∧ (m_goShelf).toInt ≤ 3) (h_m_bestMany : 0 ≤ (m_bestMany).toInt ∧ (m_bestMany).toInt ≤ 7) (h_m_bestShelf : 0 ≤ (m_bestShelf).toInt ∧ (m_bestShelf).toInt ≤ 3) (h_m_place : Iv 1002 (0) (1000) m_place) (hN1 : eN m_sort ≤ 1000) (hN2 : (m_at).toInt ≤ ((eN m_sort : Nat) : Int)) (hRT : RWS m_sort m_place m_value T) (hWO : WRD m_words) : KK l D (TY cyC cyI cyJ cyZ cyO) yX11_takeSign cX11_takeSign 2 none ({ frames := 1, cells := 0, slots := 0, locals := 21 } : Room) 0 0 [.ref m0, .int p0] [(m0, .inr (11, [.int m_thrown, .ref mtape, .int m_taped, .int m_size, .ref msort, .ref mplace, .ref mvalue, .int m_at, .int m_fault, .ref mwords, .ref mtold, .ref mop, .ref marg, .int m_codes, .ref mnames, .ref mhasHabit, .int m_isNew, .ref mfactWords, .ref mfacts, .ref mpile, .ref mstates, .ref misMarked, .int m_inShelf, .int m_inStack, .int m_inPlace, .ref mrow, .int m_rowMany, .ref mthr, .ref mmays, .ref mtall, .ref mweights, .ref mrowOfWare, .ref mneededOf, .int m_goShelf, .int m_goStack, .int m_goLeft, .ref mtried, .ref mbestRow, .int m_bestCost, .int m_bestMany, .int m_bestShelf, .int m_bestSet, .ref mdigits])), (msort, .inl (cyI, 1002, .inl m_sort)), (mplace, .inl (cyI, 1002, .inl m_place)), (mvalue, .inl (cyJ, 1002, .inr (.inl m_value))), (mwords, .inl (cyJ, 23, .inr (.inl m_words)))] (fun u => none) (fun u => (0 ≤ (u.2.1 0).toInt ∧ (u.2.1 0).toInt ≤ 1000) ∧ (0 ≤ (u.2.1 1).toInt ∧ (u.2.1 1).toInt ≤ 16005) ∧ ((m_at).toInt ≤ ((u.2.1 0)).toInt) ∧ (((u.2.1 0)).toInt ≤ ((eN m_sort : Nat) : Int)) ∧ ((m_fault).toInt ≤ ((u.2.1 1)).toInt) ∧ (¬ ((u.2.1 1)).toInt = 0 ∨ (m_at).toInt < ((u.2.1 0)).toInt) ∧ (RP m_place (m_fault).toInt (m_at).toInt ((u.2.1 1)).toInt ((u.2.1 0)).toInt (rSign T p0))) (fun u => [(m0, .inr (11, [.int m_thrown, .ref mtape, .int m_taped, .int m_size, .ref msort, .ref mplace, .ref mvalue, .int (u.2.1 0), .int (u.2.1 1), .ref mwords, .ref mtold, .ref mop, .ref marg, .int m_codes, .ref mnames, .ref mhasHabit, .int m_isNew, .ref mfactWords, .ref mfacts, .ref mpile, .ref mstates, .ref misMarked, .int m_inShelf, .int m_inStack, .int m_inPlace, .ref mrow, .int m_rowMany, .ref mthr, .ref mmays, .ref mtall, .ref mweights, .ref mrowOfWare, .ref mneededOf, .int m_goShelf, .int m_goStack, .int m_goLeft, .ref mtried, .ref mbestRow, .int m_bestCost, .int m_bestMany, .int m_bestShelf, .int m_bestSet, .ref mdigits])), (msort, .inl (cyI, 1002, .inl m_sort)), (mplace, .inl (cyI, 1002, .inl m_place)), (mvalue, .inl (cyJ, 1002, .inr (.inl m_value))), (mwords, .inl (cyJ, 23, .inr (.inl m_words)))]) := by
  refine KK.of (lv0 := [(0, .ref m0), (1, .int p0)]) (by decide) rfl (Nat.le_of_ble_eq_true rfl) ?_
  intro p e s m args below meth c A C hr hk hin
  refine j_aload_n (pc := 0) C dX11_takeSign_0 rfl 0 rfl ?_
  refine j_iload_n (pc := 1) C dX11_takeSign_1 rfl 1 rfl ?_
  refine j_callV (pc := 2) (As := [.int p0]) (rest := []) (wr := [(mplace, .inl (cyI, 1002, .inl m_place)), (mwords, .inl (cyJ, 23, .inr (.inl m_words)))]) C (c_X11_isSign l D cyC cyI cyJ cyZ cyO m0 msort mvalue mtape mplace mwords mtold mop marg mnames mhasHabit mfactWords mfacts mpile mstates misMarked mrow mthr mmays mtall mweights mrowOfWare mneededOf mtried mbestRow mdigits p0 m_thrown m_taped m_size m_at m_fault m_codes m_isNew m_inShelf m_inStack m_inPlace m_rowMany m_goShelf m_goStack m_goLeft m_bestCost m_bestMany m_bestShelf m_bestSet m_sort m_value h_m_taped h_m_size h_m_at h_m_fault h_m_codes h_m_isNew h_m_inShelf h_m_inStack h_m_inPlace h_m_rowMany h_m_goShelf h_m_bestMany h_m_bestShelf hN1 hN2) wd_653 wd_624 wd_654 wd_655 wd_656 ⟨by decide, by decide, rfl⟩ rfl ⟨rfl, rfl, by decide, by decide⟩ ⟨by decide, by decide⟩ [0, 1, 3] [2, 4] rfl rfl ⟨by decide, by decide, by decide⟩ 0 rfl rfl rfl (Nat.le_of_ble_eq_true rfl) dX11_takeSign_2 (fun u_1 hw_2 => ?_)
  refine j_eq (ws2 := [(mplace, .inl (cyI, 1002, .inl m_place)), (mwords, .inl (cyJ, 23, .inr (.inl m_words))), (m0, .inr (11, [.int m_thrown, .ref mtape, .int m_taped, .int m_size, .ref msort, .ref mplace, .ref mvalue, .int m_at, .int m_fault, .ref mwords, .ref mtold, .ref mop, .ref marg, .int m_codes, .ref mnames, .ref mhasHabit, .int m_isNew, .ref mfactWords, .ref mfacts, .ref mpile, .ref mstates, .ref misMarked, .int m_inShelf, .int m_inStack, .int m_inPlace, .ref mrow, .int m_rowMany, .ref mthr, .ref mmays, .ref mtall, .ref mweights, .ref mrowOfWare, .ref mneededOf, .int m_goShelf, .int m_goStack, .int m_goLeft, .ref mtried, .ref mbestRow, .int m_bestCost, .int m_bestMany, .int m_bestShelf, .int m_bestSet, .ref mdigits])), (msort, .inl (cyI, 1002, .inl m_sort)), (mvalue, .inl (cyJ, 1002, .inr (.inl m_value)))]) (pc2 := 5) (lv2 := [(0, .ref m0), (1, .int p0)]) (st2 := [.int (u_1.2.1 0)]) rfl rfl rfl rfl ?_
  obtain ⟨hw_2_0, hw_2_1, hw_2_2⟩ := hw_2
  have hG_u_1 : (u_1.2.1 0).toInt = gE (m_fault).toInt T (m_place (m_at).toInt.toNat).toInt.toNat p0 := by exact (hw_2_1).trans (sg_T hRT (by omega) (by omega))
  refine j_if_eq (pc := 5) (tgt := 21) C dX11_takeSign_5 (by decide) (fun c_3 => ?_) (fun c_3 => ?_)
  · skip
    have el_0 : (0 : Int32).toInt = 0 := rfl
    rw [i_eq] at c_3
    refine j_aload_n (pc := 21) C dX11_takeSign_21 rfl 0 rfl ?_
    refine j_iconst (pc := 22) (v := 1) C dX11_takeSign_22 (by decide) ?_
    refine j_callV (pc := 23) (As := [.int 1]) (rest := []) (wr := [(mwords, .inl (cyJ, 23, .inr (.inl m_words))), (msort, .inl (cyI, 1002, .inl m_sort)), (mvalue, .inl (cyJ, 1002, .inr (.inl m_value)))]) C (c_X11_wrong l D cyC cyI cyJ cyZ cyO m0 mplace mtape msort mvalue mwords mtold mop marg mnames mhasHabit mfactWords mfacts mpile mstates misMarked mrow mthr mmays mtall mweights mrowOfWare mneededOf mtried mbestRow mdigits 1 m_thrown m_taped m_size m_at m_fault m_codes m_isNew m_inShelf m_inStack m_inPlace m_rowMany m_goShelf m_goStack m_goLeft m_bestCost m_bestMany m_bestShelf m_bestSet m_place h_m_taped h_m_size h_m_at h_m_fault h_m_codes h_m_isNew h_m_inShelf h_m_inStack h_m_inPlace h_m_rowMany h_m_goShelf h_m_bestMany h_m_bestShelf (by decide) h_m_place) wd_657 wd_624 wd_658 wd_659 wd_660 ⟨by decide, by decide, rfl⟩ rfl ⟨rfl, rfl, by decide, by decide⟩ ⟨by decide, by decide⟩ [2, 0] [1, 3, 4] rfl rfl ⟨by decide, by decide, by decide⟩ 2 rfl rfl rfl (Nat.le_of_ble_eq_true rfl) dX11_takeSign_23 (fun u_4 hw_5 => ?_)
    refine j_eq (ws2 := [(mwords, .inl (cyJ, 23, .inr (.inl m_words))), (msort, .inl (cyI, 1002, .inl m_sort)), (mvalue, .inl (cyJ, 1002, .inr (.inl m_value))), (m0, .inr (11, [.int m_thrown, .ref mtape, .int m_taped, .int m_size, .ref msort, .ref mplace, .ref mvalue, .int m_at, .int (u_4.2.1 0), .ref mwords, .ref mtold, .ref mop, .ref marg, .int m_codes, .ref mnames, .ref mhasHabit, .int m_isNew, .ref mfactWords, .ref mfacts, .ref mpile, .ref mstates, .ref misMarked, .int m_inShelf, .int m_inStack, .int m_inPlace, .ref mrow, .int m_rowMany, .ref mthr, .ref mmays, .ref mtall, .ref mweights, .ref mrowOfWare, .ref mneededOf, .int m_goShelf, .int m_goStack, .int m_goLeft, .ref mtried, .ref mbestRow, .int m_bestCost, .int m_bestMany, .int m_bestShelf, .int m_bestSet, .ref mdigits])), (mplace, .inl (cyI, 1002, .inl m_place))]) (pc2 := 26) (lv2 := [(0, .ref m0), (1, .int p0)]) (st2 := []) rfl rfl rfl rfl ?_
    obtain ⟨hw_5_0, hw_5_1, hw_5_2, hw_5_3⟩ := hw_5
    have el_1 : (1 : Int32).toInt = 1 := rfl
    exact j_vret (pc := 26) C hr hk (fun i => [].getD i 0, fun i => [m_at, (u_4.2.1 0)].getD i 0, fun i => [].getD i (fun _ => 0), fun i => [].getD i (fun _ => 0)) rfl (show (0 ≤ (m_at).toInt ∧ (m_at).toInt ≤ 1000) ∧ (0 ≤ ((u_4.2.1 0)).toInt ∧ ((u_4.2.1 0)).toInt ≤ 16005) ∧ ((m_at).toInt ≤ (m_at).toInt) ∧ ((m_at).toInt ≤ ((eN m_sort : Nat) : Int)) ∧ ((m_fault).toInt ≤ ((u_4.2.1 0)).toInt) ∧ (¬ ((u_4.2.1 0)).toInt = 0 ∨ (m_at).toInt < (m_at).toInt) ∧ (RP m_place (m_fault).toInt (m_at).toInt ((u_4.2.1 0)).toInt (m_at).toInt (rSign T p0)) from ⟨h_m_at, by omega, by omega, by omega, by omega, by omega, (RP.wr 1 (fun z => by have z9 := hw_5_2 z; omega) (fun z => by have z9 := hw_5_3 z; omega) (h_m_place (m_at).toInt.toNat (by omega)).1 (by decide) (fun z => by unfold rSign; rw [if_neg (show ¬ isG T (m_place (m_at).toInt.toNat).toInt.toNat p0 = true from gI_0.mp (by have z9 := hG_u_1; rw [gE_z z] at z9; omega))]))⟩) [3, 1, 4, 2, 0] (by decide) rfl (by decide) (by decide) dX11_takeSign_26
  · skip
    have el_0 : (0 : Int32).toInt = 0 := rfl
    rw [i_eq] at c_3
    have k0c_3 : ((u_1.2.1 0)).toInt = 1 := by omega
    refine j_aload_n (pc := 8) C dX11_takeSign_8 rfl 0 rfl ?_
    refine j_dup (pc := 9) C dX11_takeSign_9 rfl ?_
    refine j_get (pc := 10) (ci := 11) (v := .int m_at) C inw_11 2 rfl rfl 7 (by decide) wd_637 rfl rfl dX11_takeSign_10 ?_
    refine j_iconst (pc := 13) (v := 1) C dX11_takeSign_13 (by decide) ?_
    obtain ⟨v_6, ev_6⟩ : ∃ z : Int32, m_at + 1 = z := ⟨_, rfl⟩
    have el_1 : (1 : Int32).toInt = 1 := rfl
    have hv_6 : v_6.toInt = m_at.toInt + (1 : Int32).toInt := by rw [← ev_6]; exact fb_addI (by omega) (by omega)
    refine j_iadd (pc := 14) (v := v_6) C dX11_takeSign_14 ev_6 ?_
    refine j_put (pc := 15) (ci := 11) (v := .int v_6) (ws' := [(mplace, .inl (cyI, 1002, .inl m_place)), (mwords, .inl (cyJ, 23, .inr (.inl m_words))), (m0, .inr (11, [.int m_thrown, .ref mtape, .int m_taped, .int m_size, .ref msort, .ref mplace, .ref mvalue, .int v_6, .int m_fault, .ref mwords, .ref mtold, .ref mop, .ref marg, .int m_codes, .ref mnames, .ref mhasHabit, .int m_isNew, .ref mfactWords, .ref mfacts, .ref mpile, .ref mstates, .ref misMarked, .int m_inShelf, .int m_inStack, .int m_inPlace, .ref mrow, .int m_rowMany, .ref mthr, .ref mmays, .ref mtall, .ref mweights, .ref mrowOfWare, .ref mneededOf, .int m_goShelf, .int m_goStack, .int m_goLeft, .ref mtried, .ref mbestRow, .int m_bestCost, .int m_bestMany, .int m_bestShelf, .int m_bestSet, .ref mdigits])), (msort, .inl (cyI, 1002, .inl m_sort)), (mvalue, .inl (cyJ, 1002, .inr (.inl m_value)))]) C inw_11 2 rfl rfl 7 (by decide) wd_637 rfl tyX11_ok nmX11 rfl (tyX11_ok 7 (by decide)) rfl rfl (Nat.le_of_ble_eq_true rfl) dX11_takeSign_15 rfl ?_
    refine j_goto (pc := 18) (tgt := 26) C dX11_takeSign_18 (by decide) ?_
    exact j_vret (pc := 26) C hr hk (fun i => [].getD i 0, fun i => [v_6, m_fault].getD i 0, fun i => [].getD i (fun _ => 0), fun i => [].getD i (fun _ => 0)) rfl (show (0 ≤ (v_6).toInt ∧ (v_6).toInt ≤ 1000) ∧ (0 ≤ (m_fault).toInt ∧ (m_fault).toInt ≤ 16005) ∧ ((m_at).toInt ≤ (v_6).toInt) ∧ ((v_6).toInt ≤ ((eN m_sort : Nat) : Int)) ∧ ((m_fault).toInt ≤ (m_fault).toInt) ∧ (¬ (m_fault).toInt = 0 ∨ (m_at).toInt < (v_6).toInt) ∧ (RP m_place (m_fault).toInt (m_at).toInt (m_fault).toInt (v_6).toInt (rSign T p0)) from ⟨by omega, h_m_fault, by omega, by omega, by omega, by omega, (RP.go hRT (by omega) (by omega) (by omega) (by omega) (fun z => by unfold rSign; rw [if_pos (show isG T (m_place (m_at).toInt.toNat).toInt.toNat p0 = true from gI_1.mp (by have z9 := hG_u_1; rw [gE_z z] at z9; omega))]))⟩) [2, 3, 0, 4, 1] (by decide) rfl (by decide) (by decide) dX11_takeSign_26
set_option maxHeartbeats 4000000 in
set_option maxRecDepth 100000 in
theorem c_X11_hasSign (l : Launch) (D : DG) (cyC cyI cyJ cyZ cyO : ClassId) (m0 : Nat) (msort : Nat) (mvalue : Nat) (mtape : Nat) (mplace : Nat) (mwords : Nat) (mtold : Nat) (mop : Nat) (marg : Nat) (mnames : Nat) (mhasHabit : Nat) (mfactWords : Nat) (mfacts : Nat) (mpile : Nat) (mstates : Nat) (misMarked : Nat) (mrow : Nat) (mthr : Nat) (mmays : Nat) (mtall : Nat) (mweights : Nat) (mrowOfWare : Nat) (mneededOf : Nat) (mtried : Nat) (mbestRow : Nat) (mdigits : Nat) (p0 : Int32) (m_thrown : Int32) (m_taped : Int32) (m_size : Int32) (m_at : Int32) (m_fault : Int32) (m_codes : Int32) (m_isNew : Int32) (m_inShelf : Int32) (m_inStack : Int32) (m_inPlace : Int32) (m_rowMany : Int32) (m_goShelf : Int32) (m_goStack : Int32) (m_goLeft : Int32) (m_bestCost : Int32) (m_bestMany : Int32) (m_bestShelf : Int32) (m_bestSet : Int32) (m_sort : Nat → Int32) (m_value : Nat → Int64) (h_m_taped : 0 ≤ (m_taped).toInt ∧ (m_taped).toInt ≤ 1000) (h_m_size : 0 ≤ (m_size).toInt ∧ (m_size).toInt ≤ 1000) (h_m_at : 0 ≤ (m_at).toInt ∧ (m_at).toInt ≤ 1000) (h_m_fault : 0 ≤ (m_fault).toInt ∧ (m_fault).toInt ≤ 16005) (h_m_codes : 0 ≤ (m_codes).toInt ∧ (m_codes).toInt ≤ 1000) (h_m_isNew : 0 ≤ (m_isNew).toInt ∧ (m_isNew).toInt ≤ 1) (h_m_inShelf : 0 ≤ (m_inShelf).toInt ∧ (m_inShelf).toInt ≤ 3) (h_m_inStack : 0 ≤ (m_inStack).toInt ∧ (m_inStack).toInt ≤ 7) (h_m_inPlace : 0 ≤ (m_inPlace).toInt ∧ (m_inPlace).toInt ≤ 11) (h_m_rowMany : 0 ≤ (m_rowMany).toInt ∧ (m_rowMany).toInt ≤ 12) (h_m_goShelf : -1 ≤ (m_goShelf).toInt ∧ (m_goShelf).toInt ≤ 3) (h_m_bestMany : 0 ≤ (m_bestMany).toInt ∧ (m_bestMany).toInt ≤ 7) (h_m_bestShelf : 0 ≤ (m_bestShelf).toInt ∧ (m_bestShelf).toInt ≤ 3) (hN1 : eN m_sort ≤ 1000) (hN2 : (m_at).toInt ≤ ((eN m_sort : Nat) : Int)) : KK l D (TY cyC cyI cyJ cyZ cyO) yX11_hasSign cX11_hasSign 3 (some .boolean) ({ frames := 1, cells := 0, slots := 0, locals := 21 } : Room) 0 0 [.ref m0, .int p0] [(m0, .inr (11, [.int m_thrown, .ref mtape, .int m_taped, .int m_size, .ref msort, .ref mplace, .ref mvalue, .int m_at, .int m_fault, .ref mwords, .ref mtold, .ref mop, .ref marg, .int m_codes, .ref mnames, .ref mhasHabit, .int m_isNew, .ref mfactWords, .ref mfacts, .ref mpile, .ref mstates, .ref misMarked, .int m_inShelf, .int m_inStack, .int m_inPlace, .ref mrow, .int m_rowMany, .ref mthr, .ref mmays, .ref mtall, .ref mweights, .ref mrowOfWare, .ref mneededOf, .int m_goShelf, .int m_goStack, .int m_goLeft, .ref mtried, .ref mbestRow, .int m_bestCost, .int m_bestMany, .int m_bestShelf, .int m_bestSet, .ref mdigits])), (msort, .inl (cyI, 1002, .inl m_sort)), (mvalue, .inl (cyJ, 1002, .inr (.inl m_value)))] (fun u => some (.int (u.2.1 0))) (fun u => (0 ≤ (u.2.1 0).toInt ∧ (u.2.1 0).toInt ≤ 1) ∧ (0 ≤ (u.2.1 1).toInt ∧ (u.2.1 1).toInt ≤ 1000) ∧ ((m_at).toInt ≤ ((u.2.1 1)).toInt) ∧ (((u.2.1 1)).toInt ≤ ((eN m_sort : Nat) : Int)) ∧ ((m_fault).toInt ≤ (m_fault).toInt) ∧ ((u.2.1 0).toInt = sgnI m_fault (m_sort (m_at).toInt.toNat) (m_value (m_at).toInt.toNat) p0) ∧ (((u.2.1 1)).toInt = (m_at).toInt + (u.2.1 0).toInt)) (fun u => [(m0, .inr (11, [.int m_thrown, .ref mtape, .int m_taped, .int m_size, .ref msort, .ref mplace, .ref mvalue, .int (u.2.1 1), .int m_fault, .ref mwords, .ref mtold, .ref mop, .ref marg, .int m_codes, .ref mnames, .ref mhasHabit, .int m_isNew, .ref mfactWords, .ref mfacts, .ref mpile, .ref mstates, .ref misMarked, .int m_inShelf, .int m_inStack, .int m_inPlace, .ref mrow, .int m_rowMany, .ref mthr, .ref mmays, .ref mtall, .ref mweights, .ref mrowOfWare, .ref mneededOf, .int m_goShelf, .int m_goStack, .int m_goLeft, .ref mtried, .ref mbestRow, .int m_bestCost, .int m_bestMany, .int m_bestShelf, .int m_bestSet, .ref mdigits])), (msort, .inl (cyI, 1002, .inl m_sort)), (mvalue, .inl (cyJ, 1002, .inr (.inl m_value)))]) := by
  refine KK.of (lv0 := [(0, .ref m0), (1, .int p0)]) (by decide) rfl (Nat.le_of_ble_eq_true rfl) ?_
  intro p e s m args below meth c A C hr hk hin
  refine j_aload_n (pc := 0) C dX11_hasSign_0 rfl 0 rfl ?_
  refine j_iload_n (pc := 1) C dX11_hasSign_1 rfl 1 rfl ?_
  refine j_callV (pc := 2) (As := [.int p0]) (rest := []) (wr := []) C (c_X11_isSign l D cyC cyI cyJ cyZ cyO m0 msort mvalue mtape mplace mwords mtold mop marg mnames mhasHabit mfactWords mfacts mpile mstates misMarked mrow mthr mmays mtall mweights mrowOfWare mneededOf mtried mbestRow mdigits p0 m_thrown m_taped m_size m_at m_fault m_codes m_isNew m_inShelf m_inStack m_inPlace m_rowMany m_goShelf m_goStack m_goLeft m_bestCost m_bestMany m_bestShelf m_bestSet m_sort m_value h_m_taped h_m_size h_m_at h_m_fault h_m_codes h_m_isNew h_m_inShelf h_m_inStack h_m_inPlace h_m_rowMany h_m_goShelf h_m_bestMany h_m_bestShelf hN1 hN2) wd_653 wd_624 wd_654 wd_655 wd_656 ⟨by decide, by decide, rfl⟩ rfl ⟨rfl, rfl, by decide, by decide⟩ ⟨by decide, by decide⟩ [0, 1, 2] [] rfl rfl ⟨by decide, by decide, by decide⟩ 0 rfl rfl rfl (Nat.le_of_ble_eq_true rfl) dX11_hasSign_2 (fun u_1 hw_2 => ?_)
  refine j_eq (ws2 := [(m0, .inr (11, [.int m_thrown, .ref mtape, .int m_taped, .int m_size, .ref msort, .ref mplace, .ref mvalue, .int m_at, .int m_fault, .ref mwords, .ref mtold, .ref mop, .ref marg, .int m_codes, .ref mnames, .ref mhasHabit, .int m_isNew, .ref mfactWords, .ref mfacts, .ref mpile, .ref mstates, .ref misMarked, .int m_inShelf, .int m_inStack, .int m_inPlace, .ref mrow, .int m_rowMany, .ref mthr, .ref mmays, .ref mtall, .ref mweights, .ref mrowOfWare, .ref mneededOf, .int m_goShelf, .int m_goStack, .int m_goLeft, .ref mtried, .ref mbestRow, .int m_bestCost, .int m_bestMany, .int m_bestShelf, .int m_bestSet, .ref mdigits])), (msort, .inl (cyI, 1002, .inl m_sort)), (mvalue, .inl (cyJ, 1002, .inr (.inl m_value)))]) (pc2 := 5) (lv2 := [(0, .ref m0), (1, .int p0)]) (st2 := [.int (u_1.2.1 0)]) rfl rfl rfl rfl ?_
  obtain ⟨hw_2_0, hw_2_1, hw_2_2⟩ := hw_2
  refine j_istore_n (pc := 5) (lv' := [(2, .int (u_1.2.1 0)), (0, .ref m0), (1, .int p0)]) C dX11_hasSign_5 rfl (by decide) rfl ?_
  refine j_aload_n (pc := 6) C dX11_hasSign_6 rfl 1 rfl ?_
  refine j_dup (pc := 7) C dX11_hasSign_7 rfl ?_
  refine j_get (pc := 8) (ci := 11) (v := .int m_at) C inw_11 0 rfl rfl 7 (by decide) wd_637 rfl rfl dX11_hasSign_8 ?_
  refine j_iload_n (pc := 11) C dX11_hasSign_11 rfl 0 rfl ?_
  refine j_if_eq (pc := 12) (tgt := 19) C dX11_hasSign_12 (by decide) (fun c_3 => ?_) (fun c_3 => ?_)
  · skip
    have el_0 : (0 : Int32).toInt = 0 := rfl
    rw [i_eq] at c_3
    refine j_iconst (pc := 19) (v := 0) C dX11_hasSign_19 (by decide) ?_
    obtain ⟨v_4, ev_4⟩ : ∃ z : Int32, m_at + 0 = z := ⟨_, rfl⟩
    have el_0 : (0 : Int32).toInt = 0 := rfl
    have hv_4 : v_4.toInt = m_at.toInt + (0 : Int32).toInt := by rw [← ev_4]; exact fb_addI (by omega) (by omega)
    refine j_iadd (pc := 20) (v := v_4) C dX11_hasSign_20 ev_4 ?_
    refine j_put (pc := 21) (ci := 11) (v := .int v_4) (ws' := [(m0, .inr (11, [.int m_thrown, .ref mtape, .int m_taped, .int m_size, .ref msort, .ref mplace, .ref mvalue, .int v_4, .int m_fault, .ref mwords, .ref mtold, .ref mop, .ref marg, .int m_codes, .ref mnames, .ref mhasHabit, .int m_isNew, .ref mfactWords, .ref mfacts, .ref mpile, .ref mstates, .ref misMarked, .int m_inShelf, .int m_inStack, .int m_inPlace, .ref mrow, .int m_rowMany, .ref mthr, .ref mmays, .ref mtall, .ref mweights, .ref mrowOfWare, .ref mneededOf, .int m_goShelf, .int m_goStack, .int m_goLeft, .ref mtried, .ref mbestRow, .int m_bestCost, .int m_bestMany, .int m_bestShelf, .int m_bestSet, .ref mdigits])), (msort, .inl (cyI, 1002, .inl m_sort)), (mvalue, .inl (cyJ, 1002, .inr (.inl m_value)))]) C inw_11 0 rfl rfl 7 (by decide) wd_637 rfl tyX11_ok nmX11 rfl (tyX11_ok 7 (by decide)) rfl rfl (Nat.le_of_ble_eq_true rfl) dX11_hasSign_21 rfl ?_
    refine j_iload_n (pc := 24) C dX11_hasSign_24 rfl 0 rfl ?_
    exact j_zret (pc := 25) C hr (nb_01 ⟨by omega, by omega⟩).1 hk (fun i => [].getD i 0, fun i => [(u_1.2.1 0), v_4].getD i 0, fun i => [].getD i (fun _ => 0), fun i => [].getD i (fun _ => 0)) rfl (show (0 ≤ ((u_1.2.1 0)).toInt ∧ ((u_1.2.1 0)).toInt ≤ 1) ∧ (0 ≤ (v_4).toInt ∧ (v_4).toInt ≤ 1000) ∧ ((m_at).toInt ≤ (v_4).toInt) ∧ ((v_4).toInt ≤ ((eN m_sort : Nat) : Int)) ∧ ((m_fault).toInt ≤ (m_fault).toInt) ∧ ((u_1.2.1 0).toInt = sgnI m_fault (m_sort (m_at).toInt.toNat) (m_value (m_at).toInt.toNat) p0) ∧ ((v_4).toInt = (m_at).toInt + (u_1.2.1 0).toInt) from ⟨hw_2_0, by omega, by omega, by omega, by omega, by omega, by omega⟩) [0, 1, 2] (by decide) rfl (by decide) (by decide) dX11_hasSign_25
  · skip
    have el_0 : (0 : Int32).toInt = 0 := rfl
    rw [i_eq] at c_3
    have k0c_3 : ((u_1.2.1 0)).toInt = 1 := by omega
    refine j_iconst (pc := 15) (v := 1) C dX11_hasSign_15 (by decide) ?_
    refine j_goto (pc := 16) (tgt := 20) C dX11_hasSign_16 (by decide) ?_
    obtain ⟨v_5, ev_5⟩ : ∃ z : Int32, m_at + 1 = z := ⟨_, rfl⟩
    have el_1 : (1 : Int32).toInt = 1 := rfl
    have hv_5 : v_5.toInt = m_at.toInt + (1 : Int32).toInt := by rw [← ev_5]; exact fb_addI (by omega) (by omega)
    refine j_iadd (pc := 20) (v := v_5) C dX11_hasSign_20 ev_5 ?_
    refine j_put (pc := 21) (ci := 11) (v := .int v_5) (ws' := [(m0, .inr (11, [.int m_thrown, .ref mtape, .int m_taped, .int m_size, .ref msort, .ref mplace, .ref mvalue, .int v_5, .int m_fault, .ref mwords, .ref mtold, .ref mop, .ref marg, .int m_codes, .ref mnames, .ref mhasHabit, .int m_isNew, .ref mfactWords, .ref mfacts, .ref mpile, .ref mstates, .ref misMarked, .int m_inShelf, .int m_inStack, .int m_inPlace, .ref mrow, .int m_rowMany, .ref mthr, .ref mmays, .ref mtall, .ref mweights, .ref mrowOfWare, .ref mneededOf, .int m_goShelf, .int m_goStack, .int m_goLeft, .ref mtried, .ref mbestRow, .int m_bestCost, .int m_bestMany, .int m_bestShelf, .int m_bestSet, .ref mdigits])), (msort, .inl (cyI, 1002, .inl m_sort)), (mvalue, .inl (cyJ, 1002, .inr (.inl m_value)))]) C inw_11 0 rfl rfl 7 (by decide) wd_637 rfl tyX11_ok nmX11 rfl (tyX11_ok 7 (by decide)) rfl rfl (Nat.le_of_ble_eq_true rfl) dX11_hasSign_21 rfl ?_
    refine j_iload_n (pc := 24) C dX11_hasSign_24 rfl 0 rfl ?_
    exact j_zret (pc := 25) C hr (nb_01 ⟨by omega, by omega⟩).1 hk (fun i => [].getD i 0, fun i => [(u_1.2.1 0), v_5].getD i 0, fun i => [].getD i (fun _ => 0), fun i => [].getD i (fun _ => 0)) rfl (show (0 ≤ ((u_1.2.1 0)).toInt ∧ ((u_1.2.1 0)).toInt ≤ 1) ∧ (0 ≤ (v_5).toInt ∧ (v_5).toInt ≤ 1000) ∧ ((m_at).toInt ≤ (v_5).toInt) ∧ ((v_5).toInt ≤ ((eN m_sort : Nat) : Int)) ∧ ((m_fault).toInt ≤ (m_fault).toInt) ∧ ((u_1.2.1 0).toInt = sgnI m_fault (m_sort (m_at).toInt.toNat) (m_value (m_at).toInt.toNat) p0) ∧ ((v_5).toInt = (m_at).toInt + (u_1.2.1 0).toInt) from ⟨hw_2_0, by omega, by omega, by omega, by omega, by omega, by omega⟩) [0, 1, 2] (by decide) rfl (by decide) (by decide) dX11_hasSign_25
set_option maxHeartbeats 4000000 in
set_option maxRecDepth 100000 in
theorem c_X11_hasWord (l : Launch) (D : DG) (cyC cyI cyJ cyZ cyO : ClassId) (m0 : Nat) (msort : Nat) (mvalue : Nat) (mwords : Nat) (mtape : Nat) (mplace : Nat) (mtold : Nat) (mop : Nat) (marg : Nat) (mnames : Nat) (mhasHabit : Nat) (mfactWords : Nat) (mfacts : Nat) (mpile : Nat) (mstates : Nat) (misMarked : Nat) (mrow : Nat) (mthr : Nat) (mmays : Nat) (mtall : Nat) (mweights : Nat) (mrowOfWare : Nat) (mneededOf : Nat) (mtried : Nat) (mbestRow : Nat) (mdigits : Nat) (p0 : Int32) (m_thrown : Int32) (m_taped : Int32) (m_size : Int32) (m_at : Int32) (m_fault : Int32) (m_codes : Int32) (m_isNew : Int32) (m_inShelf : Int32) (m_inStack : Int32) (m_inPlace : Int32) (m_rowMany : Int32) (m_goShelf : Int32) (m_goStack : Int32) (m_goLeft : Int32) (m_bestCost : Int32) (m_bestMany : Int32) (m_bestShelf : Int32) (m_bestSet : Int32) (m_sort : Nat → Int32) (m_value : Nat → Int64) (m_words : Nat → Int64) (h_m_taped : 0 ≤ (m_taped).toInt ∧ (m_taped).toInt ≤ 1000) (h_m_size : 0 ≤ (m_size).toInt ∧ (m_size).toInt ≤ 1000) (h_m_at : 0 ≤ (m_at).toInt ∧ (m_at).toInt ≤ 1000) (h_m_fault : 0 ≤ (m_fault).toInt ∧ (m_fault).toInt ≤ 16005) (h_m_codes : 0 ≤ (m_codes).toInt ∧ (m_codes).toInt ≤ 1000) (h_m_isNew : 0 ≤ (m_isNew).toInt ∧ (m_isNew).toInt ≤ 1) (h_m_inShelf : 0 ≤ (m_inShelf).toInt ∧ (m_inShelf).toInt ≤ 3) (h_m_inStack : 0 ≤ (m_inStack).toInt ∧ (m_inStack).toInt ≤ 7) (h_m_inPlace : 0 ≤ (m_inPlace).toInt ∧ (m_inPlace).toInt ≤ 11) (h_m_rowMany : 0 ≤ (m_rowMany).toInt ∧ (m_rowMany).toInt ≤ 12) (h_m_goShelf : -1 ≤ (m_goShelf).toInt ∧ (m_goShelf).toInt ≤ 3) (h_m_bestMany : 0 ≤ (m_bestMany).toInt ∧ (m_bestMany).toInt ≤ 7) (h_m_bestShelf : 0 ≤ (m_bestShelf).toInt ∧ (m_bestShelf).toInt ≤ 3) (h_p0 : 0 ≤ (p0).toInt ∧ (p0).toInt ≤ 22) (hN1 : eN m_sort ≤ 1000) (hN2 : (m_at).toInt ≤ ((eN m_sort : Nat) : Int)) : KK l D (TY cyC cyI cyJ cyZ cyO) yX11_hasWord cX11_hasWord 3 (some .boolean) ({ frames := 1, cells := 0, slots := 0, locals := 21 } : Room) 0 0 [.ref m0, .int p0] [(m0, .inr (11, [.int m_thrown, .ref mtape, .int m_taped, .int m_size, .ref msort, .ref mplace, .ref mvalue, .int m_at, .int m_fault, .ref mwords, .ref mtold, .ref mop, .ref marg, .int m_codes, .ref mnames, .ref mhasHabit, .int m_isNew, .ref mfactWords, .ref mfacts, .ref mpile, .ref mstates, .ref misMarked, .int m_inShelf, .int m_inStack, .int m_inPlace, .ref mrow, .int m_rowMany, .ref mthr, .ref mmays, .ref mtall, .ref mweights, .ref mrowOfWare, .ref mneededOf, .int m_goShelf, .int m_goStack, .int m_goLeft, .ref mtried, .ref mbestRow, .int m_bestCost, .int m_bestMany, .int m_bestShelf, .int m_bestSet, .ref mdigits])), (msort, .inl (cyI, 1002, .inl m_sort)), (mvalue, .inl (cyJ, 1002, .inr (.inl m_value))), (mwords, .inl (cyJ, 23, .inr (.inl m_words)))] (fun u => some (.int (u.2.1 0))) (fun u => (0 ≤ (u.2.1 0).toInt ∧ (u.2.1 0).toInt ≤ 1) ∧ (0 ≤ (u.2.1 1).toInt ∧ (u.2.1 1).toInt ≤ 1000) ∧ ((m_at).toInt ≤ ((u.2.1 1)).toInt) ∧ (((u.2.1 1)).toInt ≤ ((eN m_sort : Nat) : Int)) ∧ ((m_fault).toInt ≤ (m_fault).toInt) ∧ ((u.2.1 0).toInt = wrdI m_fault (m_sort (m_at).toInt.toNat) (m_value (m_at).toInt.toNat) (m_words (p0).toInt.toNat)) ∧ (((u.2.1 1)).toInt = (m_at).toInt + (u.2.1 0).toInt)) (fun u => [(m0, .inr (11, [.int m_thrown, .ref mtape, .int m_taped, .int m_size, .ref msort, .ref mplace, .ref mvalue, .int (u.2.1 1), .int m_fault, .ref mwords, .ref mtold, .ref mop, .ref marg, .int m_codes, .ref mnames, .ref mhasHabit, .int m_isNew, .ref mfactWords, .ref mfacts, .ref mpile, .ref mstates, .ref misMarked, .int m_inShelf, .int m_inStack, .int m_inPlace, .ref mrow, .int m_rowMany, .ref mthr, .ref mmays, .ref mtall, .ref mweights, .ref mrowOfWare, .ref mneededOf, .int m_goShelf, .int m_goStack, .int m_goLeft, .ref mtried, .ref mbestRow, .int m_bestCost, .int m_bestMany, .int m_bestShelf, .int m_bestSet, .ref mdigits])), (msort, .inl (cyI, 1002, .inl m_sort)), (mvalue, .inl (cyJ, 1002, .inr (.inl m_value))), (mwords, .inl (cyJ, 23, .inr (.inl m_words)))]) := by
  refine KK.of (lv0 := [(0, .ref m0), (1, .int p0)]) (by decide) rfl (Nat.le_of_ble_eq_true rfl) ?_
  intro p e s m args below meth c A C hr hk hin
  refine j_aload_n (pc := 0) C dX11_hasWord_0 rfl 0 rfl ?_
  refine j_iload_n (pc := 1) C dX11_hasWord_1 rfl 1 rfl ?_
  refine j_callV (pc := 2) (As := [.int p0]) (rest := []) (wr := []) C (c_X11_isWord l D cyC cyI cyJ cyZ cyO m0 msort mvalue mwords mtape mplace mtold mop marg mnames mhasHabit mfactWords mfacts mpile mstates misMarked mrow mthr mmays mtall mweights mrowOfWare mneededOf mtried mbestRow mdigits p0 m_thrown m_taped m_size m_at m_fault m_codes m_isNew m_inShelf m_inStack m_inPlace m_rowMany m_goShelf m_goStack m_goLeft m_bestCost m_bestMany m_bestShelf m_bestSet m_sort m_value m_words h_m_taped h_m_size h_m_at h_m_fault h_m_codes h_m_isNew h_m_inShelf h_m_inStack h_m_inPlace h_m_rowMany h_m_goShelf h_m_bestMany h_m_bestShelf h_p0 hN1 hN2) wd_661 wd_624 wd_662 wd_663 wd_664 ⟨by decide, by decide, rfl⟩ rfl ⟨rfl, rfl, by decide, by decide⟩ ⟨by decide, by decide⟩ [0, 1, 2, 3] [] rfl rfl ⟨by decide, by decide, by decide⟩ 0 rfl rfl rfl (Nat.le_of_ble_eq_true rfl) dX11_hasWord_2 (fun u_1 hw_2 => ?_)
  refine j_eq (ws2 := [(m0, .inr (11, [.int m_thrown, .ref mtape, .int m_taped, .int m_size, .ref msort, .ref mplace, .ref mvalue, .int m_at, .int m_fault, .ref mwords, .ref mtold, .ref mop, .ref marg, .int m_codes, .ref mnames, .ref mhasHabit, .int m_isNew, .ref mfactWords, .ref mfacts, .ref mpile, .ref mstates, .ref misMarked, .int m_inShelf, .int m_inStack, .int m_inPlace, .ref mrow, .int m_rowMany, .ref mthr, .ref mmays, .ref mtall, .ref mweights, .ref mrowOfWare, .ref mneededOf, .int m_goShelf, .int m_goStack, .int m_goLeft, .ref mtried, .ref mbestRow, .int m_bestCost, .int m_bestMany, .int m_bestShelf, .int m_bestSet, .ref mdigits])), (msort, .inl (cyI, 1002, .inl m_sort)), (mvalue, .inl (cyJ, 1002, .inr (.inl m_value))), (mwords, .inl (cyJ, 23, .inr (.inl m_words)))]) (pc2 := 5) (lv2 := [(0, .ref m0), (1, .int p0)]) (st2 := [.int (u_1.2.1 0)]) rfl rfl rfl rfl ?_
  obtain ⟨hw_2_0, hw_2_1, hw_2_2⟩ := hw_2
  refine j_istore_n (pc := 5) (lv' := [(2, .int (u_1.2.1 0)), (0, .ref m0), (1, .int p0)]) C dX11_hasWord_5 rfl (by decide) rfl ?_
  refine j_aload_n (pc := 6) C dX11_hasWord_6 rfl 1 rfl ?_
  refine j_dup (pc := 7) C dX11_hasWord_7 rfl ?_
  refine j_get (pc := 8) (ci := 11) (v := .int m_at) C inw_11 0 rfl rfl 7 (by decide) wd_637 rfl rfl dX11_hasWord_8 ?_
  refine j_iload_n (pc := 11) C dX11_hasWord_11 rfl 0 rfl ?_
  refine j_if_eq (pc := 12) (tgt := 19) C dX11_hasWord_12 (by decide) (fun c_3 => ?_) (fun c_3 => ?_)
  · skip
    have el_0 : (0 : Int32).toInt = 0 := rfl
    rw [i_eq] at c_3
    refine j_iconst (pc := 19) (v := 0) C dX11_hasWord_19 (by decide) ?_
    obtain ⟨v_4, ev_4⟩ : ∃ z : Int32, m_at + 0 = z := ⟨_, rfl⟩
    have el_0 : (0 : Int32).toInt = 0 := rfl
    have hv_4 : v_4.toInt = m_at.toInt + (0 : Int32).toInt := by rw [← ev_4]; exact fb_addI (by omega) (by omega)
    refine j_iadd (pc := 20) (v := v_4) C dX11_hasWord_20 ev_4 ?_
    refine j_put (pc := 21) (ci := 11) (v := .int v_4) (ws' := [(m0, .inr (11, [.int m_thrown, .ref mtape, .int m_taped, .int m_size, .ref msort, .ref mplace, .ref mvalue, .int v_4, .int m_fault, .ref mwords, .ref mtold, .ref mop, .ref marg, .int m_codes, .ref mnames, .ref mhasHabit, .int m_isNew, .ref mfactWords, .ref mfacts, .ref mpile, .ref mstates, .ref misMarked, .int m_inShelf, .int m_inStack, .int m_inPlace, .ref mrow, .int m_rowMany, .ref mthr, .ref mmays, .ref mtall, .ref mweights, .ref mrowOfWare, .ref mneededOf, .int m_goShelf, .int m_goStack, .int m_goLeft, .ref mtried, .ref mbestRow, .int m_bestCost, .int m_bestMany, .int m_bestShelf, .int m_bestSet, .ref mdigits])), (msort, .inl (cyI, 1002, .inl m_sort)), (mvalue, .inl (cyJ, 1002, .inr (.inl m_value))), (mwords, .inl (cyJ, 23, .inr (.inl m_words)))]) C inw_11 0 rfl rfl 7 (by decide) wd_637 rfl tyX11_ok nmX11 rfl (tyX11_ok 7 (by decide)) rfl rfl (Nat.le_of_ble_eq_true rfl) dX11_hasWord_21 rfl ?_
    refine j_iload_n (pc := 24) C dX11_hasWord_24 rfl 0 rfl ?_
    exact j_zret (pc := 25) C hr (nb_01 ⟨by omega, by omega⟩).1 hk (fun i => [].getD i 0, fun i => [(u_1.2.1 0), v_4].getD i 0, fun i => [].getD i (fun _ => 0), fun i => [].getD i (fun _ => 0)) rfl (show (0 ≤ ((u_1.2.1 0)).toInt ∧ ((u_1.2.1 0)).toInt ≤ 1) ∧ (0 ≤ (v_4).toInt ∧ (v_4).toInt ≤ 1000) ∧ ((m_at).toInt ≤ (v_4).toInt) ∧ ((v_4).toInt ≤ ((eN m_sort : Nat) : Int)) ∧ ((m_fault).toInt ≤ (m_fault).toInt) ∧ ((u_1.2.1 0).toInt = wrdI m_fault (m_sort (m_at).toInt.toNat) (m_value (m_at).toInt.toNat) (m_words (p0).toInt.toNat)) ∧ ((v_4).toInt = (m_at).toInt + (u_1.2.1 0).toInt) from ⟨hw_2_0, by omega, by omega, by omega, by omega, by omega, by omega⟩) [0, 1, 2, 3] (by decide) rfl (by decide) (by decide) dX11_hasWord_25
  · skip
    have el_0 : (0 : Int32).toInt = 0 := rfl
    rw [i_eq] at c_3
    have k0c_3 : ((u_1.2.1 0)).toInt = 1 := by omega
    refine j_iconst (pc := 15) (v := 1) C dX11_hasWord_15 (by decide) ?_
    refine j_goto (pc := 16) (tgt := 20) C dX11_hasWord_16 (by decide) ?_
    obtain ⟨v_5, ev_5⟩ : ∃ z : Int32, m_at + 1 = z := ⟨_, rfl⟩
    have el_1 : (1 : Int32).toInt = 1 := rfl
    have hv_5 : v_5.toInt = m_at.toInt + (1 : Int32).toInt := by rw [← ev_5]; exact fb_addI (by omega) (by omega)
    refine j_iadd (pc := 20) (v := v_5) C dX11_hasWord_20 ev_5 ?_
    refine j_put (pc := 21) (ci := 11) (v := .int v_5) (ws' := [(m0, .inr (11, [.int m_thrown, .ref mtape, .int m_taped, .int m_size, .ref msort, .ref mplace, .ref mvalue, .int v_5, .int m_fault, .ref mwords, .ref mtold, .ref mop, .ref marg, .int m_codes, .ref mnames, .ref mhasHabit, .int m_isNew, .ref mfactWords, .ref mfacts, .ref mpile, .ref mstates, .ref misMarked, .int m_inShelf, .int m_inStack, .int m_inPlace, .ref mrow, .int m_rowMany, .ref mthr, .ref mmays, .ref mtall, .ref mweights, .ref mrowOfWare, .ref mneededOf, .int m_goShelf, .int m_goStack, .int m_goLeft, .ref mtried, .ref mbestRow, .int m_bestCost, .int m_bestMany, .int m_bestShelf, .int m_bestSet, .ref mdigits])), (msort, .inl (cyI, 1002, .inl m_sort)), (mvalue, .inl (cyJ, 1002, .inr (.inl m_value))), (mwords, .inl (cyJ, 23, .inr (.inl m_words)))]) C inw_11 0 rfl rfl 7 (by decide) wd_637 rfl tyX11_ok nmX11 rfl (tyX11_ok 7 (by decide)) rfl rfl (Nat.le_of_ble_eq_true rfl) dX11_hasWord_21 rfl ?_
    refine j_iload_n (pc := 24) C dX11_hasWord_24 rfl 0 rfl ?_
    exact j_zret (pc := 25) C hr (nb_01 ⟨by omega, by omega⟩).1 hk (fun i => [].getD i 0, fun i => [(u_1.2.1 0), v_5].getD i 0, fun i => [].getD i (fun _ => 0), fun i => [].getD i (fun _ => 0)) rfl (show (0 ≤ ((u_1.2.1 0)).toInt ∧ ((u_1.2.1 0)).toInt ≤ 1) ∧ (0 ≤ (v_5).toInt ∧ (v_5).toInt ≤ 1000) ∧ ((m_at).toInt ≤ (v_5).toInt) ∧ ((v_5).toInt ≤ ((eN m_sort : Nat) : Int)) ∧ ((m_fault).toInt ≤ (m_fault).toInt) ∧ ((u_1.2.1 0).toInt = wrdI m_fault (m_sort (m_at).toInt.toNat) (m_value (m_at).toInt.toNat) (m_words (p0).toInt.toNat)) ∧ ((v_5).toInt = (m_at).toInt + (u_1.2.1 0).toInt) from ⟨hw_2_0, by omega, by omega, by omega, by omega, by omega, by omega⟩) [0, 1, 2, 3] (by decide) rfl (by decide) (by decide) dX11_hasWord_25
set_option maxHeartbeats 4000000 in
set_option maxRecDepth 100000 in
theorem c_X11_takeWord (l : Launch) (D : DG) (cyC cyI cyJ cyZ cyO : ClassId) (m0 : Nat) (msort : Nat) (mplace : Nat) (mvalue : Nat) (mwords : Nat) (mtape : Nat) (mtold : Nat) (mop : Nat) (marg : Nat) (mnames : Nat) (mhasHabit : Nat) (mfactWords : Nat) (mfacts : Nat) (mpile : Nat) (mstates : Nat) (misMarked : Nat) (mrow : Nat) (mthr : Nat) (mmays : Nat) (mtall : Nat) (mweights : Nat) (mrowOfWare : Nat) (mneededOf : Nat) (mtried : Nat) (mbestRow : Nat) (mdigits : Nat) (p0 : Int32) (m_thrown : Int32) (m_taped : Int32) (m_size : Int32) (m_at : Int32) (m_fault : Int32) (m_codes : Int32) (m_isNew : Int32) (m_inShelf : Int32) (m_inStack : Int32) (m_inPlace : Int32) (m_rowMany : Int32) (m_goShelf : Int32) (m_goStack : Int32) (m_goLeft : Int32) (m_bestCost : Int32) (m_bestMany : Int32) (m_bestShelf : Int32) (m_bestSet : Int32) (m_sort : Nat → Int32) (m_place : Nat → Int32) (m_value : Nat → Int64) (m_words : Nat → Int64) (T : Nat → Int × Int64 × Nat) (h_m_taped : 0 ≤ (m_taped).toInt ∧ (m_taped).toInt ≤ 1000) (h_m_size : 0 ≤ (m_size).toInt ∧ (m_size).toInt ≤ 1000) (h_m_at : 0 ≤ (m_at).toInt ∧ (m_at).toInt ≤ 1000) (h_m_fault : 0 ≤ (m_fault).toInt ∧ (m_fault).toInt ≤ 16005) (h_m_codes : 0 ≤ (m_codes).toInt ∧ (m_codes).toInt ≤ 1000) (h_m_isNew : 0 ≤ (m_isNew).toInt ∧ (m_isNew).toInt ≤ 1) (h_m_inShelf : 0 ≤ (m_inShelf).toInt ∧ (m_inShelf).toInt ≤ 3) (h_m_inStack : 0 ≤ (m_inStack).toInt ∧ (m_inStack).toInt ≤ 7) (h_m_inPlace : 0 ≤ (m_inPlace).toInt ∧ (m_inPlace).toInt ≤ 11) (h_m_rowMany : 0 ≤ (m_rowMany).toInt ∧ (m_rowMany).toInt ≤ 12) (h_m_goShelf : -1 ≤ (m_goShelf).toInt ∧ (m_goShelf).toInt ≤ 3) (h_m_bestMany : 0 ≤ (m_bestMany).toInt ∧ (m_bestMany).toInt ≤ 7) (h_m_bestShelf : 0 ≤ (m_bestShelf).toInt ∧ (m_bestShelf).toInt ≤ 3) (h_p0 : 0 ≤ (p0).toInt ∧ (p0).toInt ≤ 22) (h_m_place : Iv 1002 (0) (1000) m_place) (hN1 : eN m_sort ≤ 1000) (hN2 : (m_at).toInt ≤ ((eN m_sort : Nat) : Int)) (hRT : RWS m_sort m_place m_value T) (hWO : WRD m_words) : KK l D (TY cyC cyI cyJ cyZ cyO) yX11_takeWord cX11_takeWord 2 none ({ frames := 2, cells := 0, slots := 0, locals := 43 } : Room) 0 0 [.ref m0, .int p0] [(m0, .inr (11, [.int m_thrown, .ref mtape, .int m_taped, .int m_size, .ref msort, .ref mplace, .ref mvalue, .int m_at, .int m_fault, .ref mwords, .ref mtold, .ref mop, .ref marg, .int m_codes, .ref mnames, .ref mhasHabit, .int m_isNew, .ref mfactWords, .ref mfacts, .ref mpile, .ref mstates, .ref misMarked, .int m_inShelf, .int m_inStack, .int m_inPlace, .ref mrow, .int m_rowMany, .ref mthr, .ref mmays, .ref mtall, .ref mweights, .ref mrowOfWare, .ref mneededOf, .int m_goShelf, .int m_goStack, .int m_goLeft, .ref mtried, .ref mbestRow, .int m_bestCost, .int m_bestMany, .int m_bestShelf, .int m_bestSet, .ref mdigits])), (msort, .inl (cyI, 1002, .inl m_sort)), (mplace, .inl (cyI, 1002, .inl m_place)), (mvalue, .inl (cyJ, 1002, .inr (.inl m_value))), (mwords, .inl (cyJ, 23, .inr (.inl m_words)))] (fun u => none) (fun u => (0 ≤ (u.2.1 0).toInt ∧ (u.2.1 0).toInt ≤ 1000) ∧ (0 ≤ (u.2.1 1).toInt ∧ (u.2.1 1).toInt ≤ 16005) ∧ ((m_at).toInt ≤ ((u.2.1 0)).toInt) ∧ (((u.2.1 0)).toInt ≤ ((eN m_sort : Nat) : Int)) ∧ ((m_fault).toInt ≤ ((u.2.1 1)).toInt) ∧ (RP m_place (m_fault).toInt (m_at).toInt ((u.2.1 1)).toInt ((u.2.1 0)).toInt (rWrd T (p0).toInt.toNat))) (fun u => [(m0, .inr (11, [.int m_thrown, .ref mtape, .int m_taped, .int m_size, .ref msort, .ref mplace, .ref mvalue, .int (u.2.1 0), .int (u.2.1 1), .ref mwords, .ref mtold, .ref mop, .ref marg, .int m_codes, .ref mnames, .ref mhasHabit, .int m_isNew, .ref mfactWords, .ref mfacts, .ref mpile, .ref mstates, .ref misMarked, .int m_inShelf, .int m_inStack, .int m_inPlace, .ref mrow, .int m_rowMany, .ref mthr, .ref mmays, .ref mtall, .ref mweights, .ref mrowOfWare, .ref mneededOf, .int m_goShelf, .int m_goStack, .int m_goLeft, .ref mtried, .ref mbestRow, .int m_bestCost, .int m_bestMany, .int m_bestShelf, .int m_bestSet, .ref mdigits])), (msort, .inl (cyI, 1002, .inl m_sort)), (mplace, .inl (cyI, 1002, .inl m_place)), (mvalue, .inl (cyJ, 1002, .inr (.inl m_value))), (mwords, .inl (cyJ, 23, .inr (.inl m_words)))]) := by
  refine KK.of (lv0 := [(0, .ref m0), (1, .int p0)]) (by decide) rfl (Nat.le_of_ble_eq_true rfl) ?_
  intro p e s m args below meth c A C hr hk hin
  refine j_aload_n (pc := 0) C dX11_takeWord_0 rfl 0 rfl ?_
  refine j_iload_n (pc := 1) C dX11_takeWord_1 rfl 1 rfl ?_
  refine j_callV (pc := 2) (As := [.int p0]) (rest := []) (wr := [(mplace, .inl (cyI, 1002, .inl m_place))]) C (c_X11_hasWord l D cyC cyI cyJ cyZ cyO m0 msort mvalue mwords mtape mplace mtold mop marg mnames mhasHabit mfactWords mfacts mpile mstates misMarked mrow mthr mmays mtall mweights mrowOfWare mneededOf mtried mbestRow mdigits p0 m_thrown m_taped m_size m_at m_fault m_codes m_isNew m_inShelf m_inStack m_inPlace m_rowMany m_goShelf m_goStack m_goLeft m_bestCost m_bestMany m_bestShelf m_bestSet m_sort m_value m_words h_m_taped h_m_size h_m_at h_m_fault h_m_codes h_m_isNew h_m_inShelf h_m_inStack h_m_inPlace h_m_rowMany h_m_goShelf h_m_bestMany h_m_bestShelf h_p0 hN1 hN2) wd_665 wd_624 wd_666 wd_667 wd_668 ⟨by decide, by decide, rfl⟩ rfl ⟨rfl, rfl, by decide, by decide⟩ ⟨by decide, by decide⟩ [0, 1, 3, 4] [2] rfl rfl ⟨by decide, by decide, by decide⟩ 0 rfl rfl rfl (Nat.le_of_ble_eq_true rfl) dX11_takeWord_2 (fun u_1 hw_2 => ?_)
  refine j_eq (ws2 := [(mplace, .inl (cyI, 1002, .inl m_place)), (m0, .inr (11, [.int m_thrown, .ref mtape, .int m_taped, .int m_size, .ref msort, .ref mplace, .ref mvalue, .int (u_1.2.1 1), .int m_fault, .ref mwords, .ref mtold, .ref mop, .ref marg, .int m_codes, .ref mnames, .ref mhasHabit, .int m_isNew, .ref mfactWords, .ref mfacts, .ref mpile, .ref mstates, .ref misMarked, .int m_inShelf, .int m_inStack, .int m_inPlace, .ref mrow, .int m_rowMany, .ref mthr, .ref mmays, .ref mtall, .ref mweights, .ref mrowOfWare, .ref mneededOf, .int m_goShelf, .int m_goStack, .int m_goLeft, .ref mtried, .ref mbestRow, .int m_bestCost, .int m_bestMany, .int m_bestShelf, .int m_bestSet, .ref mdigits])), (msort, .inl (cyI, 1002, .inl m_sort)), (mvalue, .inl (cyJ, 1002, .inr (.inl m_value))), (mwords, .inl (cyJ, 23, .inr (.inl m_words)))]) (pc2 := 5) (lv2 := [(0, .ref m0), (1, .int p0)]) (st2 := [.int (u_1.2.1 0)]) rfl rfl rfl rfl ?_
  obtain ⟨hw_2_0, hw_2_1, hw_2_2, hw_2_3, hw_2_4, hw_2_5, hw_2_6⟩ := hw_2
  have hG_u_1 : (u_1.2.1 0).toInt = wE (m_fault).toInt T (m_place (m_at).toInt.toNat).toInt.toNat (p0).toInt.toNat := by exact (hw_2_5).trans (wd_T hRT (by omega) (by omega) (hWO (p0).toInt.toNat (by omega)))
  refine j_if_ne (pc := 5) (tgt := 13) C dX11_takeWord_5 (by decide) (fun c_3 => ?_) (fun c_3 => ?_)
  · skip
    have el_0 : (0 : Int32).toInt = 0 := rfl
    rw [i_eq] at c_3
    have k0c_3 : ((u_1.2.1 0)).toInt = 1 := by omega
    exact j_vret (pc := 13) C hr hk (fun i => [].getD i 0, fun i => [(u_1.2.1 1), m_fault].getD i 0, fun i => [].getD i (fun _ => 0), fun i => [].getD i (fun _ => 0)) rfl (show (0 ≤ ((u_1.2.1 1)).toInt ∧ ((u_1.2.1 1)).toInt ≤ 1000) ∧ (0 ≤ (m_fault).toInt ∧ (m_fault).toInt ≤ 16005) ∧ ((m_at).toInt ≤ ((u_1.2.1 1)).toInt) ∧ (((u_1.2.1 1)).toInt ≤ ((eN m_sort : Nat) : Int)) ∧ ((m_fault).toInt ≤ (m_fault).toInt) ∧ (RP m_place (m_fault).toInt (m_at).toInt (m_fault).toInt ((u_1.2.1 1)).toInt (rWrd T (p0).toInt.toNat)) from ⟨hw_2_1, h_m_fault, by omega, by omega, by omega, (RP.go hRT (by omega) (by omega) (by omega) (by omega) (fun z => by unfold rWrd; rw [if_pos (show isW T (m_place (m_at).toInt.toNat).toInt.toNat (WN (p0).toInt.toNat) = true from wI_1.mp (by have z9 := hG_u_1; rw [wE_z z] at z9; omega))]))⟩) [1, 2, 0, 3, 4] (by decide) rfl (by decide) (by decide) dX11_takeWord_13
  · skip
    have el_0 : (0 : Int32).toInt = 0 := rfl
    rw [i_eq] at c_3
    refine j_aload_n (pc := 8) C dX11_takeWord_8 rfl 0 rfl ?_
    refine j_iconst (pc := 9) (v := 1) C dX11_takeWord_9 (by decide) ?_
    refine j_callV (pc := 10) (As := [.int 1]) (rest := []) (wr := [(msort, .inl (cyI, 1002, .inl m_sort)), (mvalue, .inl (cyJ, 1002, .inr (.inl m_value))), (mwords, .inl (cyJ, 23, .inr (.inl m_words)))]) C (c_X11_wrong l D cyC cyI cyJ cyZ cyO m0 mplace mtape msort mvalue mwords mtold mop marg mnames mhasHabit mfactWords mfacts mpile mstates misMarked mrow mthr mmays mtall mweights mrowOfWare mneededOf mtried mbestRow mdigits 1 m_thrown m_taped m_size (u_1.2.1 1) m_fault m_codes m_isNew m_inShelf m_inStack m_inPlace m_rowMany m_goShelf m_goStack m_goLeft m_bestCost m_bestMany m_bestShelf m_bestSet m_place h_m_taped h_m_size hw_2_1 h_m_fault h_m_codes h_m_isNew h_m_inShelf h_m_inStack h_m_inPlace h_m_rowMany h_m_goShelf h_m_bestMany h_m_bestShelf (by decide) h_m_place) wd_657 wd_624 wd_658 wd_659 wd_660 ⟨by decide, by decide, rfl⟩ rfl ⟨rfl, rfl, by decide, by decide⟩ ⟨by decide, by decide⟩ [1, 0] [2, 3, 4] rfl rfl ⟨by decide, by decide, by decide⟩ 1 rfl rfl rfl (Nat.le_of_ble_eq_true rfl) dX11_takeWord_10 (fun u_4 hw_5 => ?_)
    refine j_eq (ws2 := [(msort, .inl (cyI, 1002, .inl m_sort)), (mvalue, .inl (cyJ, 1002, .inr (.inl m_value))), (mwords, .inl (cyJ, 23, .inr (.inl m_words))), (m0, .inr (11, [.int m_thrown, .ref mtape, .int m_taped, .int m_size, .ref msort, .ref mplace, .ref mvalue, .int (u_1.2.1 1), .int (u_4.2.1 0), .ref mwords, .ref mtold, .ref mop, .ref marg, .int m_codes, .ref mnames, .ref mhasHabit, .int m_isNew, .ref mfactWords, .ref mfacts, .ref mpile, .ref mstates, .ref misMarked, .int m_inShelf, .int m_inStack, .int m_inPlace, .ref mrow, .int m_rowMany, .ref mthr, .ref mmays, .ref mtall, .ref mweights, .ref mrowOfWare, .ref mneededOf, .int m_goShelf, .int m_goStack, .int m_goLeft, .ref mtried, .ref mbestRow, .int m_bestCost, .int m_bestMany, .int m_bestShelf, .int m_bestSet, .ref mdigits])), (mplace, .inl (cyI, 1002, .inl m_place))]) (pc2 := 13) (lv2 := [(0, .ref m0), (1, .int p0)]) (st2 := []) rfl rfl rfl rfl ?_
    obtain ⟨hw_5_0, hw_5_1, hw_5_2, hw_5_3⟩ := hw_5
    have el_1 : (1 : Int32).toInt = 1 := rfl
    exact j_vret (pc := 13) C hr hk (fun i => [].getD i 0, fun i => [(u_1.2.1 1), (u_4.2.1 0)].getD i 0, fun i => [].getD i (fun _ => 0), fun i => [].getD i (fun _ => 0)) rfl (show (0 ≤ ((u_1.2.1 1)).toInt ∧ ((u_1.2.1 1)).toInt ≤ 1000) ∧ (0 ≤ ((u_4.2.1 0)).toInt ∧ ((u_4.2.1 0)).toInt ≤ 16005) ∧ ((m_at).toInt ≤ ((u_1.2.1 1)).toInt) ∧ (((u_1.2.1 1)).toInt ≤ ((eN m_sort : Nat) : Int)) ∧ ((m_fault).toInt ≤ ((u_4.2.1 0)).toInt) ∧ (RP m_place (m_fault).toInt (m_at).toInt ((u_4.2.1 0)).toInt ((u_1.2.1 1)).toInt (rWrd T (p0).toInt.toNat)) from ⟨hw_2_1, by omega, by omega, by omega, by omega, (RP.wr 1 (fun z => by have z9 := hw_5_2 z; rw [show (u_1.2.1 1) = m_at from (i_eq _ _).mpr (by omega)] at z9; omega) (fun z => by have z9 := hw_5_3 z; omega) (h_m_place (m_at).toInt.toNat (by omega)).1 (by decide) (fun z => by unfold rWrd; rw [if_neg (show ¬ isW T (m_place (m_at).toInt.toNat).toInt.toNat (WN (p0).toInt.toNat) = true from wI_0.mp (by have z9 := hG_u_1; rw [wE_z z] at z9; omega))]))⟩) [3, 0, 4, 1, 2] (by decide) rfl (by decide) (by decide) dX11_takeWord_13
