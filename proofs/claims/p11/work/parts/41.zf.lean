theorem wd_779 : Cond.fieldLink RX11 306 "BowlShelfModel" "rowMany" "I" ∈ WALL := wl_in (by decide +kernel) (by decide +kernel)
theorem wd_780 : Cond.fieldLink RX11 114 "BowlShelfModel" "row" "[I" ∈ WALL := wl_in (by decide +kernel) (by decide +kernel)
theorem dX11_takesRow_0 : decode cX11_takesRow 0 = .ok (.aload_n 0, 1) := by decide +kernel
theorem dX11_takesRow_1 : decode cX11_takesRow 1 = .ok (.aload_n 0, 1) := by decide +kernel
theorem dX11_takesRow_2 : decode cX11_takesRow 2 = .ok (.getfield 108, 3) := by decide +kernel
theorem dX11_takesRow_5 : decode cX11_takesRow 5 = .ok (.iload_n 1, 1) := by decide +kernel
theorem dX11_takesRow_6 : decode cX11_takesRow 6 = .ok (.iaload, 1) := by decide +kernel
theorem dX11_takesRow_7 : decode cX11_takesRow 7 = .ok (.putfield 306, 3) := by decide +kernel
theorem dX11_takesRow_10 : decode cX11_takesRow 10 = .ok (.iconst 0, 1) := by decide +kernel
theorem dX11_takesRow_11 : decode cX11_takesRow 11 = .ok (.istore_n 2, 1) := by decide +kernel
theorem dX11_takesRow_12 : decode cX11_takesRow 12 = .ok (.iload_n 2, 1) := by decide +kernel
theorem dX11_takesRow_13 : decode cX11_takesRow 13 = .ok (.aload_n 0, 1) := by decide +kernel
theorem dX11_takesRow_14 : decode cX11_takesRow 14 = .ok (.getfield 306, 3) := by decide +kernel
theorem dX11_takesRow_17 : decode cX11_takesRow 17 = .ok (.if_icmp .ge 25, 3) := by decide +kernel
theorem dX11_takesRow_20 : decode cX11_takesRow 20 = .ok (.aload_n 0, 1) := by decide +kernel
theorem dX11_takesRow_21 : decode cX11_takesRow 21 = .ok (.getfield 114, 3) := by decide +kernel
theorem dX11_takesRow_24 : decode cX11_takesRow 24 = .ok (.iload_n 2, 1) := by decide +kernel
theorem dX11_takesRow_25 : decode cX11_takesRow 25 = .ok (.aload_n 0, 1) := by decide +kernel
theorem dX11_takesRow_26 : decode cX11_takesRow 26 = .ok (.getfield 108, 3) := by decide +kernel
theorem dX11_takesRow_29 : decode cX11_takesRow 29 = .ok (.iload_n 1, 1) := by decide +kernel
theorem dX11_takesRow_30 : decode cX11_takesRow 30 = .ok (.iconst 1, 1) := by decide +kernel
theorem dX11_takesRow_31 : decode cX11_takesRow 31 = .ok (.iadd, 1) := by decide +kernel
theorem dX11_takesRow_32 : decode cX11_takesRow 32 = .ok (.iload_n 2, 1) := by decide +kernel
theorem dX11_takesRow_33 : decode cX11_takesRow 33 = .ok (.iadd, 1) := by decide +kernel
theorem dX11_takesRow_34 : decode cX11_takesRow 34 = .ok (.iaload, 1) := by decide +kernel
theorem dX11_takesRow_35 : decode cX11_takesRow 35 = .ok (.iastore, 1) := by decide +kernel
theorem dX11_takesRow_36 : decode cX11_takesRow 36 = .ok (.iinc 2 1, 3) := by decide +kernel
theorem dX11_takesRow_39 : decode cX11_takesRow 39 = .ok (.goto (-27), 3) := by decide +kernel
theorem dX11_takesRow_42 : decode cX11_takesRow 42 = .ok (.return_, 1) := by decide +kernel
theorem dX11_laysRow_0 : decode cX11_laysRow 0 = .ok (.aload_n 0, 1) := by decide +kernel
theorem dX11_laysRow_1 : decode cX11_laysRow 1 = .ok (.getfield 108, 3) := by decide +kernel
theorem dX11_laysRow_4 : decode cX11_laysRow 4 = .ok (.iload_n 1, 1) := by decide +kernel
theorem dX11_laysRow_5 : decode cX11_laysRow 5 = .ok (.aload_n 0, 1) := by decide +kernel
theorem dX11_laysRow_6 : decode cX11_laysRow 6 = .ok (.getfield 306, 3) := by decide +kernel
theorem dX11_laysRow_9 : decode cX11_laysRow 9 = .ok (.iastore, 1) := by decide +kernel
theorem dX11_laysRow_10 : decode cX11_laysRow 10 = .ok (.iconst 0, 1) := by decide +kernel
theorem dX11_laysRow_11 : decode cX11_laysRow 11 = .ok (.istore_n 2, 1) := by decide +kernel
theorem dX11_laysRow_12 : decode cX11_laysRow 12 = .ok (.iload_n 2, 1) := by decide +kernel
theorem dX11_laysRow_13 : decode cX11_laysRow 13 = .ok (.aload_n 0, 1) := by decide +kernel
theorem dX11_laysRow_14 : decode cX11_laysRow 14 = .ok (.getfield 306, 3) := by decide +kernel
theorem dX11_laysRow_17 : decode cX11_laysRow 17 = .ok (.if_icmp .ge 25, 3) := by decide +kernel
theorem dX11_laysRow_20 : decode cX11_laysRow 20 = .ok (.aload_n 0, 1) := by decide +kernel
theorem dX11_laysRow_21 : decode cX11_laysRow 21 = .ok (.getfield 108, 3) := by decide +kernel
theorem dX11_laysRow_24 : decode cX11_laysRow 24 = .ok (.iload_n 1, 1) := by decide +kernel
theorem dX11_laysRow_25 : decode cX11_laysRow 25 = .ok (.iconst 1, 1) := by decide +kernel
theorem dX11_laysRow_26 : decode cX11_laysRow 26 = .ok (.iadd, 1) := by decide +kernel
theorem dX11_laysRow_27 : decode cX11_laysRow 27 = .ok (.iload_n 2, 1) := by decide +kernel
theorem dX11_laysRow_28 : decode cX11_laysRow 28 = .ok (.iadd, 1) := by decide +kernel
theorem dX11_laysRow_29 : decode cX11_laysRow 29 = .ok (.aload_n 0, 1) := by decide +kernel
theorem dX11_laysRow_30 : decode cX11_laysRow 30 = .ok (.getfield 114, 3) := by decide +kernel
theorem dX11_laysRow_33 : decode cX11_laysRow 33 = .ok (.iload_n 2, 1) := by decide +kernel
theorem dX11_laysRow_34 : decode cX11_laysRow 34 = .ok (.iaload, 1) := by decide +kernel
theorem dX11_laysRow_35 : decode cX11_laysRow 35 = .ok (.iastore, 1) := by decide +kernel
theorem dX11_laysRow_36 : decode cX11_laysRow 36 = .ok (.iinc 2 1, 3) := by decide +kernel
theorem dX11_laysRow_39 : decode cX11_laysRow 39 = .ok (.goto (-27), 3) := by decide +kernel
theorem dX11_laysRow_42 : decode cX11_laysRow 42 = .ok (.return_, 1) := by decide +kernel
set_option maxHeartbeats 4000000 in
set_option maxRecDepth 100000 in
theorem c_X11_takesRow (l : Launch) (D : DG) (cyC cyI cyJ cyZ cyO : ClassId) (m0 : Nat) (mstates : Nat) (mrow : Nat) (mtape : Nat) (msort : Nat) (mplace : Nat) (mvalue : Nat) (mwords : Nat) (mtold : Nat) (mop : Nat) (marg : Nat) (mnames : Nat) (mhasHabit : Nat) (mfactWords : Nat) (mfacts : Nat) (mpile : Nat) (misMarked : Nat) (mthr : Nat) (mmays : Nat) (mtall : Nat) (mweights : Nat) (mrowOfWare : Nat) (mneededOf : Nat) (mtried : Nat) (mbestRow : Nat) (mdigits : Nat) (p0 : Int32) (m_thrown : Int32) (m_taped : Int32) (m_size : Int32) (m_at : Int32) (m_fault : Int32) (m_codes : Int32) (m_isNew : Int32) (m_inShelf : Int32) (m_inStack : Int32) (m_inPlace : Int32) (m_rowMany : Int32) (m_goShelf : Int32) (m_goStack : Int32) (m_goLeft : Int32) (m_bestCost : Int32) (m_bestMany : Int32) (m_bestShelf : Int32) (m_bestSet : Int32) (m_states : Nat → Int32) (m_row : Nat → Int32) (h_m_taped : 0 ≤ (m_taped).toInt ∧ (m_taped).toInt ≤ 1000) (h_m_size : 0 ≤ (m_size).toInt ∧ (m_size).toInt ≤ 1000) (h_m_at : 0 ≤ (m_at).toInt ∧ (m_at).toInt ≤ 1000) (h_m_fault : 0 ≤ (m_fault).toInt ∧ (m_fault).toInt ≤ 16005) (h_m_codes : 0 ≤ (m_codes).toInt ∧ (m_codes).toInt ≤ 1000) (h_m_isNew : 0 ≤ (m_isNew).toInt ∧ (m_isNew).toInt ≤ 1) (h_m_inShelf : 0 ≤ (m_inShelf).toInt ∧ (m_inShelf).toInt ≤ 3) (h_m_inStack : 0 ≤ (m_inStack).toInt ∧ (m_inStack).toInt ≤ 7) (h_m_inPlace : 0 ≤ (m_inPlace).toInt ∧ (m_inPlace).toInt ≤ 11) (h_m_rowMany : 0 ≤ (m_rowMany).toInt ∧ (m_rowMany).toInt ≤ 12) (h_m_goShelf : -1 ≤ (m_goShelf).toInt ∧ (m_goShelf).toInt ≤ 3) (h_m_bestMany : 0 ≤ (m_bestMany).toInt ∧ (m_bestMany).toInt ≤ 7) (h_m_bestShelf : 0 ≤ (m_bestShelf).toInt ∧ (m_bestShelf).toInt ≤ 3) (h_p0 : 1 ≤ (p0).toInt ∧ (p0).toInt ≤ 2707) (h_m_row : Iv 12 (0) (11) m_row) (h_m_states : SV m_states) (ha9 : AD (p0).toInt) : KK l D (TY cyC cyI cyJ cyZ cyO) yX11_takesRow cX11_takesRow 3 none ({ frames := 0, cells := 0, slots := 0, locals := 0 } : Room) 0 0 [.ref m0, .int p0] [(m0, .inr (11, [.int m_thrown, .ref mtape, .int m_taped, .int m_size, .ref msort, .ref mplace, .ref mvalue, .int m_at, .int m_fault, .ref mwords, .ref mtold, .ref mop, .ref marg, .int m_codes, .ref mnames, .ref mhasHabit, .int m_isNew, .ref mfactWords, .ref mfacts, .ref mpile, .ref mstates, .ref misMarked, .int m_inShelf, .int m_inStack, .int m_inPlace, .ref mrow, .int m_rowMany, .ref mthr, .ref mmays, .ref mtall, .ref mweights, .ref mrowOfWare, .ref mneededOf, .int m_goShelf, .int m_goStack, .int m_goLeft, .ref mtried, .ref mbestRow, .int m_bestCost, .int m_bestMany, .int m_bestShelf, .int m_bestSet, .ref mdigits])), (mstates, .inl (cyI, 2760, .inl m_states)), (mrow, .inl (cyI, 12, .inl m_row))] (fun u => none) (fun u => (0 ≤ (u.2.1 0).toInt ∧ (u.2.1 0).toInt ≤ 12) ∧ (Iv 12 (0) (11) (u.2.2.1 0)) ∧ ((u.2.1 0) = m_states (p0).toInt.toNat) ∧ (∀ p : Nat, (p : Int) < ((u.2.1 0)).toInt → (u.2.2.1 0) p = m_states ((p0).toInt.toNat + 1 + p))) (fun u => [(m0, .inr (11, [.int m_thrown, .ref mtape, .int m_taped, .int m_size, .ref msort, .ref mplace, .ref mvalue, .int m_at, .int m_fault, .ref mwords, .ref mtold, .ref mop, .ref marg, .int m_codes, .ref mnames, .ref mhasHabit, .int m_isNew, .ref mfactWords, .ref mfacts, .ref mpile, .ref mstates, .ref misMarked, .int m_inShelf, .int m_inStack, .int m_inPlace, .ref mrow, .int (u.2.1 0), .ref mthr, .ref mmays, .ref mtall, .ref mweights, .ref mrowOfWare, .ref mneededOf, .int m_goShelf, .int m_goStack, .int m_goLeft, .ref mtried, .ref mbestRow, .int m_bestCost, .int m_bestMany, .int m_bestShelf, .int m_bestSet, .ref mdigits])), (mstates, .inl (cyI, 2760, .inl m_states)), (mrow, .inl (cyI, 12, .inl (u.2.2.1 0)))]) := by
  refine KK.of (lv0 := [(0, .ref m0), (1, .int p0)]) (by decide) rfl (Nat.le_of_ble_eq_true rfl) ?_
  intro p e s m args below meth c A C hr hk hin
  have hb9 := ha9.bd
  refine j_aload_n (pc := 0) C dX11_takesRow_0 rfl 0 rfl ?_
  refine j_aload_n (pc := 1) C dX11_takesRow_1 rfl 0 rfl ?_
  refine j_get (pc := 2) (ci := 11) (v := .ref mstates) C inw_11 0 rfl rfl 20 (by decide) wd_764 rfl rfl dX11_takesRow_2 ?_
  refine j_iload_n (pc := 5) C dX11_takesRow_5 rfl 1 rfl ?_
  obtain ⟨v_1, ev_1⟩ : ∃ z, m_states (p0).toInt.toNat = z := ⟨_, rfl⟩
  have env_1 : (m_states (p0).toInt.toNat).toInt = v_1.toInt := by rw [ev_1]
  have hv_1 : 0 ≤ v_1.toInt ∧ v_1.toInt ≤ 12 := by rw [← ev_1]; exact SV.siz h_m_states ha9 (by omega)
  refine j_iald (pc := 6) (v := v_1) (k := (p0).toInt.toNat) C 1 1 rfl rfl (i_nn (Int.le_trans (by decide) h_p0.1)) rfl (i_lt_n (Int.le_trans (by decide) h_p0.1) (Int.lt_of_le_of_lt h_p0.2 (by decide))) ev_1 dX11_takesRow_6 ?_
  refine j_put (pc := 7) (ci := 11) (v := .int v_1) (ws' := [(m0, .inr (11, [.int m_thrown, .ref mtape, .int m_taped, .int m_size, .ref msort, .ref mplace, .ref mvalue, .int m_at, .int m_fault, .ref mwords, .ref mtold, .ref mop, .ref marg, .int m_codes, .ref mnames, .ref mhasHabit, .int m_isNew, .ref mfactWords, .ref mfacts, .ref mpile, .ref mstates, .ref misMarked, .int m_inShelf, .int m_inStack, .int m_inPlace, .ref mrow, .int v_1, .ref mthr, .ref mmays, .ref mtall, .ref mweights, .ref mrowOfWare, .ref mneededOf, .int m_goShelf, .int m_goStack, .int m_goLeft, .ref mtried, .ref mbestRow, .int m_bestCost, .int m_bestMany, .int m_bestShelf, .int m_bestSet, .ref mdigits])), (mstates, .inl (cyI, 2760, .inl m_states)), (mrow, .inl (cyI, 12, .inl m_row))]) C inw_11 0 rfl rfl 26 (by decide) wd_779 rfl tyX11_ok nmX11 rfl (tyX11_ok 26 (by decide)) rfl rfl (Nat.le_of_ble_eq_true rfl) dX11_takesRow_7 rfl ?_
  refine j_iconst (pc := 10) (v := 0) C dX11_takesRow_10 (by decide) ?_
  refine j_istore_n (pc := 11) (lv' := [(2, .int 0), (0, .ref m0), (1, .int p0)]) C dX11_takesRow_11 rfl (by decide) rfl ?_
  have loop_2 : ∀ (k_2 : Nat) (x2_2 : Int32) (g2_mrow : Nat → Int32), (0 ≤ (x2_2).toInt ∧ (x2_2).toInt ≤ 12) → (Iv 12 (0) (11) g2_mrow) → (∀ p : Nat, (p : Int) < x2_2.toInt → g2_mrow p = m_states ((p0).toInt.toNat + 1 + p)) → (12 - x2_2.toInt).toNat < k_2 → J p l e ({ frames := 0, cells := 0, slots := 0, locals := 0 } : Room) s m args below meth c D A 3 0 0 (QX below D (TY cyC cyI cyJ cyZ cyO) A (fun u => none) (fun u => (0 ≤ (u.2.1 0).toInt ∧ (u.2.1 0).toInt ≤ 12) ∧ (Iv 12 (0) (11) (u.2.2.1 0)) ∧ ((u.2.1 0) = m_states (p0).toInt.toNat) ∧ (∀ p : Nat, (p : Int) < ((u.2.1 0)).toInt → (u.2.2.1 0) p = m_states ((p0).toInt.toNat + 1 + p))) (fun u => [(m0, .inr (11, [.int m_thrown, .ref mtape, .int m_taped, .int m_size, .ref msort, .ref mplace, .ref mvalue, .int m_at, .int m_fault, .ref mwords, .ref mtold, .ref mop, .ref marg, .int m_codes, .ref mnames, .ref mhasHabit, .int m_isNew, .ref mfactWords, .ref mfacts, .ref mpile, .ref mstates, .ref misMarked, .int m_inShelf, .int m_inStack, .int m_inPlace, .ref mrow, .int (u.2.1 0), .ref mthr, .ref mmays, .ref mtall, .ref mweights, .ref mrowOfWare, .ref mneededOf, .int m_goShelf, .int m_goStack, .int m_goLeft, .ref mtried, .ref mbestRow, .int m_bestCost, .int m_bestMany, .int m_bestShelf, .int m_bestSet, .ref mdigits])), (mstates, .inl (cyI, 2760, .inl m_states)), (mrow, .inl (cyI, 12, .inl (u.2.2.1 0)))]) args s 0 0) [(m0, .inr (11, [.int m_thrown, .ref mtape, .int m_taped, .int m_size, .ref msort, .ref mplace, .ref mvalue, .int m_at, .int m_fault, .ref mwords, .ref mtold, .ref mop, .ref marg, .int m_codes, .ref mnames, .ref mhasHabit, .int m_isNew, .ref mfactWords, .ref mfacts, .ref mpile, .ref mstates, .ref misMarked, .int m_inShelf, .int m_inStack, .int m_inPlace, .ref mrow, .int v_1, .ref mthr, .ref mmays, .ref mtall, .ref mweights, .ref mrowOfWare, .ref mneededOf, .int m_goShelf, .int m_goStack, .int m_goLeft, .ref mtried, .ref mbestRow, .int m_bestCost, .int m_bestMany, .int m_bestShelf, .int m_bestSet, .ref mdigits])), (mstates, .inl (cyI, 2760, .inl m_states)), (mrow, .inl (cyI, 12, .inl g2_mrow))] 12 [(2, .int x2_2), (0, .ref m0), (1, .int p0)] [] := by
    intro k_2
    induction k_2 with
    | zero =>
      intro x2_2 g2_mrow hi_2_0 hi_2_1 hq_2_0 hm_2
      exact absurd hm_2 (Nat.not_lt_zero _)
    | succ k_2 ih_2 =>
      intro x2_2 g2_mrow hi_2_0 hi_2_1 hq_2_0 hm_2
      refine j_iload_n (pc := 12) C dX11_takesRow_12 rfl 0 rfl ?_
      refine j_aload_n (pc := 13) C dX11_takesRow_13 rfl 1 rfl ?_
      refine j_get (pc := 14) (ci := 11) (v := .int v_1) C inw_11 0 rfl rfl 26 (by decide) wd_779 rfl rfl dX11_takesRow_14 ?_
      refine j_icmp_ge (pc := 17) (tgt := 42) C dX11_takesRow_17 (by decide) (fun c_3 => ?_) (fun c_3 => ?_)
      · skip
        rw [i_le] at c_3
        exact j_vret (pc := 42) C hr hk (fun i => [].getD i 0, fun i => [v_1].getD i 0, fun i => [g2_mrow].getD i (fun _ => 0), fun i => [].getD i (fun _ => 0)) rfl (show (0 ≤ (v_1).toInt ∧ (v_1).toInt ≤ 12) ∧ (Iv 12 (0) (11) g2_mrow) ∧ (v_1 = m_states (p0).toInt.toNat) ∧ (∀ p : Nat, (p : Int) < (v_1).toInt → g2_mrow p = m_states ((p0).toInt.toNat + 1 + p)) from ⟨by omega, hi_2_1, ev_1.symm, (fun p hp => hq_2_0 p (by omega))⟩) [0, 1, 2] (by decide) rfl (by decide) (by decide) dX11_takesRow_42
      · skip
        rw [i_le] at c_3
        refine j_aload_n (pc := 20) C dX11_takesRow_20 rfl 1 rfl ?_
        refine j_get (pc := 21) (ci := 11) (v := .ref mrow) C inw_11 0 rfl rfl 25 (by decide) wd_780 rfl rfl dX11_takesRow_21 ?_
        refine j_iload_n (pc := 24) C dX11_takesRow_24 rfl 0 rfl ?_
        refine j_aload_n (pc := 25) C dX11_takesRow_25 rfl 1 rfl ?_
        refine j_get (pc := 26) (ci := 11) (v := .ref mstates) C inw_11 0 rfl rfl 20 (by decide) wd_764 rfl rfl dX11_takesRow_26 ?_
        refine j_iload_n (pc := 29) C dX11_takesRow_29 rfl 2 rfl ?_
        refine j_iconst (pc := 30) (v := 1) C dX11_takesRow_30 (by decide) ?_
        obtain ⟨v_4, ev_4⟩ : ∃ z : Int32, p0 + 1 = z := ⟨_, rfl⟩
        have el_1 : (1 : Int32).toInt = 1 := rfl
        have hv_4 : v_4.toInt = p0.toInt + (1 : Int32).toInt := by rw [← ev_4]; exact fb_addI (by omega) (by omega)
        refine j_iadd (pc := 31) (v := v_4) C dX11_takesRow_31 ev_4 ?_
        refine j_iload_n (pc := 32) C dX11_takesRow_32 rfl 0 rfl ?_
        obtain ⟨v_5, ev_5⟩ : ∃ z : Int32, v_4 + x2_2 = z := ⟨_, rfl⟩
        have hv_5 : v_5.toInt = v_4.toInt + x2_2.toInt := by rw [← ev_5]; exact fb_addI (by omega) (by omega)
        refine j_iadd (pc := 33) (v := v_5) C dX11_takesRow_33 ev_5 ?_
        obtain ⟨v_6, ev_6⟩ : ∃ z, m_states (v_5).toInt.toNat = z := ⟨_, rfl⟩
        have env_6 : (m_states (v_5).toInt.toNat).toInt = v_6.toInt := by rw [ev_6]
        have hv_6 : 0 ≤ v_6.toInt ∧ v_6.toInt ≤ 11 := by rw [← ev_6]; exact SV.war h_m_states ha9 (by omega) (by omega)
        refine j_iald (pc := 34) (v := v_6) (k := (v_5).toInt.toNat) C 1 1 rfl rfl (i_nn (by omega)) rfl (i_lt_n (by omega) (by omega)) ev_6 dX11_takesRow_34 ?_
        obtain ⟨f_7, ef_7⟩ : ∃ z, z = upd g2_mrow (x2_2).toInt.toNat v_6 := ⟨_, rfl⟩
        have hf_7 : Iv 12 (0) (11) f_7 := by rw [ef_7]; exact Iv.upd hi_2_1 (by omega) (by omega)
        refine j_iast (pc := 35) (k := (x2_2).toInt.toNat) (ws' := [(m0, .inr (11, [.int m_thrown, .ref mtape, .int m_taped, .int m_size, .ref msort, .ref mplace, .ref mvalue, .int m_at, .int m_fault, .ref mwords, .ref mtold, .ref mop, .ref marg, .int m_codes, .ref mnames, .ref mhasHabit, .int m_isNew, .ref mfactWords, .ref mfacts, .ref mpile, .ref mstates, .ref misMarked, .int m_inShelf, .int m_inStack, .int m_inPlace, .ref mrow, .int v_1, .ref mthr, .ref mmays, .ref mtall, .ref mweights, .ref mrowOfWare, .ref mneededOf, .int m_goShelf, .int m_goStack, .int m_goLeft, .ref mtried, .ref mbestRow, .int m_bestCost, .int m_bestMany, .int m_bestShelf, .int m_bestSet, .ref mdigits])), (mstates, .inl (cyI, 2760, .inl m_states)), (mrow, .inl (cyI, 12, .inl f_7))]) C 2 1 rfl rfl (i_nn hi_2_0.1) rfl (i_lt_n hi_2_0.1 (by omega)) dX11_takesRow_35 (by rw [ef_7]; rfl) ?_
        obtain ⟨v_8, ev_8⟩ : ∃ z : Int32, x2_2 + 1 = z := ⟨_, rfl⟩
        have el_1 : (1 : Int32).toInt = 1 := rfl
        have hv_8 : v_8.toInt = x2_2.toInt + (1 : Int32).toInt := by rw [← ev_8]; exact fb_addI (by omega) (by omega)
        refine j_iinc (pc := 36) (v := v_8) (lv' := [(2, .int v_8), (0, .ref m0), (1, .int p0)]) C dX11_takesRow_36 0 rfl ev_8 (by decide) rfl ?_
        refine j_goto (pc := 39) (tgt := 12) C dX11_takesRow_39 (by decide) ?_
        exact j_lv [0, 1, 2] rfl (ih_2 v_8 f_7 (by omega) hf_7 (fun p hp => by rcases Int.lt_or_le (p : Int) (x2_2).toInt with q | q; (rw [ef_7, pk_un (show ¬ p = (x2_2).toInt.toNat from (by omega))]; exact hq_2_0 p q); (have ep : p = (x2_2).toInt.toNat := (by omega); rw [ef_7, ep, pk_us, ← ev_6]; rw [show (p0).toInt.toNat + 1 + (x2_2).toInt.toNat = (v_5).toInt.toNat from (by omega)])) (by omega))
  have el_0 : (0 : Int32).toInt = 0 := rfl
  exact j_lv [0, 1, 2] rfl (loop_2 4096 0 m_row (by decide) h_m_row (fun p h0 => absurd h0 (by omega)) (by omega))
set_option maxHeartbeats 4000000 in
set_option maxRecDepth 100000 in
theorem c_X11_laysRow (l : Launch) (D : DG) (cyC cyI cyJ cyZ cyO : ClassId) (m0 : Nat) (mstates : Nat) (mrow : Nat) (mtape : Nat) (msort : Nat) (mplace : Nat) (mvalue : Nat) (mwords : Nat) (mtold : Nat) (mop : Nat) (marg : Nat) (mnames : Nat) (mhasHabit : Nat) (mfactWords : Nat) (mfacts : Nat) (mpile : Nat) (misMarked : Nat) (mthr : Nat) (mmays : Nat) (mtall : Nat) (mweights : Nat) (mrowOfWare : Nat) (mneededOf : Nat) (mtried : Nat) (mbestRow : Nat) (mdigits : Nat) (p0 : Int32) (m_thrown : Int32) (m_taped : Int32) (m_size : Int32) (m_at : Int32) (m_fault : Int32) (m_codes : Int32) (m_isNew : Int32) (m_inShelf : Int32) (m_inStack : Int32) (m_inPlace : Int32) (m_rowMany : Int32) (m_goShelf : Int32) (m_goStack : Int32) (m_goLeft : Int32) (m_bestCost : Int32) (m_bestMany : Int32) (m_bestShelf : Int32) (m_bestSet : Int32) (m_states : Nat → Int32) (m_row : Nat → Int32) (h_m_taped : 0 ≤ (m_taped).toInt ∧ (m_taped).toInt ≤ 1000) (h_m_size : 0 ≤ (m_size).toInt ∧ (m_size).toInt ≤ 1000) (h_m_at : 0 ≤ (m_at).toInt ∧ (m_at).toInt ≤ 1000) (h_m_fault : 0 ≤ (m_fault).toInt ∧ (m_fault).toInt ≤ 16005) (h_m_codes : 0 ≤ (m_codes).toInt ∧ (m_codes).toInt ≤ 1000) (h_m_isNew : 0 ≤ (m_isNew).toInt ∧ (m_isNew).toInt ≤ 1) (h_m_inShelf : 0 ≤ (m_inShelf).toInt ∧ (m_inShelf).toInt ≤ 3) (h_m_inStack : 0 ≤ (m_inStack).toInt ∧ (m_inStack).toInt ≤ 7) (h_m_inPlace : 0 ≤ (m_inPlace).toInt ∧ (m_inPlace).toInt ≤ 11) (h_m_rowMany : 0 ≤ (m_rowMany).toInt ∧ (m_rowMany).toInt ≤ 12) (h_m_goShelf : -1 ≤ (m_goShelf).toInt ∧ (m_goShelf).toInt ≤ 3) (h_m_bestMany : 0 ≤ (m_bestMany).toInt ∧ (m_bestMany).toInt ≤ 7) (h_m_bestShelf : 0 ≤ (m_bestShelf).toInt ∧ (m_bestShelf).toInt ≤ 3) (h_p0 : 1 ≤ (p0).toInt ∧ (p0).toInt ≤ 2707) (h_m_row : Iv 12 (0) (11) m_row) (h_m_states : SV m_states) (ha9 : AD (p0).toInt) : KK l D (TY cyC cyI cyJ cyZ cyO) yX11_laysRow cX11_laysRow 3 none ({ frames := 0, cells := 0, slots := 0, locals := 0 } : Room) 0 0 [.ref m0, .int p0] [(m0, .inr (11, [.int m_thrown, .ref mtape, .int m_taped, .int m_size, .ref msort, .ref mplace, .ref mvalue, .int m_at, .int m_fault, .ref mwords, .ref mtold, .ref mop, .ref marg, .int m_codes, .ref mnames, .ref mhasHabit, .int m_isNew, .ref mfactWords, .ref mfacts, .ref mpile, .ref mstates, .ref misMarked, .int m_inShelf, .int m_inStack, .int m_inPlace, .ref mrow, .int m_rowMany, .ref mthr, .ref mmays, .ref mtall, .ref mweights, .ref mrowOfWare, .ref mneededOf, .int m_goShelf, .int m_goStack, .int m_goLeft, .ref mtried, .ref mbestRow, .int m_bestCost, .int m_bestMany, .int m_bestShelf, .int m_bestSet, .ref mdigits])), (mstates, .inl (cyI, 2760, .inl m_states)), (mrow, .inl (cyI, 12, .inl m_row))] (fun u => none) (fun u => (SV (u.2.2.1 0)) ∧ (∀ j : Nat, ((j : Int) < (p0).toInt ∨ (p0).toInt + (m_rowMany).toInt < (j : Int)) → (u.2.2.1 0) j = m_states j) ∧ ((u.2.2.1 0) (p0).toInt.toNat = m_rowMany) ∧ (∀ p : Nat, (p : Int) < (m_rowMany).toInt → (u.2.2.1 0) ((p0).toInt.toNat + 1 + p) = m_row p)) (fun u => [(m0, .inr (11, [.int m_thrown, .ref mtape, .int m_taped, .int m_size, .ref msort, .ref mplace, .ref mvalue, .int m_at, .int m_fault, .ref mwords, .ref mtold, .ref mop, .ref marg, .int m_codes, .ref mnames, .ref mhasHabit, .int m_isNew, .ref mfactWords, .ref mfacts, .ref mpile, .ref mstates, .ref misMarked, .int m_inShelf, .int m_inStack, .int m_inPlace, .ref mrow, .int m_rowMany, .ref mthr, .ref mmays, .ref mtall, .ref mweights, .ref mrowOfWare, .ref mneededOf, .int m_goShelf, .int m_goStack, .int m_goLeft, .ref mtried, .ref mbestRow, .int m_bestCost, .int m_bestMany, .int m_bestShelf, .int m_bestSet, .ref mdigits])), (mstates, .inl (cyI, 2760, .inl (u.2.2.1 0))), (mrow, .inl (cyI, 12, .inl m_row))]) := by
  refine KK.of (lv0 := [(0, .ref m0), (1, .int p0)]) (by decide) rfl (Nat.le_of_ble_eq_true rfl) ?_
  intro p e s m args below meth c A C hr hk hin
  have hb9 := ha9.bd
  refine j_aload_n (pc := 0) C dX11_laysRow_0 rfl 0 rfl ?_
  refine j_get (pc := 1) (ci := 11) (v := .ref mstates) C inw_11 0 rfl rfl 20 (by decide) wd_764 rfl rfl dX11_laysRow_1 ?_
  refine j_iload_n (pc := 4) C dX11_laysRow_4 rfl 1 rfl ?_
  refine j_aload_n (pc := 5) C dX11_laysRow_5 rfl 0 rfl ?_
  refine j_get (pc := 6) (ci := 11) (v := .int m_rowMany) C inw_11 0 rfl rfl 26 (by decide) wd_779 rfl rfl dX11_laysRow_6 ?_
  obtain ⟨f_1, ef_1⟩ : ∃ z, z = upd m_states (p0).toInt.toNat m_rowMany := ⟨_, rfl⟩
  have hf_1 : SV f_1 := by rw [ef_1]; exact SV.usiz h_m_states ha9 (by omega) (by omega)
  refine j_iast (pc := 9) (k := (p0).toInt.toNat) (ws' := [(m0, .inr (11, [.int m_thrown, .ref mtape, .int m_taped, .int m_size, .ref msort, .ref mplace, .ref mvalue, .int m_at, .int m_fault, .ref mwords, .ref mtold, .ref mop, .ref marg, .int m_codes, .ref mnames, .ref mhasHabit, .int m_isNew, .ref mfactWords, .ref mfacts, .ref mpile, .ref mstates, .ref misMarked, .int m_inShelf, .int m_inStack, .int m_inPlace, .ref mrow, .int m_rowMany, .ref mthr, .ref mmays, .ref mtall, .ref mweights, .ref mrowOfWare, .ref mneededOf, .int m_goShelf, .int m_goStack, .int m_goLeft, .ref mtried, .ref mbestRow, .int m_bestCost, .int m_bestMany, .int m_bestShelf, .int m_bestSet, .ref mdigits])), (mstates, .inl (cyI, 2760, .inl f_1)), (mrow, .inl (cyI, 12, .inl m_row))]) C 1 1 rfl rfl (i_nn (Int.le_trans (by decide) h_p0.1)) rfl (i_lt_n (Int.le_trans (by decide) h_p0.1) (Int.lt_of_le_of_lt h_p0.2 (by decide))) dX11_laysRow_9 (by rw [ef_1]; rfl) ?_
  refine j_iconst (pc := 10) (v := 0) C dX11_laysRow_10 (by decide) ?_
  refine j_istore_n (pc := 11) (lv' := [(2, .int 0), (0, .ref m0), (1, .int p0)]) C dX11_laysRow_11 rfl (by decide) rfl ?_
  have loop_2 : ∀ (k_2 : Nat) (x2_2 : Int32) (g2_mstates : Nat → Int32), (0 ≤ (x2_2).toInt ∧ (x2_2).toInt ≤ 12) → (SV g2_mstates) → (x2_2.toInt ≤ (m_rowMany).toInt) → (∀ j : Nat, ((j : Int) < (p0).toInt ∨ (p0).toInt + x2_2.toInt < (j : Int)) → g2_mstates j = m_states j) → (g2_mstates (p0).toInt.toNat = m_rowMany) → (∀ p : Nat, (p : Int) < x2_2.toInt → g2_mstates ((p0).toInt.toNat + 1 + p) = m_row p) → (12 - x2_2.toInt).toNat < k_2 → J p l e ({ frames := 0, cells := 0, slots := 0, locals := 0 } : Room) s m args below meth c D A 3 0 0 (QX below D (TY cyC cyI cyJ cyZ cyO) A (fun u => none) (fun u => (SV (u.2.2.1 0)) ∧ (∀ j : Nat, ((j : Int) < (p0).toInt ∨ (p0).toInt + (m_rowMany).toInt < (j : Int)) → (u.2.2.1 0) j = m_states j) ∧ ((u.2.2.1 0) (p0).toInt.toNat = m_rowMany) ∧ (∀ p : Nat, (p : Int) < (m_rowMany).toInt → (u.2.2.1 0) ((p0).toInt.toNat + 1 + p) = m_row p)) (fun u => [(m0, .inr (11, [.int m_thrown, .ref mtape, .int m_taped, .int m_size, .ref msort, .ref mplace, .ref mvalue, .int m_at, .int m_fault, .ref mwords, .ref mtold, .ref mop, .ref marg, .int m_codes, .ref mnames, .ref mhasHabit, .int m_isNew, .ref mfactWords, .ref mfacts, .ref mpile, .ref mstates, .ref misMarked, .int m_inShelf, .int m_inStack, .int m_inPlace, .ref mrow, .int m_rowMany, .ref mthr, .ref mmays, .ref mtall, .ref mweights, .ref mrowOfWare, .ref mneededOf, .int m_goShelf, .int m_goStack, .int m_goLeft, .ref mtried, .ref mbestRow, .int m_bestCost, .int m_bestMany, .int m_bestShelf, .int m_bestSet, .ref mdigits])), (mstates, .inl (cyI, 2760, .inl (u.2.2.1 0))), (mrow, .inl (cyI, 12, .inl m_row))]) args s 0 0) [(m0, .inr (11, [.int m_thrown, .ref mtape, .int m_taped, .int m_size, .ref msort, .ref mplace, .ref mvalue, .int m_at, .int m_fault, .ref mwords, .ref mtold, .ref mop, .ref marg, .int m_codes, .ref mnames, .ref mhasHabit, .int m_isNew, .ref mfactWords, .ref mfacts, .ref mpile, .ref mstates, .ref misMarked, .int m_inShelf, .int m_inStack, .int m_inPlace, .ref mrow, .int m_rowMany, .ref mthr, .ref mmays, .ref mtall, .ref mweights, .ref mrowOfWare, .ref mneededOf, .int m_goShelf, .int m_goStack, .int m_goLeft, .ref mtried, .ref mbestRow, .int m_bestCost, .int m_bestMany, .int m_bestShelf, .int m_bestSet, .ref mdigits])), (mstates, .inl (cyI, 2760, .inl g2_mstates)), (mrow, .inl (cyI, 12, .inl m_row))] 12 [(2, .int x2_2), (0, .ref m0), (1, .int p0)] [] := by
    intro k_2
    induction k_2 with
    | zero =>
      intro x2_2 g2_mstates hi_2_0 hi_2_1 hr_2 hq_2_0 hq_2_1 hq_2_2 hm_2
      exact absurd hm_2 (Nat.not_lt_zero _)
    | succ k_2 ih_2 =>
      intro x2_2 g2_mstates hi_2_0 hi_2_1 hr_2 hq_2_0 hq_2_1 hq_2_2 hm_2
      refine j_iload_n (pc := 12) C dX11_laysRow_12 rfl 0 rfl ?_
      refine j_aload_n (pc := 13) C dX11_laysRow_13 rfl 1 rfl ?_
      refine j_get (pc := 14) (ci := 11) (v := .int m_rowMany) C inw_11 0 rfl rfl 26 (by decide) wd_779 rfl rfl dX11_laysRow_14 ?_
      refine j_icmp_ge (pc := 17) (tgt := 42) C dX11_laysRow_17 (by decide) (fun c_3 => ?_) (fun c_3 => ?_)
      · skip
        rw [i_le] at c_3
        exact j_vret (pc := 42) C hr hk (fun i => [].getD i 0, fun i => [].getD i 0, fun i => [g2_mstates].getD i (fun _ => 0), fun i => [].getD i (fun _ => 0)) rfl (show (SV g2_mstates) ∧ (∀ j : Nat, ((j : Int) < (p0).toInt ∨ (p0).toInt + (m_rowMany).toInt < (j : Int)) → g2_mstates j = m_states j) ∧ (g2_mstates (p0).toInt.toNat = m_rowMany) ∧ (∀ p : Nat, (p : Int) < (m_rowMany).toInt → g2_mstates ((p0).toInt.toNat + 1 + p) = m_row p) from ⟨hi_2_1, (fun j hj => hq_2_0 j (by omega)), hq_2_1, (fun p hp => hq_2_2 p (by omega))⟩) [0, 1, 2] (by decide) rfl (by decide) (by decide) dX11_laysRow_42
      · skip
        rw [i_le] at c_3
        refine j_aload_n (pc := 20) C dX11_laysRow_20 rfl 1 rfl ?_
        refine j_get (pc := 21) (ci := 11) (v := .ref mstates) C inw_11 0 rfl rfl 20 (by decide) wd_764 rfl rfl dX11_laysRow_21 ?_
        refine j_iload_n (pc := 24) C dX11_laysRow_24 rfl 2 rfl ?_
        refine j_iconst (pc := 25) (v := 1) C dX11_laysRow_25 (by decide) ?_
        obtain ⟨v_4, ev_4⟩ : ∃ z : Int32, p0 + 1 = z := ⟨_, rfl⟩
        have el_1 : (1 : Int32).toInt = 1 := rfl
        have hv_4 : v_4.toInt = p0.toInt + (1 : Int32).toInt := by rw [← ev_4]; exact fb_addI (by omega) (by omega)
        refine j_iadd (pc := 26) (v := v_4) C dX11_laysRow_26 ev_4 ?_
        refine j_iload_n (pc := 27) C dX11_laysRow_27 rfl 0 rfl ?_
        obtain ⟨v_5, ev_5⟩ : ∃ z : Int32, v_4 + x2_2 = z := ⟨_, rfl⟩
        have hv_5 : v_5.toInt = v_4.toInt + x2_2.toInt := by rw [← ev_5]; exact fb_addI (by omega) (by omega)
        refine j_iadd (pc := 28) (v := v_5) C dX11_laysRow_28 ev_5 ?_
        refine j_aload_n (pc := 29) C dX11_laysRow_29 rfl 1 rfl ?_
        refine j_get (pc := 30) (ci := 11) (v := .ref mrow) C inw_11 0 rfl rfl 25 (by decide) wd_780 rfl rfl dX11_laysRow_30 ?_
        refine j_iload_n (pc := 33) C dX11_laysRow_33 rfl 0 rfl ?_
        obtain ⟨v_6, ev_6⟩ : ∃ z, m_row (x2_2).toInt.toNat = z := ⟨_, rfl⟩
        have env_6 : (m_row (x2_2).toInt.toNat).toInt = v_6.toInt := by rw [ev_6]
        have hv_6 := h_m_row (x2_2).toInt.toNat (i_lt_n hi_2_0.1 (by omega)); rw [ev_6] at hv_6
        refine j_iald (pc := 34) (v := v_6) (k := (x2_2).toInt.toNat) C 2 1 rfl rfl (i_nn hi_2_0.1) rfl (i_lt_n hi_2_0.1 (by omega)) ev_6 dX11_laysRow_34 ?_
        obtain ⟨f_7, ef_7⟩ : ∃ z, z = upd g2_mstates (v_5).toInt.toNat v_6 := ⟨_, rfl⟩
        have hf_7 : SV f_7 := by rw [ef_7]; exact SV.uwar hi_2_1 ha9 (by omega) (by omega) (by omega)
        refine j_iast (pc := 35) (k := (v_5).toInt.toNat) (ws' := [(m0, .inr (11, [.int m_thrown, .ref mtape, .int m_taped, .int m_size, .ref msort, .ref mplace, .ref mvalue, .int m_at, .int m_fault, .ref mwords, .ref mtold, .ref mop, .ref marg, .int m_codes, .ref mnames, .ref mhasHabit, .int m_isNew, .ref mfactWords, .ref mfacts, .ref mpile, .ref mstates, .ref misMarked, .int m_inShelf, .int m_inStack, .int m_inPlace, .ref mrow, .int m_rowMany, .ref mthr, .ref mmays, .ref mtall, .ref mweights, .ref mrowOfWare, .ref mneededOf, .int m_goShelf, .int m_goStack, .int m_goLeft, .ref mtried, .ref mbestRow, .int m_bestCost, .int m_bestMany, .int m_bestShelf, .int m_bestSet, .ref mdigits])), (mstates, .inl (cyI, 2760, .inl f_7)), (mrow, .inl (cyI, 12, .inl m_row))]) C 1 1 rfl rfl (i_nn (by omega)) rfl (i_lt_n (by omega) (by omega)) dX11_laysRow_35 (by rw [ef_7]; rfl) ?_
        obtain ⟨v_8, ev_8⟩ : ∃ z : Int32, x2_2 + 1 = z := ⟨_, rfl⟩
        have el_1 : (1 : Int32).toInt = 1 := rfl
        have hv_8 : v_8.toInt = x2_2.toInt + (1 : Int32).toInt := by rw [← ev_8]; exact fb_addI (by omega) (by omega)
        refine j_iinc (pc := 36) (v := v_8) (lv' := [(2, .int v_8), (0, .ref m0), (1, .int p0)]) C dX11_laysRow_36 0 rfl ev_8 (by decide) rfl ?_
        refine j_goto (pc := 39) (tgt := 12) C dX11_laysRow_39 (by decide) ?_
        exact j_lv [0, 1, 2] rfl (ih_2 v_8 f_7 (by omega) hf_7 (by omega) (fun j hj => by rw [ef_7, pk_un (show ¬ j = (v_5).toInt.toNat from (by omega))]; exact hq_2_0 j (by omega)) (by rw [ef_7, pk_un (show ¬ (p0).toInt.toNat = (v_5).toInt.toNat from (by omega))]; exact hq_2_1) (fun p hp => by rcases Int.lt_or_le (p : Int) (x2_2).toInt with q | q; (rw [ef_7, pk_un (show ¬ (p0).toInt.toNat + 1 + p = (v_5).toInt.toNat from (by omega))]; exact hq_2_2 p q); (have ep : p = (x2_2).toInt.toNat := (by omega); rw [ef_7, show (p0).toInt.toNat + 1 + p = (v_5).toInt.toNat from (by omega), pk_us, ep]; exact ev_6.symm)) (by omega))
  have el_0 : (0 : Int32).toInt = 0 := rfl
  exact j_lv [0, 1, 2] rfl (loop_2 4096 0 f_1 (by decide) hf_1 (by omega) (fun j hj => by rw [ef_1, pk_un (show ¬ j = (p0).toInt.toNat from (by omega))]) (by rw [ef_1, pk_us]) (fun p h0 => absurd h0 (by omega)) (by omega))
