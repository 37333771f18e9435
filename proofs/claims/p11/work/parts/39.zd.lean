theorem wd_764 : Cond.fieldLink RX11 108 "BowlShelfModel" "states" "[I" ∈ WALL := wl_in (by decide +kernel) (by decide +kernel)
theorem wd_765 : Cond.code yX11_isShelf cX11_isShelf 2 (some .boolean) ∈ WALL := wl_in (by decide +kernel) (by decide +kernel)
theorem wd_766 : Cond.methodLink RX11 288 yX11_isShelf ∈ WALL := wl_in (by decide +kernel) (by decide +kernel)
theorem wd_767 : Cond.instanceMethod yX11_isShelf ∈ WALL := wl_in (by decide +kernel) (by decide +kernel)
theorem wd_768 : Cond.selects RX11 yX11_isShelf yX11_isShelf ∈ WALL := wl_in (by decide +kernel) (by decide +kernel)
theorem wd_769 : Cond.code yX11_stacks cX11_stacks 3 (some .int) ∈ WALL := wl_in (by decide +kernel) (by decide +kernel)
theorem wd_770 : Cond.methodLink RX11 291 yX11_stacks ∈ WALL := wl_in (by decide +kernel) (by decide +kernel)
theorem wd_771 : Cond.instanceMethod yX11_stacks ∈ WALL := wl_in (by decide +kernel) (by decide +kernel)
theorem wd_772 : Cond.selects RX11 yX11_stacks yX11_stacks ∈ WALL := wl_in (by decide +kernel) (by decide +kernel)
theorem dX11_stacks_0 : decode cX11_stacks 0 = .ok (.aload_n 0, 1) := by decide +kernel
theorem dX11_stacks_1 : decode cX11_stacks 1 = .ok (.getfield 108, 3) := by decide +kernel
theorem dX11_stacks_4 : decode cX11_stacks 4 = .ok (.iload_n 1, 1) := by decide +kernel
theorem dX11_stacks_5 : decode cX11_stacks 5 = .ok (.bipush 105, 2) := by decide +kernel
theorem dX11_stacks_7 : decode cX11_stacks 7 = .ok (.iload_n 2, 1) := by decide +kernel
theorem dX11_stacks_8 : decode cX11_stacks 8 = .ok (.imul, 1) := by decide +kernel
theorem dX11_stacks_9 : decode cX11_stacks 9 = .ok (.iadd, 1) := by decide +kernel
theorem dX11_stacks_10 : decode cX11_stacks 10 = .ok (.iaload, 1) := by decide +kernel
theorem dX11_stacks_11 : decode cX11_stacks 11 = .ok (.ireturn, 1) := by decide +kernel
theorem dX11_stackAt_0 : decode cX11_stackAt 0 = .ok (.iload_n 0, 1) := by decide +kernel
theorem dX11_stackAt_1 : decode cX11_stackAt 1 = .ok (.bipush 105, 2) := by decide +kernel
theorem dX11_stackAt_3 : decode cX11_stackAt 3 = .ok (.iload_n 1, 1) := by decide +kernel
theorem dX11_stackAt_4 : decode cX11_stackAt 4 = .ok (.imul, 1) := by decide +kernel
theorem dX11_stackAt_5 : decode cX11_stackAt 5 = .ok (.iadd, 1) := by decide +kernel
theorem dX11_stackAt_6 : decode cX11_stackAt 6 = .ok (.iconst 1, 1) := by decide +kernel
theorem dX11_stackAt_7 : decode cX11_stackAt 7 = .ok (.iadd, 1) := by decide +kernel
theorem dX11_stackAt_8 : decode cX11_stackAt 8 = .ok (.bipush 13, 2) := by decide +kernel
theorem dX11_stackAt_10 : decode cX11_stackAt 10 = .ok (.iload_n 2, 1) := by decide +kernel
theorem dX11_stackAt_11 : decode cX11_stackAt 11 = .ok (.imul, 1) := by decide +kernel
theorem dX11_stackAt_12 : decode cX11_stackAt 12 = .ok (.iadd, 1) := by decide +kernel
theorem dX11_stackAt_13 : decode cX11_stackAt 13 = .ok (.ireturn, 1) := by decide +kernel
theorem dX11_isStack_0 : decode cX11_isStack 0 = .ok (.aload_n 0, 1) := by decide +kernel
theorem dX11_isStack_1 : decode cX11_isStack 1 = .ok (.iload_n 2, 1) := by decide +kernel
theorem dX11_isStack_2 : decode cX11_isStack 2 = .ok (.invokevirtual 288, 3) := by decide +kernel
theorem dX11_isStack_5 : decode cX11_isStack 5 = .ok (.ifCond .eq 21, 3) := by decide +kernel
theorem dX11_isStack_8 : decode cX11_isStack 8 = .ok (.iload_n 3, 1) := by decide +kernel
theorem dX11_isStack_9 : decode cX11_isStack 9 = .ok (.ifCond .lt 17, 3) := by decide +kernel
theorem dX11_isStack_12 : decode cX11_isStack 12 = .ok (.iload_n 3, 1) := by decide +kernel
theorem dX11_isStack_13 : decode cX11_isStack 13 = .ok (.aload_n 0, 1) := by decide +kernel
theorem dX11_isStack_14 : decode cX11_isStack 14 = .ok (.iload_n 1, 1) := by decide +kernel
theorem dX11_isStack_15 : decode cX11_isStack 15 = .ok (.iload_n 2, 1) := by decide +kernel
theorem dX11_isStack_16 : decode cX11_isStack 16 = .ok (.invokevirtual 291, 3) := by decide +kernel
theorem dX11_isStack_19 : decode cX11_isStack 19 = .ok (.if_icmp .ge 7, 3) := by decide +kernel
theorem dX11_isStack_22 : decode cX11_isStack 22 = .ok (.iconst 1, 1) := by decide +kernel
theorem dX11_isStack_23 : decode cX11_isStack 23 = .ok (.goto 4, 3) := by decide +kernel
theorem dX11_isStack_26 : decode cX11_isStack 26 = .ok (.iconst 0, 1) := by decide +kernel
theorem dX11_isStack_27 : decode cX11_isStack 27 = .ok (.ireturn, 1) := by decide +kernel
/-- a ware isn't on a shelf; on none of the first n -/
def NIs (f : Nat → Int32) (b : Nat) (w : Int32) (s : Nat) : Prop := ∀ t p : Nat, t < 8 → (t : Int) < (f (460 * b + 105 * s)).toInt → (p : Int) < (f (460 * b + 105 * s + 1 + 13 * t)).toInt → f (460 * b + 105 * s + 1 + 13 * t + 1 + p) ≠ w
def NI (f : Nat → Int32) (b : Nat) (w : Int32) (n : Int) : Prop := ∀ s : Nat, (s : Int) < n → NIs f b w s
set_option maxHeartbeats 4000000 in
set_option maxRecDepth 100000 in
theorem c_X11_stacks_0 (l : Launch) (D : DG) (cyC cyI cyJ cyZ cyO : ClassId) (m0 : Nat) (mstates : Nat) (mtape : Nat) (msort : Nat) (mplace : Nat) (mvalue : Nat) (mwords : Nat) (mtold : Nat) (mop : Nat) (marg : Nat) (mnames : Nat) (mhasHabit : Nat) (mfactWords : Nat) (mfacts : Nat) (mpile : Nat) (misMarked : Nat) (mrow : Nat) (mthr : Nat) (mmays : Nat) (mtall : Nat) (mweights : Nat) (mrowOfWare : Nat) (mneededOf : Nat) (mtried : Nat) (mbestRow : Nat) (mdigits : Nat) (p1 : Int32) (m_thrown : Int32) (m_taped : Int32) (m_size : Int32) (m_at : Int32) (m_fault : Int32) (m_codes : Int32) (m_isNew : Int32) (m_inShelf : Int32) (m_inStack : Int32) (m_inPlace : Int32) (m_rowMany : Int32) (m_goShelf : Int32) (m_goStack : Int32) (m_goLeft : Int32) (m_bestCost : Int32) (m_bestMany : Int32) (m_bestShelf : Int32) (m_bestSet : Int32) (m_states : Nat → Int32) (h_m_taped : 0 ≤ (m_taped).toInt ∧ (m_taped).toInt ≤ 1000) (h_m_size : 0 ≤ (m_size).toInt ∧ (m_size).toInt ≤ 1000) (h_m_at : 0 ≤ (m_at).toInt ∧ (m_at).toInt ≤ 1000) (h_m_fault : 0 ≤ (m_fault).toInt ∧ (m_fault).toInt ≤ 16005) (h_m_codes : 0 ≤ (m_codes).toInt ∧ (m_codes).toInt ≤ 1000) (h_m_isNew : 0 ≤ (m_isNew).toInt ∧ (m_isNew).toInt ≤ 1) (h_m_inShelf : 0 ≤ (m_inShelf).toInt ∧ (m_inShelf).toInt ≤ 3) (h_m_inStack : 0 ≤ (m_inStack).toInt ∧ (m_inStack).toInt ≤ 7) (h_m_inPlace : 0 ≤ (m_inPlace).toInt ∧ (m_inPlace).toInt ≤ 11) (h_m_rowMany : 0 ≤ (m_rowMany).toInt ∧ (m_rowMany).toInt ≤ 12) (h_m_goShelf : -1 ≤ (m_goShelf).toInt ∧ (m_goShelf).toInt ≤ 3) (h_m_bestMany : 0 ≤ (m_bestMany).toInt ∧ (m_bestMany).toInt ≤ 7) (h_m_bestShelf : 0 ≤ (m_bestShelf).toInt ∧ (m_bestShelf).toInt ≤ 3) (h_p1 : 0 ≤ (p1).toInt ∧ (p1).toInt ≤ 3) (h_m_states : SV m_states) : KK l D (TY cyC cyI cyJ cyZ cyO) yX11_stacks cX11_stacks 3 (some .int) ({ frames := 0, cells := 0, slots := 0, locals := 0 } : Room) 0 0 [.ref m0, .int 0, .int p1] [(m0, .inr (11, [.int m_thrown, .ref mtape, .int m_taped, .int m_size, .ref msort, .ref mplace, .ref mvalue, .int m_at, .int m_fault, .ref mwords, .ref mtold, .ref mop, .ref marg, .int m_codes, .ref mnames, .ref mhasHabit, .int m_isNew, .ref mfactWords, .ref mfacts, .ref mpile, .ref mstates, .ref misMarked, .int m_inShelf, .int m_inStack, .int m_inPlace, .ref mrow, .int m_rowMany, .ref mthr, .ref mmays, .ref mtall, .ref mweights, .ref mrowOfWare, .ref mneededOf, .int m_goShelf, .int m_goStack, .int m_goLeft, .ref mtried, .ref mbestRow, .int m_bestCost, .int m_bestMany, .int m_bestShelf, .int m_bestSet, .ref mdigits])), (mstates, .inl (cyI, 2760, .inl m_states))] (fun u => some (.int (u.2.1 0))) (fun u => (0 ≤ (u.2.1 0).toInt ∧ (u.2.1 0).toInt ≤ 8) ∧ ((u.2.1 0) = m_states (0 + 105 * (p1).toInt.toNat))) (fun u => [(m0, .inr (11, [.int m_thrown, .ref mtape, .int m_taped, .int m_size, .ref msort, .ref mplace, .ref mvalue, .int m_at, .int m_fault, .ref mwords, .ref mtold, .ref mop, .ref marg, .int m_codes, .ref mnames, .ref mhasHabit, .int m_isNew, .ref mfactWords, .ref mfacts, .ref mpile, .ref mstates, .ref misMarked, .int m_inShelf, .int m_inStack, .int m_inPlace, .ref mrow, .int m_rowMany, .ref mthr, .ref mmays, .ref mtall, .ref mweights, .ref mrowOfWare, .ref mneededOf, .int m_goShelf, .int m_goStack, .int m_goLeft, .ref mtried, .ref mbestRow, .int m_bestCost, .int m_bestMany, .int m_bestShelf, .int m_bestSet, .ref mdigits])), (mstates, .inl (cyI, 2760, .inl m_states))]) := by
  refine KK.of (lv0 := [(0, .ref m0), (1, .int 0), (2, .int p1)]) (by decide) rfl (Nat.le_of_ble_eq_true rfl) ?_
  intro p e s m args below meth c A C hr hk hin
  refine j_aload_n (pc := 0) C dX11_stacks_0 rfl 0 rfl ?_
  refine j_get (pc := 1) (ci := 11) (v := .ref mstates) C inw_11 0 rfl rfl 20 (by decide) wd_764 rfl rfl dX11_stacks_1 ?_
  refine j_iload_n (pc := 4) C dX11_stacks_4 rfl 1 rfl ?_
  refine j_bipush (pc := 5) (v := 105) C dX11_stacks_5 (by decide) ?_
  refine j_iload_n (pc := 7) C dX11_stacks_7 rfl 2 rfl ?_
  obtain ⟨v_1, ev_1⟩ : ∃ z : Int32, 105 * p1 = z := ⟨_, rfl⟩
  have el_105 : (105 : Int32).toInt = 105 := rfl
  have hv_1 : v_1.toInt = 105 * p1.toInt := by rw [← ev_1]; exact mulL (c := 105) rfl (by omega) (by omega)
  refine j_imul (pc := 8) (v := v_1) C dX11_stacks_8 ev_1 ?_
  obtain ⟨v_2, ev_2⟩ : ∃ z : Int32, 0 + v_1 = z := ⟨_, rfl⟩
  have el_0 : (0 : Int32).toInt = 0 := rfl
  have hv_2 : v_2.toInt = (0 : Int32).toInt + v_1.toInt := by rw [← ev_2]; exact fb_addI (by omega) (by omega)
  refine j_iadd (pc := 9) (v := v_2) C dX11_stacks_9 ev_2 ?_
  obtain ⟨v_3, ev_3⟩ : ∃ z, m_states (v_2).toInt.toNat = z := ⟨_, rfl⟩
  have env_3 : (m_states (v_2).toInt.toNat).toInt = v_3.toInt := by rw [ev_3]
  have hv_3 : 0 ≤ v_3.toInt ∧ v_3.toInt ≤ 8 := by rw [← ev_3]; exact SV.cnt (b := 0) (s := (p1).toInt.toNat) h_m_states (by decide) (by omega) (by omega)
  refine j_iald (pc := 10) (v := v_3) (k := (v_2).toInt.toNat) C 1 1 rfl rfl (i_nn (by omega)) rfl (i_lt_n (by omega) (by omega)) ev_3 dX11_stacks_10 ?_
  exact j_iret (pc := 11) C hr hk (fun i => [].getD i 0, fun i => [v_3].getD i 0, fun i => [].getD i (fun _ => 0), fun i => [].getD i (fun _ => 0)) rfl (show (0 ≤ (v_3).toInt ∧ (v_3).toInt ≤ 8) ∧ (v_3 = m_states (0 + 105 * (p1).toInt.toNat)) from ⟨by omega, by (rw [show 0 + 105 * (p1).toInt.toNat = (v_2).toInt.toNat from (by omega)]; exact ev_3.symm)⟩) [0, 1] (by decide) rfl (by decide) (by decide) dX11_stacks_11
set_option maxHeartbeats 4000000 in
set_option maxRecDepth 100000 in
theorem c_X11_stacks_460 (l : Launch) (D : DG) (cyC cyI cyJ cyZ cyO : ClassId) (m0 : Nat) (mstates : Nat) (mtape : Nat) (msort : Nat) (mplace : Nat) (mvalue : Nat) (mwords : Nat) (mtold : Nat) (mop : Nat) (marg : Nat) (mnames : Nat) (mhasHabit : Nat) (mfactWords : Nat) (mfacts : Nat) (mpile : Nat) (misMarked : Nat) (mrow : Nat) (mthr : Nat) (mmays : Nat) (mtall : Nat) (mweights : Nat) (mrowOfWare : Nat) (mneededOf : Nat) (mtried : Nat) (mbestRow : Nat) (mdigits : Nat) (p1 : Int32) (m_thrown : Int32) (m_taped : Int32) (m_size : Int32) (m_at : Int32) (m_fault : Int32) (m_codes : Int32) (m_isNew : Int32) (m_inShelf : Int32) (m_inStack : Int32) (m_inPlace : Int32) (m_rowMany : Int32) (m_goShelf : Int32) (m_goStack : Int32) (m_goLeft : Int32) (m_bestCost : Int32) (m_bestMany : Int32) (m_bestShelf : Int32) (m_bestSet : Int32) (m_states : Nat → Int32) (h_m_taped : 0 ≤ (m_taped).toInt ∧ (m_taped).toInt ≤ 1000) (h_m_size : 0 ≤ (m_size).toInt ∧ (m_size).toInt ≤ 1000) (h_m_at : 0 ≤ (m_at).toInt ∧ (m_at).toInt ≤ 1000) (h_m_fault : 0 ≤ (m_fault).toInt ∧ (m_fault).toInt ≤ 16005) (h_m_codes : 0 ≤ (m_codes).toInt ∧ (m_codes).toInt ≤ 1000) (h_m_isNew : 0 ≤ (m_isNew).toInt ∧ (m_isNew).toInt ≤ 1) (h_m_inShelf : 0 ≤ (m_inShelf).toInt ∧ (m_inShelf).toInt ≤ 3) (h_m_inStack : 0 ≤ (m_inStack).toInt ∧ (m_inStack).toInt ≤ 7) (h_m_inPlace : 0 ≤ (m_inPlace).toInt ∧ (m_inPlace).toInt ≤ 11) (h_m_rowMany : 0 ≤ (m_rowMany).toInt ∧ (m_rowMany).toInt ≤ 12) (h_m_goShelf : -1 ≤ (m_goShelf).toInt ∧ (m_goShelf).toInt ≤ 3) (h_m_bestMany : 0 ≤ (m_bestMany).toInt ∧ (m_bestMany).toInt ≤ 7) (h_m_bestShelf : 0 ≤ (m_bestShelf).toInt ∧ (m_bestShelf).toInt ≤ 3) (h_p1 : 0 ≤ (p1).toInt ∧ (p1).toInt ≤ 3) (h_m_states : SV m_states) : KK l D (TY cyC cyI cyJ cyZ cyO) yX11_stacks cX11_stacks 3 (some .int) ({ frames := 0, cells := 0, slots := 0, locals := 0 } : Room) 0 0 [.ref m0, .int 460, .int p1] [(m0, .inr (11, [.int m_thrown, .ref mtape, .int m_taped, .int m_size, .ref msort, .ref mplace, .ref mvalue, .int m_at, .int m_fault, .ref mwords, .ref mtold, .ref mop, .ref marg, .int m_codes, .ref mnames, .ref mhasHabit, .int m_isNew, .ref mfactWords, .ref mfacts, .ref mpile, .ref mstates, .ref misMarked, .int m_inShelf, .int m_inStack, .int m_inPlace, .ref mrow, .int m_rowMany, .ref mthr, .ref mmays, .ref mtall, .ref mweights, .ref mrowOfWare, .ref mneededOf, .int m_goShelf, .int m_goStack, .int m_goLeft, .ref mtried, .ref mbestRow, .int m_bestCost, .int m_bestMany, .int m_bestShelf, .int m_bestSet, .ref mdigits])), (mstates, .inl (cyI, 2760, .inl m_states))] (fun u => some (.int (u.2.1 0))) (fun u => (0 ≤ (u.2.1 0).toInt ∧ (u.2.1 0).toInt ≤ 8) ∧ ((u.2.1 0) = m_states (460 + 105 * (p1).toInt.toNat))) (fun u => [(m0, .inr (11, [.int m_thrown, .ref mtape, .int m_taped, .int m_size, .ref msort, .ref mplace, .ref mvalue, .int m_at, .int m_fault, .ref mwords, .ref mtold, .ref mop, .ref marg, .int m_codes, .ref mnames, .ref mhasHabit, .int m_isNew, .ref mfactWords, .ref mfacts, .ref mpile, .ref mstates, .ref misMarked, .int m_inShelf, .int m_inStack, .int m_inPlace, .ref mrow, .int m_rowMany, .ref mthr, .ref mmays, .ref mtall, .ref mweights, .ref mrowOfWare, .ref mneededOf, .int m_goShelf, .int m_goStack, .int m_goLeft, .ref mtried, .ref mbestRow, .int m_bestCost, .int m_bestMany, .int m_bestShelf, .int m_bestSet, .ref mdigits])), (mstates, .inl (cyI, 2760, .inl m_states))]) := by
  refine KK.of (lv0 := [(0, .ref m0), (1, .int 460), (2, .int p1)]) (by decide) rfl (Nat.le_of_ble_eq_true rfl) ?_
  intro p e s m args below meth c A C hr hk hin
  refine j_aload_n (pc := 0) C dX11_stacks_0 rfl 0 rfl ?_
  refine j_get (pc := 1) (ci := 11) (v := .ref mstates) C inw_11 0 rfl rfl 20 (by decide) wd_764 rfl rfl dX11_stacks_1 ?_
  refine j_iload_n (pc := 4) C dX11_stacks_4 rfl 1 rfl ?_
  refine j_bipush (pc := 5) (v := 105) C dX11_stacks_5 (by decide) ?_
  refine j_iload_n (pc := 7) C dX11_stacks_7 rfl 2 rfl ?_
  obtain ⟨v_1, ev_1⟩ : ∃ z : Int32, 105 * p1 = z := ⟨_, rfl⟩
  have el_105 : (105 : Int32).toInt = 105 := rfl
  have hv_1 : v_1.toInt = 105 * p1.toInt := by rw [← ev_1]; exact mulL (c := 105) rfl (by omega) (by omega)
  refine j_imul (pc := 8) (v := v_1) C dX11_stacks_8 ev_1 ?_
  obtain ⟨v_2, ev_2⟩ : ∃ z : Int32, 460 + v_1 = z := ⟨_, rfl⟩
  have el_460 : (460 : Int32).toInt = 460 := rfl
  have hv_2 : v_2.toInt = (460 : Int32).toInt + v_1.toInt := by rw [← ev_2]; exact fb_addI (by omega) (by omega)
  refine j_iadd (pc := 9) (v := v_2) C dX11_stacks_9 ev_2 ?_
  obtain ⟨v_3, ev_3⟩ : ∃ z, m_states (v_2).toInt.toNat = z := ⟨_, rfl⟩
  have env_3 : (m_states (v_2).toInt.toNat).toInt = v_3.toInt := by rw [ev_3]
  have hv_3 : 0 ≤ v_3.toInt ∧ v_3.toInt ≤ 8 := by rw [← ev_3]; exact SV.cnt (b := 1) (s := (p1).toInt.toNat) h_m_states (by decide) (by omega) (by omega)
  refine j_iald (pc := 10) (v := v_3) (k := (v_2).toInt.toNat) C 1 1 rfl rfl (i_nn (by omega)) rfl (i_lt_n (by omega) (by omega)) ev_3 dX11_stacks_10 ?_
  exact j_iret (pc := 11) C hr hk (fun i => [].getD i 0, fun i => [v_3].getD i 0, fun i => [].getD i (fun _ => 0), fun i => [].getD i (fun _ => 0)) rfl (show (0 ≤ (v_3).toInt ∧ (v_3).toInt ≤ 8) ∧ (v_3 = m_states (460 + 105 * (p1).toInt.toNat)) from ⟨by omega, by (rw [show 460 + 105 * (p1).toInt.toNat = (v_2).toInt.toNat from (by omega)]; exact ev_3.symm)⟩) [0, 1] (by decide) rfl (by decide) (by decide) dX11_stacks_11
set_option maxHeartbeats 4000000 in
set_option maxRecDepth 100000 in
theorem c_X11_stackAt (l : Launch) (D : DG) (cyC cyI cyJ cyZ cyO : ClassId) (p0 : Int32) (p1 : Int32) (p2 : Int32) (h_p0 : 0 ≤ (p0).toInt ∧ (p0).toInt ≤ 2300) (h_p1 : 0 ≤ (p1).toInt ∧ (p1).toInt ≤ 3) (h_p2 : -1 ≤ (p2).toInt ∧ (p2).toInt ≤ 8) : KK l D (TY cyC cyI cyJ cyZ cyO) yX11_stackAt cX11_stackAt 3 (some .int) ({ frames := 0, cells := 0, slots := 0, locals := 0 } : Room) 0 0 [.int p0, .int p1, .int p2] [] (fun u => some (.int (u.2.1 0))) (fun u => (-100 ≤ (u.2.1 0).toInt ∧ (u.2.1 0).toInt ≤ 3000) ∧ ((u.2.1 0).toInt = (p0).toInt + 105 * (p1).toInt + 1 + 13 * (p2).toInt)) (fun u => []) := by
  refine KK.of (lv0 := [(0, .int p0), (1, .int p1), (2, .int p2)]) (by decide) rfl (Nat.le_of_ble_eq_true rfl) ?_
  intro p e s m args below meth c A C hr hk hin
  refine j_iload_n (pc := 0) C dX11_stackAt_0 rfl 0 rfl ?_
  refine j_bipush (pc := 1) (v := 105) C dX11_stackAt_1 (by decide) ?_
  refine j_iload_n (pc := 3) C dX11_stackAt_3 rfl 1 rfl ?_
  obtain ⟨v_1, ev_1⟩ : ∃ z : Int32, 105 * p1 = z := ⟨_, rfl⟩
  have el_105 : (105 : Int32).toInt = 105 := rfl
  have hv_1 : v_1.toInt = 105 * p1.toInt := by rw [← ev_1]; exact mulL (c := 105) rfl (by omega) (by omega)
  refine j_imul (pc := 4) (v := v_1) C dX11_stackAt_4 ev_1 ?_
  obtain ⟨v_2, ev_2⟩ : ∃ z : Int32, p0 + v_1 = z := ⟨_, rfl⟩
  have hv_2 : v_2.toInt = p0.toInt + v_1.toInt := by rw [← ev_2]; exact fb_addI (by omega) (by omega)
  refine j_iadd (pc := 5) (v := v_2) C dX11_stackAt_5 ev_2 ?_
  refine j_iconst (pc := 6) (v := 1) C dX11_stackAt_6 (by decide) ?_
  obtain ⟨v_3, ev_3⟩ : ∃ z : Int32, v_2 + 1 = z := ⟨_, rfl⟩
  have el_1 : (1 : Int32).toInt = 1 := rfl
  have hv_3 : v_3.toInt = v_2.toInt + (1 : Int32).toInt := by rw [← ev_3]; exact fb_addI (by omega) (by omega)
  refine j_iadd (pc := 7) (v := v_3) C dX11_stackAt_7 ev_3 ?_
  refine j_bipush (pc := 8) (v := 13) C dX11_stackAt_8 (by decide) ?_
  refine j_iload_n (pc := 10) C dX11_stackAt_10 rfl 2 rfl ?_
  obtain ⟨v_4, ev_4⟩ : ∃ z : Int32, 13 * p2 = z := ⟨_, rfl⟩
  have el_13 : (13 : Int32).toInt = 13 := rfl
  have hv_4 : v_4.toInt = 13 * p2.toInt := by rw [← ev_4]; exact mulL (c := 13) rfl (by omega) (by omega)
  refine j_imul (pc := 11) (v := v_4) C dX11_stackAt_11 ev_4 ?_
  obtain ⟨v_5, ev_5⟩ : ∃ z : Int32, v_3 + v_4 = z := ⟨_, rfl⟩
  have hv_5 : v_5.toInt = v_3.toInt + v_4.toInt := by rw [← ev_5]; exact fb_addI (by omega) (by omega)
  refine j_iadd (pc := 12) (v := v_5) C dX11_stackAt_12 ev_5 ?_
  exact j_iret (pc := 13) C hr hk (fun i => [].getD i 0, fun i => [v_5].getD i 0, fun i => [].getD i (fun _ => 0), fun i => [].getD i (fun _ => 0)) rfl (show (-100 ≤ (v_5).toInt ∧ (v_5).toInt ≤ 3000) ∧ (v_5.toInt = (p0).toInt + 105 * (p1).toInt + 1 + 13 * (p2).toInt) from ⟨by omega, by omega⟩) [] (by decide) rfl (by decide) (by decide) dX11_stackAt_13
set_option maxHeartbeats 4000000 in
set_option maxRecDepth 100000 in
theorem c_X11_isStack_0 (l : Launch) (D : DG) (cyC cyI cyJ cyZ cyO : ClassId) (m0 : Nat) (mtold : Nat) (mstates : Nat) (mtape : Nat) (msort : Nat) (mplace : Nat) (mvalue : Nat) (mwords : Nat) (mop : Nat) (marg : Nat) (mnames : Nat) (mhasHabit : Nat) (mfactWords : Nat) (mfacts : Nat) (mpile : Nat) (misMarked : Nat) (mrow : Nat) (mthr : Nat) (mmays : Nat) (mtall : Nat) (mweights : Nat) (mrowOfWare : Nat) (mneededOf : Nat) (mtried : Nat) (mbestRow : Nat) (mdigits : Nat) (p1 : Int32) (p2 : Int32) (m_thrown : Int32) (m_taped : Int32) (m_size : Int32) (m_at : Int32) (m_fault : Int32) (m_codes : Int32) (m_isNew : Int32) (m_inShelf : Int32) (m_inStack : Int32) (m_inPlace : Int32) (m_rowMany : Int32) (m_goShelf : Int32) (m_goStack : Int32) (m_goLeft : Int32) (m_bestCost : Int32) (m_bestMany : Int32) (m_bestShelf : Int32) (m_bestSet : Int32) (m_told : Nat → Int32) (m_states : Nat → Int32) (h_m_taped : 0 ≤ (m_taped).toInt ∧ (m_taped).toInt ≤ 1000) (h_m_size : 0 ≤ (m_size).toInt ∧ (m_size).toInt ≤ 1000) (h_m_at : 0 ≤ (m_at).toInt ∧ (m_at).toInt ≤ 1000) (h_m_fault : 0 ≤ (m_fault).toInt ∧ (m_fault).toInt ≤ 16005) (h_m_codes : 0 ≤ (m_codes).toInt ∧ (m_codes).toInt ≤ 1000) (h_m_isNew : 0 ≤ (m_isNew).toInt ∧ (m_isNew).toInt ≤ 1) (h_m_inShelf : 0 ≤ (m_inShelf).toInt ∧ (m_inShelf).toInt ≤ 3) (h_m_inStack : 0 ≤ (m_inStack).toInt ∧ (m_inStack).toInt ≤ 7) (h_m_inPlace : 0 ≤ (m_inPlace).toInt ∧ (m_inPlace).toInt ≤ 11) (h_m_rowMany : 0 ≤ (m_rowMany).toInt ∧ (m_rowMany).toInt ≤ 12) (h_m_goShelf : -1 ≤ (m_goShelf).toInt ∧ (m_goShelf).toInt ≤ 3) (h_m_bestMany : 0 ≤ (m_bestMany).toInt ∧ (m_bestMany).toInt ≤ 7) (h_m_bestShelf : 0 ≤ (m_bestShelf).toInt ∧ (m_bestShelf).toInt ≤ 3) (h_m_told : TV m_told) (h_m_states : SV m_states) : KK l D (TY cyC cyI cyJ cyZ cyO) yX11_isStack cX11_isStack 4 (some .boolean) ({ frames := 2, cells := 0, slots := 0, locals := 41 } : Room) 0 0 [.ref m0, .int 0, .int p1, .int p2] [(m0, .inr (11, [.int m_thrown, .ref mtape, .int m_taped, .int m_size, .ref msort, .ref mplace, .ref mvalue, .int m_at, .int m_fault, .ref mwords, .ref mtold, .ref mop, .ref marg, .int m_codes, .ref mnames, .ref mhasHabit, .int m_isNew, .ref mfactWords, .ref mfacts, .ref mpile, .ref mstates, .ref misMarked, .int m_inShelf, .int m_inStack, .int m_inPlace, .ref mrow, .int m_rowMany, .ref mthr, .ref mmays, .ref mtall, .ref mweights, .ref mrowOfWare, .ref mneededOf, .int m_goShelf, .int m_goStack, .int m_goLeft, .ref mtried, .ref mbestRow, .int m_bestCost, .int m_bestMany, .int m_bestShelf, .int m_bestSet, .ref mdigits])), (mtold, .inl (cyI, 240, .inl m_told)), (mstates, .inl (cyI, 2760, .inl m_states))] (fun u => some (.int (u.2.1 0))) (fun u => (0 ≤ (u.2.1 0).toInt ∧ (u.2.1 0).toInt ≤ 1) ∧ ((u.2.1 0).toInt = 0 ∨ 0 ≤ (p1).toInt ∧ (p1).toInt ≤ 3 ∧ 0 ≤ (p2).toInt ∧ (p2).toInt ≤ 7 ∧ (p2).toInt < (m_states (0 + 105 * (p1).toInt.toNat)).toInt ∧ (p1).toInt < (m_told 1).toInt) ∧ (NST (u.2.1 0).toInt (p1).toInt (p2).toInt (m_told 1).toInt (m_states (0 + 105 * (p1).toInt.toNat)).toInt)) (fun u => [(m0, .inr (11, [.int m_thrown, .ref mtape, .int m_taped, .int m_size, .ref msort, .ref mplace, .ref mvalue, .int m_at, .int m_fault, .ref mwords, .ref mtold, .ref mop, .ref marg, .int m_codes, .ref mnames, .ref mhasHabit, .int m_isNew, .ref mfactWords, .ref mfacts, .ref mpile, .ref mstates, .ref misMarked, .int m_inShelf, .int m_inStack, .int m_inPlace, .ref mrow, .int m_rowMany, .ref mthr, .ref mmays, .ref mtall, .ref mweights, .ref mrowOfWare, .ref mneededOf, .int m_goShelf, .int m_goStack, .int m_goLeft, .ref mtried, .ref mbestRow, .int m_bestCost, .int m_bestMany, .int m_bestShelf, .int m_bestSet, .ref mdigits])), (mtold, .inl (cyI, 240, .inl m_told)), (mstates, .inl (cyI, 2760, .inl m_states))]) := by
  refine KK.of (lv0 := [(0, .ref m0), (1, .int 0), (2, .int p1), (3, .int p2)]) (by decide) rfl (Nat.le_of_ble_eq_true rfl) ?_
  intro p e s m args below meth c A C hr hk hin
  refine j_aload_n (pc := 0) C dX11_isStack_0 rfl 0 rfl ?_
  refine j_iload_n (pc := 1) C dX11_isStack_1 rfl 2 rfl ?_
  refine j_callV (pc := 2) (As := [.int p1]) (rest := []) (wr := [(mstates, .inl (cyI, 2760, .inl m_states))]) C (c_X11_isShelf l D cyC cyI cyJ cyZ cyO m0 mtold mtape msort mplace mvalue mwords mop marg mnames mhasHabit mfactWords mfacts mpile mstates misMarked mrow mthr mmays mtall mweights mrowOfWare mneededOf mtried mbestRow mdigits p1 m_thrown m_taped m_size m_at m_fault m_codes m_isNew m_inShelf m_inStack m_inPlace m_rowMany m_goShelf m_goStack m_goLeft m_bestCost m_bestMany m_bestShelf m_bestSet m_told h_m_taped h_m_size h_m_at h_m_fault h_m_codes h_m_isNew h_m_inShelf h_m_inStack h_m_inPlace h_m_rowMany h_m_goShelf h_m_bestMany h_m_bestShelf h_m_told) wd_765 wd_624 wd_766 wd_767 wd_768 ⟨by decide, by decide, rfl⟩ rfl ⟨rfl, rfl, by decide, by decide⟩ ⟨by decide, by decide⟩ [0, 1] [2] rfl rfl ⟨by decide, by decide, by decide⟩ 0 rfl rfl rfl (Nat.le_of_ble_eq_true rfl) dX11_isStack_2 (fun u_1 hw_2 => ?_)
  refine j_eq (ws2 := [(mstates, .inl (cyI, 2760, .inl m_states)), (m0, .inr (11, [.int m_thrown, .ref mtape, .int m_taped, .int m_size, .ref msort, .ref mplace, .ref mvalue, .int m_at, .int m_fault, .ref mwords, .ref mtold, .ref mop, .ref marg, .int m_codes, .ref mnames, .ref mhasHabit, .int m_isNew, .ref mfactWords, .ref mfacts, .ref mpile, .ref mstates, .ref misMarked, .int m_inShelf, .int m_inStack, .int m_inPlace, .ref mrow, .int m_rowMany, .ref mthr, .ref mmays, .ref mtall, .ref mweights, .ref mrowOfWare, .ref mneededOf, .int m_goShelf, .int m_goStack, .int m_goLeft, .ref mtried, .ref mbestRow, .int m_bestCost, .int m_bestMany, .int m_bestShelf, .int m_bestSet, .ref mdigits])), (mtold, .inl (cyI, 240, .inl m_told))]) (pc2 := 5) (lv2 := [(0, .ref m0), (1, .int 0), (2, .int p1), (3, .int p2)]) (st2 := [.int (u_1.2.1 0)]) rfl rfl rfl rfl ?_
  obtain ⟨hw_2_0, hw_2_1, hw_2_2⟩ := hw_2
  refine j_if_eq (pc := 5) (tgt := 26) C dX11_isStack_5 (by decide) (fun c_3 => ?_) (fun c_3 => ?_)
  · skip
    have el_0 : (0 : Int32).toInt = 0 := rfl
    rw [i_eq] at c_3
    refine j_iconst (pc := 26) (v := 0) C dX11_isStack_26 (by decide) ?_
    have el_0 : (0 : Int32).toInt = 0 := rfl
    have el_0 : (0 : Int32).toInt = 0 := rfl
    have el_0 : (0 : Int32).toInt = 0 := rfl
    exact j_zret (pc := 27) C hr rfl hk (fun i => [].getD i 0, fun i => [0].getD i 0, fun i => [].getD i (fun _ => 0), fun i => [].getD i (fun _ => 0)) rfl (show (0 ≤ ((0 : Int32)).toInt ∧ ((0 : Int32)).toInt ≤ 1) ∧ ((0 : Int32).toInt = 0 ∨ 0 ≤ (p1).toInt ∧ (p1).toInt ≤ 3 ∧ 0 ≤ (p2).toInt ∧ (p2).toInt ≤ 7 ∧ (p2).toInt < (m_states (0 + 105 * (p1).toInt.toNat)).toInt ∧ (p1).toInt < (m_told 1).toInt) ∧ (NST (0 : Int32).toInt (p1).toInt (p2).toInt (m_told 1).toInt (m_states (0 + 105 * (p1).toInt.toNat)).toInt) from ⟨by omega, by omega, (fun _ z9 => by have hz8 := hw_2_2; omega)⟩) [1, 2, 0] (by decide) rfl (by decide) (by decide) dX11_isStack_27
  · skip
    have el_0 : (0 : Int32).toInt = 0 := rfl
    rw [i_eq] at c_3
    have k0c_3 : ((u_1.2.1 0)).toInt = 1 := by omega
    refine j_iload_n (pc := 8) C dX11_isStack_8 rfl 3 rfl ?_
    refine j_if_lt (pc := 9) (tgt := 26) C dX11_isStack_9 (by decide) (fun c_4 => ?_) (fun c_4 => ?_)
    · skip
      have el_0 : (0 : Int32).toInt = 0 := rfl
      rw [i_lt] at c_4
      refine j_iconst (pc := 26) (v := 0) C dX11_isStack_26 (by decide) ?_
      have el_0 : (0 : Int32).toInt = 0 := rfl
      have el_0 : (0 : Int32).toInt = 0 := rfl
      have el_0 : (0 : Int32).toInt = 0 := rfl
      exact j_zret (pc := 27) C hr rfl hk (fun i => [].getD i 0, fun i => [0].getD i 0, fun i => [].getD i (fun _ => 0), fun i => [].getD i (fun _ => 0)) rfl (show (0 ≤ ((0 : Int32)).toInt ∧ ((0 : Int32)).toInt ≤ 1) ∧ ((0 : Int32).toInt = 0 ∨ 0 ≤ (p1).toInt ∧ (p1).toInt ≤ 3 ∧ 0 ≤ (p2).toInt ∧ (p2).toInt ≤ 7 ∧ (p2).toInt < (m_states (0 + 105 * (p1).toInt.toNat)).toInt ∧ (p1).toInt < (m_told 1).toInt) ∧ (NST (0 : Int32).toInt (p1).toInt (p2).toInt (m_told 1).toInt (m_states (0 + 105 * (p1).toInt.toNat)).toInt) from ⟨by omega, by omega, (fun _ z9 => by have hz8 := hw_2_2; omega)⟩) [1, 2, 0] (by decide) rfl (by decide) (by decide) dX11_isStack_27
    · skip
      have el_0 : (0 : Int32).toInt = 0 := rfl
      rw [i_lt] at c_4
      refine j_iload_n (pc := 12) C dX11_isStack_12 rfl 3 rfl ?_
      refine j_aload_n (pc := 13) C dX11_isStack_13 rfl 0 rfl ?_
      refine j_iload_n (pc := 14) C dX11_isStack_14 rfl 1 rfl ?_
      refine j_iload_n (pc := 15) C dX11_isStack_15 rfl 2 rfl ?_
      refine j_callV (pc := 16) (As := [.int 0, .int p1]) (rest := [.int p2]) (wr := [(mtold, .inl (cyI, 240, .inl m_told))]) C (c_X11_stacks_0 l D cyC cyI cyJ cyZ cyO m0 mstates mtape msort mplace mvalue mwords mtold mop marg mnames mhasHabit mfactWords mfacts mpile misMarked mrow mthr mmays mtall mweights mrowOfWare mneededOf mtried mbestRow mdigits p1 m_thrown m_taped m_size m_at m_fault m_codes m_isNew m_inShelf m_inStack m_inPlace m_rowMany m_goShelf m_goStack m_goLeft m_bestCost m_bestMany m_bestShelf m_bestSet m_states h_m_taped h_m_size h_m_at h_m_fault h_m_codes h_m_isNew h_m_inShelf h_m_inStack h_m_inPlace h_m_rowMany h_m_goShelf h_m_bestMany h_m_bestShelf (by omega) h_m_states) wd_769 wd_624 wd_770 wd_771 wd_772 ⟨by decide, by decide, rfl⟩ rfl ⟨rfl, rfl, by decide, by decide⟩ ⟨by decide, by decide⟩ [1, 0] [2] rfl rfl ⟨by decide, by decide, by decide⟩ 1 rfl rfl rfl (Nat.le_of_ble_eq_true rfl) dX11_isStack_16 (fun u_5 hw_6 => ?_)
      refine j_eq (ws2 := [(mtold, .inl (cyI, 240, .inl m_told)), (m0, .inr (11, [.int m_thrown, .ref mtape, .int m_taped, .int m_size, .ref msort, .ref mplace, .ref mvalue, .int m_at, .int m_fault, .ref mwords, .ref mtold, .ref mop, .ref marg, .int m_codes, .ref mnames, .ref mhasHabit, .int m_isNew, .ref mfactWords, .ref mfacts, .ref mpile, .ref mstates, .ref misMarked, .int m_inShelf, .int m_inStack, .int m_inPlace, .ref mrow, .int m_rowMany, .ref mthr, .ref mmays, .ref mtall, .ref mweights, .ref mrowOfWare, .ref mneededOf, .int m_goShelf, .int m_goStack, .int m_goLeft, .ref mtried, .ref mbestRow, .int m_bestCost, .int m_bestMany, .int m_bestShelf, .int m_bestSet, .ref mdigits])), (mstates, .inl (cyI, 2760, .inl m_states))]) (pc2 := 19) (lv2 := [(0, .ref m0), (1, .int 0), (2, .int p1), (3, .int p2)]) (st2 := [.int (u_5.2.1 0), .int p2]) rfl rfl rfl rfl ?_
      obtain ⟨hw_6_0, hw_6_1⟩ := hw_6
      have hz9 := congrArg Int32.toInt hw_6_1
      refine j_icmp_ge (pc := 19) (tgt := 26) C dX11_isStack_19 (by decide) (fun c_7 => ?_) (fun c_7 => ?_)
      · skip
        rw [i_le] at c_7
        refine j_iconst (pc := 26) (v := 0) C dX11_isStack_26 (by decide) ?_
        have el_0 : (0 : Int32).toInt = 0 := rfl
        have el_0 : (0 : Int32).toInt = 0 := rfl
        have el_0 : (0 : Int32).toInt = 0 := rfl
        exact j_zret (pc := 27) C hr rfl hk (fun i => [].getD i 0, fun i => [0].getD i 0, fun i => [].getD i (fun _ => 0), fun i => [].getD i (fun _ => 0)) rfl (show (0 ≤ ((0 : Int32)).toInt ∧ ((0 : Int32)).toInt ≤ 1) ∧ ((0 : Int32).toInt = 0 ∨ 0 ≤ (p1).toInt ∧ (p1).toInt ≤ 3 ∧ 0 ≤ (p2).toInt ∧ (p2).toInt ≤ 7 ∧ (p2).toInt < (m_states (0 + 105 * (p1).toInt.toNat)).toInt ∧ (p1).toInt < (m_told 1).toInt) ∧ (NST (0 : Int32).toInt (p1).toInt (p2).toInt (m_told 1).toInt (m_states (0 + 105 * (p1).toInt.toNat)).toInt) from ⟨by omega, by omega, (fun _ z9 => by have hz8 := hw_2_2; omega)⟩) [1, 0, 2] (by decide) rfl (by decide) (by decide) dX11_isStack_27
      · skip
        rw [i_le] at c_7
        refine j_iconst (pc := 22) (v := 1) C dX11_isStack_22 (by decide) ?_
        refine j_goto (pc := 23) (tgt := 27) C dX11_isStack_23 (by decide) ?_
        have el_1 : (1 : Int32).toInt = 1 := rfl
        have el_1 : (1 : Int32).toInt = 1 := rfl
        have el_1 : (1 : Int32).toInt = 1 := rfl
        exact j_zret (pc := 27) C hr rfl hk (fun i => [].getD i 0, fun i => [1].getD i 0, fun i => [].getD i (fun _ => 0), fun i => [].getD i (fun _ => 0)) rfl (show (0 ≤ ((1 : Int32)).toInt ∧ ((1 : Int32)).toInt ≤ 1) ∧ ((1 : Int32).toInt = 0 ∨ 0 ≤ (p1).toInt ∧ (p1).toInt ≤ 3 ∧ 0 ≤ (p2).toInt ∧ (p2).toInt ≤ 7 ∧ (p2).toInt < (m_states (0 + 105 * (p1).toInt.toNat)).toInt ∧ (p1).toInt < (m_told 1).toInt) ∧ (NST (1 : Int32).toInt (p1).toInt (p2).toInt (m_told 1).toInt (m_states (0 + 105 * (p1).toInt.toNat)).toInt) from ⟨by omega, by omega, (fun z9 => absurd z9 (by decide))⟩) [1, 0, 2] (by decide) rfl (by decide) (by decide) dX11_isStack_27
set_option maxHeartbeats 4000000 in
set_option maxRecDepth 100000 in
theorem c_X11_isStack_460 (l : Launch) (D : DG) (cyC cyI cyJ cyZ cyO : ClassId) (m0 : Nat) (mtold : Nat) (mstates : Nat) (mtape : Nat) (msort : Nat) (mplace : Nat) (mvalue : Nat) (mwords : Nat) (mop : Nat) (marg : Nat) (mnames : Nat) (mhasHabit : Nat) (mfactWords : Nat) (mfacts : Nat) (mpile : Nat) (misMarked : Nat) (mrow : Nat) (mthr : Nat) (mmays : Nat) (mtall : Nat) (mweights : Nat) (mrowOfWare : Nat) (mneededOf : Nat) (mtried : Nat) (mbestRow : Nat) (mdigits : Nat) (p1 : Int32) (p2 : Int32) (m_thrown : Int32) (m_taped : Int32) (m_size : Int32) (m_at : Int32) (m_fault : Int32) (m_codes : Int32) (m_isNew : Int32) (m_inShelf : Int32) (m_inStack : Int32) (m_inPlace : Int32) (m_rowMany : Int32) (m_goShelf : Int32) (m_goStack : Int32) (m_goLeft : Int32) (m_bestCost : Int32) (m_bestMany : Int32) (m_bestShelf : Int32) (m_bestSet : Int32) (m_told : Nat → Int32) (m_states : Nat → Int32) (h_m_taped : 0 ≤ (m_taped).toInt ∧ (m_taped).toInt ≤ 1000) (h_m_size : 0 ≤ (m_size).toInt ∧ (m_size).toInt ≤ 1000) (h_m_at : 0 ≤ (m_at).toInt ∧ (m_at).toInt ≤ 1000) (h_m_fault : 0 ≤ (m_fault).toInt ∧ (m_fault).toInt ≤ 16005) (h_m_codes : 0 ≤ (m_codes).toInt ∧ (m_codes).toInt ≤ 1000) (h_m_isNew : 0 ≤ (m_isNew).toInt ∧ (m_isNew).toInt ≤ 1) (h_m_inShelf : 0 ≤ (m_inShelf).toInt ∧ (m_inShelf).toInt ≤ 3) (h_m_inStack : 0 ≤ (m_inStack).toInt ∧ (m_inStack).toInt ≤ 7) (h_m_inPlace : 0 ≤ (m_inPlace).toInt ∧ (m_inPlace).toInt ≤ 11) (h_m_rowMany : 0 ≤ (m_rowMany).toInt ∧ (m_rowMany).toInt ≤ 12) (h_m_goShelf : -1 ≤ (m_goShelf).toInt ∧ (m_goShelf).toInt ≤ 3) (h_m_bestMany : 0 ≤ (m_bestMany).toInt ∧ (m_bestMany).toInt ≤ 7) (h_m_bestShelf : 0 ≤ (m_bestShelf).toInt ∧ (m_bestShelf).toInt ≤ 3) (h_m_told : TV m_told) (h_m_states : SV m_states) : KK l D (TY cyC cyI cyJ cyZ cyO) yX11_isStack cX11_isStack 4 (some .boolean) ({ frames := 2, cells := 0, slots := 0, locals := 41 } : Room) 0 0 [.ref m0, .int 460, .int p1, .int p2] [(m0, .inr (11, [.int m_thrown, .ref mtape, .int m_taped, .int m_size, .ref msort, .ref mplace, .ref mvalue, .int m_at, .int m_fault, .ref mwords, .ref mtold, .ref mop, .ref marg, .int m_codes, .ref mnames, .ref mhasHabit, .int m_isNew, .ref mfactWords, .ref mfacts, .ref mpile, .ref mstates, .ref misMarked, .int m_inShelf, .int m_inStack, .int m_inPlace, .ref mrow, .int m_rowMany, .ref mthr, .ref mmays, .ref mtall, .ref mweights, .ref mrowOfWare, .ref mneededOf, .int m_goShelf, .int m_goStack, .int m_goLeft, .ref mtried, .ref mbestRow, .int m_bestCost, .int m_bestMany, .int m_bestShelf, .int m_bestSet, .ref mdigits])), (mtold, .inl (cyI, 240, .inl m_told)), (mstates, .inl (cyI, 2760, .inl m_states))] (fun u => some (.int (u.2.1 0))) (fun u => (0 ≤ (u.2.1 0).toInt ∧ (u.2.1 0).toInt ≤ 1) ∧ ((u.2.1 0).toInt = 0 ∨ 0 ≤ (p1).toInt ∧ (p1).toInt ≤ 3 ∧ 0 ≤ (p2).toInt ∧ (p2).toInt ≤ 7 ∧ (p2).toInt < (m_states (460 + 105 * (p1).toInt.toNat)).toInt ∧ (p1).toInt < (m_told 1).toInt) ∧ (NST (u.2.1 0).toInt (p1).toInt (p2).toInt (m_told 1).toInt (m_states (460 + 105 * (p1).toInt.toNat)).toInt)) (fun u => [(m0, .inr (11, [.int m_thrown, .ref mtape, .int m_taped, .int m_size, .ref msort, .ref mplace, .ref mvalue, .int m_at, .int m_fault, .ref mwords, .ref mtold, .ref mop, .ref marg, .int m_codes, .ref mnames, .ref mhasHabit, .int m_isNew, .ref mfactWords, .ref mfacts, .ref mpile, .ref mstates, .ref misMarked, .int m_inShelf, .int m_inStack, .int m_inPlace, .ref mrow, .int m_rowMany, .ref mthr, .ref mmays, .ref mtall, .ref mweights, .ref mrowOfWare, .ref mneededOf, .int m_goShelf, .int m_goStack, .int m_goLeft, .ref mtried, .ref mbestRow, .int m_bestCost, .int m_bestMany, .int m_bestShelf, .int m_bestSet, .ref mdigits])), (mtold, .inl (cyI, 240, .inl m_told)), (mstates, .inl (cyI, 2760, .inl m_states))]) := by
  refine KK.of (lv0 := [(0, .ref m0), (1, .int 460), (2, .int p1), (3, .int p2)]) (by decide) rfl (Nat.le_of_ble_eq_true rfl) ?_
  intro p e s m args below meth c A C hr hk hin
  refine j_aload_n (pc := 0) C dX11_isStack_0 rfl 0 rfl ?_
  refine j_iload_n (pc := 1) C dX11_isStack_1 rfl 2 rfl ?_
  refine j_callV (pc := 2) (As := [.int p1]) (rest := []) (wr := [(mstates, .inl (cyI, 2760, .inl m_states))]) C (c_X11_isShelf l D cyC cyI cyJ cyZ cyO m0 mtold mtape msort mplace mvalue mwords mop marg mnames mhasHabit mfactWords mfacts mpile mstates misMarked mrow mthr mmays mtall mweights mrowOfWare mneededOf mtried mbestRow mdigits p1 m_thrown m_taped m_size m_at m_fault m_codes m_isNew m_inShelf m_inStack m_inPlace m_rowMany m_goShelf m_goStack m_goLeft m_bestCost m_bestMany m_bestShelf m_bestSet m_told h_m_taped h_m_size h_m_at h_m_fault h_m_codes h_m_isNew h_m_inShelf h_m_inStack h_m_inPlace h_m_rowMany h_m_goShelf h_m_bestMany h_m_bestShelf h_m_told) wd_765 wd_624 wd_766 wd_767 wd_768 ⟨by decide, by decide, rfl⟩ rfl ⟨rfl, rfl, by decide, by decide⟩ ⟨by decide, by decide⟩ [0, 1] [2] rfl rfl ⟨by decide, by decide, by decide⟩ 0 rfl rfl rfl (Nat.le_of_ble_eq_true rfl) dX11_isStack_2 (fun u_1 hw_2 => ?_)
  refine j_eq (ws2 := [(mstates, .inl (cyI, 2760, .inl m_states)), (m0, .inr (11, [.int m_thrown, .ref mtape, .int m_taped, .int m_size, .ref msort, .ref mplace, .ref mvalue, .int m_at, .int m_fault, .ref mwords, .ref mtold, .ref mop, .ref marg, .int m_codes, .ref mnames, .ref mhasHabit, .int m_isNew, .ref mfactWords, .ref mfacts, .ref mpile, .ref mstates, .ref misMarked, .int m_inShelf, .int m_inStack, .int m_inPlace, .ref mrow, .int m_rowMany, .ref mthr, .ref mmays, .ref mtall, .ref mweights, .ref mrowOfWare, .ref mneededOf, .int m_goShelf, .int m_goStack, .int m_goLeft, .ref mtried, .ref mbestRow, .int m_bestCost, .int m_bestMany, .int m_bestShelf, .int m_bestSet, .ref mdigits])), (mtold, .inl (cyI, 240, .inl m_told))]) (pc2 := 5) (lv2 := [(0, .ref m0), (1, .int 460), (2, .int p1), (3, .int p2)]) (st2 := [.int (u_1.2.1 0)]) rfl rfl rfl rfl ?_
  obtain ⟨hw_2_0, hw_2_1, hw_2_2⟩ := hw_2
  refine j_if_eq (pc := 5) (tgt := 26) C dX11_isStack_5 (by decide) (fun c_3 => ?_) (fun c_3 => ?_)
  · skip
    have el_0 : (0 : Int32).toInt = 0 := rfl
    rw [i_eq] at c_3
    refine j_iconst (pc := 26) (v := 0) C dX11_isStack_26 (by decide) ?_
    have el_0 : (0 : Int32).toInt = 0 := rfl
    have el_0 : (0 : Int32).toInt = 0 := rfl
    have el_0 : (0 : Int32).toInt = 0 := rfl
    exact j_zret (pc := 27) C hr rfl hk (fun i => [].getD i 0, fun i => [0].getD i 0, fun i => [].getD i (fun _ => 0), fun i => [].getD i (fun _ => 0)) rfl (show (0 ≤ ((0 : Int32)).toInt ∧ ((0 : Int32)).toInt ≤ 1) ∧ ((0 : Int32).toInt = 0 ∨ 0 ≤ (p1).toInt ∧ (p1).toInt ≤ 3 ∧ 0 ≤ (p2).toInt ∧ (p2).toInt ≤ 7 ∧ (p2).toInt < (m_states (460 + 105 * (p1).toInt.toNat)).toInt ∧ (p1).toInt < (m_told 1).toInt) ∧ (NST (0 : Int32).toInt (p1).toInt (p2).toInt (m_told 1).toInt (m_states (460 + 105 * (p1).toInt.toNat)).toInt) from ⟨by omega, by omega, (fun _ z9 => by have hz8 := hw_2_2; omega)⟩) [1, 2, 0] (by decide) rfl (by decide) (by decide) dX11_isStack_27
  · skip
    have el_0 : (0 : Int32).toInt = 0 := rfl
    rw [i_eq] at c_3
    have k0c_3 : ((u_1.2.1 0)).toInt = 1 := by omega
    refine j_iload_n (pc := 8) C dX11_isStack_8 rfl 3 rfl ?_
    refine j_if_lt (pc := 9) (tgt := 26) C dX11_isStack_9 (by decide) (fun c_4 => ?_) (fun c_4 => ?_)
    · skip
      have el_0 : (0 : Int32).toInt = 0 := rfl
      rw [i_lt] at c_4
      refine j_iconst (pc := 26) (v := 0) C dX11_isStack_26 (by decide) ?_
      have el_0 : (0 : Int32).toInt = 0 := rfl
      have el_0 : (0 : Int32).toInt = 0 := rfl
      have el_0 : (0 : Int32).toInt = 0 := rfl
      exact j_zret (pc := 27) C hr rfl hk (fun i => [].getD i 0, fun i => [0].getD i 0, fun i => [].getD i (fun _ => 0), fun i => [].getD i (fun _ => 0)) rfl (show (0 ≤ ((0 : Int32)).toInt ∧ ((0 : Int32)).toInt ≤ 1) ∧ ((0 : Int32).toInt = 0 ∨ 0 ≤ (p1).toInt ∧ (p1).toInt ≤ 3 ∧ 0 ≤ (p2).toInt ∧ (p2).toInt ≤ 7 ∧ (p2).toInt < (m_states (460 + 105 * (p1).toInt.toNat)).toInt ∧ (p1).toInt < (m_told 1).toInt) ∧ (NST (0 : Int32).toInt (p1).toInt (p2).toInt (m_told 1).toInt (m_states (460 + 105 * (p1).toInt.toNat)).toInt) from ⟨by omega, by omega, (fun _ z9 => by have hz8 := hw_2_2; omega)⟩) [1, 2, 0] (by decide) rfl (by decide) (by decide) dX11_isStack_27
    · skip
      have el_0 : (0 : Int32).toInt = 0 := rfl
      rw [i_lt] at c_4
      refine j_iload_n (pc := 12) C dX11_isStack_12 rfl 3 rfl ?_
      refine j_aload_n (pc := 13) C dX11_isStack_13 rfl 0 rfl ?_
      refine j_iload_n (pc := 14) C dX11_isStack_14 rfl 1 rfl ?_
      refine j_iload_n (pc := 15) C dX11_isStack_15 rfl 2 rfl ?_
      refine j_callV (pc := 16) (As := [.int 460, .int p1]) (rest := [.int p2]) (wr := [(mtold, .inl (cyI, 240, .inl m_told))]) C (c_X11_stacks_460 l D cyC cyI cyJ cyZ cyO m0 mstates mtape msort mplace mvalue mwords mtold mop marg mnames mhasHabit mfactWords mfacts mpile misMarked mrow mthr mmays mtall mweights mrowOfWare mneededOf mtried mbestRow mdigits p1 m_thrown m_taped m_size m_at m_fault m_codes m_isNew m_inShelf m_inStack m_inPlace m_rowMany m_goShelf m_goStack m_goLeft m_bestCost m_bestMany m_bestShelf m_bestSet m_states h_m_taped h_m_size h_m_at h_m_fault h_m_codes h_m_isNew h_m_inShelf h_m_inStack h_m_inPlace h_m_rowMany h_m_goShelf h_m_bestMany h_m_bestShelf (by omega) h_m_states) wd_769 wd_624 wd_770 wd_771 wd_772 ⟨by decide, by decide, rfl⟩ rfl ⟨rfl, rfl, by decide, by decide⟩ ⟨by decide, by decide⟩ [1, 0] [2] rfl rfl ⟨by decide, by decide, by decide⟩ 1 rfl rfl rfl (Nat.le_of_ble_eq_true rfl) dX11_isStack_16 (fun u_5 hw_6 => ?_)
      refine j_eq (ws2 := [(mtold, .inl (cyI, 240, .inl m_told)), (m0, .inr (11, [.int m_thrown, .ref mtape, .int m_taped, .int m_size, .ref msort, .ref mplace, .ref mvalue, .int m_at, .int m_fault, .ref mwords, .ref mtold, .ref mop, .ref marg, .int m_codes, .ref mnames, .ref mhasHabit, .int m_isNew, .ref mfactWords, .ref mfacts, .ref mpile, .ref mstates, .ref misMarked, .int m_inShelf, .int m_inStack, .int m_inPlace, .ref mrow, .int m_rowMany, .ref mthr, .ref mmays, .ref mtall, .ref mweights, .ref mrowOfWare, .ref mneededOf, .int m_goShelf, .int m_goStack, .int m_goLeft, .ref mtried, .ref mbestRow, .int m_bestCost, .int m_bestMany, .int m_bestShelf, .int m_bestSet, .ref mdigits])), (mstates, .inl (cyI, 2760, .inl m_states))]) (pc2 := 19) (lv2 := [(0, .ref m0), (1, .int 460), (2, .int p1), (3, .int p2)]) (st2 := [.int (u_5.2.1 0), .int p2]) rfl rfl rfl rfl ?_
      obtain ⟨hw_6_0, hw_6_1⟩ := hw_6
      have hz9 := congrArg Int32.toInt hw_6_1
      refine j_icmp_ge (pc := 19) (tgt := 26) C dX11_isStack_19 (by decide) (fun c_7 => ?_) (fun c_7 => ?_)
      · skip
        rw [i_le] at c_7
        refine j_iconst (pc := 26) (v := 0) C dX11_isStack_26 (by decide) ?_
        have el_0 : (0 : Int32).toInt = 0 := rfl
        have el_0 : (0 : Int32).toInt = 0 := rfl
        have el_0 : (0 : Int32).toInt = 0 := rfl
        exact j_zret (pc := 27) C hr rfl hk (fun i => [].getD i 0, fun i => [0].getD i 0, fun i => [].getD i (fun _ => 0), fun i => [].getD i (fun _ => 0)) rfl (show (0 ≤ ((0 : Int32)).toInt ∧ ((0 : Int32)).toInt ≤ 1) ∧ ((0 : Int32).toInt = 0 ∨ 0 ≤ (p1).toInt ∧ (p1).toInt ≤ 3 ∧ 0 ≤ (p2).toInt ∧ (p2).toInt ≤ 7 ∧ (p2).toInt < (m_states (460 + 105 * (p1).toInt.toNat)).toInt ∧ (p1).toInt < (m_told 1).toInt) ∧ (NST (0 : Int32).toInt (p1).toInt (p2).toInt (m_told 1).toInt (m_states (460 + 105 * (p1).toInt.toNat)).toInt) from ⟨by omega, by omega, (fun _ z9 => by have hz8 := hw_2_2; omega)⟩) [1, 0, 2] (by decide) rfl (by decide) (by decide) dX11_isStack_27
      · skip
        rw [i_le] at c_7
        refine j_iconst (pc := 22) (v := 1) C dX11_isStack_22 (by decide) ?_
        refine j_goto (pc := 23) (tgt := 27) C dX11_isStack_23 (by decide) ?_
        have el_1 : (1 : Int32).toInt = 1 := rfl
        have el_1 : (1 : Int32).toInt = 1 := rfl
        have el_1 : (1 : Int32).toInt = 1 := rfl
        exact j_zret (pc := 27) C hr rfl hk (fun i => [].getD i 0, fun i => [1].getD i 0, fun i => [].getD i (fun _ => 0), fun i => [].getD i (fun _ => 0)) rfl (show (0 ≤ ((1 : Int32)).toInt ∧ ((1 : Int32)).toInt ≤ 1) ∧ ((1 : Int32).toInt = 0 ∨ 0 ≤ (p1).toInt ∧ (p1).toInt ≤ 3 ∧ 0 ≤ (p2).toInt ∧ (p2).toInt ≤ 7 ∧ (p2).toInt < (m_states (460 + 105 * (p1).toInt.toNat)).toInt ∧ (p1).toInt < (m_told 1).toInt) ∧ (NST (1 : Int32).toInt (p1).toInt (p2).toInt (m_told 1).toInt (m_states (460 + 105 * (p1).toInt.toNat)).toInt) from ⟨by omega, by omega, (fun z9 => absurd z9 (by decide))⟩) [1, 0, 2] (by decide) rfl (by decide) (by decide) dX11_isStack_27
