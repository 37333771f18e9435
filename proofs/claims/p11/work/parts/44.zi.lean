theorem wd_806 : Cond.code yX11_highest cX11_highest 4 (some .int) ∈ WALL := wl_in (by decide +kernel) (by decide +kernel)
theorem wd_807 : Cond.methodLink RX11 309 yX11_highest ∈ WALL := wl_in (by decide +kernel) (by decide +kernel)
theorem wd_808 : Cond.instanceMethod yX11_highest ∈ WALL := wl_in (by decide +kernel) (by decide +kernel)
theorem wd_809 : Cond.selects RX11 yX11_highest yX11_highest ∈ WALL := wl_in (by decide +kernel) (by decide +kernel)
theorem wd_810 : Cond.code yX11_mayOn cX11_mayOn 5 (some .boolean) ∈ WALL := wl_in (by decide +kernel) (by decide +kernel)
theorem wd_811 : Cond.methodLink RX11 284 yX11_mayOn ∈ WALL := wl_in (by decide +kernel) (by decide +kernel)
theorem wd_812 : Cond.instanceMethod yX11_mayOn ∈ WALL := wl_in (by decide +kernel) (by decide +kernel)
theorem wd_813 : Cond.selects RX11 yX11_mayOn yX11_mayOn ∈ WALL := wl_in (by decide +kernel) (by decide +kernel)
theorem dX11_whyNot_0 : decode cX11_whyNot 0 = .ok (.iconst 1, 1) := by decide +kernel
theorem dX11_whyNot_1 : decode cX11_whyNot 1 = .ok (.istore_n 2, 1) := by decide +kernel
theorem dX11_whyNot_2 : decode cX11_whyNot 2 = .ok (.iload_n 2, 1) := by decide +kernel
theorem dX11_whyNot_3 : decode cX11_whyNot 3 = .ok (.aload_n 0, 1) := by decide +kernel
theorem dX11_whyNot_4 : decode cX11_whyNot 4 = .ok (.getfield 306, 3) := by decide +kernel
theorem dX11_whyNot_7 : decode cX11_whyNot 7 = .ok (.if_icmp .ge 32, 3) := by decide +kernel
theorem dX11_whyNot_10 : decode cX11_whyNot 10 = .ok (.aload_n 0, 1) := by decide +kernel
theorem dX11_whyNot_11 : decode cX11_whyNot 11 = .ok (.aload_n 0, 1) := by decide +kernel
theorem dX11_whyNot_12 : decode cX11_whyNot 12 = .ok (.getfield 114, 3) := by decide +kernel
theorem dX11_whyNot_15 : decode cX11_whyNot 15 = .ok (.iload_n 2, 1) := by decide +kernel
theorem dX11_whyNot_16 : decode cX11_whyNot 16 = .ok (.iaload, 1) := by decide +kernel
theorem dX11_whyNot_17 : decode cX11_whyNot 17 = .ok (.aload_n 0, 1) := by decide +kernel
theorem dX11_whyNot_18 : decode cX11_whyNot 18 = .ok (.getfield 114, 3) := by decide +kernel
theorem dX11_whyNot_21 : decode cX11_whyNot 21 = .ok (.iload_n 2, 1) := by decide +kernel
theorem dX11_whyNot_22 : decode cX11_whyNot 22 = .ok (.iconst 1, 1) := by decide +kernel
theorem dX11_whyNot_23 : decode cX11_whyNot 23 = .ok (.isub, 1) := by decide +kernel
theorem dX11_whyNot_24 : decode cX11_whyNot 24 = .ok (.iaload, 1) := by decide +kernel
theorem dX11_whyNot_25 : decode cX11_whyNot 25 = .ok (.invokevirtual 284, 3) := by decide +kernel
theorem dX11_whyNot_28 : decode cX11_whyNot 28 = .ok (.ifCond .ne 5, 3) := by decide +kernel
theorem dX11_whyNot_31 : decode cX11_whyNot 31 = .ok (.iconst 4, 1) := by decide +kernel
theorem dX11_whyNot_32 : decode cX11_whyNot 32 = .ok (.ireturn, 1) := by decide +kernel
theorem dX11_whyNot_33 : decode cX11_whyNot 33 = .ok (.iinc 2 1, 3) := by decide +kernel
theorem dX11_whyNot_36 : decode cX11_whyNot 36 = .ok (.goto (-34), 3) := by decide +kernel
theorem dX11_whyNot_39 : decode cX11_whyNot 39 = .ok (.iconst 0, 1) := by decide +kernel
theorem dX11_whyNot_40 : decode cX11_whyNot 40 = .ok (.istore_n 2, 1) := by decide +kernel
theorem dX11_whyNot_41 : decode cX11_whyNot 41 = .ok (.aload_n 0, 1) := by decide +kernel
theorem dX11_whyNot_42 : decode cX11_whyNot 42 = .ok (.getfield 306, 3) := by decide +kernel
theorem dX11_whyNot_45 : decode cX11_whyNot 45 = .ok (.iconst 1, 1) := by decide +kernel
theorem dX11_whyNot_46 : decode cX11_whyNot 46 = .ok (.isub, 1) := by decide +kernel
theorem dX11_whyNot_47 : decode cX11_whyNot 47 = .ok (.istore_n 3, 1) := by decide +kernel
theorem dX11_whyNot_48 : decode cX11_whyNot 48 = .ok (.iload_n 3, 1) := by decide +kernel
theorem dX11_whyNot_49 : decode cX11_whyNot 49 = .ok (.ifCond .lt 40, 3) := by decide +kernel
theorem dX11_whyNot_52 : decode cX11_whyNot 52 = .ok (.iload_n 2, 1) := by decide +kernel
theorem dX11_whyNot_53 : decode cX11_whyNot 53 = .ok (.aload_n 0, 1) := by decide +kernel
theorem dX11_whyNot_54 : decode cX11_whyNot 54 = .ok (.aload_n 0, 1) := by decide +kernel
theorem dX11_whyNot_55 : decode cX11_whyNot 55 = .ok (.getfield 114, 3) := by decide +kernel
theorem dX11_whyNot_58 : decode cX11_whyNot 58 = .ok (.iload_n 3, 1) := by decide +kernel
theorem dX11_whyNot_59 : decode cX11_whyNot 59 = .ok (.iaload, 1) := by decide +kernel
theorem dX11_whyNot_60 : decode cX11_whyNot 60 = .ok (.iconst 3, 1) := by decide +kernel
theorem dX11_whyNot_61 : decode cX11_whyNot 61 = .ok (.invokevirtual 271, 3) := by decide +kernel
theorem dX11_whyNot_64 : decode cX11_whyNot 64 = .ok (.if_icmp .le 5, 3) := by decide +kernel
theorem dX11_whyNot_67 : decode cX11_whyNot 67 = .ok (.iconst 5, 1) := by decide +kernel
theorem dX11_whyNot_68 : decode cX11_whyNot 68 = .ok (.ireturn, 1) := by decide +kernel
theorem dX11_whyNot_69 : decode cX11_whyNot 69 = .ok (.iload_n 2, 1) := by decide +kernel
theorem dX11_whyNot_70 : decode cX11_whyNot 70 = .ok (.aload_n 0, 1) := by decide +kernel
theorem dX11_whyNot_71 : decode cX11_whyNot 71 = .ok (.aload_n 0, 1) := by decide +kernel
theorem dX11_whyNot_72 : decode cX11_whyNot 72 = .ok (.getfield 114, 3) := by decide +kernel
theorem dX11_whyNot_75 : decode cX11_whyNot 75 = .ok (.iload_n 3, 1) := by decide +kernel
theorem dX11_whyNot_76 : decode cX11_whyNot 76 = .ok (.iaload, 1) := by decide +kernel
theorem dX11_whyNot_77 : decode cX11_whyNot 77 = .ok (.iconst 2, 1) := by decide +kernel
theorem dX11_whyNot_78 : decode cX11_whyNot 78 = .ok (.invokevirtual 271, 3) := by decide +kernel
theorem dX11_whyNot_81 : decode cX11_whyNot 81 = .ok (.iadd, 1) := by decide +kernel
theorem dX11_whyNot_82 : decode cX11_whyNot 82 = .ok (.istore_n 2, 1) := by decide +kernel
theorem dX11_whyNot_83 : decode cX11_whyNot 83 = .ok (.iinc 3 (-1), 3) := by decide +kernel
theorem dX11_whyNot_86 : decode cX11_whyNot 86 = .ok (.goto (-38), 3) := by decide +kernel
theorem dX11_whyNot_89 : decode cX11_whyNot 89 = .ok (.aload_n 0, 1) := by decide +kernel
theorem dX11_whyNot_90 : decode cX11_whyNot 90 = .ok (.invokevirtual 309, 3) := by decide +kernel
theorem dX11_whyNot_93 : decode cX11_whyNot 93 = .ok (.iload_n 1, 1) := by decide +kernel
theorem dX11_whyNot_94 : decode cX11_whyNot 94 = .ok (.if_icmp .le 8, 3) := by decide +kernel
theorem dX11_whyNot_97 : decode cX11_whyNot 97 = .ok (.bipush 6, 2) := by decide +kernel
theorem dX11_whyNot_99 : decode cX11_whyNot 99 = .ok (.goto 4, 3) := by decide +kernel
theorem dX11_whyNot_102 : decode cX11_whyNot 102 = .ok (.iconst 0, 1) := by decide +kernel
theorem dX11_whyNot_103 : decode cX11_whyNot 103 = .ok (.ireturn, 1) := by decide +kernel
set_option maxHeartbeats 4000000 in
set_option maxRecDepth 100000 in
theorem c_X11_whyNot (l : Launch) (D : DG) (cyC cyI cyJ cyZ cyO : ClassId) (m0 : Nat) (mtold : Nat) (mop : Nat) (marg : Nat) (mfacts : Nat) (mpile : Nat) (mrow : Nat) (mtape : Nat) (msort : Nat) (mplace : Nat) (mvalue : Nat) (mwords : Nat) (mnames : Nat) (mhasHabit : Nat) (mfactWords : Nat) (mstates : Nat) (misMarked : Nat) (mthr : Nat) (mmays : Nat) (mtall : Nat) (mweights : Nat) (mrowOfWare : Nat) (mneededOf : Nat) (mtried : Nat) (mbestRow : Nat) (mdigits : Nat) (p0 : Int32) (m_thrown : Int32) (m_taped : Int32) (m_size : Int32) (m_at : Int32) (m_fault : Int32) (m_codes : Int32) (m_isNew : Int32) (m_inShelf : Int32) (m_inStack : Int32) (m_inPlace : Int32) (m_rowMany : Int32) (m_goShelf : Int32) (m_goStack : Int32) (m_goLeft : Int32) (m_bestCost : Int32) (m_bestMany : Int32) (m_bestShelf : Int32) (m_bestSet : Int32) (m_told : Nat → Int32) (m_op : Nat → Int32) (m_arg : Nat → Int32) (m_facts : Nat → Int32) (m_pile : Nat → Int32) (m_row : Nat → Int32) (h_m_taped : 0 ≤ (m_taped).toInt ∧ (m_taped).toInt ≤ 1000) (h_m_size : 0 ≤ (m_size).toInt ∧ (m_size).toInt ≤ 1000) (h_m_at : 0 ≤ (m_at).toInt ∧ (m_at).toInt ≤ 1000) (h_m_fault : 0 ≤ (m_fault).toInt ∧ (m_fault).toInt ≤ 16005) (h_m_codes : 0 ≤ (m_codes).toInt ∧ (m_codes).toInt ≤ 1000) (h_m_isNew : 0 ≤ (m_isNew).toInt ∧ (m_isNew).toInt ≤ 1) (h_m_inShelf : 0 ≤ (m_inShelf).toInt ∧ (m_inShelf).toInt ≤ 3) (h_m_inStack : 0 ≤ (m_inStack).toInt ∧ (m_inStack).toInt ≤ 7) (h_m_inPlace : 0 ≤ (m_inPlace).toInt ∧ (m_inPlace).toInt ≤ 11) (h_m_rowMany : 0 ≤ (m_rowMany).toInt ∧ (m_rowMany).toInt ≤ 12) (h_m_goShelf : -1 ≤ (m_goShelf).toInt ∧ (m_goShelf).toInt ≤ 3) (h_m_bestMany : 0 ≤ (m_bestMany).toInt ∧ (m_bestMany).toInt ≤ 7) (h_m_bestShelf : 0 ≤ (m_bestShelf).toInt ∧ (m_bestShelf).toInt ≤ 3) (h_m_row : Iv 12 (0) (11) m_row) (h_m_told : TV m_told) (hwf : WFm m_told m_op m_arg) : KK l D (TY cyC cyI cyJ cyZ cyO) yX11_whyNot cX11_whyNot 4 (some .int) ({ frames := 4, cells := 0, slots := 0, locals := 90 } : Room) 0 0 [.ref m0, .int p0] [(m0, .inr (11, [.int m_thrown, .ref mtape, .int m_taped, .int m_size, .ref msort, .ref mplace, .ref mvalue, .int m_at, .int m_fault, .ref mwords, .ref mtold, .ref mop, .ref marg, .int m_codes, .ref mnames, .ref mhasHabit, .int m_isNew, .ref mfactWords, .ref mfacts, .ref mpile, .ref mstates, .ref misMarked, .int m_inShelf, .int m_inStack, .int m_inPlace, .ref mrow, .int m_rowMany, .ref mthr, .ref mmays, .ref mtall, .ref mweights, .ref mrowOfWare, .ref mneededOf, .int m_goShelf, .int m_goStack, .int m_goLeft, .ref mtried, .ref mbestRow, .int m_bestCost, .int m_bestMany, .int m_bestShelf, .int m_bestSet, .ref mdigits])), (mtold, .inl (cyI, 240, .inl m_told)), (mop, .inl (cyI, 2200, .inl m_op)), (marg, .inl (cyI, 2200, .inl m_arg)), (mfacts, .inl (cyI, 8, .inl m_facts)), (mpile, .inl (cyI, 1100, .inl m_pile)), (mrow, .inl (cyI, 12, .inl m_row))] (fun u => some (.int (u.2.1 0))) (fun u => (0 ≤ (u.2.1 0).toInt ∧ (u.2.1 0).toInt ≤ 6) ∧ (∀ E : (Nat → (Nat → Int32) → Int32), ME6 m_told m_op m_arg E → RFZ (fun u l => mayM m_told E u l) (wtM m_told) (brM m_told) (dpM m_told) (rsM m_told) m_row (m_rowMany).toInt.toNat p0 (u.2.1 0).toInt)) (fun u => [(m0, .inr (11, [.int m_thrown, .ref mtape, .int m_taped, .int m_size, .ref msort, .ref mplace, .ref mvalue, .int m_at, .int m_fault, .ref mwords, .ref mtold, .ref mop, .ref marg, .int m_codes, .ref mnames, .ref mhasHabit, .int m_isNew, .ref mfactWords, .ref mfacts, .ref mpile, .ref mstates, .ref misMarked, .int m_inShelf, .int m_inStack, .int m_inPlace, .ref mrow, .int m_rowMany, .ref mthr, .ref mmays, .ref mtall, .ref mweights, .ref mrowOfWare, .ref mneededOf, .int m_goShelf, .int m_goStack, .int m_goLeft, .ref mtried, .ref mbestRow, .int m_bestCost, .int m_bestMany, .int m_bestShelf, .int m_bestSet, .ref mdigits])), (mtold, .inl (cyI, 240, .inl m_told)), (mop, .inl (cyI, 2200, .inl m_op)), (marg, .inl (cyI, 2200, .inl m_arg)), (mfacts, .inl (cyI, 8, .inl (u.2.2.1 0))), (mpile, .inl (cyI, 1100, .inl (u.2.2.1 1))), (mrow, .inl (cyI, 12, .inl m_row))]) := by
  refine KK.of (lv0 := [(0, .ref m0), (1, .int p0)]) (by decide) rfl (Nat.le_of_ble_eq_true rfl) ?_
  intro p e s m args below meth c A C hr hk hin
  refine j_iconst (pc := 0) (v := 1) C dX11_whyNot_0 (by decide) ?_
  refine j_istore_n (pc := 1) (lv' := [(2, .int 1), (0, .ref m0), (1, .int p0)]) C dX11_whyNot_1 rfl (by decide) rfl ?_
  have loop_1 : ∀ (k_1 : Nat) (x1_2 : Int32) (g1_mfacts : Nat → Int32) (g1_mpile : Nat → Int32), (1 ≤ (x1_2).toInt ∧ (x1_2).toInt ≤ 12) → (∀ E : (Nat → (Nat → Int32) → Int32), ME6 m_told m_op m_arg E → ∀ i : Nat, 1 ≤ i → (i : Int) < x1_2.toInt → mayM m_told E (m_row i).toInt.toNat (m_row (i - 1)).toInt.toNat = true) → (12 - x1_2.toInt).toNat < k_1 → J p l e ({ frames := 4, cells := 0, slots := 0, locals := 90 } : Room) s m args below meth c D A 4 0 0 (QX below D (TY cyC cyI cyJ cyZ cyO) A (fun u => some (.int (u.2.1 0))) (fun u => (0 ≤ (u.2.1 0).toInt ∧ (u.2.1 0).toInt ≤ 6) ∧ (∀ E : (Nat → (Nat → Int32) → Int32), ME6 m_told m_op m_arg E → RFZ (fun u l => mayM m_told E u l) (wtM m_told) (brM m_told) (dpM m_told) (rsM m_told) m_row (m_rowMany).toInt.toNat p0 (u.2.1 0).toInt)) (fun u => [(m0, .inr (11, [.int m_thrown, .ref mtape, .int m_taped, .int m_size, .ref msort, .ref mplace, .ref mvalue, .int m_at, .int m_fault, .ref mwords, .ref mtold, .ref mop, .ref marg, .int m_codes, .ref mnames, .ref mhasHabit, .int m_isNew, .ref mfactWords, .ref mfacts, .ref mpile, .ref mstates, .ref misMarked, .int m_inShelf, .int m_inStack, .int m_inPlace, .ref mrow, .int m_rowMany, .ref mthr, .ref mmays, .ref mtall, .ref mweights, .ref mrowOfWare, .ref mneededOf, .int m_goShelf, .int m_goStack, .int m_goLeft, .ref mtried, .ref mbestRow, .int m_bestCost, .int m_bestMany, .int m_bestShelf, .int m_bestSet, .ref mdigits])), (mtold, .inl (cyI, 240, .inl m_told)), (mop, .inl (cyI, 2200, .inl m_op)), (marg, .inl (cyI, 2200, .inl m_arg)), (mfacts, .inl (cyI, 8, .inl (u.2.2.1 0))), (mpile, .inl (cyI, 1100, .inl (u.2.2.1 1))), (mrow, .inl (cyI, 12, .inl m_row))]) args s 0 0) [(m0, .inr (11, [.int m_thrown, .ref mtape, .int m_taped, .int m_size, .ref msort, .ref mplace, .ref mvalue, .int m_at, .int m_fault, .ref mwords, .ref mtold, .ref mop, .ref marg, .int m_codes, .ref mnames, .ref mhasHabit, .int m_isNew, .ref mfactWords, .ref mfacts, .ref mpile, .ref mstates, .ref misMarked, .int m_inShelf, .int m_inStack, .int m_inPlace, .ref mrow, .int m_rowMany, .ref mthr, .ref mmays, .ref mtall, .ref mweights, .ref mrowOfWare, .ref mneededOf, .int m_goShelf, .int m_goStack, .int m_goLeft, .ref mtried, .ref mbestRow, .int m_bestCost, .int m_bestMany, .int m_bestShelf, .int m_bestSet, .ref mdigits])), (mtold, .inl (cyI, 240, .inl m_told)), (mop, .inl (cyI, 2200, .inl m_op)), (marg, .inl (cyI, 2200, .inl m_arg)), (mfacts, .inl (cyI, 8, .inl g1_mfacts)), (mpile, .inl (cyI, 1100, .inl g1_mpile)), (mrow, .inl (cyI, 12, .inl m_row))] 2 [(2, .int x1_2), (0, .ref m0), (1, .int p0)] [] := by
    intro k_1
    induction k_1 with
    | zero =>
      intro x1_2 g1_mfacts g1_mpile hi_1_0 hq_1_0 hm_1
      exact absurd hm_1 (Nat.not_lt_zero _)
    | succ k_1 ih_1 =>
      intro x1_2 g1_mfacts g1_mpile hi_1_0 hq_1_0 hm_1
      refine j_iload_n (pc := 2) C dX11_whyNot_2 rfl 0 rfl ?_
      refine j_aload_n (pc := 3) C dX11_whyNot_3 rfl 1 rfl ?_
      refine j_get (pc := 4) (ci := 11) (v := .int m_rowMany) C inw_11 0 rfl rfl 26 (by decide) wd_779 rfl rfl dX11_whyNot_4 ?_
      refine j_icmp_ge (pc := 7) (tgt := 39) C dX11_whyNot_7 (by decide) (fun c_2 => ?_) (fun c_2 => ?_)
      · skip
        rw [i_le] at c_2
        have hM9 : ∀ E : (Nat → (Nat → Int32) → Int32), ME6 m_told m_op m_arg E → myF (fun u l => mayM m_told E u l) m_row (m_rowMany).toInt.toNat := fun E hE i h1 h2 => hq_1_0 E hE i h1 (by omega)
        refine j_iconst (pc := 39) (v := 0) C dX11_whyNot_39 (by decide) ?_
        refine j_istore_n (pc := 40) (lv' := [(2, .int 0), (0, .ref m0), (1, .int p0)]) C dX11_whyNot_40 rfl (by decide) rfl ?_
        refine j_aload_n (pc := 41) C dX11_whyNot_41 rfl 1 rfl ?_
        refine j_get (pc := 42) (ci := 11) (v := .int m_rowMany) C inw_11 0 rfl rfl 26 (by decide) wd_779 rfl rfl dX11_whyNot_42 ?_
        refine j_iconst (pc := 45) (v := 1) C dX11_whyNot_45 (by decide) ?_
        obtain ⟨v_3, ev_3⟩ : ∃ z : Int32, m_rowMany - 1 = z := ⟨_, rfl⟩
        have el_1 : (1 : Int32).toInt = 1 := rfl
        have hv_3 : v_3.toInt = m_rowMany.toInt - (1 : Int32).toInt := by rw [← ev_3]; exact fb_subI (by omega) (by omega)
        refine j_isub (pc := 46) (v := v_3) C dX11_whyNot_46 ev_3 ?_
        refine j_istore_n (pc := 47) (lv' := [(3, .int v_3), (2, .int 0), (0, .ref m0), (1, .int p0)]) C dX11_whyNot_47 rfl (by decide) rfl ?_
        have loop_4 : ∀ (k_4 : Nat) (x4_3 : Int32) (x4_2 : Int32), (-1 ≤ (x4_3).toInt ∧ (x4_3).toInt ≤ 11) → (x4_3.toInt ≤ (m_rowMany).toInt - 1) → (x4_2 = wtF (wtM m_told) m_row (x4_3.toInt + 1).toNat (m_rowMany).toInt.toNat) → (∀ i : Nat, x4_3.toInt < (i : Int) → (i : Int) < (m_rowMany).toInt → ¬ brM m_told (m_row i).toInt.toNat < wtF (wtM m_told) m_row (i + 1) (m_rowMany).toInt.toNat) → (x4_3.toInt + 1).toNat < k_4 → J p l e ({ frames := 4, cells := 0, slots := 0, locals := 90 } : Room) s m args below meth c D A 4 0 0 (QX below D (TY cyC cyI cyJ cyZ cyO) A (fun u => some (.int (u.2.1 0))) (fun u => (0 ≤ (u.2.1 0).toInt ∧ (u.2.1 0).toInt ≤ 6) ∧ (∀ E : (Nat → (Nat → Int32) → Int32), ME6 m_told m_op m_arg E → RFZ (fun u l => mayM m_told E u l) (wtM m_told) (brM m_told) (dpM m_told) (rsM m_told) m_row (m_rowMany).toInt.toNat p0 (u.2.1 0).toInt)) (fun u => [(m0, .inr (11, [.int m_thrown, .ref mtape, .int m_taped, .int m_size, .ref msort, .ref mplace, .ref mvalue, .int m_at, .int m_fault, .ref mwords, .ref mtold, .ref mop, .ref marg, .int m_codes, .ref mnames, .ref mhasHabit, .int m_isNew, .ref mfactWords, .ref mfacts, .ref mpile, .ref mstates, .ref misMarked, .int m_inShelf, .int m_inStack, .int m_inPlace, .ref mrow, .int m_rowMany, .ref mthr, .ref mmays, .ref mtall, .ref mweights, .ref mrowOfWare, .ref mneededOf, .int m_goShelf, .int m_goStack, .int m_goLeft, .ref mtried, .ref mbestRow, .int m_bestCost, .int m_bestMany, .int m_bestShelf, .int m_bestSet, .ref mdigits])), (mtold, .inl (cyI, 240, .inl m_told)), (mop, .inl (cyI, 2200, .inl m_op)), (marg, .inl (cyI, 2200, .inl m_arg)), (mfacts, .inl (cyI, 8, .inl (u.2.2.1 0))), (mpile, .inl (cyI, 1100, .inl (u.2.2.1 1))), (mrow, .inl (cyI, 12, .inl m_row))]) args s 0 0) [(m0, .inr (11, [.int m_thrown, .ref mtape, .int m_taped, .int m_size, .ref msort, .ref mplace, .ref mvalue, .int m_at, .int m_fault, .ref mwords, .ref mtold, .ref mop, .ref marg, .int m_codes, .ref mnames, .ref mhasHabit, .int m_isNew, .ref mfactWords, .ref mfacts, .ref mpile, .ref mstates, .ref misMarked, .int m_inShelf, .int m_inStack, .int m_inPlace, .ref mrow, .int m_rowMany, .ref mthr, .ref mmays, .ref mtall, .ref mweights, .ref mrowOfWare, .ref mneededOf, .int m_goShelf, .int m_goStack, .int m_goLeft, .ref mtried, .ref mbestRow, .int m_bestCost, .int m_bestMany, .int m_bestShelf, .int m_bestSet, .ref mdigits])), (mtold, .inl (cyI, 240, .inl m_told)), (mop, .inl (cyI, 2200, .inl m_op)), (marg, .inl (cyI, 2200, .inl m_arg)), (mfacts, .inl (cyI, 8, .inl g1_mfacts)), (mpile, .inl (cyI, 1100, .inl g1_mpile)), (mrow, .inl (cyI, 12, .inl m_row))] 48 [(3, .int x4_3), (2, .int x4_2), (0, .ref m0), (1, .int p0)] [] := by
          intro k_4
          induction k_4 with
          | zero =>
            intro x4_3 x4_2 hi_4_0 hr_4 hq_4_0 hq_4_1 hm_4
            exact absurd hm_4 (Nat.not_lt_zero _)
          | succ k_4 ih_4 =>
            intro x4_3 x4_2 hi_4_0 hr_4 hq_4_0 hq_4_1 hm_4
            refine j_iload_n (pc := 48) C dX11_whyNot_48 rfl 0 rfl ?_
            refine j_if_lt (pc := 49) (tgt := 89) C dX11_whyNot_49 (by decide) (fun c_5 => ?_) (fun c_5 => ?_)
            · skip
              have el_0 : (0 : Int32).toInt = 0 := rfl
              rw [i_lt] at c_5
              have k0c_5 : x4_3.toInt = -1 := by omega
              have hB9 : brF (wtM m_told) (brM m_told) m_row (m_rowMany).toInt.toNat := fun i h2 => hq_4_1 i (by omega) (by omega)
              refine j_aload_n (pc := 89) C dX11_whyNot_89 rfl 2 rfl ?_
              refine j_callV (pc := 90) (As := []) (rest := []) (wr := [(mop, .inl (cyI, 2200, .inl m_op)), (marg, .inl (cyI, 2200, .inl m_arg)), (mfacts, .inl (cyI, 8, .inl g1_mfacts)), (mpile, .inl (cyI, 1100, .inl g1_mpile))]) C (c_X11_highest l D cyC cyI cyJ cyZ cyO m0 mtold mrow mtape msort mplace mvalue mwords mop marg mnames mhasHabit mfactWords mfacts mpile mstates misMarked mthr mmays mtall mweights mrowOfWare mneededOf mtried mbestRow mdigits m_thrown m_taped m_size m_at m_fault m_codes m_isNew m_inShelf m_inStack m_inPlace m_rowMany m_goShelf m_goStack m_goLeft m_bestCost m_bestMany m_bestShelf m_bestSet m_told m_row h_m_taped h_m_size h_m_at h_m_fault h_m_codes h_m_isNew h_m_inShelf h_m_inStack h_m_inPlace h_m_rowMany h_m_goShelf h_m_bestMany h_m_bestShelf h_m_row h_m_told) wd_806 wd_624 wd_807 wd_808 wd_809 ⟨by decide, by decide, rfl⟩ rfl ⟨rfl, rfl, by decide, by decide⟩ ⟨by decide, by decide⟩ [0, 1, 6] [2, 3, 4, 5] rfl rfl ⟨by decide, by decide, by decide⟩ 0 rfl rfl rfl (Nat.le_of_ble_eq_true rfl) dX11_whyNot_90 (fun u_6 hw_7 => ?_)
              refine j_eq (ws2 := [(mop, .inl (cyI, 2200, .inl m_op)), (marg, .inl (cyI, 2200, .inl m_arg)), (mfacts, .inl (cyI, 8, .inl g1_mfacts)), (mpile, .inl (cyI, 1100, .inl g1_mpile)), (m0, .inr (11, [.int m_thrown, .ref mtape, .int m_taped, .int m_size, .ref msort, .ref mplace, .ref mvalue, .int m_at, .int m_fault, .ref mwords, .ref mtold, .ref mop, .ref marg, .int m_codes, .ref mnames, .ref mhasHabit, .int m_isNew, .ref mfactWords, .ref mfacts, .ref mpile, .ref mstates, .ref misMarked, .int m_inShelf, .int m_inStack, .int m_inPlace, .ref mrow, .int m_rowMany, .ref mthr, .ref mmays, .ref mtall, .ref mweights, .ref mrowOfWare, .ref mneededOf, .int m_goShelf, .int m_goStack, .int m_goLeft, .ref mtried, .ref mbestRow, .int m_bestCost, .int m_bestMany, .int m_bestShelf, .int m_bestSet, .ref mdigits])), (mtold, .inl (cyI, 240, .inl m_told)), (mrow, .inl (cyI, 12, .inl m_row))]) (pc2 := 93) (lv2 := [(3, .int x4_3), (2, .int x4_2), (0, .ref m0), (1, .int p0)]) (st2 := [.int (u_6.2.1 0)]) rfl rfl rfl rfl ?_
              have hw_7_0 : (u_6.2.1 0) = hiF (rsM m_told) (dpM m_told) m_row (m_rowMany).toInt.toNat := hw_7
              refine j_iload_n (pc := 93) C dX11_whyNot_93 rfl 3 rfl ?_
              refine j_icmp_le (pc := 94) (tgt := 102) C dX11_whyNot_94 (by decide) (fun c_8 => ?_) (fun c_8 => ?_)
              · skip
                rw [i_le] at c_8
                refine j_iconst (pc := 102) (v := 0) C dX11_whyNot_102 (by decide) ?_
                have el_0 : (0 : Int32).toInt = 0 := rfl
                have el_0 : (0 : Int32).toInt = 0 := rfl
                have el_6 : (6 : Int32).toInt = 6 := rfl
                have el_0 : (0 : Int32).toInt = 0 := rfl
                exact j_iret (pc := 103) C hr hk (fun i => [].getD i 0, fun i => [0].getD i 0, fun i => [g1_mfacts, g1_mpile].getD i (fun _ => 0), fun i => [].getD i (fun _ => 0)) rfl (show (0 ≤ ((0 : Int32)).toInt ∧ ((0 : Int32)).toInt ≤ 6) ∧ (∀ E : (Nat → (Nat → Int32) → Int32), ME6 m_told m_op m_arg E → RFZ (fun u l => mayM m_told E u l) (wtM m_told) (brM m_told) (dpM m_told) (rsM m_told) m_row (m_rowMany).toInt.toNat p0 (0 : Int32).toInt) from ⟨by omega, (fun E hE => Or.inr ⟨hM9 E hE, Or.inr ⟨hB9, Or.inr ⟨rfl, by rw [← hw_7_0, i_lt]; omega⟩⟩⟩)⟩) [4, 5, 0, 1, 2, 3, 6] (by decide) rfl (by decide) (by decide) dX11_whyNot_103
              · skip
                rw [i_le] at c_8
                refine j_bipush (pc := 97) (v := 6) C dX11_whyNot_97 (by decide) ?_
                refine j_goto (pc := 99) (tgt := 103) C dX11_whyNot_99 (by decide) ?_
                have el_6 : (6 : Int32).toInt = 6 := rfl
                have el_6 : (6 : Int32).toInt = 6 := rfl
                have el_6 : (6 : Int32).toInt = 6 := rfl
                have el_0 : (0 : Int32).toInt = 0 := rfl
                exact j_iret (pc := 103) C hr hk (fun i => [].getD i 0, fun i => [6].getD i 0, fun i => [g1_mfacts, g1_mpile].getD i (fun _ => 0), fun i => [].getD i (fun _ => 0)) rfl (show (0 ≤ ((6 : Int32)).toInt ∧ ((6 : Int32)).toInt ≤ 6) ∧ (∀ E : (Nat → (Nat → Int32) → Int32), ME6 m_told m_op m_arg E → RFZ (fun u l => mayM m_told E u l) (wtM m_told) (brM m_told) (dpM m_told) (rsM m_told) m_row (m_rowMany).toInt.toNat p0 (6 : Int32).toInt) from ⟨by omega, (fun E hE => Or.inr ⟨hM9 E hE, Or.inr ⟨hB9, Or.inl ⟨rfl, by rw [← hw_7_0, i_lt]; omega⟩⟩⟩)⟩) [4, 5, 0, 1, 2, 3, 6] (by decide) rfl (by decide) (by decide) dX11_whyNot_103
            · skip
              have el_0 : (0 : Int32).toInt = 0 := rfl
              rw [i_lt] at c_5
              refine j_iload_n (pc := 52) C dX11_whyNot_52 rfl 1 rfl ?_
              refine j_aload_n (pc := 53) C dX11_whyNot_53 rfl 2 rfl ?_
              refine j_aload_n (pc := 54) C dX11_whyNot_54 rfl 2 rfl ?_
              refine j_get (pc := 55) (ci := 11) (v := .ref mrow) C inw_11 0 rfl rfl 25 (by decide) wd_780 rfl rfl dX11_whyNot_55 ?_
              refine j_iload_n (pc := 58) C dX11_whyNot_58 rfl 0 rfl ?_
              obtain ⟨v_9, ev_9⟩ : ∃ z, m_row (x4_3).toInt.toNat = z := ⟨_, rfl⟩
              have env_9 : (m_row (x4_3).toInt.toNat).toInt = v_9.toInt := by rw [ev_9]
              have hv_9 := h_m_row (x4_3).toInt.toNat (i_lt_n (by omega) (Int.lt_of_le_of_lt hi_4_0.2 (by decide))); rw [ev_9] at hv_9
              refine j_iald (pc := 59) (v := v_9) (k := (x4_3).toInt.toNat) C 6 1 rfl rfl (i_nn (by omega)) rfl (i_lt_n (by omega) (Int.lt_of_le_of_lt hi_4_0.2 (by decide))) ev_9 dX11_whyNot_59 ?_
              refine j_iconst (pc := 60) (v := 3) C dX11_whyNot_60 (by decide) ?_
              refine j_callV (pc := 61) (As := [.int v_9, .int 3]) (rest := [.int x4_2]) (wr := [(mop, .inl (cyI, 2200, .inl m_op)), (marg, .inl (cyI, 2200, .inl m_arg)), (mfacts, .inl (cyI, 8, .inl g1_mfacts)), (mpile, .inl (cyI, 1100, .inl g1_mpile)), (mrow, .inl (cyI, 12, .inl m_row))]) C (c_X11_wareOf l D cyC cyI cyJ cyZ cyO m0 mtold mtape msort mplace mvalue mwords mop marg mnames mhasHabit mfactWords mfacts mpile mstates misMarked mrow mthr mmays mtall mweights mrowOfWare mneededOf mtried mbestRow mdigits v_9 3 m_thrown m_taped m_size m_at m_fault m_codes m_isNew m_inShelf m_inStack m_inPlace m_rowMany m_goShelf m_goStack m_goLeft m_bestCost m_bestMany m_bestShelf m_bestSet m_told h_m_taped h_m_size h_m_at h_m_fault h_m_codes h_m_isNew h_m_inShelf h_m_inStack h_m_inPlace h_m_rowMany h_m_goShelf h_m_bestMany h_m_bestShelf hv_9 (by decide) h_m_told) wd_756 wd_624 wd_757 wd_758 wd_759 ⟨by decide, by decide, rfl⟩ rfl ⟨rfl, rfl, by decide, by decide⟩ ⟨by decide, by decide⟩ [0, 1] [2, 3, 4, 5, 6] rfl rfl ⟨by decide, by decide, by decide⟩ 0 rfl rfl rfl (Nat.le_of_ble_eq_true rfl) dX11_whyNot_61 (fun u_10 hw_11 => ?_)
              refine j_eq (ws2 := [(mop, .inl (cyI, 2200, .inl m_op)), (marg, .inl (cyI, 2200, .inl m_arg)), (mfacts, .inl (cyI, 8, .inl g1_mfacts)), (mpile, .inl (cyI, 1100, .inl g1_mpile)), (mrow, .inl (cyI, 12, .inl m_row)), (m0, .inr (11, [.int m_thrown, .ref mtape, .int m_taped, .int m_size, .ref msort, .ref mplace, .ref mvalue, .int m_at, .int m_fault, .ref mwords, .ref mtold, .ref mop, .ref marg, .int m_codes, .ref mnames, .ref mhasHabit, .int m_isNew, .ref mfactWords, .ref mfacts, .ref mpile, .ref mstates, .ref misMarked, .int m_inShelf, .int m_inStack, .int m_inPlace, .ref mrow, .int m_rowMany, .ref mthr, .ref mmays, .ref mtall, .ref mweights, .ref mrowOfWare, .ref mneededOf, .int m_goShelf, .int m_goStack, .int m_goLeft, .ref mtried, .ref mbestRow, .int m_bestCost, .int m_bestMany, .int m_bestShelf, .int m_bestSet, .ref mdigits])), (mtold, .inl (cyI, 240, .inl m_told))]) (pc2 := 64) (lv2 := [(3, .int x4_3), (2, .int x4_2), (0, .ref m0), (1, .int p0)]) (st2 := [.int (u_10.2.1 0), .int x4_2]) rfl rfl rfl rfl ?_
              obtain ⟨hw_11_0, hw_11_1⟩ := hw_11
              refine j_icmp_le (pc := 64) (tgt := 69) C dX11_whyNot_64 (by decide) (fun c_12 => ?_) (fun c_12 => ?_)
              · skip
                rw [i_le] at c_12
                refine j_iload_n (pc := 69) C dX11_whyNot_69 rfl 1 rfl ?_
                refine j_aload_n (pc := 70) C dX11_whyNot_70 rfl 2 rfl ?_
                refine j_aload_n (pc := 71) C dX11_whyNot_71 rfl 2 rfl ?_
                refine j_get (pc := 72) (ci := 11) (v := .ref mrow) C inw_11 5 rfl rfl 25 (by decide) wd_780 rfl rfl dX11_whyNot_72 ?_
                refine j_iload_n (pc := 75) C dX11_whyNot_75 rfl 0 rfl ?_
                refine j_iald (pc := 76) (v := v_9) (k := (x4_3).toInt.toNat) C 4 1 rfl rfl (i_nn (by omega)) rfl (i_lt_n (by omega) (Int.lt_of_le_of_lt hi_4_0.2 (by decide))) ev_9 dX11_whyNot_76 ?_
                refine j_iconst (pc := 77) (v := 2) C dX11_whyNot_77 (by decide) ?_
                refine j_callV (pc := 78) (As := [.int v_9, .int 2]) (rest := [.int x4_2]) (wr := [(mop, .inl (cyI, 2200, .inl m_op)), (marg, .inl (cyI, 2200, .inl m_arg)), (mfacts, .inl (cyI, 8, .inl g1_mfacts)), (mpile, .inl (cyI, 1100, .inl g1_mpile)), (mrow, .inl (cyI, 12, .inl m_row))]) C (c_X11_wareOf l D cyC cyI cyJ cyZ cyO m0 mtold mtape msort mplace mvalue mwords mop marg mnames mhasHabit mfactWords mfacts mpile mstates misMarked mrow mthr mmays mtall mweights mrowOfWare mneededOf mtried mbestRow mdigits v_9 2 m_thrown m_taped m_size m_at m_fault m_codes m_isNew m_inShelf m_inStack m_inPlace m_rowMany m_goShelf m_goStack m_goLeft m_bestCost m_bestMany m_bestShelf m_bestSet m_told h_m_taped h_m_size h_m_at h_m_fault h_m_codes h_m_isNew h_m_inShelf h_m_inStack h_m_inPlace h_m_rowMany h_m_goShelf h_m_bestMany h_m_bestShelf hv_9 (by decide) h_m_told) wd_756 wd_624 wd_757 wd_758 wd_759 ⟨by decide, by decide, rfl⟩ rfl ⟨rfl, rfl, by decide, by decide⟩ ⟨by decide, by decide⟩ [5, 6] [0, 1, 2, 3, 4] rfl rfl ⟨by decide, by decide, by decide⟩ 5 rfl rfl rfl (Nat.le_of_ble_eq_true rfl) dX11_whyNot_78 (fun u_13 hw_14 => ?_)
                refine j_eq (ws2 := [(mop, .inl (cyI, 2200, .inl m_op)), (marg, .inl (cyI, 2200, .inl m_arg)), (mfacts, .inl (cyI, 8, .inl g1_mfacts)), (mpile, .inl (cyI, 1100, .inl g1_mpile)), (mrow, .inl (cyI, 12, .inl m_row)), (m0, .inr (11, [.int m_thrown, .ref mtape, .int m_taped, .int m_size, .ref msort, .ref mplace, .ref mvalue, .int m_at, .int m_fault, .ref mwords, .ref mtold, .ref mop, .ref marg, .int m_codes, .ref mnames, .ref mhasHabit, .int m_isNew, .ref mfactWords, .ref mfacts, .ref mpile, .ref mstates, .ref misMarked, .int m_inShelf, .int m_inStack, .int m_inPlace, .ref mrow, .int m_rowMany, .ref mthr, .ref mmays, .ref mtall, .ref mweights, .ref mrowOfWare, .ref mneededOf, .int m_goShelf, .int m_goStack, .int m_goLeft, .ref mtried, .ref mbestRow, .int m_bestCost, .int m_bestMany, .int m_bestShelf, .int m_bestSet, .ref mdigits])), (mtold, .inl (cyI, 240, .inl m_told))]) (pc2 := 81) (lv2 := [(3, .int x4_3), (2, .int x4_2), (0, .ref m0), (1, .int p0)]) (st2 := [.int (u_13.2.1 0), .int x4_2]) rfl rfl rfl rfl ?_
                obtain ⟨hw_14_0, hw_14_1⟩ := hw_14
                obtain ⟨v_15, ev_15⟩ : ∃ z : Int32, x4_2 + (u_13.2.1 0) = z := ⟨_, rfl⟩
                have := i_bd x4_2
                have hv_15 : v_15.toInt = x4_2.toInt + ((u_13.2.1 0)).toInt := by rw [← ev_15]; exact fb_addI (by omega) (by omega)
                refine j_iadd (pc := 81) (v := v_15) C dX11_whyNot_81 ev_15 ?_
                refine j_istore_n (pc := 82) (lv' := [(2, .int v_15), (3, .int x4_3), (0, .ref m0), (1, .int p0)]) C dX11_whyNot_82 rfl (by decide) rfl ?_
                obtain ⟨v_16, ev_16⟩ : ∃ z : Int32, x4_3 + (-1) = z := ⟨_, rfl⟩
                have el_m1 : ((-1) : Int32).toInt = (-1) := rfl
                have hv_16 : v_16.toInt = x4_3.toInt + ((-1) : Int32).toInt := by rw [← ev_16]; exact fb_addI (by omega) (by omega)
                refine j_iinc (pc := 83) (v := v_16) (lv' := [(3, .int v_16), (2, .int v_15), (0, .ref m0), (1, .int p0)]) C dX11_whyNot_83 1 rfl ev_16 (by decide) rfl ?_
                refine j_goto (pc := 86) (tgt := 48) C dX11_whyNot_86 (by decide) ?_
                refine j_subG (ws' := [(m0, .inr (11, [.int m_thrown, .ref mtape, .int m_taped, .int m_size, .ref msort, .ref mplace, .ref mvalue, .int m_at, .int m_fault, .ref mwords, .ref mtold, .ref mop, .ref marg, .int m_codes, .ref mnames, .ref mhasHabit, .int m_isNew, .ref mfactWords, .ref mfacts, .ref mpile, .ref mstates, .ref misMarked, .int m_inShelf, .int m_inStack, .int m_inPlace, .ref mrow, .int m_rowMany, .ref mthr, .ref mmays, .ref mtall, .ref mweights, .ref mrowOfWare, .ref mneededOf, .int m_goShelf, .int m_goStack, .int m_goLeft, .ref mtried, .ref mbestRow, .int m_bestCost, .int m_bestMany, .int m_bestShelf, .int m_bestSet, .ref mdigits])), (mtold, .inl (cyI, 240, .inl m_told)), (mop, .inl (cyI, 2200, .inl m_op)), (marg, .inl (cyI, 2200, .inl m_arg)), (mfacts, .inl (cyI, 8, .inl g1_mfacts)), (mpile, .inl (cyI, 1100, .inl g1_mpile)), (mrow, .inl (cyI, 12, .inl m_row))]) [5, 6, 0, 1, 2, 3, 4] (by decide) rfl ?_
                exact j_lv [0, 1, 2, 3] rfl (ih_4 v_16 v_15 (by omega) (by omega) (by have y0 : (u_13.2.1 0) = wtM m_told (v_9).toInt.toNat := hw_14_1; rw [show (v_16.toInt + 1).toNat = (x4_3).toInt.toNat from (by omega), wtF_low _ _ _ (by omega), ← ev_15, hq_4_0, show ((x4_3).toInt + 1).toNat = (x4_3).toInt.toNat + 1 from (by omega), y0, ev_9, Int32.add_comm]) (fun i h1 h2 => by rcases Int.lt_or_le (x4_3).toInt (i : Int) with q | q; (exact hq_4_1 i q h2); (rw [show i = (x4_3).toInt.toNat from (by omega), ev_9, i_lt]; have y0 : (u_10.2.1 0) = brM m_told (v_9).toInt.toNat := hw_11_1; rw [← y0]; have y1 := congrArg Int32.toInt hq_4_0; rw [show ((x4_3).toInt + 1).toNat = (x4_3).toInt.toNat + 1 from (by omega)] at y1; omega)) (by omega))
              · skip
                rw [i_le] at c_12
                refine j_iconst (pc := 67) (v := 5) C dX11_whyNot_67 (by decide) ?_
                have el_5 : (5 : Int32).toInt = 5 := rfl
                have el_5 : (5 : Int32).toInt = 5 := rfl
                have el_6 : (6 : Int32).toInt = 6 := rfl
                have el_0 : (0 : Int32).toInt = 0 := rfl
                exact j_iret (pc := 68) C hr hk (fun i => [].getD i 0, fun i => [5].getD i 0, fun i => [g1_mfacts, g1_mpile].getD i (fun _ => 0), fun i => [].getD i (fun _ => 0)) rfl (show (0 ≤ ((5 : Int32)).toInt ∧ ((5 : Int32)).toInt ≤ 6) ∧ (∀ E : (Nat → (Nat → Int32) → Int32), ME6 m_told m_op m_arg E → RFZ (fun u l => mayM m_told E u l) (wtM m_told) (brM m_told) (dpM m_told) (rsM m_told) m_row (m_rowMany).toInt.toNat p0 (5 : Int32).toInt) from ⟨by omega, (fun E hE => Or.inr ⟨hM9 E hE, Or.inl ⟨rfl, fun z => by have z9 := z (x4_3).toInt.toNat (by omega); rw [ev_9, i_lt] at z9; have y0 : (u_10.2.1 0) = brM m_told (v_9).toInt.toNat := hw_11_1; rw [← y0] at z9; have y1 := congrArg Int32.toInt hq_4_0; rw [show ((x4_3).toInt + 1).toNat = (x4_3).toInt.toNat + 1 from (by omega)] at y1; omega⟩⟩)⟩) [5, 6, 0, 1, 2, 3, 4] (by decide) rfl (by decide) (by decide) dX11_whyNot_68
        have el_0 : (0 : Int32).toInt = 0 := rfl
        exact j_lv [0, 1, 2, 3] rfl (loop_4 4096 v_3 0 (by omega) (by omega) (by rw [show (v_3.toInt + 1).toNat = (m_rowMany).toInt.toNat from (by omega)]; exact (wtF_0 _ _ (Nat.le_refl _)).symm) (fun i h1 h2 => absurd h1 (by omega)) (by omega))
      · skip
        rw [i_le] at c_2
        refine j_aload_n (pc := 10) C dX11_whyNot_10 rfl 1 rfl ?_
        refine j_aload_n (pc := 11) C dX11_whyNot_11 rfl 1 rfl ?_
        refine j_get (pc := 12) (ci := 11) (v := .ref mrow) C inw_11 0 rfl rfl 25 (by decide) wd_780 rfl rfl dX11_whyNot_12 ?_
        refine j_iload_n (pc := 15) C dX11_whyNot_15 rfl 0 rfl ?_
        obtain ⟨v_17, ev_17⟩ : ∃ z, m_row (x1_2).toInt.toNat = z := ⟨_, rfl⟩
        have env_17 : (m_row (x1_2).toInt.toNat).toInt = v_17.toInt := by rw [ev_17]
        have hv_17 := h_m_row (x1_2).toInt.toNat (i_lt_n (Int.le_trans (by decide) hi_1_0.1) (by omega)); rw [ev_17] at hv_17
        refine j_iald (pc := 16) (v := v_17) (k := (x1_2).toInt.toNat) C 6 1 rfl rfl (i_nn (Int.le_trans (by decide) hi_1_0.1)) rfl (i_lt_n (Int.le_trans (by decide) hi_1_0.1) (by omega)) ev_17 dX11_whyNot_16 ?_
        refine j_aload_n (pc := 17) C dX11_whyNot_17 rfl 1 rfl ?_
        refine j_get (pc := 18) (ci := 11) (v := .ref mrow) C inw_11 0 rfl rfl 25 (by decide) wd_780 rfl rfl dX11_whyNot_18 ?_
        refine j_iload_n (pc := 21) C dX11_whyNot_21 rfl 0 rfl ?_
        refine j_iconst (pc := 22) (v := 1) C dX11_whyNot_22 (by decide) ?_
        obtain ⟨v_18, ev_18⟩ : ∃ z : Int32, x1_2 - 1 = z := ⟨_, rfl⟩
        have el_1 : (1 : Int32).toInt = 1 := rfl
        have hv_18 : v_18.toInt = x1_2.toInt - (1 : Int32).toInt := by rw [← ev_18]; exact fb_subI (by omega) (by omega)
        refine j_isub (pc := 23) (v := v_18) C dX11_whyNot_23 ev_18 ?_
        obtain ⟨v_19, ev_19⟩ : ∃ z, m_row (v_18).toInt.toNat = z := ⟨_, rfl⟩
        have env_19 : (m_row (v_18).toInt.toNat).toInt = v_19.toInt := by rw [ev_19]
        have hv_19 := h_m_row (v_18).toInt.toNat (i_lt_n (by omega) (by omega)); rw [ev_19] at hv_19
        refine j_iald (pc := 24) (v := v_19) (k := (v_18).toInt.toNat) C 6 1 rfl rfl (i_nn (by omega)) rfl (i_lt_n (by omega) (by omega)) ev_19 dX11_whyNot_24 ?_
        refine j_callV (pc := 25) (As := [.int v_17, .int v_19]) (rest := []) (wr := [(mrow, .inl (cyI, 12, .inl m_row))]) C (c_X11_mayOn l D cyC cyI cyJ cyZ cyO m0 mtold mop marg mfacts mpile mtape msort mplace mvalue mwords mnames mhasHabit mfactWords mstates misMarked mrow mthr mmays mtall mweights mrowOfWare mneededOf mtried mbestRow mdigits v_17 v_19 m_thrown m_taped m_size m_at m_fault m_codes m_isNew m_inShelf m_inStack m_inPlace m_rowMany m_goShelf m_goStack m_goLeft m_bestCost m_bestMany m_bestShelf m_bestSet m_told m_op m_arg g1_mfacts g1_mpile h_m_taped h_m_size h_m_at h_m_fault h_m_codes h_m_isNew h_m_inShelf h_m_inStack h_m_inPlace h_m_rowMany h_m_goShelf h_m_bestMany h_m_bestShelf hv_17 hv_19 h_m_told hwf) wd_810 wd_624 wd_811 wd_812 wd_813 ⟨by decide, by decide, rfl⟩ rfl ⟨rfl, rfl, by decide, by decide⟩ ⟨by decide, by decide⟩ [0, 1, 2, 3, 4, 5] [6] rfl rfl ⟨by decide, by decide, by decide⟩ 0 rfl rfl rfl (Nat.le_of_ble_eq_true rfl) dX11_whyNot_25 (fun u_20 hw_21 => ?_)
        refine j_eq (ws2 := [(mrow, .inl (cyI, 12, .inl m_row)), (m0, .inr (11, [.int m_thrown, .ref mtape, .int m_taped, .int m_size, .ref msort, .ref mplace, .ref mvalue, .int m_at, .int m_fault, .ref mwords, .ref mtold, .ref mop, .ref marg, .int m_codes, .ref mnames, .ref mhasHabit, .int m_isNew, .ref mfactWords, .ref mfacts, .ref mpile, .ref mstates, .ref misMarked, .int m_inShelf, .int m_inStack, .int m_inPlace, .ref mrow, .int m_rowMany, .ref mthr, .ref mmays, .ref mtall, .ref mweights, .ref mrowOfWare, .ref mneededOf, .int m_goShelf, .int m_goStack, .int m_goLeft, .ref mtried, .ref mbestRow, .int m_bestCost, .int m_bestMany, .int m_bestShelf, .int m_bestSet, .ref mdigits])), (mtold, .inl (cyI, 240, .inl m_told)), (mop, .inl (cyI, 2200, .inl m_op)), (marg, .inl (cyI, 2200, .inl m_arg)), (mfacts, .inl (cyI, 8, .inl (u_20.2.2.1 0))), (mpile, .inl (cyI, 1100, .inl (u_20.2.2.1 1)))]) (pc2 := 28) (lv2 := [(2, .int x1_2), (0, .ref m0), (1, .int p0)]) (st2 := [.int (u_20.2.1 0)]) rfl rfl rfl rfl ?_
        obtain ⟨hw_21_0, hw_21_1⟩ := hw_21
        refine j_if_ne (pc := 28) (tgt := 33) C dX11_whyNot_28 (by decide) (fun c_22 => ?_) (fun c_22 => ?_)
        · skip
          have el_0 : (0 : Int32).toInt = 0 := rfl
          rw [i_eq] at c_22
          have k0c_22 : ((u_20.2.1 0)).toInt = 1 := by omega
          obtain ⟨v_23, ev_23⟩ : ∃ z : Int32, x1_2 + 1 = z := ⟨_, rfl⟩
          have el_1 : (1 : Int32).toInt = 1 := rfl
          have hv_23 : v_23.toInt = x1_2.toInt + (1 : Int32).toInt := by rw [← ev_23]; exact fb_addI (by omega) (by omega)
          refine j_iinc (pc := 33) (v := v_23) (lv' := [(2, .int v_23), (0, .ref m0), (1, .int p0)]) C dX11_whyNot_33 0 rfl ev_23 (by decide) rfl ?_
          refine j_goto (pc := 36) (tgt := 2) C dX11_whyNot_36 (by decide) ?_
          refine j_subG (ws' := [(m0, .inr (11, [.int m_thrown, .ref mtape, .int m_taped, .int m_size, .ref msort, .ref mplace, .ref mvalue, .int m_at, .int m_fault, .ref mwords, .ref mtold, .ref mop, .ref marg, .int m_codes, .ref mnames, .ref mhasHabit, .int m_isNew, .ref mfactWords, .ref mfacts, .ref mpile, .ref mstates, .ref misMarked, .int m_inShelf, .int m_inStack, .int m_inPlace, .ref mrow, .int m_rowMany, .ref mthr, .ref mmays, .ref mtall, .ref mweights, .ref mrowOfWare, .ref mneededOf, .int m_goShelf, .int m_goStack, .int m_goLeft, .ref mtried, .ref mbestRow, .int m_bestCost, .int m_bestMany, .int m_bestShelf, .int m_bestSet, .ref mdigits])), (mtold, .inl (cyI, 240, .inl m_told)), (mop, .inl (cyI, 2200, .inl m_op)), (marg, .inl (cyI, 2200, .inl m_arg)), (mfacts, .inl (cyI, 8, .inl (u_20.2.2.1 0))), (mpile, .inl (cyI, 1100, .inl (u_20.2.2.1 1))), (mrow, .inl (cyI, 12, .inl m_row))]) [1, 2, 3, 4, 5, 6, 0] (by decide) rfl ?_
          exact j_lv [0, 1, 2] rfl (ih_1 v_23 (u_20.2.2.1 0) (u_20.2.2.1 1) (by omega) (fun E hE i h1 h2 => by rcases Int.lt_or_le (i : Int) (x1_2).toInt with q | q; (exact hq_1_0 E hE i h1 q); (rw [show i = (x1_2).toInt.toNat from (by omega)]; show mayM m_told E (m_row (x1_2).toInt.toNat).toInt.toNat (m_row ((x1_2).toInt.toNat - 1)).toInt.toNat = true; rw [ev_17, show (x1_2).toInt.toNat - 1 = (v_18).toInt.toNat from (by omega), ev_19]; have y9 := hw_21_1 E hE; by_cases z : mayM m_told E (v_17).toInt.toNat (v_19).toInt.toNat = true; (exact z); (rw [if_neg z] at y9; exfalso; omega))) (by omega))
        · skip
          have el_0 : (0 : Int32).toInt = 0 := rfl
          rw [i_eq] at c_22
          refine j_iconst (pc := 31) (v := 4) C dX11_whyNot_31 (by decide) ?_
          have el_4 : (4 : Int32).toInt = 4 := rfl
          have el_4 : (4 : Int32).toInt = 4 := rfl
          have el_6 : (6 : Int32).toInt = 6 := rfl
          have el_0 : (0 : Int32).toInt = 0 := rfl
          exact j_iret (pc := 32) C hr hk (fun i => [].getD i 0, fun i => [4].getD i 0, fun i => [(u_20.2.2.1 0), (u_20.2.2.1 1)].getD i (fun _ => 0), fun i => [].getD i (fun _ => 0)) rfl (show (0 ≤ ((4 : Int32)).toInt ∧ ((4 : Int32)).toInt ≤ 6) ∧ (∀ E : (Nat → (Nat → Int32) → Int32), ME6 m_told m_op m_arg E → RFZ (fun u l => mayM m_told E u l) (wtM m_told) (brM m_told) (dpM m_told) (rsM m_told) m_row (m_rowMany).toInt.toNat p0 (4 : Int32).toInt) from ⟨by omega, (fun E hE => Or.inl ⟨rfl, fun z => by have z9 : mayM m_told E (m_row (x1_2).toInt.toNat).toInt.toNat (m_row ((x1_2).toInt.toNat - 1)).toInt.toNat = true := z (x1_2).toInt.toNat (by omega) (by omega); rw [ev_17, show (x1_2).toInt.toNat - 1 = (v_18).toInt.toNat from (by omega), ev_19] at z9; have y9 := hw_21_1 E hE; rw [if_pos z9] at y9; omega⟩)⟩) [1, 2, 3, 4, 5, 6, 0] (by decide) rfl (by decide) (by decide) dX11_whyNot_32
  have el_1 : (1 : Int32).toInt = 1 := rfl
  exact j_lv [0, 1, 2] rfl (loop_1 4096 1 m_facts m_pile (by decide) (fun E hE i h1 h2 => absurd h2 (by omega)) (by omega))
