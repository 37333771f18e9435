theorem dX11_goesAway_0 : decode cX11_goesAway 0 = .ok (.iload_n 3, 1) := by decide +kernel
theorem dX11_goesAway_1 : decode cX11_goesAway 1 = .ok (.iconst 1, 1) := by decide +kernel
theorem dX11_goesAway_2 : decode cX11_goesAway 2 = .ok (.iadd, 1) := by decide +kernel
theorem dX11_goesAway_3 : decode cX11_goesAway 3 = .ok (.istore 4, 2) := by decide +kernel
theorem dX11_goesAway_5 : decode cX11_goesAway 5 = .ok (.iload 4, 2) := by decide +kernel
theorem dX11_goesAway_7 : decode cX11_goesAway 7 = .ok (.aload_n 0, 1) := by decide +kernel
theorem dX11_goesAway_8 : decode cX11_goesAway 8 = .ok (.iload_n 1, 1) := by decide +kernel
theorem dX11_goesAway_9 : decode cX11_goesAway 9 = .ok (.iload_n 2, 1) := by decide +kernel
theorem dX11_goesAway_10 : decode cX11_goesAway 10 = .ok (.invokevirtual 291, 3) := by decide +kernel
theorem dX11_goesAway_13 : decode cX11_goesAway 13 = .ok (.if_icmp .ge 57, 3) := by decide +kernel
theorem dX11_goesAway_16 : decode cX11_goesAway 16 = .ok (.iconst 0, 1) := by decide +kernel
theorem dX11_goesAway_17 : decode cX11_goesAway 17 = .ok (.istore 5, 2) := by decide +kernel
theorem dX11_goesAway_19 : decode cX11_goesAway 19 = .ok (.iload 5, 2) := by decide +kernel
theorem dX11_goesAway_21 : decode cX11_goesAway 21 = .ok (.bipush 13, 2) := by decide +kernel
theorem dX11_goesAway_23 : decode cX11_goesAway 23 = .ok (.if_icmp .ge 41, 3) := by decide +kernel
theorem dX11_goesAway_26 : decode cX11_goesAway 26 = .ok (.aload_n 0, 1) := by decide +kernel
theorem dX11_goesAway_27 : decode cX11_goesAway 27 = .ok (.getfield 108, 3) := by decide +kernel
theorem dX11_goesAway_30 : decode cX11_goesAway 30 = .ok (.iload_n 1, 1) := by decide +kernel
theorem dX11_goesAway_31 : decode cX11_goesAway 31 = .ok (.iload_n 2, 1) := by decide +kernel
theorem dX11_goesAway_32 : decode cX11_goesAway 32 = .ok (.iload 4, 2) := by decide +kernel
theorem dX11_goesAway_34 : decode cX11_goesAway 34 = .ok (.iconst 1, 1) := by decide +kernel
theorem dX11_goesAway_35 : decode cX11_goesAway 35 = .ok (.isub, 1) := by decide +kernel
theorem dX11_goesAway_36 : decode cX11_goesAway 36 = .ok (.invokestatic 294, 3) := by decide +kernel
theorem dX11_goesAway_39 : decode cX11_goesAway 39 = .ok (.iload 5, 2) := by decide +kernel
theorem dX11_goesAway_41 : decode cX11_goesAway 41 = .ok (.iadd, 1) := by decide +kernel
theorem dX11_goesAway_42 : decode cX11_goesAway 42 = .ok (.aload_n 0, 1) := by decide +kernel
theorem dX11_goesAway_43 : decode cX11_goesAway 43 = .ok (.getfield 108, 3) := by decide +kernel
theorem dX11_goesAway_46 : decode cX11_goesAway 46 = .ok (.iload_n 1, 1) := by decide +kernel
theorem dX11_goesAway_47 : decode cX11_goesAway 47 = .ok (.iload_n 2, 1) := by decide +kernel
theorem dX11_goesAway_48 : decode cX11_goesAway 48 = .ok (.iload 4, 2) := by decide +kernel
theorem dX11_goesAway_50 : decode cX11_goesAway 50 = .ok (.invokestatic 294, 3) := by decide +kernel
theorem dX11_goesAway_53 : decode cX11_goesAway 53 = .ok (.iload 5, 2) := by decide +kernel
theorem dX11_goesAway_55 : decode cX11_goesAway 55 = .ok (.iadd, 1) := by decide +kernel
theorem dX11_goesAway_56 : decode cX11_goesAway 56 = .ok (.iaload, 1) := by decide +kernel
theorem dX11_goesAway_57 : decode cX11_goesAway 57 = .ok (.iastore, 1) := by decide +kernel
theorem dX11_goesAway_58 : decode cX11_goesAway 58 = .ok (.iinc 5 1, 3) := by decide +kernel
theorem dX11_goesAway_61 : decode cX11_goesAway 61 = .ok (.goto (-42), 3) := by decide +kernel
theorem dX11_goesAway_64 : decode cX11_goesAway 64 = .ok (.iinc 4 1, 3) := by decide +kernel
theorem dX11_goesAway_67 : decode cX11_goesAway 67 = .ok (.goto (-62), 3) := by decide +kernel
theorem dX11_goesAway_70 : decode cX11_goesAway 70 = .ok (.aload_n 0, 1) := by decide +kernel
theorem dX11_goesAway_71 : decode cX11_goesAway 71 = .ok (.getfield 108, 3) := by decide +kernel
theorem dX11_goesAway_74 : decode cX11_goesAway 74 = .ok (.iload_n 1, 1) := by decide +kernel
theorem dX11_goesAway_75 : decode cX11_goesAway 75 = .ok (.bipush 105, 2) := by decide +kernel
theorem dX11_goesAway_77 : decode cX11_goesAway 77 = .ok (.iload_n 2, 1) := by decide +kernel
theorem dX11_goesAway_78 : decode cX11_goesAway 78 = .ok (.imul, 1) := by decide +kernel
theorem dX11_goesAway_79 : decode cX11_goesAway 79 = .ok (.iadd, 1) := by decide +kernel
theorem dX11_goesAway_80 : decode cX11_goesAway 80 = .ok (.dup2, 1) := by decide +kernel
theorem dX11_goesAway_81 : decode cX11_goesAway 81 = .ok (.iaload, 1) := by decide +kernel
theorem dX11_goesAway_82 : decode cX11_goesAway 82 = .ok (.iconst 1, 1) := by decide +kernel
theorem dX11_goesAway_83 : decode cX11_goesAway 83 = .ok (.isub, 1) := by decide +kernel
theorem dX11_goesAway_84 : decode cX11_goesAway 84 = .ok (.iastore, 1) := by decide +kernel
theorem dX11_goesAway_85 : decode cX11_goesAway 85 = .ok (.return_, 1) := by decide +kernel
theorem DU.shift {f g : Nat → Int32} (h : DU f) {i : Nat} (ha : AD (i : Int)) (ha2 : AD ((i + 13 : Nat) : Int)) (hin : ∀ r : Nat, r < 13 → g (i + r) = f (i + 13 + r)) (hout : ∀ j : Nat, (j < i ∨ i + 13 ≤ j) → g j = f j) : DU g := by
  intro j hj
  rcases AD.sep hj ha with q | q
  · subst q
    intro p r h1 h2 h3
    have e0 := hin 0 (by omega)
    rw [show j + 0 = j from rfl, show j + 13 + 0 = j + 13 from rfl] at e0
    rw [e0] at h3
    have e1 := hin (1 + p) (by omega)
    have e2 := hin (1 + r) (by omega)
    rw [show j + 1 + p = j + (1 + p) from (by omega), show j + 1 + r = j + (1 + r) from (by omega), e1, e2, show j + 13 + (1 + p) = j + 13 + 1 + p from (by omega), show j + 13 + (1 + r) = j + 13 + 1 + r from (by omega)]
    exact h (j + 13) ha2 p r h1 h2 h3
  · intro p r h1 h2 h3
    rw [hout j (by omega)] at h3
    rw [hout (j + 1 + p) (by omega), hout (j + 1 + r) (by omega)]
    exact h j hj p r h1 h2 h3
theorem DU.lay {f g : Nat → Int32} (h : DU f) {i : Nat} (ha : AD (i : Int)) {n : Int} (hn : 0 ≤ n ∧ n ≤ 12) (hsz : (g i).toInt = n) (hfr : ∀ j : Nat, ((j : Int) < i ∨ (i : Int) + n < j) → g j = f j) (hd : ∀ p q : Nat, p < q → (q : Int) < n → g (i + 1 + p) ≠ g (i + 1 + q)) : DU g := by
  intro j hj
  rcases AD.sep hj ha with q | q
  · subst q
    intro p r h1 h2 h3
    exact hd p r h1 (by omega)
  · intro p r h1 h2 h3
    rw [hfr j (by omega)] at h3
    rw [hfr (j + 1 + p) (by omega), hfr (j + 1 + r) (by omega)]
    exact h j hj p r h1 h2 h3
theorem DU.cong {f g : Nat → Int32} (h : DU f) (he : ∀ j : Nat, ¬ j = 420 → g j = f j) : DU g := by
  intro j hj p r h1 h2 h3
  have := AD.tail (b := 0) (r := 420) hj (by decide) (by decide) rfl
  rw [he j (by omega)] at h3
  rw [he (j + 1 + p) (by omega), he (j + 1 + r) (by omega)]
  exact h j hj p r h1 h2 h3
theorem DT.skip {f : Nat → Int32} {i : Nat} (h : DT f i) (c : Int) (h12 : (f i).toInt ≤ 12) : ∀ p q : Nat, p < q → (q : Int) < (f i).toInt - 1 → f (i + 1 + (if (p : Int) < c then p else p + 1)) ≠ f (i + 1 + (if (q : Int) < c then q else q + 1)) := by
  intro p q h1 h2
  by_cases e1 : (p : Int) < c
  · rw [if_pos e1]
    by_cases e2 : (q : Int) < c
    · rw [if_pos e2]; exact h p q h1 (by omega) (by omega)
    · rw [if_neg e2]; exact h p (q + 1) (by omega) (by omega) (by omega)
  · rw [if_neg e1, if_neg (by omega)]; exact h (p + 1) (q + 1) (by omega) (by omega) (by omega)
theorem CRs.le {f t : Nat → Int32} (h : CRs f t 0) {s : Nat} (hs : s < 4) : (f (0 + 105 * s)).toInt ≤ (t (101 + 3 * s)).toInt := by
  have := h s hs
  rw [show 460 * 0 + 105 * s = 0 + 105 * s from (by omega)] at this; exact this
theorem CRs.fr {f g t : Nat → Int32} {b : Nat} (h : CRs f t b) (he : ∀ s : Nat, s < 4 → g (460 * b + 105 * s) = f (460 * b + 105 * s)) : CRs g t b := fun s hs => by rw [he s hs]; exact h s hs
theorem SV.mv {f : Nat → Int32} (h : SV f) {i i' : Int} (ha : AD i) (ha' : AD i') {k k' r : Nat} (hr : r < 13) (hk : (k : Int) = i + r) (hk' : (k' : Int) = i' + r) {x : Int32} (hx : f k' = x) : SV (upd f k x) :=
  h.wr (Or.inr (by
    have e := ha'.hi hr hk'
    have := h k' (ha'.lt (by omega)) e.2
    rw [(ha.hi hr hk).1, ← hx]; rw [e.1] at this; exact this))
set_option maxHeartbeats 4000000 in
set_option maxRecDepth 100000 in
theorem c_X11_goesAway (l : Launch) (D : DG) (cyC cyI cyJ cyZ cyO : ClassId) (m0 : Nat) (mtold : Nat) (mstates : Nat) (mtape : Nat) (msort : Nat) (mplace : Nat) (mvalue : Nat) (mwords : Nat) (mop : Nat) (marg : Nat) (mnames : Nat) (mhasHabit : Nat) (mfactWords : Nat) (mfacts : Nat) (mpile : Nat) (misMarked : Nat) (mrow : Nat) (mthr : Nat) (mmays : Nat) (mtall : Nat) (mweights : Nat) (mrowOfWare : Nat) (mneededOf : Nat) (mtried : Nat) (mbestRow : Nat) (mdigits : Nat) (p1 : Int32) (p2 : Int32) (m_thrown : Int32) (m_taped : Int32) (m_size : Int32) (m_at : Int32) (m_fault : Int32) (m_codes : Int32) (m_isNew : Int32) (m_inShelf : Int32) (m_inStack : Int32) (m_inPlace : Int32) (m_rowMany : Int32) (m_goShelf : Int32) (m_goStack : Int32) (m_goLeft : Int32) (m_bestCost : Int32) (m_bestMany : Int32) (m_bestShelf : Int32) (m_bestSet : Int32) (m_told : Nat → Int32) (m_states : Nat → Int32) (h_m_taped : 0 ≤ (m_taped).toInt ∧ (m_taped).toInt ≤ 1000) (h_m_size : 0 ≤ (m_size).toInt ∧ (m_size).toInt ≤ 1000) (h_m_at : 0 ≤ (m_at).toInt ∧ (m_at).toInt ≤ 1000) (h_m_fault : 0 ≤ (m_fault).toInt ∧ (m_fault).toInt ≤ 16005) (h_m_codes : 0 ≤ (m_codes).toInt ∧ (m_codes).toInt ≤ 1000) (h_m_isNew : 0 ≤ (m_isNew).toInt ∧ (m_isNew).toInt ≤ 1) (h_m_inShelf : 0 ≤ (m_inShelf).toInt ∧ (m_inShelf).toInt ≤ 3) (h_m_inStack : 0 ≤ (m_inStack).toInt ∧ (m_inStack).toInt ≤ 7) (h_m_inPlace : 0 ≤ (m_inPlace).toInt ∧ (m_inPlace).toInt ≤ 11) (h_m_rowMany : 0 ≤ (m_rowMany).toInt ∧ (m_rowMany).toInt ≤ 12) (h_m_goShelf : -1 ≤ (m_goShelf).toInt ∧ (m_goShelf).toInt ≤ 3) (h_m_bestMany : 0 ≤ (m_bestMany).toInt ∧ (m_bestMany).toInt ≤ 7) (h_m_bestShelf : 0 ≤ (m_bestShelf).toInt ∧ (m_bestShelf).toInt ≤ 3) (h_p1 : 0 ≤ (p1).toInt ∧ (p1).toInt ≤ 3) (h_p2 : 0 ≤ (p2).toInt ∧ (p2).toInt ≤ 7) (h_m_told : TV m_told) (h_m_states : SV m_states) (hDU : DU m_states) (hCR : CRs m_states m_told 0) (hk9 : (p2).toInt < (m_states (0 + 105 * (p1).toInt.toNat)).toInt) : KK l D (TY cyC cyI cyJ cyZ cyO) yX11_goesAway cX11_goesAway 6 none ({ frames := 1, cells := 0, slots := 0, locals := 22 } : Room) 0 0 [.ref m0, .int 0, .int p1, .int p2] [(m0, .inr (11, [.int m_thrown, .ref mtape, .int m_taped, .int m_size, .ref msort, .ref mplace, .ref mvalue, .int m_at, .int m_fault, .ref mwords, .ref mtold, .ref mop, .ref marg, .int m_codes, .ref mnames, .ref mhasHabit, .int m_isNew, .ref mfactWords, .ref mfacts, .ref mpile, .ref mstates, .ref misMarked, .int m_inShelf, .int m_inStack, .int m_inPlace, .ref mrow, .int m_rowMany, .ref mthr, .ref mmays, .ref mtall, .ref mweights, .ref mrowOfWare, .ref mneededOf, .int m_goShelf, .int m_goStack, .int m_goLeft, .ref mtried, .ref mbestRow, .int m_bestCost, .int m_bestMany, .int m_bestShelf, .int m_bestSet, .ref mdigits])), (mtold, .inl (cyI, 240, .inl m_told)), (mstates, .inl (cyI, 2760, .inl m_states))] (fun u => none) (fun u => (SV (u.2.2.1 0)) ∧ (DU (u.2.2.1 0)) ∧ (CRs (u.2.2.1 0) m_told 0) ∧ (∀ j : Nat, 420 ≤ j → (u.2.2.1 0) j = m_states j) ∧ (GAW m_states (u.2.2.1 0) (p1).toInt.toNat (p2).toInt.toNat)) (fun u => [(m0, .inr (11, [.int m_thrown, .ref mtape, .int m_taped, .int m_size, .ref msort, .ref mplace, .ref mvalue, .int m_at, .int m_fault, .ref mwords, .ref mtold, .ref mop, .ref marg, .int m_codes, .ref mnames, .ref mhasHabit, .int m_isNew, .ref mfactWords, .ref mfacts, .ref mpile, .ref mstates, .ref misMarked, .int m_inShelf, .int m_inStack, .int m_inPlace, .ref mrow, .int m_rowMany, .ref mthr, .ref mmays, .ref mtall, .ref mweights, .ref mrowOfWare, .ref mneededOf, .int m_goShelf, .int m_goStack, .int m_goLeft, .ref mtried, .ref mbestRow, .int m_bestCost, .int m_bestMany, .int m_bestShelf, .int m_bestSet, .ref mdigits])), (mtold, .inl (cyI, 240, .inl m_told)), (mstates, .inl (cyI, 2760, .inl (u.2.2.1 0)))]) := by
  refine KK.of (lv0 := [(0, .ref m0), (1, .int 0), (2, .int p1), (3, .int p2)]) (by decide) rfl (Nat.le_of_ble_eq_true rfl) ?_
  intro p e s m args below meth c A C hr hk hin
  refine j_iload_n (pc := 0) C dX11_goesAway_0 rfl 3 rfl ?_
  refine j_iconst (pc := 1) (v := 1) C dX11_goesAway_1 (by decide) ?_
  obtain ⟨v_1, ev_1⟩ : ∃ z : Int32, p2 + 1 = z := ⟨_, rfl⟩
  have el_1 : (1 : Int32).toInt = 1 := rfl
  have hv_1 : v_1.toInt = p2.toInt + (1 : Int32).toInt := by rw [← ev_1]; exact fb_addI (by omega) (by omega)
  refine j_iadd (pc := 2) (v := v_1) C dX11_goesAway_2 ev_1 ?_
  refine j_istore (pc := 3) (lv' := [(4, .int v_1), (0, .ref m0), (1, .int 0), (2, .int p1), (3, .int p2)]) C dX11_goesAway_3 (by decide) rfl ?_
  have loop_2 : ∀ (k_2 : Nat) (x2_4 : Int32) (g2_mstates : Nat → Int32), (1 ≤ (x2_4).toInt ∧ (x2_4).toInt ≤ 8) → (SV g2_mstates) → ((p2).toInt + 1 ≤ x2_4.toInt ∧ x2_4.toInt ≤ (m_states (0 + 105 * (p1).toInt.toNat)).toInt) → (DU g2_mstates) → (∀ j : Nat, ((j : Int) < 105 * (p1).toInt + 1 ∨ 105 * (p1).toInt + 105 ≤ (j : Int)) → g2_mstates j = m_states j) → (GWI m_states g2_mstates (p1).toInt.toNat (p2).toInt.toNat x2_4.toInt) → (8 - x2_4.toInt).toNat < k_2 → J p l e ({ frames := 1, cells := 0, slots := 0, locals := 22 } : Room) s m args below meth c D A 6 0 0 (QX below D (TY cyC cyI cyJ cyZ cyO) A (fun u => none) (fun u => (SV (u.2.2.1 0)) ∧ (DU (u.2.2.1 0)) ∧ (CRs (u.2.2.1 0) m_told 0) ∧ (∀ j : Nat, 420 ≤ j → (u.2.2.1 0) j = m_states j) ∧ (GAW m_states (u.2.2.1 0) (p1).toInt.toNat (p2).toInt.toNat)) (fun u => [(m0, .inr (11, [.int m_thrown, .ref mtape, .int m_taped, .int m_size, .ref msort, .ref mplace, .ref mvalue, .int m_at, .int m_fault, .ref mwords, .ref mtold, .ref mop, .ref marg, .int m_codes, .ref mnames, .ref mhasHabit, .int m_isNew, .ref mfactWords, .ref mfacts, .ref mpile, .ref mstates, .ref misMarked, .int m_inShelf, .int m_inStack, .int m_inPlace, .ref mrow, .int m_rowMany, .ref mthr, .ref mmays, .ref mtall, .ref mweights, .ref mrowOfWare, .ref mneededOf, .int m_goShelf, .int m_goStack, .int m_goLeft, .ref mtried, .ref mbestRow, .int m_bestCost, .int m_bestMany, .int m_bestShelf, .int m_bestSet, .ref mdigits])), (mtold, .inl (cyI, 240, .inl m_told)), (mstates, .inl (cyI, 2760, .inl (u.2.2.1 0)))]) args s 0 0) [(m0, .inr (11, [.int m_thrown, .ref mtape, .int m_taped, .int m_size, .ref msort, .ref mplace, .ref mvalue, .int m_at, .int m_fault, .ref mwords, .ref mtold, .ref mop, .ref marg, .int m_codes, .ref mnames, .ref mhasHabit, .int m_isNew, .ref mfactWords, .ref mfacts, .ref mpile, .ref mstates, .ref misMarked, .int m_inShelf, .int m_inStack, .int m_inPlace, .ref mrow, .int m_rowMany, .ref mthr, .ref mmays, .ref mtall, .ref mweights, .ref mrowOfWare, .ref mneededOf, .int m_goShelf, .int m_goStack, .int m_goLeft, .ref mtried, .ref mbestRow, .int m_bestCost, .int m_bestMany, .int m_bestShelf, .int m_bestSet, .ref mdigits])), (mtold, .inl (cyI, 240, .inl m_told)), (mstates, .inl (cyI, 2760, .inl g2_mstates))] 5 [(4, .int x2_4), (0, .ref m0), (1, .int 0), (2, .int p1), (3, .int p2)] [] := by
    intro k_2
    induction k_2 with
    | zero =>
      intro x2_4 g2_mstates hi_2_0 hi_2_1 hr_2 hq_2_0 hq_2_1 hq_2_2 hm_2
      exact absurd hm_2 (Nat.not_lt_zero _)
    | succ k_2 ih_2 =>
      intro x2_4 g2_mstates hi_2_0 hi_2_1 hr_2 hq_2_0 hq_2_1 hq_2_2 hm_2
      refine j_iload (pc := 5) C dX11_goesAway_5 0 rfl ?_
      refine j_aload_n (pc := 7) C dX11_goesAway_7 rfl 1 rfl ?_
      refine j_iload_n (pc := 8) C dX11_goesAway_8 rfl 2 rfl ?_
      refine j_iload_n (pc := 9) C dX11_goesAway_9 rfl 3 rfl ?_
      refine j_callV (pc := 10) (As := [.int 0, .int p1]) (rest := [.int x2_4]) (wr := [(mtold, .inl (cyI, 240, .inl m_told))]) C (c_X11_stacks_0 l D cyC cyI cyJ cyZ cyO m0 mstates mtape msort mplace mvalue mwords mtold mop marg mnames mhasHabit mfactWords mfacts mpile misMarked mrow mthr mmays mtall mweights mrowOfWare mneededOf mtried mbestRow mdigits p1 m_thrown m_taped m_size m_at m_fault m_codes m_isNew m_inShelf m_inStack m_inPlace m_rowMany m_goShelf m_goStack m_goLeft m_bestCost m_bestMany m_bestShelf m_bestSet g2_mstates h_m_taped h_m_size h_m_at h_m_fault h_m_codes h_m_isNew h_m_inShelf h_m_inStack h_m_inPlace h_m_rowMany h_m_goShelf h_m_bestMany h_m_bestShelf h_p1 hi_2_1) wd_769 wd_624 wd_770 wd_771 wd_772 ⟨by decide, by decide, rfl⟩ rfl ⟨rfl, rfl, by decide, by decide⟩ ⟨by decide, by decide⟩ [0, 2] [1] rfl rfl ⟨by decide, by decide, by decide⟩ 0 rfl rfl rfl (Nat.le_of_ble_eq_true rfl) dX11_goesAway_10 (fun u_3 hw_4 => ?_)
      refine j_eq (ws2 := [(mtold, .inl (cyI, 240, .inl m_told)), (m0, .inr (11, [.int m_thrown, .ref mtape, .int m_taped, .int m_size, .ref msort, .ref mplace, .ref mvalue, .int m_at, .int m_fault, .ref mwords, .ref mtold, .ref mop, .ref marg, .int m_codes, .ref mnames, .ref mhasHabit, .int m_isNew, .ref mfactWords, .ref mfacts, .ref mpile, .ref mstates, .ref misMarked, .int m_inShelf, .int m_inStack, .int m_inPlace, .ref mrow, .int m_rowMany, .ref mthr, .ref mmays, .ref mtall, .ref mweights, .ref mrowOfWare, .ref mneededOf, .int m_goShelf, .int m_goStack, .int m_goLeft, .ref mtried, .ref mbestRow, .int m_bestCost, .int m_bestMany, .int m_bestShelf, .int m_bestSet, .ref mdigits])), (mstates, .inl (cyI, 2760, .inl g2_mstates))]) (pc2 := 13) (lv2 := [(4, .int x2_4), (0, .ref m0), (1, .int 0), (2, .int p1), (3, .int p2)]) (st2 := [.int (u_3.2.1 0), .int x2_4]) rfl rfl rfl rfl ?_
      obtain ⟨hw_4_0, hw_4_1⟩ := hw_4
      have hsc := congrArg Int32.toInt hw_4_1
      rw [hq_2_1 _ (by omega)] at hsc
      refine j_icmp_ge (pc := 13) (tgt := 70) C dX11_goesAway_13 (by decide) (fun c_5 => ?_) (fun c_5 => ?_)
      · skip
        rw [i_le] at c_5
        refine j_aload_n (pc := 70) C dX11_goesAway_70 rfl 1 rfl ?_
        refine j_get (pc := 71) (ci := 11) (v := .ref mstates) C inw_11 1 rfl rfl 20 (by decide) wd_764 rfl rfl dX11_goesAway_71 ?_
        refine j_iload_n (pc := 74) C dX11_goesAway_74 rfl 2 rfl ?_
        refine j_bipush (pc := 75) (v := 105) C dX11_goesAway_75 (by decide) ?_
        refine j_iload_n (pc := 77) C dX11_goesAway_77 rfl 3 rfl ?_
        obtain ⟨v_6, ev_6⟩ : ∃ z : Int32, 105 * p1 = z := ⟨_, rfl⟩
        have el_105 : (105 : Int32).toInt = 105 := rfl
        have hv_6 : v_6.toInt = 105 * p1.toInt := by rw [← ev_6]; exact mulL (c := 105) rfl (by omega) (by omega)
        refine j_imul (pc := 78) (v := v_6) C dX11_goesAway_78 ev_6 ?_
        obtain ⟨v_7, ev_7⟩ : ∃ z : Int32, 0 + v_6 = z := ⟨_, rfl⟩
        have el_0 : (0 : Int32).toInt = 0 := rfl
        have hv_7 : v_7.toInt = (0 : Int32).toInt + v_6.toInt := by rw [← ev_7]; exact fb_addI (by omega) (by omega)
        refine j_iadd (pc := 79) (v := v_7) C dX11_goesAway_79 ev_7 ?_
        refine j_dup2 (pc := 80) C dX11_goesAway_80 rfl rfl ?_
        obtain ⟨v_8, ev_8⟩ : ∃ z, g2_mstates (v_7).toInt.toNat = z := ⟨_, rfl⟩
        have env_8 : (g2_mstates (v_7).toInt.toNat).toInt = v_8.toInt := by rw [ev_8]
        have hv_8 : 0 ≤ v_8.toInt ∧ v_8.toInt ≤ 8 := by rw [← ev_8]; exact SV.cnt (b := 0) (s := (p1).toInt.toNat) hi_2_1 (by decide) (by omega) (by omega)
        refine j_iald (pc := 81) (v := v_8) (k := (v_7).toInt.toNat) C 2 1 rfl rfl (i_nn (by omega)) rfl (i_lt_n (by omega) (by omega)) ev_8 dX11_goesAway_81 ?_
        have hv8 : v_8.toInt = (m_states (0 + 105 * (p1).toInt.toNat)).toInt := by rw [← ev_8, hq_2_1 _ (by omega), show (v_7).toInt.toNat = 0 + 105 * (p1).toInt.toNat from (by omega)]
        refine j_iconst (pc := 82) (v := 1) C dX11_goesAway_82 (by decide) ?_
        obtain ⟨v_9, ev_9⟩ : ∃ z : Int32, v_8 - 1 = z := ⟨_, rfl⟩
        have el_1 : (1 : Int32).toInt = 1 := rfl
        have hv_9 : v_9.toInt = v_8.toInt - (1 : Int32).toInt := by rw [← ev_9]; exact fb_subI (by omega) (by omega)
        refine j_isub (pc := 83) (v := v_9) C dX11_goesAway_83 ev_9 ?_
        obtain ⟨f_10, ef_10⟩ : ∃ z, z = upd g2_mstates (v_7).toInt.toNat v_9 := ⟨_, rfl⟩
        have hf_10 : SV f_10 := by rw [ef_10]; exact SV.ucnt (b := 0) (s := (p1).toInt.toNat) hi_2_1 (by decide) (by omega) (by omega) (by omega)
        refine j_iast (pc := 84) (k := (v_7).toInt.toNat) (ws' := [(mtold, .inl (cyI, 240, .inl m_told)), (m0, .inr (11, [.int m_thrown, .ref mtape, .int m_taped, .int m_size, .ref msort, .ref mplace, .ref mvalue, .int m_at, .int m_fault, .ref mwords, .ref mtold, .ref mop, .ref marg, .int m_codes, .ref mnames, .ref mhasHabit, .int m_isNew, .ref mfactWords, .ref mfacts, .ref mpile, .ref mstates, .ref misMarked, .int m_inShelf, .int m_inStack, .int m_inPlace, .ref mrow, .int m_rowMany, .ref mthr, .ref mmays, .ref mtall, .ref mweights, .ref mrowOfWare, .ref mneededOf, .int m_goShelf, .int m_goStack, .int m_goLeft, .ref mtried, .ref mbestRow, .int m_bestCost, .int m_bestMany, .int m_bestShelf, .int m_bestSet, .ref mdigits])), (mstates, .inl (cyI, 2760, .inl f_10))]) C 2 1 rfl rfl (i_nn (by omega)) rfl (i_lt_n (by omega) (by omega)) dX11_goesAway_84 (by rw [ef_10]; rfl) ?_
        exact j_vret (pc := 85) C hr hk (fun i => [].getD i 0, fun i => [].getD i 0, fun i => [f_10].getD i (fun _ => 0), fun i => [].getD i (fun _ => 0)) rfl (show (SV f_10) ∧ (DU f_10) ∧ (CRs f_10 m_told 0) ∧ (∀ j : Nat, 420 ≤ j → f_10 j = m_states j) ∧ (GAW m_states f_10 (p1).toInt.toNat (p2).toInt.toNat) from ⟨hf_10, (by rw [ef_10]; exact DU.out hq_2_0 (fun i hi => AD.cnt (b := 0) (s := (p1).toInt.toNat) hi (by omega) (by omega))), (by rw [ef_10]; exact CRs.at' (s := (p1).toInt.toNat) (CRs.fr hCR (fun s hs => hq_2_1 _ (by omega))) (by omega) (by have h9 := CRs.le hCR (s := (p1).toInt.toNat) (by omega); omega)), (fun j hj => by rw [ef_10, pk_un (show ¬ j = (v_7).toInt.toNat from (by omega))]; exact hq_2_1 j (by omega)), (GWI.fin hq_2_2 (by rw [show 105 * (p1).toInt.toNat = 0 + 105 * (p1).toInt.toNat from (by omega)]; omega) (by omega) (by rw [ef_10, show (v_7).toInt.toNat = 105 * (p1).toInt.toNat from (by omega)]) (by rw [show 105 * (p1).toInt.toNat = 0 + 105 * (p1).toInt.toNat from (by omega)]; omega) (by omega))⟩) [1, 0, 2] (by decide) rfl (by decide) (by decide) dX11_goesAway_85
      · skip
        rw [i_le] at c_5
        refine j_iconst (pc := 16) (v := 0) C dX11_goesAway_16 (by decide) ?_
        refine j_istore (pc := 17) (lv' := [(5, .int 0), (4, .int x2_4), (0, .ref m0), (1, .int 0), (2, .int p1), (3, .int p2)]) C dX11_goesAway_17 (by decide) rfl ?_
        have loop_11 : ∀ (k_11 : Nat) (x11_5 : Int32) (g11_mstates : Nat → Int32), (0 ≤ (x11_5).toInt ∧ (x11_5).toInt ≤ 13) → (SV g11_mstates) → (∀ j : Nat, ((j : Int) < 105 * (p1).toInt + 1 + 13 * (x2_4.toInt - 1) ∨ 105 * (p1).toInt + 14 + 13 * (x2_4.toInt - 1) ≤ (j : Int)) → g11_mstates j = g2_mstates j) → (∀ r : Nat, (r : Int) < x11_5.toInt → g11_mstates ((105 * (p1).toInt.toNat + 1 + 13 * (x2_4.toInt - 1).toNat) + r) = g2_mstates ((105 * (p1).toInt.toNat + 1 + 13 * (x2_4.toInt - 1).toNat) + 13 + r)) → (13 - x11_5.toInt).toNat < k_11 → J p l e ({ frames := 1, cells := 0, slots := 0, locals := 22 } : Room) s m args below meth c D A 6 0 0 (QX below D (TY cyC cyI cyJ cyZ cyO) A (fun u => none) (fun u => (SV (u.2.2.1 0)) ∧ (DU (u.2.2.1 0)) ∧ (CRs (u.2.2.1 0) m_told 0) ∧ (∀ j : Nat, 420 ≤ j → (u.2.2.1 0) j = m_states j) ∧ (GAW m_states (u.2.2.1 0) (p1).toInt.toNat (p2).toInt.toNat)) (fun u => [(m0, .inr (11, [.int m_thrown, .ref mtape, .int m_taped, .int m_size, .ref msort, .ref mplace, .ref mvalue, .int m_at, .int m_fault, .ref mwords, .ref mtold, .ref mop, .ref marg, .int m_codes, .ref mnames, .ref mhasHabit, .int m_isNew, .ref mfactWords, .ref mfacts, .ref mpile, .ref mstates, .ref misMarked, .int m_inShelf, .int m_inStack, .int m_inPlace, .ref mrow, .int m_rowMany, .ref mthr, .ref mmays, .ref mtall, .ref mweights, .ref mrowOfWare, .ref mneededOf, .int m_goShelf, .int m_goStack, .int m_goLeft, .ref mtried, .ref mbestRow, .int m_bestCost, .int m_bestMany, .int m_bestShelf, .int m_bestSet, .ref mdigits])), (mtold, .inl (cyI, 240, .inl m_told)), (mstates, .inl (cyI, 2760, .inl (u.2.2.1 0)))]) args s 0 0) [(mtold, .inl (cyI, 240, .inl m_told)), (m0, .inr (11, [.int m_thrown, .ref mtape, .int m_taped, .int m_size, .ref msort, .ref mplace, .ref mvalue, .int m_at, .int m_fault, .ref mwords, .ref mtold, .ref mop, .ref marg, .int m_codes, .ref mnames, .ref mhasHabit, .int m_isNew, .ref mfactWords, .ref mfacts, .ref mpile, .ref mstates, .ref misMarked, .int m_inShelf, .int m_inStack, .int m_inPlace, .ref mrow, .int m_rowMany, .ref mthr, .ref mmays, .ref mtall, .ref mweights, .ref mrowOfWare, .ref mneededOf, .int m_goShelf, .int m_goStack, .int m_goLeft, .ref mtried, .ref mbestRow, .int m_bestCost, .int m_bestMany, .int m_bestShelf, .int m_bestSet, .ref mdigits])), (mstates, .inl (cyI, 2760, .inl g11_mstates))] 19 [(5, .int x11_5), (4, .int x2_4), (0, .ref m0), (1, .int 0), (2, .int p1), (3, .int p2)] [] := by
          intro k_11
          induction k_11 with
          | zero =>
            intro x11_5 g11_mstates hi_11_0 hi_11_1 hq_11_0 hq_11_1 hm_11
            exact absurd hm_11 (Nat.not_lt_zero _)
          | succ k_11 ih_11 =>
            intro x11_5 g11_mstates hi_11_0 hi_11_1 hq_11_0 hq_11_1 hm_11
            refine j_iload (pc := 19) C dX11_goesAway_19 0 rfl ?_
            refine j_bipush (pc := 21) (v := 13) C dX11_goesAway_21 (by decide) ?_
            refine j_icmp_ge (pc := 23) (tgt := 64) C dX11_goesAway_23 (by decide) (fun c_12 => ?_) (fun c_12 => ?_)
            · skip
              have el_13 : (13 : Int32).toInt = 13 := rfl
              rw [i_le] at c_12
              have k0c_12 : x11_5.toInt = 13 := by omega
              obtain ⟨v_13, ev_13⟩ : ∃ z : Int32, x2_4 + 1 = z := ⟨_, rfl⟩
              have el_1 : (1 : Int32).toInt = 1 := rfl
              have hv_13 : v_13.toInt = x2_4.toInt + (1 : Int32).toInt := by rw [← ev_13]; exact fb_addI (by omega) (by omega)
              refine j_iinc (pc := 64) (v := v_13) (lv' := [(4, .int v_13), (5, .int x11_5), (0, .ref m0), (1, .int 0), (2, .int p1), (3, .int p2)]) C dX11_goesAway_64 1 rfl ev_13 (by decide) rfl ?_
              refine j_goto (pc := 67) (tgt := 5) C dX11_goesAway_67 (by decide) ?_
              refine j_subG (ws' := [(m0, .inr (11, [.int m_thrown, .ref mtape, .int m_taped, .int m_size, .ref msort, .ref mplace, .ref mvalue, .int m_at, .int m_fault, .ref mwords, .ref mtold, .ref mop, .ref marg, .int m_codes, .ref mnames, .ref mhasHabit, .int m_isNew, .ref mfactWords, .ref mfacts, .ref mpile, .ref mstates, .ref misMarked, .int m_inShelf, .int m_inStack, .int m_inPlace, .ref mrow, .int m_rowMany, .ref mthr, .ref mmays, .ref mtall, .ref mweights, .ref mrowOfWare, .ref mneededOf, .int m_goShelf, .int m_goStack, .int m_goLeft, .ref mtried, .ref mbestRow, .int m_bestCost, .int m_bestMany, .int m_bestShelf, .int m_bestSet, .ref mdigits])), (mtold, .inl (cyI, 240, .inl m_told)), (mstates, .inl (cyI, 2760, .inl g11_mstates))]) [1, 0, 2] (by decide) rfl ?_
              exact j_lv [0, 2, 3, 4, 5] rfl (ih_2 v_13 g11_mstates (by omega) hi_11_1 (by omega) (DU.shift (i := (105 * (p1).toInt.toNat + 1 + 13 * ((x2_4).toInt - 1).toNat)) hq_2_0 ⟨0, (p1).toInt.toNat, ((x2_4).toInt - 1).toNat, by decide, by omega, by omega, by omega⟩ ⟨0, (p1).toInt.toNat, ((x2_4).toInt - 1).toNat + 1, by decide, by omega, by omega, by omega⟩ (fun r hr => hq_11_1 r (by omega)) (fun j hj => hq_11_0 j (by omega))) (fun j hj => (hq_11_0 j (by omega)).trans (hq_2_1 j hj)) (GWI.step hq_2_2 (by omega) (by omega) (fun j hj => hq_11_0 j (by omega)) (fun r hr => hq_11_1 r (by omega))) (by omega))
            · skip
              have el_13 : (13 : Int32).toInt = 13 := rfl
              rw [i_le] at c_12
              refine j_aload_n (pc := 26) C dX11_goesAway_26 rfl 2 rfl ?_
              refine j_get (pc := 27) (ci := 11) (v := .ref mstates) C inw_11 1 rfl rfl 20 (by decide) wd_764 rfl rfl dX11_goesAway_27 ?_
              refine j_iload_n (pc := 30) C dX11_goesAway_30 rfl 3 rfl ?_
              refine j_iload_n (pc := 31) C dX11_goesAway_31 rfl 4 rfl ?_
              refine j_iload (pc := 32) C dX11_goesAway_32 1 rfl ?_
              refine j_iconst (pc := 34) (v := 1) C dX11_goesAway_34 (by decide) ?_
              obtain ⟨v_14, ev_14⟩ : ∃ z : Int32, x2_4 - 1 = z := ⟨_, rfl⟩
              have el_1 : (1 : Int32).toInt = 1 := rfl
              have hv_14 : v_14.toInt = x2_4.toInt - (1 : Int32).toInt := by rw [← ev_14]; exact fb_subI (by omega) (by omega)
              refine j_isub (pc := 35) (v := v_14) C dX11_goesAway_35 ev_14 ?_
              refine j_callS (pc := 36) (As := [.int 0, .int p1, .int v_14]) (rest := [.ref mstates]) (wr := [(mtold, .inl (cyI, 240, .inl m_told)), (m0, .inr (11, [.int m_thrown, .ref mtape, .int m_taped, .int m_size, .ref msort, .ref mplace, .ref mvalue, .int m_at, .int m_fault, .ref mwords, .ref mtold, .ref mop, .ref marg, .int m_codes, .ref mnames, .ref mhasHabit, .int m_isNew, .ref mfactWords, .ref mfacts, .ref mpile, .ref mstates, .ref misMarked, .int m_inShelf, .int m_inStack, .int m_inPlace, .ref mrow, .int m_rowMany, .ref mthr, .ref mmays, .ref mtall, .ref mweights, .ref mrowOfWare, .ref mneededOf, .int m_goShelf, .int m_goStack, .int m_goLeft, .ref mtried, .ref mbestRow, .int m_bestCost, .int m_bestMany, .int m_bestShelf, .int m_bestSet, .ref mdigits])), (mstates, .inl (cyI, 2760, .inl g11_mstates))]) C (c_X11_stackAt l D cyC cyI cyJ cyZ cyO 0 p1 v_14 (by decide) h_p1 (by omega)) wd_773 wd_624 wd_774 wd_775 ⟨by decide, by decide, rfl⟩ rfl ⟨rfl, rfl, by decide, by decide⟩ ⟨by decide, by decide⟩ [] [0, 1, 2] rfl rfl ⟨by decide, by decide, by decide⟩ rfl (Nat.le_of_ble_eq_true rfl) dX11_goesAway_36 (fun u_15 hw_16 => ?_)
              refine j_eq (ws2 := [(mtold, .inl (cyI, 240, .inl m_told)), (m0, .inr (11, [.int m_thrown, .ref mtape, .int m_taped, .int m_size, .ref msort, .ref mplace, .ref mvalue, .int m_at, .int m_fault, .ref mwords, .ref mtold, .ref mop, .ref marg, .int m_codes, .ref mnames, .ref mhasHabit, .int m_isNew, .ref mfactWords, .ref mfacts, .ref mpile, .ref mstates, .ref misMarked, .int m_inShelf, .int m_inStack, .int m_inPlace, .ref mrow, .int m_rowMany, .ref mthr, .ref mmays, .ref mtall, .ref mweights, .ref mrowOfWare, .ref mneededOf, .int m_goShelf, .int m_goStack, .int m_goLeft, .ref mtried, .ref mbestRow, .int m_bestCost, .int m_bestMany, .int m_bestShelf, .int m_bestSet, .ref mdigits])), (mstates, .inl (cyI, 2760, .inl g11_mstates))]) (pc2 := 39) (lv2 := [(5, .int x11_5), (4, .int x2_4), (0, .ref m0), (1, .int 0), (2, .int p1), (3, .int p2)]) (st2 := [.int (u_15.2.1 0), .ref mstates]) rfl rfl rfl rfl ?_
              obtain ⟨hw_16_0, hw_16_1⟩ := hw_16
              have el_0 : (0 : Int32).toInt = 0 := rfl
              have ad_17 : AD (u_15.2.1 0).toInt := ⟨0, (p1).toInt.toNat, (v_14).toInt.toNat, by decide, by omega, by omega, by omega⟩
              refine j_iload (pc := 39) C dX11_goesAway_39 0 rfl ?_
              obtain ⟨v_18, ev_18⟩ : ∃ z : Int32, (u_15.2.1 0) + x11_5 = z := ⟨_, rfl⟩
              have hv_18 : v_18.toInt = ((u_15.2.1 0)).toInt + x11_5.toInt := by rw [← ev_18]; exact fb_addI (by omega) (by omega)
              refine j_iadd (pc := 41) (v := v_18) C dX11_goesAway_41 ev_18 ?_
              refine j_aload_n (pc := 42) C dX11_goesAway_42 rfl 2 rfl ?_
              refine j_get (pc := 43) (ci := 11) (v := .ref mstates) C inw_11 1 rfl rfl 20 (by decide) wd_764 rfl rfl dX11_goesAway_43 ?_
              refine j_iload_n (pc := 46) C dX11_goesAway_46 rfl 3 rfl ?_
              refine j_iload_n (pc := 47) C dX11_goesAway_47 rfl 4 rfl ?_
              refine j_iload (pc := 48) C dX11_goesAway_48 1 rfl ?_
              refine j_callS (pc := 50) (As := [.int 0, .int p1, .int x2_4]) (rest := [.ref mstates, .int v_18, .ref mstates]) (wr := [(mtold, .inl (cyI, 240, .inl m_told)), (m0, .inr (11, [.int m_thrown, .ref mtape, .int m_taped, .int m_size, .ref msort, .ref mplace, .ref mvalue, .int m_at, .int m_fault, .ref mwords, .ref mtold, .ref mop, .ref marg, .int m_codes, .ref mnames, .ref mhasHabit, .int m_isNew, .ref mfactWords, .ref mfacts, .ref mpile, .ref mstates, .ref misMarked, .int m_inShelf, .int m_inStack, .int m_inPlace, .ref mrow, .int m_rowMany, .ref mthr, .ref mmays, .ref mtall, .ref mweights, .ref mrowOfWare, .ref mneededOf, .int m_goShelf, .int m_goStack, .int m_goLeft, .ref mtried, .ref mbestRow, .int m_bestCost, .int m_bestMany, .int m_bestShelf, .int m_bestSet, .ref mdigits])), (mstates, .inl (cyI, 2760, .inl g11_mstates))]) C (c_X11_stackAt l D cyC cyI cyJ cyZ cyO 0 p1 x2_4 (by decide) h_p1 (by omega)) wd_773 wd_624 wd_774 wd_775 ⟨by decide, by decide, rfl⟩ rfl ⟨rfl, rfl, by decide, by decide⟩ ⟨by decide, by decide⟩ [] [0, 1, 2] rfl rfl ⟨by decide, by decide, by decide⟩ rfl (Nat.le_of_ble_eq_true rfl) dX11_goesAway_50 (fun u_19 hw_20 => ?_)
              refine j_eq (ws2 := [(mtold, .inl (cyI, 240, .inl m_told)), (m0, .inr (11, [.int m_thrown, .ref mtape, .int m_taped, .int m_size, .ref msort, .ref mplace, .ref mvalue, .int m_at, .int m_fault, .ref mwords, .ref mtold, .ref mop, .ref marg, .int m_codes, .ref mnames, .ref mhasHabit, .int m_isNew, .ref mfactWords, .ref mfacts, .ref mpile, .ref mstates, .ref misMarked, .int m_inShelf, .int m_inStack, .int m_inPlace, .ref mrow, .int m_rowMany, .ref mthr, .ref mmays, .ref mtall, .ref mweights, .ref mrowOfWare, .ref mneededOf, .int m_goShelf, .int m_goStack, .int m_goLeft, .ref mtried, .ref mbestRow, .int m_bestCost, .int m_bestMany, .int m_bestShelf, .int m_bestSet, .ref mdigits])), (mstates, .inl (cyI, 2760, .inl g11_mstates))]) (pc2 := 53) (lv2 := [(5, .int x11_5), (4, .int x2_4), (0, .ref m0), (1, .int 0), (2, .int p1), (3, .int p2)]) (st2 := [.int (u_19.2.1 0), .ref mstates, .int v_18, .ref mstates]) rfl rfl rfl rfl ?_
              obtain ⟨hw_20_0, hw_20_1⟩ := hw_20
              have el_0 : (0 : Int32).toInt = 0 := rfl
              have ad_21 : AD (u_19.2.1 0).toInt := ⟨0, (p1).toInt.toNat, (x2_4).toInt.toNat, by decide, by omega, by omega, by omega⟩
              refine j_iload (pc := 53) C dX11_goesAway_53 0 rfl ?_
              obtain ⟨v_22, ev_22⟩ : ∃ z : Int32, (u_19.2.1 0) + x11_5 = z := ⟨_, rfl⟩
              have hv_22 : v_22.toInt = ((u_19.2.1 0)).toInt + x11_5.toInt := by rw [← ev_22]; exact fb_addI (by omega) (by omega)
              refine j_iadd (pc := 55) (v := v_22) C dX11_goesAway_55 ev_22 ?_
              obtain ⟨v_23, ev_23⟩ : ∃ z, g11_mstates (v_22).toInt.toNat = z := ⟨_, rfl⟩
              have env_23 : (g11_mstates (v_22).toInt.toNat).toInt = v_23.toInt := by rw [ev_23]
              refine j_iald (pc := 56) (v := v_23) (k := (v_22).toInt.toNat) C 2 1 rfl rfl (i_nn (by omega)) rfl (i_lt_n (by omega) (by omega)) ev_23 dX11_goesAway_56 ?_
              obtain ⟨f_24, ef_24⟩ : ∃ z, z = upd g11_mstates (v_18).toInt.toNat v_23 := ⟨_, rfl⟩
              have hf_24 : SV f_24 := by rw [ef_24]; exact SV.mv hi_11_1 ad_17 ad_21 (r := (x11_5).toInt.toNat) (by omega) (by omega) (by omega) ev_23
              refine j_iast (pc := 57) (k := (v_18).toInt.toNat) (ws' := [(mtold, .inl (cyI, 240, .inl m_told)), (m0, .inr (11, [.int m_thrown, .ref mtape, .int m_taped, .int m_size, .ref msort, .ref mplace, .ref mvalue, .int m_at, .int m_fault, .ref mwords, .ref mtold, .ref mop, .ref marg, .int m_codes, .ref mnames, .ref mhasHabit, .int m_isNew, .ref mfactWords, .ref mfacts, .ref mpile, .ref mstates, .ref misMarked, .int m_inShelf, .int m_inStack, .int m_inPlace, .ref mrow, .int m_rowMany, .ref mthr, .ref mmays, .ref mtall, .ref mweights, .ref mrowOfWare, .ref mneededOf, .int m_goShelf, .int m_goStack, .int m_goLeft, .ref mtried, .ref mbestRow, .int m_bestCost, .int m_bestMany, .int m_bestShelf, .int m_bestSet, .ref mdigits])), (mstates, .inl (cyI, 2760, .inl f_24))]) C 2 1 rfl rfl (i_nn (by omega)) rfl (i_lt_n (by omega) (by omega)) dX11_goesAway_57 (by rw [ef_24]; rfl) ?_
              obtain ⟨v_25, ev_25⟩ : ∃ z : Int32, x11_5 + 1 = z := ⟨_, rfl⟩
              have el_1 : (1 : Int32).toInt = 1 := rfl
              have hv_25 : v_25.toInt = x11_5.toInt + (1 : Int32).toInt := by rw [← ev_25]; exact fb_addI (by omega) (by omega)
              refine j_iinc (pc := 58) (v := v_25) (lv' := [(5, .int v_25), (4, .int x2_4), (0, .ref m0), (1, .int 0), (2, .int p1), (3, .int p2)]) C dX11_goesAway_58 0 rfl ev_25 (by decide) rfl ?_
              refine j_goto (pc := 61) (tgt := 19) C dX11_goesAway_61 (by decide) ?_
              exact j_lv [0, 1, 2, 3, 4, 5] rfl (ih_11 v_25 f_24 (by omega) hf_24 (fun j hj => by rw [ef_24, pk_un (show ¬ j = (v_18).toInt.toNat from (by omega))]; exact hq_11_0 j hj) (fun r hr => by rcases Int.lt_or_le (r : Int) (x11_5).toInt with q | q; (rw [ef_24, pk_un (show ¬ (105 * (p1).toInt.toNat + 1 + 13 * ((x2_4).toInt - 1).toNat) + r = (v_18).toInt.toNat from (by omega))]; exact hq_11_1 r q); (rw [ef_24, show (105 * (p1).toInt.toNat + 1 + 13 * ((x2_4).toInt - 1).toNat) + r = (v_18).toInt.toNat from (by omega), pk_us, ← ev_23, show (105 * (p1).toInt.toNat + 1 + 13 * ((x2_4).toInt - 1).toNat) + 13 + r = (v_22).toInt.toNat from (by omega)]; exact hq_11_0 _ (by omega))) (by omega))
        have el_0 : (0 : Int32).toInt = 0 := rfl
        exact j_lv [0, 1, 2, 3, 4, 5] rfl (loop_11 4096 0 g2_mstates (by decide) hi_2_1 (fun j _ => rfl) (fun r h0 => absurd h0 (by omega)) (by omega))
  exact j_lv [0, 1, 2, 3, 4] rfl (loop_2 4096 v_1 m_states (by omega) h_m_states (by omega) hDU (fun j _ => rfl) (GWI.start (by omega)) (by omega))
