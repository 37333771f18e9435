theorem dX11_bits_0 : decode cX11_bits 0 = .ok (.iconst 0, 1) := by decide +kernel
theorem dX11_bits_1 : decode cX11_bits 1 = .ok (.istore_n 1, 1) := by decide +kernel
theorem dX11_bits_2 : decode cX11_bits 2 = .ok (.iconst 0, 1) := by decide +kernel
theorem dX11_bits_3 : decode cX11_bits 3 = .ok (.istore_n 2, 1) := by decide +kernel
theorem dX11_bits_4 : decode cX11_bits 4 = .ok (.iload_n 2, 1) := by decide +kernel
theorem dX11_bits_5 : decode cX11_bits 5 = .ok (.bipush 12, 2) := by decide +kernel
theorem dX11_bits_7 : decode cX11_bits 7 = .ok (.if_icmp .ge 17, 3) := by decide +kernel
theorem dX11_bits_10 : decode cX11_bits 10 = .ok (.iload_n 1, 1) := by decide +kernel
theorem dX11_bits_11 : decode cX11_bits 11 = .ok (.iload_n 0, 1) := by decide +kernel
theorem dX11_bits_12 : decode cX11_bits 12 = .ok (.iload_n 2, 1) := by decide +kernel
theorem dX11_bits_13 : decode cX11_bits 13 = .ok (.ishr, 1) := by decide +kernel
theorem dX11_bits_14 : decode cX11_bits 14 = .ok (.iconst 1, 1) := by decide +kernel
theorem dX11_bits_15 : decode cX11_bits 15 = .ok (.iand, 1) := by decide +kernel
theorem dX11_bits_16 : decode cX11_bits 16 = .ok (.iadd, 1) := by decide +kernel
theorem dX11_bits_17 : decode cX11_bits 17 = .ok (.istore_n 1, 1) := by decide +kernel
theorem dX11_bits_18 : decode cX11_bits 18 = .ok (.iinc 2 1, 3) := by decide +kernel
theorem dX11_bits_21 : decode cX11_bits 21 = .ok (.goto (-17), 3) := by decide +kernel
theorem dX11_bits_24 : decode cX11_bits 24 = .ok (.iload_n 1, 1) := by decide +kernel
theorem dX11_bits_25 : decode cX11_bits 25 = .ok (.ireturn, 1) := by decide +kernel
def bt (x : Int32) (i : Nat) : Bool := x.toBitVec.getLsbD i
theorem b_ext {x y : Int32} (h : ∀ i, i < 32 → bt x i = bt y i) : x = y := Int32.toBitVec_inj.mp (BitVec.eq_of_getLsbD_eq (fun i hi => h i hi))
theorem b_and (x y : Int32) (i : Nat) : bt (x &&& y) i = (bt x i && bt y i) := by unfold bt; rw [Int32.toBitVec_and, BitVec.getLsbD_and]
theorem b_xor (x y : Int32) (i : Nat) : bt (x ^^^ y) i = (bt x i ^^ bt y i) := by unfold bt; rw [Int32.toBitVec_xor, BitVec.getLsbD_xor]
theorem b_m1 : ∀ i, i < 32 → bt (-1) i = true := by decide +kernel
theorem b_0 (i : Nat) : bt 0 i = false := BitVec.getLsbD_zero
theorem s_l : ∀ n, n < 32 → ((nI n &&& 31).toBitVec.smod 32).toNat = n := by decide +kernel
theorem b_shl (n : Nat) (hn : n < 32) (x : Int32) {i : Nat} (hi : i < 32) : bt (x <<< (nI n &&& 31)) i = (decide (n ≤ i) && bt x (i - n)) := by
  unfold bt
  rw [Int32.toBitVec_shiftLeft]
  show (x.toBitVec <<< ((nI n &&& 31).toBitVec.smod 32).toNat).getLsbD i = _
  rw [s_l n hn, BitVec.getLsbD_shiftLeft]
  rcases Nat.lt_or_ge i n with h | h
  · simp [h, Nat.not_le.mpr h]
  · simp [hi, h, Nat.not_lt.mpr h]
theorem b_sshr (n : Nat) (hn : n < 32) (x : Int32) {i : Nat} (hi : i < 32) : bt (x >>> (nI n &&& 31)) i = if n + i < 32 then bt x (n + i) else bt x 31 := by
  unfold bt
  rw [Int32.toBitVec_shiftRight]
  show (x.toBitVec.sshiftRight ((nI n &&& 31).toBitVec.smod 32).toNat).getLsbD i = _
  rw [s_l n hn, BitVec.getLsbD_sshiftRight, BitVec.msb_eq_getLsbD_last]
  simp [hi]
theorem b_1 : ∀ i, i < 32 → bt 1 i = decide (i = 0) := by decide +kernel
/-- the bit of a ware in a set; the set without it -/
def bI (x l : Int32) : Int := ((x >>> (l &&& 31)) &&& 1).toInt
def cl (x l : Int32) : Int32 := x &&& (((1 : Int32) <<< (l &&& 31)) ^^^ (-1))
theorem a1_bt (x : Int32) : (x &&& 1).toInt = if bt x 0 = true then 1 else 0 := by
  by_cases h : bt x 0 = true
  · have e : x &&& 1 = 1 := b_ext (fun i hi => by
      rw [b_and, b_1 i hi]
      by_cases q : i = 0
      · subst q; rw [h]; rfl
      · rw [decide_eq_false q, Bool.and_false])
    rw [e, if_pos h]; rfl
  · have e : x &&& 1 = 0 := b_ext (fun i hi => by
      rw [b_and, b_1 i hi, b_0]
      by_cases q : i = 0
      · subst q
        have h' : bt x 0 = false := by
          cases hb : bt x 0 with
          | false => rfl
          | true => exact absurd hb h
        rw [h']; rfl
      · rw [decide_eq_false q, Bool.and_false])
    rw [e, if_neg h]; rfl
theorem bI_bt {x l : Int32} (h0 : 0 ≤ l.toInt) (h1 : l.toInt < 32) : bI x l = if bt x l.toInt.toNat = true then 1 else 0 := by
  obtain ⟨n, e, hn, _⟩ := nI_ofI h0
  have e2 : l.toInt.toNat = n := by omega
  have e3 : bt (x >>> (nI n &&& 31)) 0 = bt x n := by rw [b_sshr n (by omega) x (by decide), if_pos (show n + 0 < 32 from (by omega)), Nat.add_zero]
  unfold bI
  rw [a1_bt, e2, e, e3]
theorem bI_01 (x l : Int32) : 0 ≤ bI x l ∧ bI x l ≤ 1 := and1_r _
theorem cl_bt {x l : Int32} (h0 : 0 ≤ l.toInt) (h1 : l.toInt < 32) {i : Nat} (hi : i < 32) : bt (cl x l) i = (bt x i && !decide (i = l.toInt.toNat)) := by
  obtain ⟨n, e, hn, _⟩ := nI_ofI h0
  have e2 : l.toInt.toNat = n := by omega
  unfold cl
  rw [e2, e, b_and, b_xor, b_shl n (by omega) 1 hi, b_m1 i hi]
  rcases Nat.lt_trichotomy i n with q | q | q
  · rw [decide_eq_false (show ¬ n ≤ i from by omega), decide_eq_false (show ¬ i = n from by omega)]; simp
  · subst q; rw [Nat.sub_self, b_1 0 (by decide)]; simp
  · rw [b_1 (i - n) (by omega), decide_eq_false (show ¬ i - n = 0 from by omega), decide_eq_false (show ¬ i = n from by omega)]; simp
theorem cl_lt {x l : Int32} (hx : 0 ≤ x.toInt) (h0 : 0 ≤ l.toInt) (h1 : l.toInt < 32) (hb : bI x l = 1) : 0 ≤ (cl x l).toInt ∧ (cl x l).toInt < x.toInt := by
  have a : 0 ≤ (cl x l).toInt ∧ (cl x l).toInt ≤ x.toInt := andb_l (x := x) (y := ((1 : Int32) <<< (l &&& 31)) ^^^ (-1)) hx
  have hne : ¬ cl x l = x := fun e => by
    have b1 : bt (cl x l) l.toInt.toNat = false := by rw [cl_bt h0 h1 (by omega), decide_eq_true rfl]; simp
    rw [e] at b1
    rw [bI_bt h0 h1, b1] at hb
    exact absurd hb (by decide)
  have : ¬ (cl x l).toInt = x.toInt := fun e => hne ((i_eq _ _).mpr e)
  omega
theorem bI_cl {x l : Int32} (h0 : 0 ≤ l.toInt) (h1 : l.toInt < 32) {k : Nat} (hk : k < 32) : bI (cl x l) (nI k) = if (k : Int) = l.toInt then 0 else bI x (nI k) := by
  have e : (nI k).toInt = k := nI_toInt (by omega)
  rw [bI_bt (by omega) (by omega), bI_bt (x := x) (by omega) (by omega), e, Int.toNat_natCast, cl_bt h0 h1 hk]
  by_cases q : (k : Int) = l.toInt
  · rw [if_pos q, decide_eq_true (show k = l.toInt.toNat from by omega)]; simp
  · rw [if_neg q, decide_eq_false (show ¬ k = l.toInt.toNat from by omega)]; simp
/-- how many of the first k are in a set -/
def bN (x : Int32) : Nat → Int
  | 0 => 0
  | k + 1 => bN x k + bI x (nI k)
theorem bN_cl {x l : Int32} (h0 : 0 ≤ l.toInt) (h1 : l.toInt < 32) (hb : bI x l = 1) : ∀ k : Nat, k ≤ 12 → bN (cl x l) k = bN x k - (if l.toInt < (k : Int) then 1 else 0) := by
  intro k
  induction k with
  | zero => intro _; rw [if_neg (by omega)]; rfl
  | succ k ih =>
    intro hk
    have e := ih (by omega)
    show bN (cl x l) k + bI (cl x l) (nI k) = bN x k + bI x (nI k) - (if l.toInt < ((k + 1 : Nat) : Int) then 1 else 0)
    rw [e, bI_cl h0 h1 (by omega)]
    by_cases q : (k : Int) = l.toInt
    · have el : nI k = l := (i_eq _ _).mpr (by rw [nI_toInt (by omega)]; exact q)
      rw [if_pos q, el, hb, if_neg (by omega), if_pos (by omega)]; omega
    · rw [if_neg q]
      by_cases z : l.toInt < (k : Int)
      · rw [if_pos z, if_pos (by omega)]; omega
      · rw [if_neg z, if_neg (by omega)]; omega
theorem bN_z : bN 0 12 = 0 := by decide +kernel
theorem nI_back {x : Int32} (h : 0 ≤ x.toInt) : nI x.toInt.toNat = x := by
  obtain ⟨n, e, hn, _⟩ := nI_ofI h
  rw [show x.toInt.toNat = n from (by omega)]; exact e.symm
theorem bt_n {n k : Nat} (hk : k < 32) : bt (nI n) k = n.testBit k := by
  show (BitVec.ofNat 32 n).getLsbD k = _
  rw [BitVec.getLsbD_ofNat, decide_eq_true hk, Bool.true_and]
theorem ex_tb {n : Nat} (h0 : 0 < n) (h1 : n < 4096) : ∃ k : Nat, k < 12 ∧ n.testBit k = true := by
  apply Classical.byContradiction
  intro hno
  have hz : n = 0 := Nat.eq_of_testBit_eq (fun i => by
    rw [Nat.zero_testBit]
    rcases Nat.lt_or_ge i 12 with q | q
    · cases hb : n.testBit i with
      | false => rfl
      | true => exact absurd ⟨i, q, hb⟩ hno
    · exact Nat.testBit_lt_two_pow (Nat.lt_of_lt_of_le h1 (by have := pw_mono q; omega)))
  omega
theorem ex_bit {x : Int32} (h : 1 ≤ x.toInt ∧ x.toInt ≤ 4095) : ∃ k : Nat, (0 : Int) ≤ (k : Int) ∧ k < 12 ∧ bI x (nI k) = 1 := by
  obtain ⟨n, e, hn, _⟩ := nI_ofI (x := x) (by omega)
  obtain ⟨k, k2, hk⟩ := ex_tb (n := n) (by omega) (by omega)
  refine ⟨k, by omega, k2, ?_⟩
  have ek : (nI k).toInt = k := nI_toInt (by omega)
  rw [bI_bt (by omega) (by omega), ek, Int.toNat_natCast, e, bt_n (by omega), if_pos hk]
/-- how much higher one stands on another -/
def rI (t : Nat → Int32) (a b : Int32) : Int := if (t (3 + 8 * a.toInt.toNat)).toInt < (t (3 + 8 * b.toInt.toNat)).toInt ∧ (t (9 + 8 * b.toInt.toNat)).toInt = 0 then 1 else (t (4 + 8 * b.toInt.toNat)).toInt
def TQ (t my ta : Nat → Int32) (w o : Int32) (r : Int) : Prop := r < 100000000 → ∃ l : Int32, 0 ≤ l.toInt ∧ l.toInt < (t 0).toInt ∧ bI o l = 1 ∧ ¬ (my (12 * l.toInt.toNat + w.toInt.toNat)).toInt = 0 ∧ rI t l w + (ta (12 * o.toInt.toNat + l.toInt.toNat)).toInt ≤ r
def TP (t my ta : Nat → Int32) (w o : Int32) (r : Int) : Prop := o = 0 ∨ TQ t my ta w o r
theorem TP.fr {t my ta ta' : Nat → Int32} {w o : Int32} {r : Int} (h : TP t my ta w o r) (ht : (t 0).toInt ≤ 12) (he : ∀ j : Nat, 12 * o.toInt.toNat ≤ j → j < 12 * o.toInt.toNat + 12 → ta' j = ta j) : TP t my ta' w o r := by
  rcases h with h | h
  · exact Or.inl h
  · refine Or.inr (fun hr => ?_)
    obtain ⟨l, l0, l1, l2, l3, l4⟩ := h hr
    exact ⟨l, l0, l1, l2, l3, by rw [he _ (by omega) (by omega)]; exact l4⟩
def TS (t my ta : Nat → Int32) (x : Int32) : Prop := ∀ w : Int32, 0 ≤ w.toInt → w.toInt < (t 0).toInt → bI x w = 1 → TP t my ta w (cl x w) (ta (12 * x.toInt.toNat + w.toInt.toNat)).toInt
/-- the table of heights: each is reached over one that is left -/
def TALL (t my ta : Nat → Int32) : Prop := ∀ x : Int32, 1 ≤ x.toInt → x.toInt < 2 ^ (t 0).toInt.toNat → TS t my ta x
theorem TS.fr {t my ta ta' : Nat → Int32} {x : Int32} (h : TS t my ta x) (ht : (t 0).toInt ≤ 12) (hx : 0 ≤ x.toInt) (he : ∀ j : Nat, j < 12 * x.toInt.toNat + 12 → ta' j = ta j) : TS t my ta' x := fun w w0 w1 w2 => by
  have hc := cl_lt hx w0 (by omega) w2
  rw [he _ (by omega)]
  exact TP.fr (h w w0 w1 w2) ht (fun j _ h2 => he j (by omega))
def FO (t my ta : Nat → Int32) (w left below foot height : Int32) : Prop := bI left w = 1 ∧ (0 ≤ below.toInt → ¬ (my (12 * w.toInt.toNat + below.toInt.toNat)).toInt = 0) ∧ foot.toInt + (if below.toInt < 0 then 0 else rI t w below) + (ta (12 * left.toInt.toNat + w.toInt.toNat)).toInt ≤ height.toInt
set_option maxHeartbeats 4000000 in
set_option maxRecDepth 100000 in
theorem c_X11_wareOf_0 (l : Launch) (D : DG) (cyC cyI cyJ cyZ cyO : ClassId) (m0 : Nat) (mtold : Nat) (mtape : Nat) (msort : Nat) (mplace : Nat) (mvalue : Nat) (mwords : Nat) (mop : Nat) (marg : Nat) (mnames : Nat) (mhasHabit : Nat) (mfactWords : Nat) (mfacts : Nat) (mpile : Nat) (mstates : Nat) (misMarked : Nat) (mrow : Nat) (mthr : Nat) (mmays : Nat) (mtall : Nat) (mweights : Nat) (mrowOfWare : Nat) (mneededOf : Nat) (mtried : Nat) (mbestRow : Nat) (mdigits : Nat) (p0 : Int32) (m_thrown : Int32) (m_taped : Int32) (m_size : Int32) (m_at : Int32) (m_fault : Int32) (m_codes : Int32) (m_isNew : Int32) (m_inShelf : Int32) (m_inStack : Int32) (m_inPlace : Int32) (m_rowMany : Int32) (m_goShelf : Int32) (m_goStack : Int32) (m_goLeft : Int32) (m_bestCost : Int32) (m_bestMany : Int32) (m_bestShelf : Int32) (m_bestSet : Int32) (m_told : Nat → Int32) (h_m_taped : 0 ≤ (m_taped).toInt ∧ (m_taped).toInt ≤ 1000) (h_m_size : 0 ≤ (m_size).toInt ∧ (m_size).toInt ≤ 1000) (h_m_at : 0 ≤ (m_at).toInt ∧ (m_at).toInt ≤ 1000) (h_m_fault : 0 ≤ (m_fault).toInt ∧ (m_fault).toInt ≤ 16005) (h_m_codes : 0 ≤ (m_codes).toInt ∧ (m_codes).toInt ≤ 1000) (h_m_isNew : 0 ≤ (m_isNew).toInt ∧ (m_isNew).toInt ≤ 1) (h_m_inShelf : 0 ≤ (m_inShelf).toInt ∧ (m_inShelf).toInt ≤ 3) (h_m_inStack : 0 ≤ (m_inStack).toInt ∧ (m_inStack).toInt ≤ 7) (h_m_inPlace : 0 ≤ (m_inPlace).toInt ∧ (m_inPlace).toInt ≤ 11) (h_m_rowMany : 0 ≤ (m_rowMany).toInt ∧ (m_rowMany).toInt ≤ 12) (h_m_goShelf : -1 ≤ (m_goShelf).toInt ∧ (m_goShelf).toInt ≤ 3) (h_m_bestMany : 0 ≤ (m_bestMany).toInt ∧ (m_bestMany).toInt ≤ 7) (h_m_bestShelf : 0 ≤ (m_bestShelf).toInt ∧ (m_bestShelf).toInt ≤ 3) (h_p0 : 0 ≤ (p0).toInt ∧ (p0).toInt ≤ 11) (h_m_told : TV m_told) : KK l D (TY cyC cyI cyJ cyZ cyO) yX11_wareOf cX11_wareOf 3 (some .int) ({ frames := 0, cells := 0, slots := 0, locals := 0 } : Room) 0 0 [.ref m0, .int p0, .int 0] [(m0, .inr (11, [.int m_thrown, .ref mtape, .int m_taped, .int m_size, .ref msort, .ref mplace, .ref mvalue, .int m_at, .int m_fault, .ref mwords, .ref mtold, .ref mop, .ref marg, .int m_codes, .ref mnames, .ref mhasHabit, .int m_isNew, .ref mfactWords, .ref mfacts, .ref mpile, .ref mstates, .ref misMarked, .int m_inShelf, .int m_inStack, .int m_inPlace, .ref mrow, .int m_rowMany, .ref mthr, .ref mmays, .ref mtall, .ref mweights, .ref mrowOfWare, .ref mneededOf, .int m_goShelf, .int m_goStack, .int m_goLeft, .ref mtried, .ref mbestRow, .int m_bestCost, .int m_bestMany, .int m_bestShelf, .int m_bestSet, .ref mdigits])), (mtold, .inl (cyI, 240, .inl m_told))] (fun u => some (.int (u.2.1 0))) (fun u => (0 ≤ (u.2.1 0).toInt ∧ (u.2.1 0).toInt ≤ 999) ∧ ((u.2.1 0) = m_told (3 + 8 * (p0).toInt.toNat))) (fun u => [(m0, .inr (11, [.int m_thrown, .ref mtape, .int m_taped, .int m_size, .ref msort, .ref mplace, .ref mvalue, .int m_at, .int m_fault, .ref mwords, .ref mtold, .ref mop, .ref marg, .int m_codes, .ref mnames, .ref mhasHabit, .int m_isNew, .ref mfactWords, .ref mfacts, .ref mpile, .ref mstates, .ref misMarked, .int m_inShelf, .int m_inStack, .int m_inPlace, .ref mrow, .int m_rowMany, .ref mthr, .ref mmays, .ref mtall, .ref mweights, .ref mrowOfWare, .ref mneededOf, .int m_goShelf, .int m_goStack, .int m_goLeft, .ref mtried, .ref mbestRow, .int m_bestCost, .int m_bestMany, .int m_bestShelf, .int m_bestSet, .ref mdigits])), (mtold, .inl (cyI, 240, .inl m_told))]) := by
  refine KK.of (lv0 := [(0, .ref m0), (1, .int p0), (2, .int 0)]) (by decide) rfl (Nat.le_of_ble_eq_true rfl) ?_
  intro p e s m args below meth c A C hr hk hin
  refine j_aload_n (pc := 0) C dX11_wareOf_0 rfl 0 rfl ?_
  refine j_get (pc := 1) (ci := 11) (v := .ref mtold) C inw_11 0 rfl rfl 10 (by decide) wd_669 rfl rfl dX11_wareOf_1 ?_
  refine j_iconst (pc := 4) (v := 3) C dX11_wareOf_4 (by decide) ?_
  refine j_bipush (pc := 5) (v := 8) C dX11_wareOf_5 (by decide) ?_
  refine j_iload_n (pc := 7) C dX11_wareOf_7 rfl 1 rfl ?_
  obtain ⟨v_1, ev_1⟩ : ∃ z : Int32, 8 * p0 = z := ⟨_, rfl⟩
  have el_8 : (8 : Int32).toInt = 8 := rfl
  have hv_1 : v_1.toInt = 8 * p0.toInt := by rw [← ev_1]; exact mulL (c := 8) rfl (by omega) (by omega)
  refine j_imul (pc := 8) (v := v_1) C dX11_wareOf_8 ev_1 ?_
  obtain ⟨v_2, ev_2⟩ : ∃ z : Int32, 3 + v_1 = z := ⟨_, rfl⟩
  have el_3 : (3 : Int32).toInt = 3 := rfl
  have hv_2 : v_2.toInt = (3 : Int32).toInt + v_1.toInt := by rw [← ev_2]; exact fb_addI (by omega) (by omega)
  refine j_iadd (pc := 9) (v := v_2) C dX11_wareOf_9 ev_2 ?_
  refine j_iload_n (pc := 10) C dX11_wareOf_10 rfl 2 rfl ?_
  obtain ⟨v_3, ev_3⟩ : ∃ z : Int32, v_2 + 0 = z := ⟨_, rfl⟩
  have el_0 : (0 : Int32).toInt = 0 := rfl
  have hv_3 : v_3.toInt = v_2.toInt + (0 : Int32).toInt := by rw [← ev_3]; exact fb_addI (by omega) (by omega)
  refine j_iadd (pc := 11) (v := v_3) C dX11_wareOf_11 ev_3 ?_
  obtain ⟨v_4, ev_4⟩ : ∃ z, m_told (v_3).toInt.toNat = z := ⟨_, rfl⟩
  have env_4 : (m_told (v_3).toInt.toNat).toInt = v_4.toInt := by rw [ev_4]
  have hv_4 : 0 ≤ v_4.toInt ∧ v_4.toInt ≤ 999 := by rw [← ev_4]; exact TV.k h_m_told (by omega) (by omega)
  refine j_iald (pc := 12) (v := v_4) (k := (v_3).toInt.toNat) C 1 1 rfl rfl (i_nn (by omega)) rfl (i_lt_n (by omega) (by omega)) ev_4 dX11_wareOf_12 ?_
  exact j_iret (pc := 13) C hr hk (fun i => [].getD i 0, fun i => [v_4].getD i 0, fun i => [].getD i (fun _ => 0), fun i => [].getD i (fun _ => 0)) rfl (show (0 ≤ (v_4).toInt ∧ (v_4).toInt ≤ 999) ∧ (v_4 = m_told (3 + 8 * (p0).toInt.toNat)) from ⟨by omega, by (rw [show 3 + 8 * (p0).toInt.toNat = (v_3).toInt.toNat from (by omega)]; exact ev_4.symm)⟩) [0, 1] (by decide) rfl (by decide) (by decide) dX11_wareOf_13
set_option maxHeartbeats 4000000 in
set_option maxRecDepth 100000 in
theorem c_X11_wareOf_1 (l : Launch) (D : DG) (cyC cyI cyJ cyZ cyO : ClassId) (m0 : Nat) (mtold : Nat) (mtape : Nat) (msort : Nat) (mplace : Nat) (mvalue : Nat) (mwords : Nat) (mop : Nat) (marg : Nat) (mnames : Nat) (mhasHabit : Nat) (mfactWords : Nat) (mfacts : Nat) (mpile : Nat) (mstates : Nat) (misMarked : Nat) (mrow : Nat) (mthr : Nat) (mmays : Nat) (mtall : Nat) (mweights : Nat) (mrowOfWare : Nat) (mneededOf : Nat) (mtried : Nat) (mbestRow : Nat) (mdigits : Nat) (p0 : Int32) (m_thrown : Int32) (m_taped : Int32) (m_size : Int32) (m_at : Int32) (m_fault : Int32) (m_codes : Int32) (m_isNew : Int32) (m_inShelf : Int32) (m_inStack : Int32) (m_inPlace : Int32) (m_rowMany : Int32) (m_goShelf : Int32) (m_goStack : Int32) (m_goLeft : Int32) (m_bestCost : Int32) (m_bestMany : Int32) (m_bestShelf : Int32) (m_bestSet : Int32) (m_told : Nat → Int32) (h_m_taped : 0 ≤ (m_taped).toInt ∧ (m_taped).toInt ≤ 1000) (h_m_size : 0 ≤ (m_size).toInt ∧ (m_size).toInt ≤ 1000) (h_m_at : 0 ≤ (m_at).toInt ∧ (m_at).toInt ≤ 1000) (h_m_fault : 0 ≤ (m_fault).toInt ∧ (m_fault).toInt ≤ 16005) (h_m_codes : 0 ≤ (m_codes).toInt ∧ (m_codes).toInt ≤ 1000) (h_m_isNew : 0 ≤ (m_isNew).toInt ∧ (m_isNew).toInt ≤ 1) (h_m_inShelf : 0 ≤ (m_inShelf).toInt ∧ (m_inShelf).toInt ≤ 3) (h_m_inStack : 0 ≤ (m_inStack).toInt ∧ (m_inStack).toInt ≤ 7) (h_m_inPlace : 0 ≤ (m_inPlace).toInt ∧ (m_inPlace).toInt ≤ 11) (h_m_rowMany : 0 ≤ (m_rowMany).toInt ∧ (m_rowMany).toInt ≤ 12) (h_m_goShelf : -1 ≤ (m_goShelf).toInt ∧ (m_goShelf).toInt ≤ 3) (h_m_bestMany : 0 ≤ (m_bestMany).toInt ∧ (m_bestMany).toInt ≤ 7) (h_m_bestShelf : 0 ≤ (m_bestShelf).toInt ∧ (m_bestShelf).toInt ≤ 3) (h_p0 : 0 ≤ (p0).toInt ∧ (p0).toInt ≤ 11) (h_m_told : TV m_told) : KK l D (TY cyC cyI cyJ cyZ cyO) yX11_wareOf cX11_wareOf 3 (some .int) ({ frames := 0, cells := 0, slots := 0, locals := 0 } : Room) 0 0 [.ref m0, .int p0, .int 1] [(m0, .inr (11, [.int m_thrown, .ref mtape, .int m_taped, .int m_size, .ref msort, .ref mplace, .ref mvalue, .int m_at, .int m_fault, .ref mwords, .ref mtold, .ref mop, .ref marg, .int m_codes, .ref mnames, .ref mhasHabit, .int m_isNew, .ref mfactWords, .ref mfacts, .ref mpile, .ref mstates, .ref misMarked, .int m_inShelf, .int m_inStack, .int m_inPlace, .ref mrow, .int m_rowMany, .ref mthr, .ref mmays, .ref mtall, .ref mweights, .ref mrowOfWare, .ref mneededOf, .int m_goShelf, .int m_goStack, .int m_goLeft, .ref mtried, .ref mbestRow, .int m_bestCost, .int m_bestMany, .int m_bestShelf, .int m_bestSet, .ref mdigits])), (mtold, .inl (cyI, 240, .inl m_told))] (fun u => some (.int (u.2.1 0))) (fun u => (0 ≤ (u.2.1 0).toInt ∧ (u.2.1 0).toInt ≤ 999) ∧ ((u.2.1 0) = m_told (4 + 8 * (p0).toInt.toNat))) (fun u => [(m0, .inr (11, [.int m_thrown, .ref mtape, .int m_taped, .int m_size, .ref msort, .ref mplace, .ref mvalue, .int m_at, .int m_fault, .ref mwords, .ref mtold, .ref mop, .ref marg, .int m_codes, .ref mnames, .ref mhasHabit, .int m_isNew, .ref mfactWords, .ref mfacts, .ref mpile, .ref mstates, .ref misMarked, .int m_inShelf, .int m_inStack, .int m_inPlace, .ref mrow, .int m_rowMany, .ref mthr, .ref mmays, .ref mtall, .ref mweights, .ref mrowOfWare, .ref mneededOf, .int m_goShelf, .int m_goStack, .int m_goLeft, .ref mtried, .ref mbestRow, .int m_bestCost, .int m_bestMany, .int m_bestShelf, .int m_bestSet, .ref mdigits])), (mtold, .inl (cyI, 240, .inl m_told))]) := by
  refine KK.of (lv0 := [(0, .ref m0), (1, .int p0), (2, .int 1)]) (by decide) rfl (Nat.le_of_ble_eq_true rfl) ?_
  intro p e s m args below meth c A C hr hk hin
  refine j_aload_n (pc := 0) C dX11_wareOf_0 rfl 0 rfl ?_
  refine j_get (pc := 1) (ci := 11) (v := .ref mtold) C inw_11 0 rfl rfl 10 (by decide) wd_669 rfl rfl dX11_wareOf_1 ?_
  refine j_iconst (pc := 4) (v := 3) C dX11_wareOf_4 (by decide) ?_
  refine j_bipush (pc := 5) (v := 8) C dX11_wareOf_5 (by decide) ?_
  refine j_iload_n (pc := 7) C dX11_wareOf_7 rfl 1 rfl ?_
  obtain ⟨v_1, ev_1⟩ : ∃ z : Int32, 8 * p0 = z := ⟨_, rfl⟩
  have el_8 : (8 : Int32).toInt = 8 := rfl
  have hv_1 : v_1.toInt = 8 * p0.toInt := by rw [← ev_1]; exact mulL (c := 8) rfl (by omega) (by omega)
  refine j_imul (pc := 8) (v := v_1) C dX11_wareOf_8 ev_1 ?_
  obtain ⟨v_2, ev_2⟩ : ∃ z : Int32, 3 + v_1 = z := ⟨_, rfl⟩
  have el_3 : (3 : Int32).toInt = 3 := rfl
  have hv_2 : v_2.toInt = (3 : Int32).toInt + v_1.toInt := by rw [← ev_2]; exact fb_addI (by omega) (by omega)
  refine j_iadd (pc := 9) (v := v_2) C dX11_wareOf_9 ev_2 ?_
  refine j_iload_n (pc := 10) C dX11_wareOf_10 rfl 2 rfl ?_
  obtain ⟨v_3, ev_3⟩ : ∃ z : Int32, v_2 + 1 = z := ⟨_, rfl⟩
  have el_1 : (1 : Int32).toInt = 1 := rfl
  have hv_3 : v_3.toInt = v_2.toInt + (1 : Int32).toInt := by rw [← ev_3]; exact fb_addI (by omega) (by omega)
  refine j_iadd (pc := 11) (v := v_3) C dX11_wareOf_11 ev_3 ?_
  obtain ⟨v_4, ev_4⟩ : ∃ z, m_told (v_3).toInt.toNat = z := ⟨_, rfl⟩
  have env_4 : (m_told (v_3).toInt.toNat).toInt = v_4.toInt := by rw [ev_4]
  have hv_4 : 0 ≤ v_4.toInt ∧ v_4.toInt ≤ 999 := by rw [← ev_4]; exact TV.k h_m_told (by omega) (by omega)
  refine j_iald (pc := 12) (v := v_4) (k := (v_3).toInt.toNat) C 1 1 rfl rfl (i_nn (by omega)) rfl (i_lt_n (by omega) (by omega)) ev_4 dX11_wareOf_12 ?_
  exact j_iret (pc := 13) C hr hk (fun i => [].getD i 0, fun i => [v_4].getD i 0, fun i => [].getD i (fun _ => 0), fun i => [].getD i (fun _ => 0)) rfl (show (0 ≤ (v_4).toInt ∧ (v_4).toInt ≤ 999) ∧ (v_4 = m_told (4 + 8 * (p0).toInt.toNat)) from ⟨by omega, by (rw [show 4 + 8 * (p0).toInt.toNat = (v_3).toInt.toNat from (by omega)]; exact ev_4.symm)⟩) [0, 1] (by decide) rfl (by decide) (by decide) dX11_wareOf_13
set_option maxHeartbeats 4000000 in
set_option maxRecDepth 100000 in
theorem c_X11_wareOf_6 (l : Launch) (D : DG) (cyC cyI cyJ cyZ cyO : ClassId) (m0 : Nat) (mtold : Nat) (mtape : Nat) (msort : Nat) (mplace : Nat) (mvalue : Nat) (mwords : Nat) (mop : Nat) (marg : Nat) (mnames : Nat) (mhasHabit : Nat) (mfactWords : Nat) (mfacts : Nat) (mpile : Nat) (mstates : Nat) (misMarked : Nat) (mrow : Nat) (mthr : Nat) (mmays : Nat) (mtall : Nat) (mweights : Nat) (mrowOfWare : Nat) (mneededOf : Nat) (mtried : Nat) (mbestRow : Nat) (mdigits : Nat) (p0 : Int32) (m_thrown : Int32) (m_taped : Int32) (m_size : Int32) (m_at : Int32) (m_fault : Int32) (m_codes : Int32) (m_isNew : Int32) (m_inShelf : Int32) (m_inStack : Int32) (m_inPlace : Int32) (m_rowMany : Int32) (m_goShelf : Int32) (m_goStack : Int32) (m_goLeft : Int32) (m_bestCost : Int32) (m_bestMany : Int32) (m_bestShelf : Int32) (m_bestSet : Int32) (m_told : Nat → Int32) (h_m_taped : 0 ≤ (m_taped).toInt ∧ (m_taped).toInt ≤ 1000) (h_m_size : 0 ≤ (m_size).toInt ∧ (m_size).toInt ≤ 1000) (h_m_at : 0 ≤ (m_at).toInt ∧ (m_at).toInt ≤ 1000) (h_m_fault : 0 ≤ (m_fault).toInt ∧ (m_fault).toInt ≤ 16005) (h_m_codes : 0 ≤ (m_codes).toInt ∧ (m_codes).toInt ≤ 1000) (h_m_isNew : 0 ≤ (m_isNew).toInt ∧ (m_isNew).toInt ≤ 1) (h_m_inShelf : 0 ≤ (m_inShelf).toInt ∧ (m_inShelf).toInt ≤ 3) (h_m_inStack : 0 ≤ (m_inStack).toInt ∧ (m_inStack).toInt ≤ 7) (h_m_inPlace : 0 ≤ (m_inPlace).toInt ∧ (m_inPlace).toInt ≤ 11) (h_m_rowMany : 0 ≤ (m_rowMany).toInt ∧ (m_rowMany).toInt ≤ 12) (h_m_goShelf : -1 ≤ (m_goShelf).toInt ∧ (m_goShelf).toInt ≤ 3) (h_m_bestMany : 0 ≤ (m_bestMany).toInt ∧ (m_bestMany).toInt ≤ 7) (h_m_bestShelf : 0 ≤ (m_bestShelf).toInt ∧ (m_bestShelf).toInt ≤ 3) (h_p0 : 0 ≤ (p0).toInt ∧ (p0).toInt ≤ 11) (h_m_told : TV m_told) : KK l D (TY cyC cyI cyJ cyZ cyO) yX11_wareOf cX11_wareOf 3 (some .int) ({ frames := 0, cells := 0, slots := 0, locals := 0 } : Room) 0 0 [.ref m0, .int p0, .int 6] [(m0, .inr (11, [.int m_thrown, .ref mtape, .int m_taped, .int m_size, .ref msort, .ref mplace, .ref mvalue, .int m_at, .int m_fault, .ref mwords, .ref mtold, .ref mop, .ref marg, .int m_codes, .ref mnames, .ref mhasHabit, .int m_isNew, .ref mfactWords, .ref mfacts, .ref mpile, .ref mstates, .ref misMarked, .int m_inShelf, .int m_inStack, .int m_inPlace, .ref mrow, .int m_rowMany, .ref mthr, .ref mmays, .ref mtall, .ref mweights, .ref mrowOfWare, .ref mneededOf, .int m_goShelf, .int m_goStack, .int m_goLeft, .ref mtried, .ref mbestRow, .int m_bestCost, .int m_bestMany, .int m_bestShelf, .int m_bestSet, .ref mdigits])), (mtold, .inl (cyI, 240, .inl m_told))] (fun u => some (.int (u.2.1 0))) (fun u => (0 ≤ (u.2.1 0).toInt ∧ (u.2.1 0).toInt ≤ 999) ∧ ((u.2.1 0) = m_told (9 + 8 * (p0).toInt.toNat))) (fun u => [(m0, .inr (11, [.int m_thrown, .ref mtape, .int m_taped, .int m_size, .ref msort, .ref mplace, .ref mvalue, .int m_at, .int m_fault, .ref mwords, .ref mtold, .ref mop, .ref marg, .int m_codes, .ref mnames, .ref mhasHabit, .int m_isNew, .ref mfactWords, .ref mfacts, .ref mpile, .ref mstates, .ref misMarked, .int m_inShelf, .int m_inStack, .int m_inPlace, .ref mrow, .int m_rowMany, .ref mthr, .ref mmays, .ref mtall, .ref mweights, .ref mrowOfWare, .ref mneededOf, .int m_goShelf, .int m_goStack, .int m_goLeft, .ref mtried, .ref mbestRow, .int m_bestCost, .int m_bestMany, .int m_bestShelf, .int m_bestSet, .ref mdigits])), (mtold, .inl (cyI, 240, .inl m_told))]) := by
  refine KK.of (lv0 := [(0, .ref m0), (1, .int p0), (2, .int 6)]) (by decide) rfl (Nat.le_of_ble_eq_true rfl) ?_
  intro p e s m args below meth c A C hr hk hin
  refine j_aload_n (pc := 0) C dX11_wareOf_0 rfl 0 rfl ?_
  refine j_get (pc := 1) (ci := 11) (v := .ref mtold) C inw_11 0 rfl rfl 10 (by decide) wd_669 rfl rfl dX11_wareOf_1 ?_
  refine j_iconst (pc := 4) (v := 3) C dX11_wareOf_4 (by decide) ?_
  refine j_bipush (pc := 5) (v := 8) C dX11_wareOf_5 (by decide) ?_
  refine j_iload_n (pc := 7) C dX11_wareOf_7 rfl 1 rfl ?_
  obtain ⟨v_1, ev_1⟩ : ∃ z : Int32, 8 * p0 = z := ⟨_, rfl⟩
  have el_8 : (8 : Int32).toInt = 8 := rfl
  have hv_1 : v_1.toInt = 8 * p0.toInt := by rw [← ev_1]; exact mulL (c := 8) rfl (by omega) (by omega)
  refine j_imul (pc := 8) (v := v_1) C dX11_wareOf_8 ev_1 ?_
  obtain ⟨v_2, ev_2⟩ : ∃ z : Int32, 3 + v_1 = z := ⟨_, rfl⟩
  have el_3 : (3 : Int32).toInt = 3 := rfl
  have hv_2 : v_2.toInt = (3 : Int32).toInt + v_1.toInt := by rw [← ev_2]; exact fb_addI (by omega) (by omega)
  refine j_iadd (pc := 9) (v := v_2) C dX11_wareOf_9 ev_2 ?_
  refine j_iload_n (pc := 10) C dX11_wareOf_10 rfl 2 rfl ?_
  obtain ⟨v_3, ev_3⟩ : ∃ z : Int32, v_2 + 6 = z := ⟨_, rfl⟩
  have el_6 : (6 : Int32).toInt = 6 := rfl
  have hv_3 : v_3.toInt = v_2.toInt + (6 : Int32).toInt := by rw [← ev_3]; exact fb_addI (by omega) (by omega)
  refine j_iadd (pc := 11) (v := v_3) C dX11_wareOf_11 ev_3 ?_
  obtain ⟨v_4, ev_4⟩ : ∃ z, m_told (v_3).toInt.toNat = z := ⟨_, rfl⟩
  have env_4 : (m_told (v_3).toInt.toNat).toInt = v_4.toInt := by rw [ev_4]
  have hv_4 : 0 ≤ v_4.toInt ∧ v_4.toInt ≤ 999 := by rw [← ev_4]; exact TV.k h_m_told (by omega) (by omega)
  refine j_iald (pc := 12) (v := v_4) (k := (v_3).toInt.toNat) C 1 1 rfl rfl (i_nn (by omega)) rfl (i_lt_n (by omega) (by omega)) ev_4 dX11_wareOf_12 ?_
  exact j_iret (pc := 13) C hr hk (fun i => [].getD i 0, fun i => [v_4].getD i 0, fun i => [].getD i (fun _ => 0), fun i => [].getD i (fun _ => 0)) rfl (show (0 ≤ (v_4).toInt ∧ (v_4).toInt ≤ 999) ∧ (v_4 = m_told (9 + 8 * (p0).toInt.toNat)) from ⟨by omega, by (rw [show 9 + 8 * (p0).toInt.toNat = (v_3).toInt.toNat from (by omega)]; exact ev_4.symm)⟩) [0, 1] (by decide) rfl (by decide) (by decide) dX11_wareOf_13
set_option maxHeartbeats 4000000 in
set_option maxRecDepth 100000 in
theorem c_X11_rises_f (l : Launch) (D : DG) (cyC cyI cyJ cyZ cyO : ClassId) (m0 : Nat) (mtold : Nat) (mtape : Nat) (msort : Nat) (mplace : Nat) (mvalue : Nat) (mwords : Nat) (mop : Nat) (marg : Nat) (mnames : Nat) (mhasHabit : Nat) (mfactWords : Nat) (mfacts : Nat) (mpile : Nat) (mstates : Nat) (misMarked : Nat) (mrow : Nat) (mthr : Nat) (mmays : Nat) (mtall : Nat) (mweights : Nat) (mrowOfWare : Nat) (mneededOf : Nat) (mtried : Nat) (mbestRow : Nat) (mdigits : Nat) (p0 : Int32) (p1 : Int32) (m_thrown : Int32) (m_taped : Int32) (m_size : Int32) (m_at : Int32) (m_fault : Int32) (m_codes : Int32) (m_isNew : Int32) (m_inShelf : Int32) (m_inStack : Int32) (m_inPlace : Int32) (m_rowMany : Int32) (m_goShelf : Int32) (m_goStack : Int32) (m_goLeft : Int32) (m_bestCost : Int32) (m_bestMany : Int32) (m_bestShelf : Int32) (m_bestSet : Int32) (m_told : Nat → Int32) (h_m_taped : 0 ≤ (m_taped).toInt ∧ (m_taped).toInt ≤ 1000) (h_m_size : 0 ≤ (m_size).toInt ∧ (m_size).toInt ≤ 1000) (h_m_at : 0 ≤ (m_at).toInt ∧ (m_at).toInt ≤ 1000) (h_m_fault : 0 ≤ (m_fault).toInt ∧ (m_fault).toInt ≤ 16005) (h_m_codes : 0 ≤ (m_codes).toInt ∧ (m_codes).toInt ≤ 1000) (h_m_isNew : 0 ≤ (m_isNew).toInt ∧ (m_isNew).toInt ≤ 1) (h_m_inShelf : 0 ≤ (m_inShelf).toInt ∧ (m_inShelf).toInt ≤ 3) (h_m_inStack : 0 ≤ (m_inStack).toInt ∧ (m_inStack).toInt ≤ 7) (h_m_inPlace : 0 ≤ (m_inPlace).toInt ∧ (m_inPlace).toInt ≤ 11) (h_m_rowMany : 0 ≤ (m_rowMany).toInt ∧ (m_rowMany).toInt ≤ 12) (h_m_goShelf : -1 ≤ (m_goShelf).toInt ∧ (m_goShelf).toInt ≤ 3) (h_m_bestMany : 0 ≤ (m_bestMany).toInt ∧ (m_bestMany).toInt ≤ 7) (h_m_bestShelf : 0 ≤ (m_bestShelf).toInt ∧ (m_bestShelf).toInt ≤ 3) (h_p0 : 0 ≤ (p0).toInt ∧ (p0).toInt ≤ 11) (h_p1 : 0 ≤ (p1).toInt ∧ (p1).toInt ≤ 11) (h_m_told : TV m_told) : KK l D (TY cyC cyI cyJ cyZ cyO) yX11_rises cX11_rises 3 (some .int) ({ frames := 1, cells := 0, slots := 0, locals := 22 } : Room) 0 0 [.ref m0, .int p0, .int p1] [(m0, .inr (11, [.int m_thrown, .ref mtape, .int m_taped, .int m_size, .ref msort, .ref mplace, .ref mvalue, .int m_at, .int m_fault, .ref mwords, .ref mtold, .ref mop, .ref marg, .int m_codes, .ref mnames, .ref mhasHabit, .int m_isNew, .ref mfactWords, .ref mfacts, .ref mpile, .ref mstates, .ref misMarked, .int m_inShelf, .int m_inStack, .int m_inPlace, .ref mrow, .int m_rowMany, .ref mthr, .ref mmays, .ref mtall, .ref mweights, .ref mrowOfWare, .ref mneededOf, .int m_goShelf, .int m_goStack, .int m_goLeft, .ref mtried, .ref mbestRow, .int m_bestCost, .int m_bestMany, .int m_bestShelf, .int m_bestSet, .ref mdigits])), (mtold, .inl (cyI, 240, .inl m_told))] (fun u => some (.int (u.2.1 0))) (fun u => (0 ≤ (u.2.1 0).toInt ∧ (u.2.1 0).toInt ≤ 999) ∧ ((u.2.1 0).toInt = rI m_told p0 p1)) (fun u => [(m0, .inr (11, [.int m_thrown, .ref mtape, .int m_taped, .int m_size, .ref msort, .ref mplace, .ref mvalue, .int m_at, .int m_fault, .ref mwords, .ref mtold, .ref mop, .ref marg, .int m_codes, .ref mnames, .ref mhasHabit, .int m_isNew, .ref mfactWords, .ref mfacts, .ref mpile, .ref mstates, .ref misMarked, .int m_inShelf, .int m_inStack, .int m_inPlace, .ref mrow, .int m_rowMany, .ref mthr, .ref mmays, .ref mtall, .ref mweights, .ref mrowOfWare, .ref mneededOf, .int m_goShelf, .int m_goStack, .int m_goLeft, .ref mtried, .ref mbestRow, .int m_bestCost, .int m_bestMany, .int m_bestShelf, .int m_bestSet, .ref mdigits])), (mtold, .inl (cyI, 240, .inl m_told))]) := by
  refine KK.of (lv0 := [(0, .ref m0), (1, .int p0), (2, .int p1)]) (by decide) rfl (Nat.le_of_ble_eq_true rfl) ?_
  intro p e s m args below meth c A C hr hk hin
  refine j_aload_n (pc := 0) C dX11_rises_0 rfl 0 rfl ?_
  refine j_iload_n (pc := 1) C dX11_rises_1 rfl 1 rfl ?_
  refine j_iconst (pc := 2) (v := 0) C dX11_rises_2 (by decide) ?_
  refine j_callV (pc := 3) (As := [.int p0, .int 0]) (rest := []) (wr := []) C (c_X11_wareOf_0 l D cyC cyI cyJ cyZ cyO m0 mtold mtape msort mplace mvalue mwords mop marg mnames mhasHabit mfactWords mfacts mpile mstates misMarked mrow mthr mmays mtall mweights mrowOfWare mneededOf mtried mbestRow mdigits p0 m_thrown m_taped m_size m_at m_fault m_codes m_isNew m_inShelf m_inStack m_inPlace m_rowMany m_goShelf m_goStack m_goLeft m_bestCost m_bestMany m_bestShelf m_bestSet m_told h_m_taped h_m_size h_m_at h_m_fault h_m_codes h_m_isNew h_m_inShelf h_m_inStack h_m_inPlace h_m_rowMany h_m_goShelf h_m_bestMany h_m_bestShelf h_p0 h_m_told) wd_756 wd_624 wd_757 wd_758 wd_759 ⟨by decide, by decide, rfl⟩ rfl ⟨rfl, rfl, by decide, by decide⟩ ⟨by decide, by decide⟩ [0, 1] [] rfl rfl ⟨by decide, by decide, by decide⟩ 0 rfl rfl rfl (Nat.le_of_ble_eq_true rfl) dX11_rises_3 (fun u_1 hw_2 => ?_)
  refine j_eq (ws2 := [(m0, .inr (11, [.int m_thrown, .ref mtape, .int m_taped, .int m_size, .ref msort, .ref mplace, .ref mvalue, .int m_at, .int m_fault, .ref mwords, .ref mtold, .ref mop, .ref marg, .int m_codes, .ref mnames, .ref mhasHabit, .int m_isNew, .ref mfactWords, .ref mfacts, .ref mpile, .ref mstates, .ref misMarked, .int m_inShelf, .int m_inStack, .int m_inPlace, .ref mrow, .int m_rowMany, .ref mthr, .ref mmays, .ref mtall, .ref mweights, .ref mrowOfWare, .ref mneededOf, .int m_goShelf, .int m_goStack, .int m_goLeft, .ref mtried, .ref mbestRow, .int m_bestCost, .int m_bestMany, .int m_bestShelf, .int m_bestSet, .ref mdigits])), (mtold, .inl (cyI, 240, .inl m_told))]) (pc2 := 6) (lv2 := [(0, .ref m0), (1, .int p0), (2, .int p1)]) (st2 := [.int (u_1.2.1 0)]) rfl rfl rfl rfl ?_
  obtain ⟨hw_2_0, hw_2_1⟩ := hw_2
  refine j_aload_n (pc := 6) C dX11_rises_6 rfl 0 rfl ?_
  refine j_iload_n (pc := 7) C dX11_rises_7 rfl 2 rfl ?_
  refine j_iconst (pc := 8) (v := 0) C dX11_rises_8 (by decide) ?_
  refine j_callV (pc := 9) (As := [.int p1, .int 0]) (rest := [.int (u_1.2.1 0)]) (wr := []) C (c_X11_wareOf_0 l D cyC cyI cyJ cyZ cyO m0 mtold mtape msort mplace mvalue mwords mop marg mnames mhasHabit mfactWords mfacts mpile mstates misMarked mrow mthr mmays mtall mweights mrowOfWare mneededOf mtried mbestRow mdigits p1 m_thrown m_taped m_size m_at m_fault m_codes m_isNew m_inShelf m_inStack m_inPlace m_rowMany m_goShelf m_goStack m_goLeft m_bestCost m_bestMany m_bestShelf m_bestSet m_told h_m_taped h_m_size h_m_at h_m_fault h_m_codes h_m_isNew h_m_inShelf h_m_inStack h_m_inPlace h_m_rowMany h_m_goShelf h_m_bestMany h_m_bestShelf h_p1 h_m_told) wd_756 wd_624 wd_757 wd_758 wd_759 ⟨by decide, by decide, rfl⟩ rfl ⟨rfl, rfl, by decide, by decide⟩ ⟨by decide, by decide⟩ [0, 1] [] rfl rfl ⟨by decide, by decide, by decide⟩ 0 rfl rfl rfl (Nat.le_of_ble_eq_true rfl) dX11_rises_9 (fun u_3 hw_4 => ?_)
  refine j_eq (ws2 := [(m0, .inr (11, [.int m_thrown, .ref mtape, .int m_taped, .int m_size, .ref msort, .ref mplace, .ref mvalue, .int m_at, .int m_fault, .ref mwords, .ref mtold, .ref mop, .ref marg, .int m_codes, .ref mnames, .ref mhasHabit, .int m_isNew, .ref mfactWords, .ref mfacts, .ref mpile, .ref mstates, .ref misMarked, .int m_inShelf, .int m_inStack, .int m_inPlace, .ref mrow, .int m_rowMany, .ref mthr, .ref mmays, .ref mtall, .ref mweights, .ref mrowOfWare, .ref mneededOf, .int m_goShelf, .int m_goStack, .int m_goLeft, .ref mtried, .ref mbestRow, .int m_bestCost, .int m_bestMany, .int m_bestShelf, .int m_bestSet, .ref mdigits])), (mtold, .inl (cyI, 240, .inl m_told))]) (pc2 := 12) (lv2 := [(0, .ref m0), (1, .int p0), (2, .int p1)]) (st2 := [.int (u_3.2.1 0), .int (u_1.2.1 0)]) rfl rfl rfl rfl ?_
  obtain ⟨hw_4_0, hw_4_1⟩ := hw_4
  refine j_icmp_ge (pc := 12) (tgt := 29) C dX11_rises_12 (by decide) (fun c_5 => ?_) (fun c_5 => ?_)
  · skip
    rw [i_le] at c_5
    refine j_aload_n (pc := 29) C dX11_rises_29 rfl 0 rfl ?_
    refine j_iload_n (pc := 30) C dX11_rises_30 rfl 2 rfl ?_
    refine j_iconst (pc := 31) (v := 1) C dX11_rises_31 (by decide) ?_
    refine j_callV (pc := 32) (As := [.int p1, .int 1]) (rest := []) (wr := []) C (c_X11_wareOf_1 l D cyC cyI cyJ cyZ cyO m0 mtold mtape msort mplace mvalue mwords mop marg mnames mhasHabit mfactWords mfacts mpile mstates misMarked mrow mthr mmays mtall mweights mrowOfWare mneededOf mtried mbestRow mdigits p1 m_thrown m_taped m_size m_at m_fault m_codes m_isNew m_inShelf m_inStack m_inPlace m_rowMany m_goShelf m_goStack m_goLeft m_bestCost m_bestMany m_bestShelf m_bestSet m_told h_m_taped h_m_size h_m_at h_m_fault h_m_codes h_m_isNew h_m_inShelf h_m_inStack h_m_inPlace h_m_rowMany h_m_goShelf h_m_bestMany h_m_bestShelf h_p1 h_m_told) wd_756 wd_624 wd_757 wd_758 wd_759 ⟨by decide, by decide, rfl⟩ rfl ⟨rfl, rfl, by decide, by decide⟩ ⟨by decide, by decide⟩ [0, 1] [] rfl rfl ⟨by decide, by decide, by decide⟩ 0 rfl rfl rfl (Nat.le_of_ble_eq_true rfl) dX11_rises_32 (fun u_6 hw_7 => ?_)
    refine j_eq (ws2 := [(m0, .inr (11, [.int m_thrown, .ref mtape, .int m_taped, .int m_size, .ref msort, .ref mplace, .ref mvalue, .int m_at, .int m_fault, .ref mwords, .ref mtold, .ref mop, .ref marg, .int m_codes, .ref mnames, .ref mhasHabit, .int m_isNew, .ref mfactWords, .ref mfacts, .ref mpile, .ref mstates, .ref misMarked, .int m_inShelf, .int m_inStack, .int m_inPlace, .ref mrow, .int m_rowMany, .ref mthr, .ref mmays, .ref mtall, .ref mweights, .ref mrowOfWare, .ref mneededOf, .int m_goShelf, .int m_goStack, .int m_goLeft, .ref mtried, .ref mbestRow, .int m_bestCost, .int m_bestMany, .int m_bestShelf, .int m_bestSet, .ref mdigits])), (mtold, .inl (cyI, 240, .inl m_told))]) (pc2 := 35) (lv2 := [(0, .ref m0), (1, .int p0), (2, .int p1)]) (st2 := [.int (u_6.2.1 0)]) rfl rfl rfl rfl ?_
    obtain ⟨hw_7_0, hw_7_1⟩ := hw_7
    exact j_iret (pc := 35) C hr hk (fun i => [].getD i 0, fun i => [(u_6.2.1 0)].getD i 0, fun i => [].getD i (fun _ => 0), fun i => [].getD i (fun _ => 0)) rfl (show (0 ≤ ((u_6.2.1 0)).toInt ∧ ((u_6.2.1 0)).toInt ≤ 999) ∧ ((u_6.2.1 0).toInt = rI m_told p0 p1) from ⟨hw_7_0, by (rw [hw_7_1]; exact (if_neg (fun z => by have z1 := z.1; rw [← hw_2_1, ← hw_4_1] at z1; omega)).symm)⟩) [0, 1] (by decide) rfl (by decide) (by decide) dX11_rises_35
  · skip
    rw [i_le] at c_5
    refine j_aload_n (pc := 15) C dX11_rises_15 rfl 0 rfl ?_
    refine j_iload_n (pc := 16) C dX11_rises_16 rfl 2 rfl ?_
    refine j_bipush (pc := 17) (v := 6) C dX11_rises_17 (by decide) ?_
    refine j_callV (pc := 19) (As := [.int p1, .int 6]) (rest := []) (wr := []) C (c_X11_wareOf_6 l D cyC cyI cyJ cyZ cyO m0 mtold mtape msort mplace mvalue mwords mop marg mnames mhasHabit mfactWords mfacts mpile mstates misMarked mrow mthr mmays mtall mweights mrowOfWare mneededOf mtried mbestRow mdigits p1 m_thrown m_taped m_size m_at m_fault m_codes m_isNew m_inShelf m_inStack m_inPlace m_rowMany m_goShelf m_goStack m_goLeft m_bestCost m_bestMany m_bestShelf m_bestSet m_told h_m_taped h_m_size h_m_at h_m_fault h_m_codes h_m_isNew h_m_inShelf h_m_inStack h_m_inPlace h_m_rowMany h_m_goShelf h_m_bestMany h_m_bestShelf h_p1 h_m_told) wd_756 wd_624 wd_757 wd_758 wd_759 ⟨by decide, by decide, rfl⟩ rfl ⟨rfl, rfl, by decide, by decide⟩ ⟨by decide, by decide⟩ [0, 1] [] rfl rfl ⟨by decide, by decide, by decide⟩ 0 rfl rfl rfl (Nat.le_of_ble_eq_true rfl) dX11_rises_19 (fun u_8 hw_9 => ?_)
    refine j_eq (ws2 := [(m0, .inr (11, [.int m_thrown, .ref mtape, .int m_taped, .int m_size, .ref msort, .ref mplace, .ref mvalue, .int m_at, .int m_fault, .ref mwords, .ref mtold, .ref mop, .ref marg, .int m_codes, .ref mnames, .ref mhasHabit, .int m_isNew, .ref mfactWords, .ref mfacts, .ref mpile, .ref mstates, .ref misMarked, .int m_inShelf, .int m_inStack, .int m_inPlace, .ref mrow, .int m_rowMany, .ref mthr, .ref mmays, .ref mtall, .ref mweights, .ref mrowOfWare, .ref mneededOf, .int m_goShelf, .int m_goStack, .int m_goLeft, .ref mtried, .ref mbestRow, .int m_bestCost, .int m_bestMany, .int m_bestShelf, .int m_bestSet, .ref mdigits])), (mtold, .inl (cyI, 240, .inl m_told))]) (pc2 := 22) (lv2 := [(0, .ref m0), (1, .int p0), (2, .int p1)]) (st2 := [.int (u_8.2.1 0)]) rfl rfl rfl rfl ?_
    obtain ⟨hw_9_0, hw_9_1⟩ := hw_9
    refine j_if_ne (pc := 22) (tgt := 29) C dX11_rises_22 (by decide) (fun c_10 => ?_) (fun c_10 => ?_)
    · skip
      have el_0 : (0 : Int32).toInt = 0 := rfl
      rw [i_eq] at c_10
      refine j_aload_n (pc := 29) C dX11_rises_29 rfl 0 rfl ?_
      refine j_iload_n (pc := 30) C dX11_rises_30 rfl 2 rfl ?_
      refine j_iconst (pc := 31) (v := 1) C dX11_rises_31 (by decide) ?_
      refine j_callV (pc := 32) (As := [.int p1, .int 1]) (rest := []) (wr := []) C (c_X11_wareOf_1 l D cyC cyI cyJ cyZ cyO m0 mtold mtape msort mplace mvalue mwords mop marg mnames mhasHabit mfactWords mfacts mpile mstates misMarked mrow mthr mmays mtall mweights mrowOfWare mneededOf mtried mbestRow mdigits p1 m_thrown m_taped m_size m_at m_fault m_codes m_isNew m_inShelf m_inStack m_inPlace m_rowMany m_goShelf m_goStack m_goLeft m_bestCost m_bestMany m_bestShelf m_bestSet m_told h_m_taped h_m_size h_m_at h_m_fault h_m_codes h_m_isNew h_m_inShelf h_m_inStack h_m_inPlace h_m_rowMany h_m_goShelf h_m_bestMany h_m_bestShelf h_p1 h_m_told) wd_756 wd_624 wd_757 wd_758 wd_759 ⟨by decide, by decide, rfl⟩ rfl ⟨rfl, rfl, by decide, by decide⟩ ⟨by decide, by decide⟩ [0, 1] [] rfl rfl ⟨by decide, by decide, by decide⟩ 0 rfl rfl rfl (Nat.le_of_ble_eq_true rfl) dX11_rises_32 (fun u_11 hw_12 => ?_)
      refine j_eq (ws2 := [(m0, .inr (11, [.int m_thrown, .ref mtape, .int m_taped, .int m_size, .ref msort, .ref mplace, .ref mvalue, .int m_at, .int m_fault, .ref mwords, .ref mtold, .ref mop, .ref marg, .int m_codes, .ref mnames, .ref mhasHabit, .int m_isNew, .ref mfactWords, .ref mfacts, .ref mpile, .ref mstates, .ref misMarked, .int m_inShelf, .int m_inStack, .int m_inPlace, .ref mrow, .int m_rowMany, .ref mthr, .ref mmays, .ref mtall, .ref mweights, .ref mrowOfWare, .ref mneededOf, .int m_goShelf, .int m_goStack, .int m_goLeft, .ref mtried, .ref mbestRow, .int m_bestCost, .int m_bestMany, .int m_bestShelf, .int m_bestSet, .ref mdigits])), (mtold, .inl (cyI, 240, .inl m_told))]) (pc2 := 35) (lv2 := [(0, .ref m0), (1, .int p0), (2, .int p1)]) (st2 := [.int (u_11.2.1 0)]) rfl rfl rfl rfl ?_
      obtain ⟨hw_12_0, hw_12_1⟩ := hw_12
      exact j_iret (pc := 35) C hr hk (fun i => [].getD i 0, fun i => [(u_11.2.1 0)].getD i 0, fun i => [].getD i (fun _ => 0), fun i => [].getD i (fun _ => 0)) rfl (show (0 ≤ ((u_11.2.1 0)).toInt ∧ ((u_11.2.1 0)).toInt ≤ 999) ∧ ((u_11.2.1 0).toInt = rI m_told p0 p1) from ⟨hw_12_0, by (rw [hw_12_1]; exact (if_neg (fun z => by have z2 := z.2; rw [← hw_9_1] at z2; omega)).symm)⟩) [0, 1] (by decide) rfl (by decide) (by decide) dX11_rises_35
    · skip
      have el_0 : (0 : Int32).toInt = 0 := rfl
      rw [i_eq] at c_10
      refine j_iconst (pc := 25) (v := 1) C dX11_rises_25 (by decide) ?_
      refine j_goto (pc := 26) (tgt := 35) C dX11_rises_26 (by decide) ?_
      have el_1 : (1 : Int32).toInt = 1 := rfl
      have el_1 : (1 : Int32).toInt = 1 := rfl
      exact j_iret (pc := 35) C hr hk (fun i => [].getD i 0, fun i => [1].getD i 0, fun i => [].getD i (fun _ => 0), fun i => [].getD i (fun _ => 0)) rfl (show (0 ≤ ((1 : Int32)).toInt ∧ ((1 : Int32)).toInt ≤ 999) ∧ ((1 : Int32).toInt = rI m_told p0 p1) from ⟨by omega, by (have z : rI m_told p0 p1 = 1 := if_pos ⟨by (rw [← hw_2_1, ← hw_4_1]; omega), by (rw [← hw_9_1]; omega)⟩; rw [z]; rfl)⟩) [0, 1] (by decide) rfl (by decide) (by decide) dX11_rises_35
set_option maxHeartbeats 4000000 in
set_option maxRecDepth 100000 in
theorem c_X11_bits (l : Launch) (D : DG) (cyC cyI cyJ cyZ cyO : ClassId) (p0 : Int32) : KK l D (TY cyC cyI cyJ cyZ cyO) yX11_bits cX11_bits 3 (some .int) ({ frames := 0, cells := 0, slots := 0, locals := 0 } : Room) 0 0 [.int p0] [] (fun u => some (.int (u.2.1 0))) (fun u => (0 ≤ (u.2.1 0).toInt ∧ (u.2.1 0).toInt ≤ 12) ∧ ((u.2.1 0).toInt = bN p0 12)) (fun u => []) := by
  refine KK.of (lv0 := [(0, .int p0)]) (by decide) rfl (Nat.le_of_ble_eq_true rfl) ?_
  intro p e s m args below meth c A C hr hk hin
  refine j_iconst (pc := 0) (v := 0) C dX11_bits_0 (by decide) ?_
  refine j_istore_n (pc := 1) (lv' := [(1, .int 0), (0, .int p0)]) C dX11_bits_1 rfl (by decide) rfl ?_
  refine j_iconst (pc := 2) (v := 0) C dX11_bits_2 (by decide) ?_
  refine j_istore_n (pc := 3) (lv' := [(2, .int 0), (1, .int 0), (0, .int p0)]) C dX11_bits_3 rfl (by decide) rfl ?_
  have loop_1 : ∀ (k_1 : Nat) (x1_2 : Int32) (x1_1 : Int32), (0 ≤ (x1_2).toInt ∧ (x1_2).toInt ≤ 12) → (0 ≤ (x1_1).toInt ∧ (x1_1).toInt ≤ 12) → (x1_1.toInt ≤ x1_2.toInt) → (x1_1.toInt = bN p0 (x1_2.toInt).toNat) → (12 - x1_2.toInt).toNat < k_1 → J p l e ({ frames := 0, cells := 0, slots := 0, locals := 0 } : Room) s m args below meth c D A 3 0 0 (QX below D (TY cyC cyI cyJ cyZ cyO) A (fun u => some (.int (u.2.1 0))) (fun u => (0 ≤ (u.2.1 0).toInt ∧ (u.2.1 0).toInt ≤ 12) ∧ ((u.2.1 0).toInt = bN p0 12)) (fun u => []) args s 0 0) [] 4 [(2, .int x1_2), (1, .int x1_1), (0, .int p0)] [] := by
    intro k_1
    induction k_1 with
    | zero =>
      intro x1_2 x1_1 hi_1_0 hi_1_1 hr_1 hq_1_0 hm_1
      exact absurd hm_1 (Nat.not_lt_zero _)
    | succ k_1 ih_1 =>
      intro x1_2 x1_1 hi_1_0 hi_1_1 hr_1 hq_1_0 hm_1
      refine j_iload_n (pc := 4) C dX11_bits_4 rfl 0 rfl ?_
      refine j_bipush (pc := 5) (v := 12) C dX11_bits_5 (by decide) ?_
      refine j_icmp_ge (pc := 7) (tgt := 24) C dX11_bits_7 (by decide) (fun c_2 => ?_) (fun c_2 => ?_)
      · skip
        have el_12 : (12 : Int32).toInt = 12 := rfl
        rw [i_le] at c_2
        have k0c_2 : x1_2.toInt = 12 := by omega
        refine j_iload_n (pc := 24) C dX11_bits_24 rfl 1 rfl ?_
        exact j_iret (pc := 25) C hr hk (fun i => [].getD i 0, fun i => [x1_1].getD i 0, fun i => [].getD i (fun _ => 0), fun i => [].getD i (fun _ => 0)) rfl (show (0 ≤ (x1_1).toInt ∧ (x1_1).toInt ≤ 12) ∧ (x1_1.toInt = bN p0 12) from ⟨hi_1_1, (by have e : (x1_2.toInt).toNat = 12 := (by omega); rw [← e]; exact hq_1_0)⟩) [] (by decide) rfl (by decide) (by decide) dX11_bits_25
      · skip
        have el_12 : (12 : Int32).toInt = 12 := rfl
        rw [i_le] at c_2
        refine j_iload_n (pc := 10) C dX11_bits_10 rfl 1 rfl ?_
        refine j_iload_n (pc := 11) C dX11_bits_11 rfl 2 rfl ?_
        refine j_iload_n (pc := 12) C dX11_bits_12 rfl 0 rfl ?_
        obtain ⟨v_3, ev_3⟩ : ∃ z : Int32, p0 >>> (x1_2 &&& 31) = z := ⟨_, rfl⟩
        refine j_ishr (pc := 13) (v := v_3) C dX11_bits_13 ev_3 ?_
        refine j_iconst (pc := 14) (v := 1) C dX11_bits_14 (by decide) ?_
        obtain ⟨v_4, ev_4⟩ : ∃ z : Int32, v_3 &&& 1 = z := ⟨_, rfl⟩
        have el_1 : (1 : Int32).toInt = 1 := rfl
        have hv_4 : 0 ≤ v_4.toInt ∧ v_4.toInt ≤ 1 := by rw [← ev_4]; exact and1_r _
        refine j_iand (pc := 15) (v := v_4) C dX11_bits_15 ev_4 ?_
        obtain ⟨v_5, ev_5⟩ : ∃ z : Int32, x1_1 + v_4 = z := ⟨_, rfl⟩
        have hv_5 : v_5.toInt = x1_1.toInt + v_4.toInt := by rw [← ev_5]; exact fb_addI (by omega) (by omega)
        refine j_iadd (pc := 16) (v := v_5) C dX11_bits_16 ev_5 ?_
        refine j_istore_n (pc := 17) (lv' := [(1, .int v_5), (2, .int x1_2), (0, .int p0)]) C dX11_bits_17 rfl (by decide) rfl ?_
        obtain ⟨v_6, ev_6⟩ : ∃ z : Int32, x1_2 + 1 = z := ⟨_, rfl⟩
        have el_1 : (1 : Int32).toInt = 1 := rfl
        have hv_6 : v_6.toInt = x1_2.toInt + (1 : Int32).toInt := by rw [← ev_6]; exact fb_addI (by omega) (by omega)
        refine j_iinc (pc := 18) (v := v_6) (lv' := [(2, .int v_6), (1, .int v_5), (0, .int p0)]) C dX11_bits_18 1 rfl ev_6 (by decide) rfl ?_
        refine j_goto (pc := 21) (tgt := 4) C dX11_bits_21 (by decide) ?_
        exact j_lv [0, 1, 2] rfl (ih_1 v_6 v_5 (by omega) (by omega) (by omega) (by rw [show (v_6.toInt).toNat = (x1_2.toInt).toNat + 1 from (by omega)]; show v_5.toInt = bN p0 (x1_2.toInt).toNat + bI p0 (nI (x1_2.toInt).toNat); rw [nI_back (by omega), ← hq_1_0]; unfold bI; rw [ev_3, ev_4]; omega) (by omega))
  have el_0 : (0 : Int32).toInt = 0 := rfl
  have el_0 : (0 : Int32).toInt = 0 := rfl
  exact j_lv [0, 1, 2] rfl (loop_1 4096 0 0 (by decide) (by decide) (by omega) rfl (by omega))
theorem wd_898 : Cond.fieldLink RX11 127 "BowlShelfModel" "weights" "[I" ∈ WALL := wl_in (by decide +kernel) (by decide +kernel)
theorem wd_899 : Cond.constant RX11 363 (100000000) ∈ WALL := wl_in (by decide +kernel) (by decide +kernel)
theorem wd_900 : Cond.fieldLink RX11 120 "BowlShelfModel" "mays" "[Z" ∈ WALL := wl_in (by decide +kernel) (by decide +kernel)
theorem wd_901 : Cond.fieldLink RX11 124 "BowlShelfModel" "tall" "[I" ∈ WALL := wl_in (by decide +kernel) (by decide +kernel)
theorem wd_902 : Cond.code yX11_tallOn cX11_tallOn 7 (some .int) ∈ WALL := wl_in (by decide +kernel) (by decide +kernel)
theorem wd_903 : Cond.methodLink RX11 360 yX11_tallOn ∈ WALL := wl_in (by decide +kernel) (by decide +kernel)
theorem wd_904 : Cond.instanceMethod yX11_tallOn ∈ WALL := wl_in (by decide +kernel) (by decide +kernel)
theorem wd_905 : Cond.selects RX11 yX11_tallOn yX11_tallOn ∈ WALL := wl_in (by decide +kernel) (by decide +kernel)
theorem dX11_tallOn_0 : decode cX11_tallOn 0 = .ok (.aload_n 0, 1) := by decide +kernel
theorem dX11_tallOn_1 : decode cX11_tallOn 1 = .ok (.iload_n 1, 1) := by decide +kernel
theorem dX11_tallOn_2 : decode cX11_tallOn 2 = .ok (.iconst 1, 1) := by decide +kernel
theorem dX11_tallOn_3 : decode cX11_tallOn 3 = .ok (.invokevirtual 271, 3) := by decide +kernel
theorem dX11_tallOn_6 : decode cX11_tallOn 6 = .ok (.istore_n 3, 1) := by decide +kernel
theorem dX11_tallOn_7 : decode cX11_tallOn 7 = .ok (.iload_n 2, 1) := by decide +kernel
theorem dX11_tallOn_8 : decode cX11_tallOn 8 = .ok (.ifCond .ne 5, 3) := by decide +kernel
theorem dX11_tallOn_11 : decode cX11_tallOn 11 = .ok (.iload_n 3, 1) := by decide +kernel
theorem dX11_tallOn_12 : decode cX11_tallOn 12 = .ok (.ireturn, 1) := by decide +kernel
theorem dX11_tallOn_13 : decode cX11_tallOn 13 = .ok (.aload_n 0, 1) := by decide +kernel
theorem dX11_tallOn_14 : decode cX11_tallOn 14 = .ok (.getfield 127, 3) := by decide +kernel
theorem dX11_tallOn_17 : decode cX11_tallOn 17 = .ok (.iload_n 2, 1) := by decide +kernel
theorem dX11_tallOn_18 : decode cX11_tallOn 18 = .ok (.iaload, 1) := by decide +kernel
theorem dX11_tallOn_19 : decode cX11_tallOn 19 = .ok (.aload_n 0, 1) := by decide +kernel
theorem dX11_tallOn_20 : decode cX11_tallOn 20 = .ok (.iload_n 1, 1) := by decide +kernel
theorem dX11_tallOn_21 : decode cX11_tallOn 21 = .ok (.iconst 3, 1) := by decide +kernel
theorem dX11_tallOn_22 : decode cX11_tallOn 22 = .ok (.invokevirtual 271, 3) := by decide +kernel
theorem dX11_tallOn_25 : decode cX11_tallOn 25 = .ok (.if_icmp .le 7, 3) := by decide +kernel
theorem dX11_tallOn_28 : decode cX11_tallOn 28 = .ok (.ldc_w 363, 3) := by decide +kernel
theorem dX11_tallOn_31 : decode cX11_tallOn 31 = .ok (.ireturn, 1) := by decide +kernel
theorem dX11_tallOn_32 : decode cX11_tallOn 32 = .ok (.ldc_w 363, 3) := by decide +kernel
theorem dX11_tallOn_35 : decode cX11_tallOn 35 = .ok (.istore 4, 2) := by decide +kernel
theorem dX11_tallOn_37 : decode cX11_tallOn 37 = .ok (.iconst 0, 1) := by decide +kernel
theorem dX11_tallOn_38 : decode cX11_tallOn 38 = .ok (.istore 5, 2) := by decide +kernel
theorem dX11_tallOn_40 : decode cX11_tallOn 40 = .ok (.iload 5, 2) := by decide +kernel
theorem dX11_tallOn_42 : decode cX11_tallOn 42 = .ok (.aload_n 0, 1) := by decide +kernel
theorem dX11_tallOn_43 : decode cX11_tallOn 43 = .ok (.invokevirtual 264, 3) := by decide +kernel
theorem dX11_tallOn_46 : decode cX11_tallOn 46 = .ok (.if_icmp .ge 104, 3) := by decide +kernel
theorem dX11_tallOn_49 : decode cX11_tallOn 49 = .ok (.iload_n 2, 1) := by decide +kernel
theorem dX11_tallOn_50 : decode cX11_tallOn 50 = .ok (.iload 5, 2) := by decide +kernel
theorem dX11_tallOn_52 : decode cX11_tallOn 52 = .ok (.ishr, 1) := by decide +kernel
theorem dX11_tallOn_53 : decode cX11_tallOn 53 = .ok (.iconst 1, 1) := by decide +kernel
theorem dX11_tallOn_54 : decode cX11_tallOn 54 = .ok (.iand, 1) := by decide +kernel
theorem dX11_tallOn_55 : decode cX11_tallOn 55 = .ok (.iconst 1, 1) := by decide +kernel
theorem dX11_tallOn_56 : decode cX11_tallOn 56 = .ok (.if_icmp .ne 88, 3) := by decide +kernel
theorem dX11_tallOn_59 : decode cX11_tallOn 59 = .ok (.aload_n 0, 1) := by decide +kernel
theorem dX11_tallOn_60 : decode cX11_tallOn 60 = .ok (.getfield 120, 3) := by decide +kernel
theorem dX11_tallOn_63 : decode cX11_tallOn 63 = .ok (.bipush 12, 2) := by decide +kernel
theorem dX11_tallOn_65 : decode cX11_tallOn 65 = .ok (.iload 5, 2) := by decide +kernel
theorem dX11_tallOn_67 : decode cX11_tallOn 67 = .ok (.imul, 1) := by decide +kernel
theorem dX11_tallOn_68 : decode cX11_tallOn 68 = .ok (.iload_n 1, 1) := by decide +kernel
theorem dX11_tallOn_69 : decode cX11_tallOn 69 = .ok (.iadd, 1) := by decide +kernel
theorem dX11_tallOn_70 : decode cX11_tallOn 70 = .ok (.baload, 1) := by decide +kernel
theorem dX11_tallOn_71 : decode cX11_tallOn 71 = .ok (.ifCond .eq 73, 3) := by decide +kernel
theorem dX11_tallOn_74 : decode cX11_tallOn 74 = .ok (.aload_n 0, 1) := by decide +kernel
theorem dX11_tallOn_75 : decode cX11_tallOn 75 = .ok (.getfield 124, 3) := by decide +kernel
theorem dX11_tallOn_78 : decode cX11_tallOn 78 = .ok (.bipush 12, 2) := by decide +kernel
theorem dX11_tallOn_80 : decode cX11_tallOn 80 = .ok (.iload_n 2, 1) := by decide +kernel
theorem dX11_tallOn_81 : decode cX11_tallOn 81 = .ok (.imul, 1) := by decide +kernel
theorem dX11_tallOn_82 : decode cX11_tallOn 82 = .ok (.iload 5, 2) := by decide +kernel
theorem dX11_tallOn_84 : decode cX11_tallOn 84 = .ok (.iadd, 1) := by decide +kernel
theorem dX11_tallOn_85 : decode cX11_tallOn 85 = .ok (.iaload, 1) := by decide +kernel
theorem dX11_tallOn_86 : decode cX11_tallOn 86 = .ok (.ldc_w 363, 3) := by decide +kernel
theorem dX11_tallOn_89 : decode cX11_tallOn 89 = .ok (.if_icmp .ge 55, 3) := by decide +kernel
theorem dX11_tallOn_92 : decode cX11_tallOn 92 = .ok (.aload_n 0, 1) := by decide +kernel
theorem dX11_tallOn_93 : decode cX11_tallOn 93 = .ok (.iload 5, 2) := by decide +kernel
theorem dX11_tallOn_95 : decode cX11_tallOn 95 = .ok (.iload_n 1, 1) := by decide +kernel
theorem dX11_tallOn_96 : decode cX11_tallOn 96 = .ok (.invokevirtual 312, 3) := by decide +kernel
theorem dX11_tallOn_99 : decode cX11_tallOn 99 = .ok (.aload_n 0, 1) := by decide +kernel
theorem dX11_tallOn_100 : decode cX11_tallOn 100 = .ok (.getfield 124, 3) := by decide +kernel
theorem dX11_tallOn_103 : decode cX11_tallOn 103 = .ok (.bipush 12, 2) := by decide +kernel
theorem dX11_tallOn_105 : decode cX11_tallOn 105 = .ok (.iload_n 2, 1) := by decide +kernel
theorem dX11_tallOn_106 : decode cX11_tallOn 106 = .ok (.imul, 1) := by decide +kernel
theorem dX11_tallOn_107 : decode cX11_tallOn 107 = .ok (.iload 5, 2) := by decide +kernel
theorem dX11_tallOn_109 : decode cX11_tallOn 109 = .ok (.iadd, 1) := by decide +kernel
theorem dX11_tallOn_110 : decode cX11_tallOn 110 = .ok (.iaload, 1) := by decide +kernel
theorem dX11_tallOn_111 : decode cX11_tallOn 111 = .ok (.iadd, 1) := by decide +kernel
theorem dX11_tallOn_112 : decode cX11_tallOn 112 = .ok (.istore 6, 2) := by decide +kernel
theorem dX11_tallOn_114 : decode cX11_tallOn 114 = .ok (.iload 6, 2) := by decide +kernel
theorem dX11_tallOn_116 : decode cX11_tallOn 116 = .ok (.iload_n 3, 1) := by decide +kernel
theorem dX11_tallOn_117 : decode cX11_tallOn 117 = .ok (.if_icmp .ge 7, 3) := by decide +kernel
theorem dX11_tallOn_120 : decode cX11_tallOn 120 = .ok (.iload_n 3, 1) := by decide +kernel
theorem dX11_tallOn_121 : decode cX11_tallOn 121 = .ok (.goto 5, 3) := by decide +kernel
theorem dX11_tallOn_124 : decode cX11_tallOn 124 = .ok (.iload 6, 2) := by decide +kernel
theorem dX11_tallOn_126 : decode cX11_tallOn 126 = .ok (.istore 6, 2) := by decide +kernel
theorem dX11_tallOn_128 : decode cX11_tallOn 128 = .ok (.iload 6, 2) := by decide +kernel
theorem dX11_tallOn_130 : decode cX11_tallOn 130 = .ok (.iload 4, 2) := by decide +kernel
theorem dX11_tallOn_132 : decode cX11_tallOn 132 = .ok (.if_icmp .ge 8, 3) := by decide +kernel
theorem dX11_tallOn_135 : decode cX11_tallOn 135 = .ok (.iload 6, 2) := by decide +kernel
theorem dX11_tallOn_137 : decode cX11_tallOn 137 = .ok (.goto 5, 3) := by decide +kernel
theorem dX11_tallOn_140 : decode cX11_tallOn 140 = .ok (.iload 4, 2) := by decide +kernel
theorem dX11_tallOn_142 : decode cX11_tallOn 142 = .ok (.istore 4, 2) := by decide +kernel
theorem dX11_tallOn_144 : decode cX11_tallOn 144 = .ok (.iinc 5 1, 3) := by decide +kernel
theorem dX11_tallOn_147 : decode cX11_tallOn 147 = .ok (.goto (-107), 3) := by decide +kernel
theorem dX11_tallOn_150 : decode cX11_tallOn 150 = .ok (.iload 4, 2) := by decide +kernel
theorem dX11_tallOn_152 : decode cX11_tallOn 152 = .ok (.ireturn, 1) := by decide +kernel
theorem dX11_findTall_0 : decode cX11_findTall 0 = .ok (.iconst 0, 1) := by decide +kernel
theorem dX11_findTall_1 : decode cX11_findTall 1 = .ok (.istore_n 2, 1) := by decide +kernel
theorem dX11_findTall_2 : decode cX11_findTall 2 = .ok (.iload_n 1, 1) := by decide +kernel
theorem dX11_findTall_3 : decode cX11_findTall 3 = .ok (.iload_n 2, 1) := by decide +kernel
theorem dX11_findTall_4 : decode cX11_findTall 4 = .ok (.ishr, 1) := by decide +kernel
theorem dX11_findTall_5 : decode cX11_findTall 5 = .ok (.iconst 1, 1) := by decide +kernel
theorem dX11_findTall_6 : decode cX11_findTall 6 = .ok (.iand, 1) := by decide +kernel
theorem dX11_findTall_7 : decode cX11_findTall 7 = .ok (.ifCond .ne 9, 3) := by decide +kernel
theorem dX11_findTall_10 : decode cX11_findTall 10 = .ok (.iinc 2 1, 3) := by decide +kernel
theorem dX11_findTall_13 : decode cX11_findTall 13 = .ok (.goto (-11), 3) := by decide +kernel
theorem dX11_findTall_16 : decode cX11_findTall 16 = .ok (.aload_n 0, 1) := by decide +kernel
theorem dX11_findTall_17 : decode cX11_findTall 17 = .ok (.getfield 127, 3) := by decide +kernel
theorem dX11_findTall_20 : decode cX11_findTall 20 = .ok (.iload_n 1, 1) := by decide +kernel
theorem dX11_findTall_21 : decode cX11_findTall 21 = .ok (.aload_n 0, 1) := by decide +kernel
theorem dX11_findTall_22 : decode cX11_findTall 22 = .ok (.getfield 127, 3) := by decide +kernel
theorem dX11_findTall_25 : decode cX11_findTall 25 = .ok (.iload_n 1, 1) := by decide +kernel
theorem dX11_findTall_26 : decode cX11_findTall 26 = .ok (.iconst 1, 1) := by decide +kernel
theorem dX11_findTall_27 : decode cX11_findTall 27 = .ok (.iload_n 2, 1) := by decide +kernel
theorem dX11_findTall_28 : decode cX11_findTall 28 = .ok (.ishl, 1) := by decide +kernel
theorem dX11_findTall_29 : decode cX11_findTall 29 = .ok (.iconst (-1), 1) := by decide +kernel
theorem dX11_findTall_30 : decode cX11_findTall 30 = .ok (.ixor, 1) := by decide +kernel
theorem dX11_findTall_31 : decode cX11_findTall 31 = .ok (.iand, 1) := by decide +kernel
theorem dX11_findTall_32 : decode cX11_findTall 32 = .ok (.iaload, 1) := by decide +kernel
theorem dX11_findTall_33 : decode cX11_findTall 33 = .ok (.aload_n 0, 1) := by decide +kernel
theorem dX11_findTall_34 : decode cX11_findTall 34 = .ok (.iload_n 2, 1) := by decide +kernel
theorem dX11_findTall_35 : decode cX11_findTall 35 = .ok (.iconst 2, 1) := by decide +kernel
theorem dX11_findTall_36 : decode cX11_findTall 36 = .ok (.invokevirtual 271, 3) := by decide +kernel
theorem dX11_findTall_39 : decode cX11_findTall 39 = .ok (.iadd, 1) := by decide +kernel
theorem dX11_findTall_40 : decode cX11_findTall 40 = .ok (.iastore, 1) := by decide +kernel
theorem dX11_findTall_41 : decode cX11_findTall 41 = .ok (.iconst 0, 1) := by decide +kernel
theorem dX11_findTall_42 : decode cX11_findTall 42 = .ok (.istore_n 3, 1) := by decide +kernel
theorem dX11_findTall_43 : decode cX11_findTall 43 = .ok (.iload_n 3, 1) := by decide +kernel
theorem dX11_findTall_44 : decode cX11_findTall 44 = .ok (.aload_n 0, 1) := by decide +kernel
theorem dX11_findTall_45 : decode cX11_findTall 45 = .ok (.invokevirtual 264, 3) := by decide +kernel
theorem dX11_findTall_48 : decode cX11_findTall 48 = .ok (.if_icmp .ge 41, 3) := by decide +kernel
theorem dX11_findTall_51 : decode cX11_findTall 51 = .ok (.iload_n 1, 1) := by decide +kernel
theorem dX11_findTall_52 : decode cX11_findTall 52 = .ok (.iload_n 3, 1) := by decide +kernel
theorem dX11_findTall_53 : decode cX11_findTall 53 = .ok (.ishr, 1) := by decide +kernel
theorem dX11_findTall_54 : decode cX11_findTall 54 = .ok (.iconst 1, 1) := by decide +kernel
theorem dX11_findTall_55 : decode cX11_findTall 55 = .ok (.iand, 1) := by decide +kernel
theorem dX11_findTall_56 : decode cX11_findTall 56 = .ok (.iconst 1, 1) := by decide +kernel
theorem dX11_findTall_57 : decode cX11_findTall 57 = .ok (.if_icmp .ne 26, 3) := by decide +kernel
theorem dX11_findTall_60 : decode cX11_findTall 60 = .ok (.aload_n 0, 1) := by decide +kernel
theorem dX11_findTall_61 : decode cX11_findTall 61 = .ok (.getfield 124, 3) := by decide +kernel
theorem dX11_findTall_64 : decode cX11_findTall 64 = .ok (.bipush 12, 2) := by decide +kernel
theorem dX11_findTall_66 : decode cX11_findTall 66 = .ok (.iload_n 1, 1) := by decide +kernel
theorem dX11_findTall_67 : decode cX11_findTall 67 = .ok (.imul, 1) := by decide +kernel
theorem dX11_findTall_68 : decode cX11_findTall 68 = .ok (.iload_n 3, 1) := by decide +kernel
theorem dX11_findTall_69 : decode cX11_findTall 69 = .ok (.iadd, 1) := by decide +kernel
theorem dX11_findTall_70 : decode cX11_findTall 70 = .ok (.aload_n 0, 1) := by decide +kernel
theorem dX11_findTall_71 : decode cX11_findTall 71 = .ok (.iload_n 3, 1) := by decide +kernel
theorem dX11_findTall_72 : decode cX11_findTall 72 = .ok (.iload_n 1, 1) := by decide +kernel
theorem dX11_findTall_73 : decode cX11_findTall 73 = .ok (.iconst 1, 1) := by decide +kernel
theorem dX11_findTall_74 : decode cX11_findTall 74 = .ok (.iload_n 3, 1) := by decide +kernel
theorem dX11_findTall_75 : decode cX11_findTall 75 = .ok (.ishl, 1) := by decide +kernel
theorem dX11_findTall_76 : decode cX11_findTall 76 = .ok (.iconst (-1), 1) := by decide +kernel
theorem dX11_findTall_77 : decode cX11_findTall 77 = .ok (.ixor, 1) := by decide +kernel
theorem dX11_findTall_78 : decode cX11_findTall 78 = .ok (.iand, 1) := by decide +kernel
theorem dX11_findTall_79 : decode cX11_findTall 79 = .ok (.invokevirtual 360, 3) := by decide +kernel
theorem dX11_findTall_82 : decode cX11_findTall 82 = .ok (.iastore, 1) := by decide +kernel
theorem dX11_findTall_83 : decode cX11_findTall 83 = .ok (.iinc 3 1, 3) := by decide +kernel
theorem dX11_findTall_86 : decode cX11_findTall 86 = .ok (.goto (-43), 3) := by decide +kernel
theorem dX11_findTall_89 : decode cX11_findTall 89 = .ok (.return_, 1) := by decide +kernel
set_option maxHeartbeats 4000000 in
set_option maxRecDepth 100000 in
theorem c_X11_tallOn (l : Launch) (D : DG) (cyC cyI cyJ cyZ cyO : ClassId) (m0 : Nat) (mtold : Nat) (mmays : Nat) (mtall : Nat) (mweights : Nat) (mtape : Nat) (msort : Nat) (mplace : Nat) (mvalue : Nat) (mwords : Nat) (mop : Nat) (marg : Nat) (mnames : Nat) (mhasHabit : Nat) (mfactWords : Nat) (mfacts : Nat) (mpile : Nat) (mstates : Nat) (misMarked : Nat) (mrow : Nat) (mthr : Nat) (mrowOfWare : Nat) (mneededOf : Nat) (mtried : Nat) (mbestRow : Nat) (mdigits : Nat) (p0 : Int32) (p1 : Int32) (m_thrown : Int32) (m_taped : Int32) (m_size : Int32) (m_at : Int32) (m_fault : Int32) (m_codes : Int32) (m_isNew : Int32) (m_inShelf : Int32) (m_inStack : Int32) (m_inPlace : Int32) (m_rowMany : Int32) (m_goShelf : Int32) (m_goStack : Int32) (m_goLeft : Int32) (m_bestCost : Int32) (m_bestMany : Int32) (m_bestShelf : Int32) (m_bestSet : Int32) (m_told : Nat → Int32) (m_mays : Nat → Int32) (m_tall : Nat → Int32) (m_weights : Nat → Int32) (h_m_taped : 0 ≤ (m_taped).toInt ∧ (m_taped).toInt ≤ 1000) (h_m_size : 0 ≤ (m_size).toInt ∧ (m_size).toInt ≤ 1000) (h_m_at : 0 ≤ (m_at).toInt ∧ (m_at).toInt ≤ 1000) (h_m_fault : 0 ≤ (m_fault).toInt ∧ (m_fault).toInt ≤ 16005) (h_m_codes : 0 ≤ (m_codes).toInt ∧ (m_codes).toInt ≤ 1000) (h_m_isNew : 0 ≤ (m_isNew).toInt ∧ (m_isNew).toInt ≤ 1) (h_m_inShelf : 0 ≤ (m_inShelf).toInt ∧ (m_inShelf).toInt ≤ 3) (h_m_inStack : 0 ≤ (m_inStack).toInt ∧ (m_inStack).toInt ≤ 7) (h_m_inPlace : 0 ≤ (m_inPlace).toInt ∧ (m_inPlace).toInt ≤ 11) (h_m_rowMany : 0 ≤ (m_rowMany).toInt ∧ (m_rowMany).toInt ≤ 12) (h_m_goShelf : -1 ≤ (m_goShelf).toInt ∧ (m_goShelf).toInt ≤ 3) (h_m_bestMany : 0 ≤ (m_bestMany).toInt ∧ (m_bestMany).toInt ≤ 7) (h_m_bestShelf : 0 ≤ (m_bestShelf).toInt ∧ (m_bestShelf).toInt ≤ 3) (h_p0 : 0 ≤ (p0).toInt ∧ (p0).toInt ≤ 11) (h_p1 : 0 ≤ (p1).toInt ∧ (p1).toInt ≤ 4095) (h_m_told : TV m_told) (h_m_tall : Iv 49152 (0) (100000000) m_tall) : KK l D (TY cyC cyI cyJ cyZ cyO) yX11_tallOn cX11_tallOn 7 (some .int) ({ frames := 2, cells := 0, slots := 0, locals := 44 } : Room) 0 0 [.ref m0, .int p0, .int p1] [(m0, .inr (11, [.int m_thrown, .ref mtape, .int m_taped, .int m_size, .ref msort, .ref mplace, .ref mvalue, .int m_at, .int m_fault, .ref mwords, .ref mtold, .ref mop, .ref marg, .int m_codes, .ref mnames, .ref mhasHabit, .int m_isNew, .ref mfactWords, .ref mfacts, .ref mpile, .ref mstates, .ref misMarked, .int m_inShelf, .int m_inStack, .int m_inPlace, .ref mrow, .int m_rowMany, .ref mthr, .ref mmays, .ref mtall, .ref mweights, .ref mrowOfWare, .ref mneededOf, .int m_goShelf, .int m_goStack, .int m_goLeft, .ref mtried, .ref mbestRow, .int m_bestCost, .int m_bestMany, .int m_bestShelf, .int m_bestSet, .ref mdigits])), (mtold, .inl (cyI, 240, .inl m_told)), (mmays, .inl (cyZ, 144, .inl m_mays)), (mtall, .inl (cyI, 49152, .inl m_tall)), (mweights, .inl (cyI, 4096, .inl m_weights))] (fun u => some (.int (u.2.1 0))) (fun u => (0 ≤ (u.2.1 0).toInt ∧ (u.2.1 0).toInt ≤ 100000000) ∧ (TP m_told m_mays m_tall p0 p1 (u.2.1 0).toInt)) (fun u => [(m0, .inr (11, [.int m_thrown, .ref mtape, .int m_taped, .int m_size, .ref msort, .ref mplace, .ref mvalue, .int m_at, .int m_fault, .ref mwords, .ref mtold, .ref mop, .ref marg, .int m_codes, .ref mnames, .ref mhasHabit, .int m_isNew, .ref mfactWords, .ref mfacts, .ref mpile, .ref mstates, .ref misMarked, .int m_inShelf, .int m_inStack, .int m_inPlace, .ref mrow, .int m_rowMany, .ref mthr, .ref mmays, .ref mtall, .ref mweights, .ref mrowOfWare, .ref mneededOf, .int m_goShelf, .int m_goStack, .int m_goLeft, .ref mtried, .ref mbestRow, .int m_bestCost, .int m_bestMany, .int m_bestShelf, .int m_bestSet, .ref mdigits])), (mtold, .inl (cyI, 240, .inl m_told)), (mmays, .inl (cyZ, 144, .inl m_mays)), (mtall, .inl (cyI, 49152, .inl m_tall)), (mweights, .inl (cyI, 4096, .inl m_weights))]) := by
  refine KK.of (lv0 := [(0, .ref m0), (1, .int p0), (2, .int p1)]) (by decide) rfl (Nat.le_of_ble_eq_true rfl) ?_
  intro p e s m args below meth c A C hr hk hin
  refine j_aload_n (pc := 0) C dX11_tallOn_0 rfl 0 rfl ?_
  refine j_iload_n (pc := 1) C dX11_tallOn_1 rfl 1 rfl ?_
  refine j_iconst (pc := 2) (v := 1) C dX11_tallOn_2 (by decide) ?_
  refine j_callV (pc := 3) (As := [.int p0, .int 1]) (rest := []) (wr := [(mmays, .inl (cyZ, 144, .inl m_mays)), (mtall, .inl (cyI, 49152, .inl m_tall)), (mweights, .inl (cyI, 4096, .inl m_weights))]) C (c_X11_wareOf_1 l D cyC cyI cyJ cyZ cyO m0 mtold mtape msort mplace mvalue mwords mop marg mnames mhasHabit mfactWords mfacts mpile mstates misMarked mrow mthr mmays mtall mweights mrowOfWare mneededOf mtried mbestRow mdigits p0 m_thrown m_taped m_size m_at m_fault m_codes m_isNew m_inShelf m_inStack m_inPlace m_rowMany m_goShelf m_goStack m_goLeft m_bestCost m_bestMany m_bestShelf m_bestSet m_told h_m_taped h_m_size h_m_at h_m_fault h_m_codes h_m_isNew h_m_inShelf h_m_inStack h_m_inPlace h_m_rowMany h_m_goShelf h_m_bestMany h_m_bestShelf h_p0 h_m_told) wd_756 wd_624 wd_757 wd_758 wd_759 ⟨by decide, by decide, rfl⟩ rfl ⟨rfl, rfl, by decide, by decide⟩ ⟨by decide, by decide⟩ [0, 1] [2, 3, 4] rfl rfl ⟨by decide, by decide, by decide⟩ 0 rfl rfl rfl (Nat.le_of_ble_eq_true rfl) dX11_tallOn_3 (fun u_1 hw_2 => ?_)
  refine j_eq (ws2 := [(mmays, .inl (cyZ, 144, .inl m_mays)), (mtall, .inl (cyI, 49152, .inl m_tall)), (mweights, .inl (cyI, 4096, .inl m_weights)), (m0, .inr (11, [.int m_thrown, .ref mtape, .int m_taped, .int m_size, .ref msort, .ref mplace, .ref mvalue, .int m_at, .int m_fault, .ref mwords, .ref mtold, .ref mop, .ref marg, .int m_codes, .ref mnames, .ref mhasHabit, .int m_isNew, .ref mfactWords, .ref mfacts, .ref mpile, .ref mstates, .ref misMarked, .int m_inShelf, .int m_inStack, .int m_inPlace, .ref mrow, .int m_rowMany, .ref mthr, .ref mmays, .ref mtall, .ref mweights, .ref mrowOfWare, .ref mneededOf, .int m_goShelf, .int m_goStack, .int m_goLeft, .ref mtried, .ref mbestRow, .int m_bestCost, .int m_bestMany, .int m_bestShelf, .int m_bestSet, .ref mdigits])), (mtold, .inl (cyI, 240, .inl m_told))]) (pc2 := 6) (lv2 := [(0, .ref m0), (1, .int p0), (2, .int p1)]) (st2 := [.int (u_1.2.1 0)]) rfl rfl rfl rfl ?_
  obtain ⟨hw_2_0, hw_2_1⟩ := hw_2
  refine j_istore_n (pc := 6) (lv' := [(3, .int (u_1.2.1 0)), (0, .ref m0), (1, .int p0), (2, .int p1)]) C dX11_tallOn_6 rfl (by decide) rfl ?_
  refine j_iload_n (pc := 7) C dX11_tallOn_7 rfl 3 rfl ?_
  refine j_if_ne (pc := 8) (tgt := 13) C dX11_tallOn_8 (by decide) (fun c_3 => ?_) (fun c_3 => ?_)
  · skip
    have el_0 : (0 : Int32).toInt = 0 := rfl
    rw [i_eq] at c_3
    refine j_aload_n (pc := 13) C dX11_tallOn_13 rfl 1 rfl ?_
    refine j_get (pc := 14) (ci := 11) (v := .ref mweights) C inw_11 3 rfl rfl 30 (by decide) wd_898 rfl rfl dX11_tallOn_14 ?_
    refine j_iload_n (pc := 17) C dX11_tallOn_17 rfl 3 rfl ?_
    obtain ⟨v_4, ev_4⟩ : ∃ z, m_weights (p1).toInt.toNat = z := ⟨_, rfl⟩
    have env_4 : (m_weights (p1).toInt.toNat).toInt = v_4.toInt := by rw [ev_4]
    refine j_iald (pc := 18) (v := v_4) (k := (p1).toInt.toNat) C 2 1 rfl rfl (i_nn h_p1.1) rfl (i_lt_n h_p1.1 (Int.lt_of_le_of_lt h_p1.2 (by decide))) ev_4 dX11_tallOn_18 ?_
    refine j_aload_n (pc := 19) C dX11_tallOn_19 rfl 1 rfl ?_
    refine j_iload_n (pc := 20) C dX11_tallOn_20 rfl 2 rfl ?_
    refine j_iconst (pc := 21) (v := 3) C dX11_tallOn_21 (by decide) ?_
    refine j_callV (pc := 22) (As := [.int p0, .int 3]) (rest := [.int v_4]) (wr := [(mmays, .inl (cyZ, 144, .inl m_mays)), (mtall, .inl (cyI, 49152, .inl m_tall)), (mweights, .inl (cyI, 4096, .inl m_weights))]) C (c_X11_wareOf l D cyC cyI cyJ cyZ cyO m0 mtold mtape msort mplace mvalue mwords mop marg mnames mhasHabit mfactWords mfacts mpile mstates misMarked mrow mthr mmays mtall mweights mrowOfWare mneededOf mtried mbestRow mdigits p0 3 m_thrown m_taped m_size m_at m_fault m_codes m_isNew m_inShelf m_inStack m_inPlace m_rowMany m_goShelf m_goStack m_goLeft m_bestCost m_bestMany m_bestShelf m_bestSet m_told h_m_taped h_m_size h_m_at h_m_fault h_m_codes h_m_isNew h_m_inShelf h_m_inStack h_m_inPlace h_m_rowMany h_m_goShelf h_m_bestMany h_m_bestShelf h_p0 (by decide) h_m_told) wd_756 wd_624 wd_757 wd_758 wd_759 ⟨by decide, by decide, rfl⟩ rfl ⟨rfl, rfl, by decide, by decide⟩ ⟨by decide, by decide⟩ [3, 4] [0, 1, 2] rfl rfl ⟨by decide, by decide, by decide⟩ 3 rfl rfl rfl (Nat.le_of_ble_eq_true rfl) dX11_tallOn_22 (fun u_5 hw_6 => ?_)
    refine j_eq (ws2 := [(mmays, .inl (cyZ, 144, .inl m_mays)), (mtall, .inl (cyI, 49152, .inl m_tall)), (mweights, .inl (cyI, 4096, .inl m_weights)), (m0, .inr (11, [.int m_thrown, .ref mtape, .int m_taped, .int m_size, .ref msort, .ref mplace, .ref mvalue, .int m_at, .int m_fault, .ref mwords, .ref mtold, .ref mop, .ref marg, .int m_codes, .ref mnames, .ref mhasHabit, .int m_isNew, .ref mfactWords, .ref mfacts, .ref mpile, .ref mstates, .ref misMarked, .int m_inShelf, .int m_inStack, .int m_inPlace, .ref mrow, .int m_rowMany, .ref mthr, .ref mmays, .ref mtall, .ref mweights, .ref mrowOfWare, .ref mneededOf, .int m_goShelf, .int m_goStack, .int m_goLeft, .ref mtried, .ref mbestRow, .int m_bestCost, .int m_bestMany, .int m_bestShelf, .int m_bestSet, .ref mdigits])), (mtold, .inl (cyI, 240, .inl m_told))]) (pc2 := 25) (lv2 := [(3, .int (u_1.2.1 0)), (0, .ref m0), (1, .int p0), (2, .int p1)]) (st2 := [.int (u_5.2.1 0), .int v_4]) rfl rfl rfl rfl ?_
    obtain ⟨hw_6_0, hw_6_1⟩ := hw_6
    refine j_icmp_le (pc := 25) (tgt := 32) C dX11_tallOn_25 (by decide) (fun c_7 => ?_) (fun c_7 => ?_)
    · skip
      rw [i_le] at c_7
      refine j_ldcw (pc := 32) C wd_899 dX11_tallOn_32 ?_
      refine j_istore (pc := 35) (lv' := [(4, .int 100000000), (3, .int (u_1.2.1 0)), (0, .ref m0), (1, .int p0), (2, .int p1)]) C dX11_tallOn_35 (by decide) rfl ?_
      refine j_iconst (pc := 37) (v := 0) C dX11_tallOn_37 (by decide) ?_
      refine j_istore (pc := 38) (lv' := [(5, .int 0), (4, .int 100000000), (3, .int (u_1.2.1 0)), (0, .ref m0), (1, .int p0), (2, .int p1)]) C dX11_tallOn_38 (by decide) rfl ?_
      have loop_8 : ∀ (k_8 : Nat) (x8_5 : Int32) (x8_4 : Int32), (0 ≤ (x8_5).toInt ∧ (x8_5).toInt ≤ 12) → (0 ≤ (x8_4).toInt ∧ (x8_4).toInt ≤ 100000000) → (TQ m_told m_mays m_tall p0 p1 x8_4.toInt) → (12 - x8_5.toInt).toNat < k_8 → J p l e ({ frames := 2, cells := 0, slots := 0, locals := 44 } : Room) s m args below meth c D A 7 0 0 (QX below D (TY cyC cyI cyJ cyZ cyO) A (fun u => some (.int (u.2.1 0))) (fun u => (0 ≤ (u.2.1 0).toInt ∧ (u.2.1 0).toInt ≤ 100000000) ∧ (TP m_told m_mays m_tall p0 p1 (u.2.1 0).toInt)) (fun u => [(m0, .inr (11, [.int m_thrown, .ref mtape, .int m_taped, .int m_size, .ref msort, .ref mplace, .ref mvalue, .int m_at, .int m_fault, .ref mwords, .ref mtold, .ref mop, .ref marg, .int m_codes, .ref mnames, .ref mhasHabit, .int m_isNew, .ref mfactWords, .ref mfacts, .ref mpile, .ref mstates, .ref misMarked, .int m_inShelf, .int m_inStack, .int m_inPlace, .ref mrow, .int m_rowMany, .ref mthr, .ref mmays, .ref mtall, .ref mweights, .ref mrowOfWare, .ref mneededOf, .int m_goShelf, .int m_goStack, .int m_goLeft, .ref mtried, .ref mbestRow, .int m_bestCost, .int m_bestMany, .int m_bestShelf, .int m_bestSet, .ref mdigits])), (mtold, .inl (cyI, 240, .inl m_told)), (mmays, .inl (cyZ, 144, .inl m_mays)), (mtall, .inl (cyI, 49152, .inl m_tall)), (mweights, .inl (cyI, 4096, .inl m_weights))]) args s 0 0) [(mmays, .inl (cyZ, 144, .inl m_mays)), (mtall, .inl (cyI, 49152, .inl m_tall)), (mweights, .inl (cyI, 4096, .inl m_weights)), (m0, .inr (11, [.int m_thrown, .ref mtape, .int m_taped, .int m_size, .ref msort, .ref mplace, .ref mvalue, .int m_at, .int m_fault, .ref mwords, .ref mtold, .ref mop, .ref marg, .int m_codes, .ref mnames, .ref mhasHabit, .int m_isNew, .ref mfactWords, .ref mfacts, .ref mpile, .ref mstates, .ref misMarked, .int m_inShelf, .int m_inStack, .int m_inPlace, .ref mrow, .int m_rowMany, .ref mthr, .ref mmays, .ref mtall, .ref mweights, .ref mrowOfWare, .ref mneededOf, .int m_goShelf, .int m_goStack, .int m_goLeft, .ref mtried, .ref mbestRow, .int m_bestCost, .int m_bestMany, .int m_bestShelf, .int m_bestSet, .ref mdigits])), (mtold, .inl (cyI, 240, .inl m_told))] 40 [(5, .int x8_5), (4, .int x8_4), (3, .int (u_1.2.1 0)), (0, .ref m0), (1, .int p0), (2, .int p1)] [] := by
        intro k_8
        induction k_8 with
        | zero =>
          intro x8_5 x8_4 hi_8_0 hi_8_1 hq_8_0 hm_8
          exact absurd hm_8 (Nat.not_lt_zero _)
        | succ k_8 ih_8 =>
          intro x8_5 x8_4 hi_8_0 hi_8_1 hq_8_0 hm_8
          refine j_iload (pc := 40) C dX11_tallOn_40 0 rfl ?_
          refine j_aload_n (pc := 42) C dX11_tallOn_42 rfl 3 rfl ?_
          refine j_callV (pc := 43) (As := []) (rest := [.int x8_5]) (wr := [(mmays, .inl (cyZ, 144, .inl m_mays)), (mtall, .inl (cyI, 49152, .inl m_tall)), (mweights, .inl (cyI, 4096, .inl m_weights))]) C (c_X11_wares l D cyC cyI cyJ cyZ cyO m0 mtold mtape msort mplace mvalue mwords mop marg mnames mhasHabit mfactWords mfacts mpile mstates misMarked mrow mthr mmays mtall mweights mrowOfWare mneededOf mtried mbestRow mdigits m_thrown m_taped m_size m_at m_fault m_codes m_isNew m_inShelf m_inStack m_inPlace m_rowMany m_goShelf m_goStack m_goLeft m_bestCost m_bestMany m_bestShelf m_bestSet m_told h_m_taped h_m_size h_m_at h_m_fault h_m_codes h_m_isNew h_m_inShelf h_m_inStack h_m_inPlace h_m_rowMany h_m_goShelf h_m_bestMany h_m_bestShelf h_m_told) wd_748 wd_624 wd_749 wd_750 wd_751 ⟨by decide, by decide, rfl⟩ rfl ⟨rfl, rfl, by decide, by decide⟩ ⟨by decide, by decide⟩ [3, 4] [0, 1, 2] rfl rfl ⟨by decide, by decide, by decide⟩ 3 rfl rfl rfl (Nat.le_of_ble_eq_true rfl) dX11_tallOn_43 (fun u_9 hw_10 => ?_)
          refine j_eq (ws2 := [(mmays, .inl (cyZ, 144, .inl m_mays)), (mtall, .inl (cyI, 49152, .inl m_tall)), (mweights, .inl (cyI, 4096, .inl m_weights)), (m0, .inr (11, [.int m_thrown, .ref mtape, .int m_taped, .int m_size, .ref msort, .ref mplace, .ref mvalue, .int m_at, .int m_fault, .ref mwords, .ref mtold, .ref mop, .ref marg, .int m_codes, .ref mnames, .ref mhasHabit, .int m_isNew, .ref mfactWords, .ref mfacts, .ref mpile, .ref mstates, .ref misMarked, .int m_inShelf, .int m_inStack, .int m_inPlace, .ref mrow, .int m_rowMany, .ref mthr, .ref mmays, .ref mtall, .ref mweights, .ref mrowOfWare, .ref mneededOf, .int m_goShelf, .int m_goStack, .int m_goLeft, .ref mtried, .ref mbestRow, .int m_bestCost, .int m_bestMany, .int m_bestShelf, .int m_bestSet, .ref mdigits])), (mtold, .inl (cyI, 240, .inl m_told))]) (pc2 := 46) (lv2 := [(5, .int x8_5), (4, .int x8_4), (3, .int (u_1.2.1 0)), (0, .ref m0), (1, .int p0), (2, .int p1)]) (st2 := [.int (u_9.2.1 0), .int x8_5]) rfl rfl rfl rfl ?_
          obtain ⟨hw_10_0, hw_10_1⟩ := hw_10
          refine j_icmp_ge (pc := 46) (tgt := 150) C dX11_tallOn_46 (by decide) (fun c_11 => ?_) (fun c_11 => ?_)
          · skip
            rw [i_le] at c_11
            refine j_iload (pc := 150) C dX11_tallOn_150 1 rfl ?_
            exact j_iret (pc := 152) C hr hk (fun i => [].getD i 0, fun i => [x8_4].getD i 0, fun i => [].getD i (fun _ => 0), fun i => [].getD i (fun _ => 0)) rfl (show (0 ≤ (x8_4).toInt ∧ (x8_4).toInt ≤ 100000000) ∧ (TP m_told m_mays m_tall p0 p1 x8_4.toInt) from ⟨hi_8_1, Or.inr hq_8_0⟩) [3, 4, 0, 1, 2] (by decide) rfl (by decide) (by decide) dX11_tallOn_152
          · skip
            rw [i_le] at c_11
            refine j_iload_n (pc := 49) C dX11_tallOn_49 rfl 5 rfl ?_
            refine j_iload (pc := 50) C dX11_tallOn_50 0 rfl ?_
            obtain ⟨v_12, ev_12⟩ : ∃ z : Int32, p1 >>> (x8_5 &&& 31) = z := ⟨_, rfl⟩
            refine j_ishr (pc := 52) (v := v_12) C dX11_tallOn_52 ev_12 ?_
            refine j_iconst (pc := 53) (v := 1) C dX11_tallOn_53 (by decide) ?_
            obtain ⟨v_13, ev_13⟩ : ∃ z : Int32, v_12 &&& 1 = z := ⟨_, rfl⟩
            have el_1 : (1 : Int32).toInt = 1 := rfl
            have hv_13 : 0 ≤ v_13.toInt ∧ v_13.toInt ≤ 1 := by rw [← ev_13]; exact and1_r _
            refine j_iand (pc := 54) (v := v_13) C dX11_tallOn_54 ev_13 ?_
            refine j_iconst (pc := 55) (v := 1) C dX11_tallOn_55 (by decide) ?_
            refine j_icmp_ne (pc := 56) (tgt := 144) C dX11_tallOn_56 (by decide) (fun c_14 => ?_) (fun c_14 => ?_)
            · skip
              have el_1 : (1 : Int32).toInt = 1 := rfl
              rw [i_eq] at c_14
              have k0c_14 : v_13.toInt = 0 := by omega
              obtain ⟨v_15, ev_15⟩ : ∃ z : Int32, x8_5 + 1 = z := ⟨_, rfl⟩
              have el_1 : (1 : Int32).toInt = 1 := rfl
              have hv_15 : v_15.toInt = x8_5.toInt + (1 : Int32).toInt := by rw [← ev_15]; exact fb_addI (by omega) (by omega)
              refine j_iinc (pc := 144) (v := v_15) (lv' := [(5, .int v_15), (4, .int x8_4), (3, .int (u_1.2.1 0)), (0, .ref m0), (1, .int p0), (2, .int p1)]) C dX11_tallOn_144 0 rfl ev_15 (by decide) rfl ?_
              refine j_goto (pc := 147) (tgt := 40) C dX11_tallOn_147 (by decide) ?_
              exact j_lv [0, 1, 2, 3, 4, 5] rfl (ih_8 v_15 x8_4 (by omega) hi_8_1 hq_8_0 (by omega))
            · skip
              have el_1 : (1 : Int32).toInt = 1 := rfl
              rw [i_eq] at c_14
              refine j_aload_n (pc := 59) C dX11_tallOn_59 rfl 3 rfl ?_
              refine j_get (pc := 60) (ci := 11) (v := .ref mmays) C inw_11 3 rfl rfl 28 (by decide) wd_900 rfl rfl dX11_tallOn_60 ?_
              refine j_bipush (pc := 63) (v := 12) C dX11_tallOn_63 (by decide) ?_
              refine j_iload (pc := 65) C dX11_tallOn_65 0 rfl ?_
              obtain ⟨v_16, ev_16⟩ : ∃ z : Int32, 12 * x8_5 = z := ⟨_, rfl⟩
              have el_12 : (12 : Int32).toInt = 12 := rfl
              have hv_16 : v_16.toInt = 12 * x8_5.toInt := by rw [← ev_16]; exact mulL (c := 12) rfl (by omega) (by omega)
              refine j_imul (pc := 67) (v := v_16) C dX11_tallOn_67 ev_16 ?_
              refine j_iload_n (pc := 68) C dX11_tallOn_68 rfl 4 rfl ?_
              obtain ⟨v_17, ev_17⟩ : ∃ z : Int32, v_16 + p0 = z := ⟨_, rfl⟩
              have hv_17 : v_17.toInt = v_16.toInt + p0.toInt := by rw [← ev_17]; exact fb_addI (by omega) (by omega)
              refine j_iadd (pc := 69) (v := v_17) C dX11_tallOn_69 ev_17 ?_
              obtain ⟨v_18, ev_18⟩ : ∃ z, m_mays (v_17).toInt.toNat = z := ⟨_, rfl⟩
              have env_18 : (m_mays (v_17).toInt.toNat).toInt = v_18.toInt := by rw [ev_18]
              refine j_zald (pc := 70) (v := v_18) (k := (v_17).toInt.toNat) C 0 3 rfl rfl (i_nn (by omega)) rfl (i_lt_n (by omega) (by omega)) ev_18 dX11_tallOn_70 ?_
              refine j_if_eq (pc := 71) (tgt := 144) C dX11_tallOn_71 (by decide) (fun c_19 => ?_) (fun c_19 => ?_)
              · skip
                have el_0 : (0 : Int32).toInt = 0 := rfl
                rw [i_eq] at c_19
                obtain ⟨v_20, ev_20⟩ : ∃ z : Int32, x8_5 + 1 = z := ⟨_, rfl⟩
                have el_1 : (1 : Int32).toInt = 1 := rfl
                have hv_20 : v_20.toInt = x8_5.toInt + (1 : Int32).toInt := by rw [← ev_20]; exact fb_addI (by omega) (by omega)
                refine j_iinc (pc := 144) (v := v_20) (lv' := [(5, .int v_20), (4, .int x8_4), (3, .int (u_1.2.1 0)), (0, .ref m0), (1, .int p0), (2, .int p1)]) C dX11_tallOn_144 0 rfl ev_20 (by decide) rfl ?_
                refine j_goto (pc := 147) (tgt := 40) C dX11_tallOn_147 (by decide) ?_
                exact j_lv [0, 1, 2, 3, 4, 5] rfl (ih_8 v_20 x8_4 (by omega) hi_8_1 hq_8_0 (by omega))
              · skip
                have el_0 : (0 : Int32).toInt = 0 := rfl
                rw [i_eq] at c_19
                refine j_aload_n (pc := 74) C dX11_tallOn_74 rfl 3 rfl ?_
                refine j_get (pc := 75) (ci := 11) (v := .ref mtall) C inw_11 3 rfl rfl 29 (by decide) wd_901 rfl rfl dX11_tallOn_75 ?_
                refine j_bipush (pc := 78) (v := 12) C dX11_tallOn_78 (by decide) ?_
                refine j_iload_n (pc := 80) C dX11_tallOn_80 rfl 5 rfl ?_
                obtain ⟨v_21, ev_21⟩ : ∃ z : Int32, 12 * p1 = z := ⟨_, rfl⟩
                have el_12 : (12 : Int32).toInt = 12 := rfl
                have hv_21 : v_21.toInt = 12 * p1.toInt := by rw [← ev_21]; exact mulL (c := 12) rfl (by omega) (by omega)
                refine j_imul (pc := 81) (v := v_21) C dX11_tallOn_81 ev_21 ?_
                refine j_iload (pc := 82) C dX11_tallOn_82 0 rfl ?_
                obtain ⟨v_22, ev_22⟩ : ∃ z : Int32, v_21 + x8_5 = z := ⟨_, rfl⟩
                have hv_22 : v_22.toInt = v_21.toInt + x8_5.toInt := by rw [← ev_22]; exact fb_addI (by omega) (by omega)
                refine j_iadd (pc := 84) (v := v_22) C dX11_tallOn_84 ev_22 ?_
                obtain ⟨v_23, ev_23⟩ : ∃ z, m_tall (v_22).toInt.toNat = z := ⟨_, rfl⟩
                have env_23 : (m_tall (v_22).toInt.toNat).toInt = v_23.toInt := by rw [ev_23]
                have hv_23 := h_m_tall (v_22).toInt.toNat (i_lt_n (by omega) (by omega)); rw [ev_23] at hv_23
                refine j_iald (pc := 85) (v := v_23) (k := (v_22).toInt.toNat) C 1 1 rfl rfl (i_nn (by omega)) rfl (i_lt_n (by omega) (by omega)) ev_23 dX11_tallOn_85 ?_
                refine j_ldcw (pc := 86) C wd_899 dX11_tallOn_86 ?_
                refine j_icmp_ge (pc := 89) (tgt := 144) C dX11_tallOn_89 (by decide) (fun c_24 => ?_) (fun c_24 => ?_)
                · skip
                  have el_100000000 : (100000000 : Int32).toInt = 100000000 := rfl
                  rw [i_le] at c_24
                  have k0c_24 : v_23.toInt = 100000000 := by omega
                  obtain ⟨v_25, ev_25⟩ : ∃ z : Int32, x8_5 + 1 = z := ⟨_, rfl⟩
                  have el_1 : (1 : Int32).toInt = 1 := rfl
                  have hv_25 : v_25.toInt = x8_5.toInt + (1 : Int32).toInt := by rw [← ev_25]; exact fb_addI (by omega) (by omega)
                  refine j_iinc (pc := 144) (v := v_25) (lv' := [(5, .int v_25), (4, .int x8_4), (3, .int (u_1.2.1 0)), (0, .ref m0), (1, .int p0), (2, .int p1)]) C dX11_tallOn_144 0 rfl ev_25 (by decide) rfl ?_
                  refine j_goto (pc := 147) (tgt := 40) C dX11_tallOn_147 (by decide) ?_
                  exact j_lv [0, 1, 2, 3, 4, 5] rfl (ih_8 v_25 x8_4 (by omega) hi_8_1 hq_8_0 (by omega))
                · skip
                  have el_100000000 : (100000000 : Int32).toInt = 100000000 := rfl
                  rw [i_le] at c_24
                  refine j_aload_n (pc := 92) C dX11_tallOn_92 rfl 3 rfl ?_
                  refine j_iload (pc := 93) C dX11_tallOn_93 0 rfl ?_
                  refine j_iload_n (pc := 95) C dX11_tallOn_95 rfl 4 rfl ?_
                  refine j_callV (pc := 96) (As := [.int x8_5, .int p0]) (rest := []) (wr := [(mmays, .inl (cyZ, 144, .inl m_mays)), (mtall, .inl (cyI, 49152, .inl m_tall)), (mweights, .inl (cyI, 4096, .inl m_weights))]) C (c_X11_rises_f l D cyC cyI cyJ cyZ cyO m0 mtold mtape msort mplace mvalue mwords mop marg mnames mhasHabit mfactWords mfacts mpile mstates misMarked mrow mthr mmays mtall mweights mrowOfWare mneededOf mtried mbestRow mdigits x8_5 p0 m_thrown m_taped m_size m_at m_fault m_codes m_isNew m_inShelf m_inStack m_inPlace m_rowMany m_goShelf m_goStack m_goLeft m_bestCost m_bestMany m_bestShelf m_bestSet m_told h_m_taped h_m_size h_m_at h_m_fault h_m_codes h_m_isNew h_m_inShelf h_m_inStack h_m_inPlace h_m_rowMany h_m_goShelf h_m_bestMany h_m_bestShelf (by omega) h_p0 h_m_told) wd_789 wd_624 wd_790 wd_791 wd_792 ⟨by decide, by decide, rfl⟩ rfl ⟨rfl, rfl, by decide, by decide⟩ ⟨by decide, by decide⟩ [3, 4] [0, 1, 2] rfl rfl ⟨by decide, by decide, by decide⟩ 3 rfl rfl rfl (Nat.le_of_ble_eq_true rfl) dX11_tallOn_96 (fun u_26 hw_27 => ?_)
                  refine j_eq (ws2 := [(mmays, .inl (cyZ, 144, .inl m_mays)), (mtall, .inl (cyI, 49152, .inl m_tall)), (mweights, .inl (cyI, 4096, .inl m_weights)), (m0, .inr (11, [.int m_thrown, .ref mtape, .int m_taped, .int m_size, .ref msort, .ref mplace, .ref mvalue, .int m_at, .int m_fault, .ref mwords, .ref mtold, .ref mop, .ref marg, .int m_codes, .ref mnames, .ref mhasHabit, .int m_isNew, .ref mfactWords, .ref mfacts, .ref mpile, .ref mstates, .ref misMarked, .int m_inShelf, .int m_inStack, .int m_inPlace, .ref mrow, .int m_rowMany, .ref mthr, .ref mmays, .ref mtall, .ref mweights, .ref mrowOfWare, .ref mneededOf, .int m_goShelf, .int m_goStack, .int m_goLeft, .ref mtried, .ref mbestRow, .int m_bestCost, .int m_bestMany, .int m_bestShelf, .int m_bestSet, .ref mdigits])), (mtold, .inl (cyI, 240, .inl m_told))]) (pc2 := 99) (lv2 := [(5, .int x8_5), (4, .int x8_4), (3, .int (u_1.2.1 0)), (0, .ref m0), (1, .int p0), (2, .int p1)]) (st2 := [.int (u_26.2.1 0)]) rfl rfl rfl rfl ?_
                  obtain ⟨hw_27_0, hw_27_1⟩ := hw_27
                  refine j_aload_n (pc := 99) C dX11_tallOn_99 rfl 3 rfl ?_
                  refine j_get (pc := 100) (ci := 11) (v := .ref mtall) C inw_11 3 rfl rfl 29 (by decide) wd_901 rfl rfl dX11_tallOn_100 ?_
                  refine j_bipush (pc := 103) (v := 12) C dX11_tallOn_103 (by decide) ?_
                  refine j_iload_n (pc := 105) C dX11_tallOn_105 rfl 5 rfl ?_
                  obtain ⟨v_28, ev_28⟩ : ∃ z : Int32, 12 * p1 = z := ⟨_, rfl⟩
                  have el_12 : (12 : Int32).toInt = 12 := rfl
                  have hv_28 : v_28.toInt = 12 * p1.toInt := by rw [← ev_28]; exact mulL (c := 12) rfl (by omega) (by omega)
                  refine j_imul (pc := 106) (v := v_28) C dX11_tallOn_106 ev_28 ?_
                  refine j_iload (pc := 107) C dX11_tallOn_107 0 rfl ?_
                  obtain ⟨v_29, ev_29⟩ : ∃ z : Int32, v_28 + x8_5 = z := ⟨_, rfl⟩
                  have hv_29 : v_29.toInt = v_28.toInt + x8_5.toInt := by rw [← ev_29]; exact fb_addI (by omega) (by omega)
                  refine j_iadd (pc := 109) (v := v_29) C dX11_tallOn_109 ev_29 ?_
                  refine j_iald (pc := 110) (v := v_23) (k := (v_29).toInt.toNat) C 1 1 rfl rfl (i_nn (by omega)) rfl (i_lt_n (by omega) (by omega)) (by rw [show (v_29).toInt.toNat = (v_22).toInt.toNat from (by omega)]; exact ev_23) dX11_tallOn_110 ?_
                  obtain ⟨v_30, ev_30⟩ : ∃ z : Int32, (u_26.2.1 0) + v_23 = z := ⟨_, rfl⟩
                  have hv_30 : v_30.toInt = ((u_26.2.1 0)).toInt + v_23.toInt := by rw [← ev_30]; exact fb_addI (by omega) (by omega)
                  refine j_iadd (pc := 111) (v := v_30) C dX11_tallOn_111 ev_30 ?_
                  refine j_istore (pc := 112) (lv' := [(6, .int v_30), (5, .int x8_5), (4, .int x8_4), (3, .int (u_1.2.1 0)), (0, .ref m0), (1, .int p0), (2, .int p1)]) C dX11_tallOn_112 (by decide) rfl ?_
                  refine j_iload (pc := 114) C dX11_tallOn_114 0 rfl ?_
                  refine j_iload_n (pc := 116) C dX11_tallOn_116 rfl 3 rfl ?_
                  refine j_icmp_ge (pc := 117) (tgt := 124) C dX11_tallOn_117 (by decide) (fun c_31 => ?_) (fun c_31 => ?_)
                  · skip
                    rw [i_le] at c_31
                    refine j_iload (pc := 124) C dX11_tallOn_124 0 rfl ?_
                    refine j_istore (pc := 126) (lv' := [(6, .int v_30), (5, .int x8_5), (4, .int x8_4), (3, .int (u_1.2.1 0)), (0, .ref m0), (1, .int p0), (2, .int p1)]) C dX11_tallOn_126 (by decide) rfl ?_
                    refine j_iload (pc := 128) C dX11_tallOn_128 0 rfl ?_
                    refine j_iload (pc := 130) C dX11_tallOn_130 2 rfl ?_
                    refine j_icmp_ge (pc := 132) (tgt := 140) C dX11_tallOn_132 (by decide) (fun c_32 => ?_) (fun c_32 => ?_)
                    · skip
                      rw [i_le] at c_32
                      refine j_iload (pc := 140) C dX11_tallOn_140 2 rfl ?_
                      refine j_istore (pc := 142) (lv' := [(4, .int x8_4), (6, .int v_30), (5, .int x8_5), (3, .int (u_1.2.1 0)), (0, .ref m0), (1, .int p0), (2, .int p1)]) C dX11_tallOn_142 (by decide) rfl ?_
                      obtain ⟨v_33, ev_33⟩ : ∃ z : Int32, x8_5 + 1 = z := ⟨_, rfl⟩
                      have el_1 : (1 : Int32).toInt = 1 := rfl
                      have hv_33 : v_33.toInt = x8_5.toInt + (1 : Int32).toInt := by rw [← ev_33]; exact fb_addI (by omega) (by omega)
                      refine j_iinc (pc := 144) (v := v_33) (lv' := [(5, .int v_33), (4, .int x8_4), (6, .int v_30), (3, .int (u_1.2.1 0)), (0, .ref m0), (1, .int p0), (2, .int p1)]) C dX11_tallOn_144 2 rfl ev_33 (by decide) rfl ?_
                      refine j_goto (pc := 147) (tgt := 40) C dX11_tallOn_147 (by decide) ?_
                      exact j_lv [0, 1, 3, 4, 5, 6] rfl (ih_8 v_33 x8_4 (by omega) hi_8_1 hq_8_0 (by omega))
                    · skip
                      rw [i_le] at c_32
                      refine j_iload (pc := 135) C dX11_tallOn_135 0 rfl ?_
                      refine j_goto (pc := 137) (tgt := 142) C dX11_tallOn_137 (by decide) ?_
                      refine j_istore (pc := 142) (lv' := [(4, .int v_30), (6, .int v_30), (5, .int x8_5), (3, .int (u_1.2.1 0)), (0, .ref m0), (1, .int p0), (2, .int p1)]) C dX11_tallOn_142 (by decide) rfl ?_
                      obtain ⟨v_34, ev_34⟩ : ∃ z : Int32, x8_5 + 1 = z := ⟨_, rfl⟩
                      have el_1 : (1 : Int32).toInt = 1 := rfl
                      have hv_34 : v_34.toInt = x8_5.toInt + (1 : Int32).toInt := by rw [← ev_34]; exact fb_addI (by omega) (by omega)
                      refine j_iinc (pc := 144) (v := v_34) (lv' := [(5, .int v_34), (4, .int v_30), (6, .int v_30), (3, .int (u_1.2.1 0)), (0, .ref m0), (1, .int p0), (2, .int p1)]) C dX11_tallOn_144 2 rfl ev_34 (by decide) rfl ?_
                      refine j_goto (pc := 147) (tgt := 40) C dX11_tallOn_147 (by decide) ?_
                      exact j_lv [0, 1, 3, 4, 5, 6] rfl (ih_8 v_34 v_30 (by omega) (by omega) (fun _ => ⟨x8_5, by omega, by (have h9 := congrArg Int32.toInt hw_10_1; omega), by (unfold bI; rw [ev_12, ev_13]; omega), by (rw [show 12 * (x8_5).toInt.toNat + (p0).toInt.toNat = (v_17).toInt.toNat from (by omega), ev_18]; omega), by (rw [← hw_27_1, show 12 * (p1).toInt.toNat + (x8_5).toInt.toNat = (v_22).toInt.toNat from (by omega), ev_23]; omega)⟩) (by omega))
                  · skip
                    rw [i_le] at c_31
                    refine j_iload_n (pc := 120) C dX11_tallOn_120 rfl 3 rfl ?_
                    refine j_goto (pc := 121) (tgt := 126) C dX11_tallOn_121 (by decide) ?_
                    refine j_istore (pc := 126) (lv' := [(6, .int (u_1.2.1 0)), (5, .int x8_5), (4, .int x8_4), (3, .int (u_1.2.1 0)), (0, .ref m0), (1, .int p0), (2, .int p1)]) C dX11_tallOn_126 (by decide) rfl ?_
                    refine j_iload (pc := 128) C dX11_tallOn_128 0 rfl ?_
                    refine j_iload (pc := 130) C dX11_tallOn_130 2 rfl ?_
                    refine j_icmp_ge (pc := 132) (tgt := 140) C dX11_tallOn_132 (by decide) (fun c_35 => ?_) (fun c_35 => ?_)
                    · skip
                      rw [i_le] at c_35
                      refine j_iload (pc := 140) C dX11_tallOn_140 2 rfl ?_
                      refine j_istore (pc := 142) (lv' := [(4, .int x8_4), (6, .int (u_1.2.1 0)), (5, .int x8_5), (3, .int (u_1.2.1 0)), (0, .ref m0), (1, .int p0), (2, .int p1)]) C dX11_tallOn_142 (by decide) rfl ?_
                      obtain ⟨v_36, ev_36⟩ : ∃ z : Int32, x8_5 + 1 = z := ⟨_, rfl⟩
                      have el_1 : (1 : Int32).toInt = 1 := rfl
                      have hv_36 : v_36.toInt = x8_5.toInt + (1 : Int32).toInt := by rw [← ev_36]; exact fb_addI (by omega) (by omega)
                      refine j_iinc (pc := 144) (v := v_36) (lv' := [(5, .int v_36), (4, .int x8_4), (6, .int (u_1.2.1 0)), (3, .int (u_1.2.1 0)), (0, .ref m0), (1, .int p0), (2, .int p1)]) C dX11_tallOn_144 2 rfl ev_36 (by decide) rfl ?_
                      refine j_goto (pc := 147) (tgt := 40) C dX11_tallOn_147 (by decide) ?_
                      exact j_lv [0, 1, 3, 4, 5, 6] rfl (ih_8 v_36 x8_4 (by omega) hi_8_1 hq_8_0 (by omega))
                    · skip
                      rw [i_le] at c_35
                      refine j_iload (pc := 135) C dX11_tallOn_135 0 rfl ?_
                      refine j_goto (pc := 137) (tgt := 142) C dX11_tallOn_137 (by decide) ?_
                      refine j_istore (pc := 142) (lv' := [(4, .int (u_1.2.1 0)), (6, .int (u_1.2.1 0)), (5, .int x8_5), (3, .int (u_1.2.1 0)), (0, .ref m0), (1, .int p0), (2, .int p1)]) C dX11_tallOn_142 (by decide) rfl ?_
                      obtain ⟨v_37, ev_37⟩ : ∃ z : Int32, x8_5 + 1 = z := ⟨_, rfl⟩
                      have el_1 : (1 : Int32).toInt = 1 := rfl
                      have hv_37 : v_37.toInt = x8_5.toInt + (1 : Int32).toInt := by rw [← ev_37]; exact fb_addI (by omega) (by omega)
                      refine j_iinc (pc := 144) (v := v_37) (lv' := [(5, .int v_37), (4, .int (u_1.2.1 0)), (6, .int (u_1.2.1 0)), (3, .int (u_1.2.1 0)), (0, .ref m0), (1, .int p0), (2, .int p1)]) C dX11_tallOn_144 2 rfl ev_37 (by decide) rfl ?_
                      refine j_goto (pc := 147) (tgt := 40) C dX11_tallOn_147 (by decide) ?_
                      exact j_lv [0, 1, 3, 4, 5, 6] rfl (ih_8 v_37 (u_1.2.1 0) (by omega) (by omega) (fun _ => ⟨x8_5, by omega, by (have h9 := congrArg Int32.toInt hw_10_1; omega), by (unfold bI; rw [ev_12, ev_13]; omega), by (rw [show 12 * (x8_5).toInt.toNat + (p0).toInt.toNat = (v_17).toInt.toNat from (by omega), ev_18]; omega), by (rw [← hw_27_1, show 12 * (p1).toInt.toNat + (x8_5).toInt.toNat = (v_22).toInt.toNat from (by omega), ev_23]; omega)⟩) (by omega))
      have el_0 : (0 : Int32).toInt = 0 := rfl
      have el_100000000 : (100000000 : Int32).toInt = 100000000 := rfl
      exact j_lv [0, 1, 2, 3, 4, 5] rfl (loop_8 4096 0 100000000 (by decide) (by decide) (fun h => absurd h (by decide)) (by omega))
    · skip
      rw [i_le] at c_7
      refine j_ldcw (pc := 28) C wd_899 dX11_tallOn_28 ?_
      have el_100000000 : (100000000 : Int32).toInt = 100000000 := rfl
      have el_100000000 : (100000000 : Int32).toInt = 100000000 := rfl
      exact j_iret (pc := 31) C hr hk (fun i => [].getD i 0, fun i => [100000000].getD i 0, fun i => [].getD i (fun _ => 0), fun i => [].getD i (fun _ => 0)) rfl (show (0 ≤ ((100000000 : Int32)).toInt ∧ ((100000000 : Int32)).toInt ≤ 100000000) ∧ (TP m_told m_mays m_tall p0 p1 (100000000 : Int32).toInt) from ⟨by omega, Or.inr (fun h => absurd h (by decide))⟩) [3, 4, 0, 1, 2] (by decide) rfl (by decide) (by decide) dX11_tallOn_31
  · skip
    have el_0 : (0 : Int32).toInt = 0 := rfl
    rw [i_eq] at c_3
    refine j_iload_n (pc := 11) C dX11_tallOn_11 rfl 0 rfl ?_
    exact j_iret (pc := 12) C hr hk (fun i => [].getD i 0, fun i => [(u_1.2.1 0)].getD i 0, fun i => [].getD i (fun _ => 0), fun i => [].getD i (fun _ => 0)) rfl (show (0 ≤ ((u_1.2.1 0)).toInt ∧ ((u_1.2.1 0)).toInt ≤ 100000000) ∧ (TP m_told m_mays m_tall p0 p1 (u_1.2.1 0).toInt) from ⟨by omega, Or.inl ((i_eq _ _).mpr (by omega))⟩) [3, 4, 0, 1, 2] (by decide) rfl (by decide) (by decide) dX11_tallOn_12
set_option maxHeartbeats 4000000 in
set_option maxRecDepth 100000 in
theorem c_X11_findTall (l : Launch) (D : DG) (cyC cyI cyJ cyZ cyO : ClassId) (m0 : Nat) (mtold : Nat) (mmays : Nat) (mtall : Nat) (mweights : Nat) (mtape : Nat) (msort : Nat) (mplace : Nat) (mvalue : Nat) (mwords : Nat) (mop : Nat) (marg : Nat) (mnames : Nat) (mhasHabit : Nat) (mfactWords : Nat) (mfacts : Nat) (mpile : Nat) (mstates : Nat) (misMarked : Nat) (mrow : Nat) (mthr : Nat) (mrowOfWare : Nat) (mneededOf : Nat) (mtried : Nat) (mbestRow : Nat) (mdigits : Nat) (p0 : Int32) (m_thrown : Int32) (m_taped : Int32) (m_size : Int32) (m_at : Int32) (m_fault : Int32) (m_codes : Int32) (m_isNew : Int32) (m_inShelf : Int32) (m_inStack : Int32) (m_inPlace : Int32) (m_rowMany : Int32) (m_goShelf : Int32) (m_goStack : Int32) (m_goLeft : Int32) (m_bestCost : Int32) (m_bestMany : Int32) (m_bestShelf : Int32) (m_bestSet : Int32) (m_told : Nat → Int32) (m_mays : Nat → Int32) (m_tall : Nat → Int32) (m_weights : Nat → Int32) (h_m_taped : 0 ≤ (m_taped).toInt ∧ (m_taped).toInt ≤ 1000) (h_m_size : 0 ≤ (m_size).toInt ∧ (m_size).toInt ≤ 1000) (h_m_at : 0 ≤ (m_at).toInt ∧ (m_at).toInt ≤ 1000) (h_m_fault : 0 ≤ (m_fault).toInt ∧ (m_fault).toInt ≤ 16005) (h_m_codes : 0 ≤ (m_codes).toInt ∧ (m_codes).toInt ≤ 1000) (h_m_isNew : 0 ≤ (m_isNew).toInt ∧ (m_isNew).toInt ≤ 1) (h_m_inShelf : 0 ≤ (m_inShelf).toInt ∧ (m_inShelf).toInt ≤ 3) (h_m_inStack : 0 ≤ (m_inStack).toInt ∧ (m_inStack).toInt ≤ 7) (h_m_inPlace : 0 ≤ (m_inPlace).toInt ∧ (m_inPlace).toInt ≤ 11) (h_m_rowMany : 0 ≤ (m_rowMany).toInt ∧ (m_rowMany).toInt ≤ 12) (h_m_goShelf : -1 ≤ (m_goShelf).toInt ∧ (m_goShelf).toInt ≤ 3) (h_m_bestMany : 0 ≤ (m_bestMany).toInt ∧ (m_bestMany).toInt ≤ 7) (h_m_bestShelf : 0 ≤ (m_bestShelf).toInt ∧ (m_bestShelf).toInt ≤ 3) (h_p0 : 1 ≤ (p0).toInt ∧ (p0).toInt ≤ 4095) (h_m_told : TV m_told) (h_m_tall : Iv 49152 (0) (100000000) m_tall) : KK l D (TY cyC cyI cyJ cyZ cyO) yX11_findTall cX11_findTall 4 none ({ frames := 3, cells := 0, slots := 0, locals := 70 } : Room) 0 0 [.ref m0, .int p0] [(m0, .inr (11, [.int m_thrown, .ref mtape, .int m_taped, .int m_size, .ref msort, .ref mplace, .ref mvalue, .int m_at, .int m_fault, .ref mwords, .ref mtold, .ref mop, .ref marg, .int m_codes, .ref mnames, .ref mhasHabit, .int m_isNew, .ref mfactWords, .ref mfacts, .ref mpile, .ref mstates, .ref misMarked, .int m_inShelf, .int m_inStack, .int m_inPlace, .ref mrow, .int m_rowMany, .ref mthr, .ref mmays, .ref mtall, .ref mweights, .ref mrowOfWare, .ref mneededOf, .int m_goShelf, .int m_goStack, .int m_goLeft, .ref mtried, .ref mbestRow, .int m_bestCost, .int m_bestMany, .int m_bestShelf, .int m_bestSet, .ref mdigits])), (mtold, .inl (cyI, 240, .inl m_told)), (mmays, .inl (cyZ, 144, .inl m_mays)), (mtall, .inl (cyI, 49152, .inl m_tall)), (mweights, .inl (cyI, 4096, .inl m_weights))] (fun u => none) (fun u => (Iv 49152 (0) (100000000) (u.2.2.1 0)) ∧ (∀ j : Nat, ((j : Int) < 12 * (p0).toInt ∨ 12 * (p0).toInt + 12 ≤ (j : Int)) → (u.2.2.1 0) j = m_tall j) ∧ (TS m_told m_mays (u.2.2.1 0) p0)) (fun u => [(m0, .inr (11, [.int m_thrown, .ref mtape, .int m_taped, .int m_size, .ref msort, .ref mplace, .ref mvalue, .int m_at, .int m_fault, .ref mwords, .ref mtold, .ref mop, .ref marg, .int m_codes, .ref mnames, .ref mhasHabit, .int m_isNew, .ref mfactWords, .ref mfacts, .ref mpile, .ref mstates, .ref misMarked, .int m_inShelf, .int m_inStack, .int m_inPlace, .ref mrow, .int m_rowMany, .ref mthr, .ref mmays, .ref mtall, .ref mweights, .ref mrowOfWare, .ref mneededOf, .int m_goShelf, .int m_goStack, .int m_goLeft, .ref mtried, .ref mbestRow, .int m_bestCost, .int m_bestMany, .int m_bestShelf, .int m_bestSet, .ref mdigits])), (mtold, .inl (cyI, 240, .inl m_told)), (mmays, .inl (cyZ, 144, .inl m_mays)), (mtall, .inl (cyI, 49152, .inl (u.2.2.1 0))), (mweights, .inl (cyI, 4096, .inl (u.2.2.1 1)))]) := by
  refine KK.of (lv0 := [(0, .ref m0), (1, .int p0)]) (by decide) rfl (Nat.le_of_ble_eq_true rfl) ?_
  intro p e s m args below meth c A C hr hk hin
  refine j_iconst (pc := 0) (v := 0) C dX11_findTall_0 (by decide) ?_
  refine j_istore_n (pc := 1) (lv' := [(2, .int 0), (0, .ref m0), (1, .int p0)]) C dX11_findTall_1 rfl (by decide) rfl ?_
  have loop_1 : ∀ (k_1 : Nat) (x1_2 : Int32), (0 ≤ (x1_2).toInt ∧ (x1_2).toInt ≤ 11) → (∃ k : Nat, x1_2.toInt ≤ (k : Int) ∧ k < 12 ∧ bI p0 (nI k) = 1) → (12 - x1_2.toInt).toNat < k_1 → J p l e ({ frames := 3, cells := 0, slots := 0, locals := 70 } : Room) s m args below meth c D A 4 0 0 (QX below D (TY cyC cyI cyJ cyZ cyO) A (fun u => none) (fun u => (Iv 49152 (0) (100000000) (u.2.2.1 0)) ∧ (∀ j : Nat, ((j : Int) < 12 * (p0).toInt ∨ 12 * (p0).toInt + 12 ≤ (j : Int)) → (u.2.2.1 0) j = m_tall j) ∧ (TS m_told m_mays (u.2.2.1 0) p0)) (fun u => [(m0, .inr (11, [.int m_thrown, .ref mtape, .int m_taped, .int m_size, .ref msort, .ref mplace, .ref mvalue, .int m_at, .int m_fault, .ref mwords, .ref mtold, .ref mop, .ref marg, .int m_codes, .ref mnames, .ref mhasHabit, .int m_isNew, .ref mfactWords, .ref mfacts, .ref mpile, .ref mstates, .ref misMarked, .int m_inShelf, .int m_inStack, .int m_inPlace, .ref mrow, .int m_rowMany, .ref mthr, .ref mmays, .ref mtall, .ref mweights, .ref mrowOfWare, .ref mneededOf, .int m_goShelf, .int m_goStack, .int m_goLeft, .ref mtried, .ref mbestRow, .int m_bestCost, .int m_bestMany, .int m_bestShelf, .int m_bestSet, .ref mdigits])), (mtold, .inl (cyI, 240, .inl m_told)), (mmays, .inl (cyZ, 144, .inl m_mays)), (mtall, .inl (cyI, 49152, .inl (u.2.2.1 0))), (mweights, .inl (cyI, 4096, .inl (u.2.2.1 1)))]) args s 0 0) [(m0, .inr (11, [.int m_thrown, .ref mtape, .int m_taped, .int m_size, .ref msort, .ref mplace, .ref mvalue, .int m_at, .int m_fault, .ref mwords, .ref mtold, .ref mop, .ref marg, .int m_codes, .ref mnames, .ref mhasHabit, .int m_isNew, .ref mfactWords, .ref mfacts, .ref mpile, .ref mstates, .ref misMarked, .int m_inShelf, .int m_inStack, .int m_inPlace, .ref mrow, .int m_rowMany, .ref mthr, .ref mmays, .ref mtall, .ref mweights, .ref mrowOfWare, .ref mneededOf, .int m_goShelf, .int m_goStack, .int m_goLeft, .ref mtried, .ref mbestRow, .int m_bestCost, .int m_bestMany, .int m_bestShelf, .int m_bestSet, .ref mdigits])), (mtold, .inl (cyI, 240, .inl m_told)), (mmays, .inl (cyZ, 144, .inl m_mays)), (mtall, .inl (cyI, 49152, .inl m_tall)), (mweights, .inl (cyI, 4096, .inl m_weights))] 2 [(2, .int x1_2), (0, .ref m0), (1, .int p0)] [] := by
    intro k_1
    induction k_1 with
    | zero =>
      intro x1_2 hi_1_0 hq_1_0 hm_1
      exact absurd hm_1 (Nat.not_lt_zero _)
    | succ k_1 ih_1 =>
      intro x1_2 hi_1_0 hq_1_0 hm_1
      refine j_iload_n (pc := 2) C dX11_findTall_2 rfl 2 rfl ?_
      refine j_iload_n (pc := 3) C dX11_findTall_3 rfl 0 rfl ?_
      obtain ⟨v_2, ev_2⟩ : ∃ z : Int32, p0 >>> (x1_2 &&& 31) = z := ⟨_, rfl⟩
      refine j_ishr (pc := 4) (v := v_2) C dX11_findTall_4 ev_2 ?_
      refine j_iconst (pc := 5) (v := 1) C dX11_findTall_5 (by decide) ?_
      obtain ⟨v_3, ev_3⟩ : ∃ z : Int32, v_2 &&& 1 = z := ⟨_, rfl⟩
      have el_1 : (1 : Int32).toInt = 1 := rfl
      have hv_3 : 0 ≤ v_3.toInt ∧ v_3.toInt ≤ 1 := by rw [← ev_3]; exact and1_r _
      refine j_iand (pc := 6) (v := v_3) C dX11_findTall_6 ev_3 ?_
      refine j_if_ne (pc := 7) (tgt := 16) C dX11_findTall_7 (by decide) (fun c_4 => ?_) (fun c_4 => ?_)
      · skip
        have el_0 : (0 : Int32).toInt = 0 := rfl
        rw [i_eq] at c_4
        have k0c_4 : v_3.toInt = 1 := by omega
        refine j_aload_n (pc := 16) C dX11_findTall_16 rfl 1 rfl ?_
        refine j_get (pc := 17) (ci := 11) (v := .ref mweights) C inw_11 0 rfl rfl 30 (by decide) wd_898 rfl rfl dX11_findTall_17 ?_
        refine j_iload_n (pc := 20) C dX11_findTall_20 rfl 2 rfl ?_
        refine j_aload_n (pc := 21) C dX11_findTall_21 rfl 1 rfl ?_
        refine j_get (pc := 22) (ci := 11) (v := .ref mweights) C inw_11 0 rfl rfl 30 (by decide) wd_898 rfl rfl dX11_findTall_22 ?_
        refine j_iload_n (pc := 25) C dX11_findTall_25 rfl 2 rfl ?_
        refine j_iconst (pc := 26) (v := 1) C dX11_findTall_26 (by decide) ?_
        refine j_iload_n (pc := 27) C dX11_findTall_27 rfl 0 rfl ?_
        obtain ⟨v_5, ev_5⟩ : ∃ z : Int32, 1 <<< (x1_2 &&& 31) = z := ⟨_, rfl⟩
        have el_1 : (1 : Int32).toInt = 1 := rfl
        have hv_5 : 1 ≤ v_5.toInt ∧ v_5.toInt ≤ 2048 := by rw [← ev_5]; exact shl1_iv 0 11 (by omega) (by omega) (by omega)
        refine j_ishl (pc := 28) (v := v_5) C dX11_findTall_28 ev_5 ?_
        refine j_iconst (pc := 29) (v := (-1)) C dX11_findTall_29 (by decide) ?_
        obtain ⟨v_6, ev_6⟩ : ∃ z : Int32, v_5 ^^^ (-1) = z := ⟨_, rfl⟩
        have el_m1 : ((-1) : Int32).toInt = (-1) := rfl
        refine j_ixor (pc := 30) (v := v_6) C dX11_findTall_30 ev_6 ?_
        obtain ⟨v_7, ev_7⟩ : ∃ z : Int32, p0 &&& v_6 = z := ⟨_, rfl⟩
        have hv_7 : 0 ≤ v_7.toInt ∧ v_7.toInt ≤ p0.toInt := by rw [← ev_7]; exact andb_l (by omega)
        refine j_iand (pc := 31) (v := v_7) C dX11_findTall_31 ev_7 ?_
        obtain ⟨v_8, ev_8⟩ : ∃ z, m_weights (v_7).toInt.toNat = z := ⟨_, rfl⟩
        have env_8 : (m_weights (v_7).toInt.toNat).toInt = v_8.toInt := by rw [ev_8]
        refine j_iald (pc := 32) (v := v_8) (k := (v_7).toInt.toNat) C 4 1 rfl rfl (i_nn (by omega)) rfl (i_lt_n (by omega) (by omega)) ev_8 dX11_findTall_32 ?_
        refine j_aload_n (pc := 33) C dX11_findTall_33 rfl 1 rfl ?_
        refine j_iload_n (pc := 34) C dX11_findTall_34 rfl 0 rfl ?_
        refine j_iconst (pc := 35) (v := 2) C dX11_findTall_35 (by decide) ?_
        refine j_callV (pc := 36) (As := [.int x1_2, .int 2]) (rest := [.int v_8, .int p0, .ref mweights]) (wr := [(mmays, .inl (cyZ, 144, .inl m_mays)), (mtall, .inl (cyI, 49152, .inl m_tall)), (mweights, .inl (cyI, 4096, .inl m_weights))]) C (c_X11_wareOf l D cyC cyI cyJ cyZ cyO m0 mtold mtape msort mplace mvalue mwords mop marg mnames mhasHabit mfactWords mfacts mpile mstates misMarked mrow mthr mmays mtall mweights mrowOfWare mneededOf mtried mbestRow mdigits x1_2 2 m_thrown m_taped m_size m_at m_fault m_codes m_isNew m_inShelf m_inStack m_inPlace m_rowMany m_goShelf m_goStack m_goLeft m_bestCost m_bestMany m_bestShelf m_bestSet m_told h_m_taped h_m_size h_m_at h_m_fault h_m_codes h_m_isNew h_m_inShelf h_m_inStack h_m_inPlace h_m_rowMany h_m_goShelf h_m_bestMany h_m_bestShelf hi_1_0 (by decide) h_m_told) wd_756 wd_624 wd_757 wd_758 wd_759 ⟨by decide, by decide, rfl⟩ rfl ⟨rfl, rfl, by decide, by decide⟩ ⟨by decide, by decide⟩ [0, 1] [2, 3, 4] rfl rfl ⟨by decide, by decide, by decide⟩ 0 rfl rfl rfl (Nat.le_of_ble_eq_true rfl) dX11_findTall_36 (fun u_9 hw_10 => ?_)
        refine j_eq (ws2 := [(mmays, .inl (cyZ, 144, .inl m_mays)), (mtall, .inl (cyI, 49152, .inl m_tall)), (mweights, .inl (cyI, 4096, .inl m_weights)), (m0, .inr (11, [.int m_thrown, .ref mtape, .int m_taped, .int m_size, .ref msort, .ref mplace, .ref mvalue, .int m_at, .int m_fault, .ref mwords, .ref mtold, .ref mop, .ref marg, .int m_codes, .ref mnames, .ref mhasHabit, .int m_isNew, .ref mfactWords, .ref mfacts, .ref mpile, .ref mstates, .ref misMarked, .int m_inShelf, .int m_inStack, .int m_inPlace, .ref mrow, .int m_rowMany, .ref mthr, .ref mmays, .ref mtall, .ref mweights, .ref mrowOfWare, .ref mneededOf, .int m_goShelf, .int m_goStack, .int m_goLeft, .ref mtried, .ref mbestRow, .int m_bestCost, .int m_bestMany, .int m_bestShelf, .int m_bestSet, .ref mdigits])), (mtold, .inl (cyI, 240, .inl m_told))]) (pc2 := 39) (lv2 := [(2, .int x1_2), (0, .ref m0), (1, .int p0)]) (st2 := [.int (u_9.2.1 0), .int v_8, .int p0, .ref mweights]) rfl rfl rfl rfl ?_
        obtain ⟨hw_10_0, hw_10_1⟩ := hw_10
        obtain ⟨v_11, ev_11⟩ : ∃ z : Int32, v_8 + (u_9.2.1 0) = z := ⟨_, rfl⟩
        refine j_iadd (pc := 39) (v := v_11) C dX11_findTall_39 ev_11 ?_
        obtain ⟨f_12, ef_12⟩ : ∃ z, z = upd m_weights (p0).toInt.toNat v_11 := ⟨_, rfl⟩
        refine j_iast (pc := 40) (k := (p0).toInt.toNat) (ws' := [(mmays, .inl (cyZ, 144, .inl m_mays)), (mtall, .inl (cyI, 49152, .inl m_tall)), (mweights, .inl (cyI, 4096, .inl f_12)), (m0, .inr (11, [.int m_thrown, .ref mtape, .int m_taped, .int m_size, .ref msort, .ref mplace, .ref mvalue, .int m_at, .int m_fault, .ref mwords, .ref mtold, .ref mop, .ref marg, .int m_codes, .ref mnames, .ref mhasHabit, .int m_isNew, .ref mfactWords, .ref mfacts, .ref mpile, .ref mstates, .ref misMarked, .int m_inShelf, .int m_inStack, .int m_inPlace, .ref mrow, .int m_rowMany, .ref mthr, .ref mmays, .ref mtall, .ref mweights, .ref mrowOfWare, .ref mneededOf, .int m_goShelf, .int m_goStack, .int m_goLeft, .ref mtried, .ref mbestRow, .int m_bestCost, .int m_bestMany, .int m_bestShelf, .int m_bestSet, .ref mdigits])), (mtold, .inl (cyI, 240, .inl m_told))]) C 2 1 rfl rfl (i_nn (Int.le_trans (by decide) h_p0.1)) rfl (i_lt_n (Int.le_trans (by decide) h_p0.1) (Int.lt_of_le_of_lt h_p0.2 (by decide))) dX11_findTall_40 (by rw [ef_12]; rfl) ?_
        refine j_iconst (pc := 41) (v := 0) C dX11_findTall_41 (by decide) ?_
        refine j_istore_n (pc := 42) (lv' := [(3, .int 0), (2, .int x1_2), (0, .ref m0), (1, .int p0)]) C dX11_findTall_42 rfl (by decide) rfl ?_
        have loop_13 : ∀ (k_13 : Nat) (x13_3 : Int32) (g13_mtall : Nat → Int32), (0 ≤ (x13_3).toInt ∧ (x13_3).toInt ≤ 12) → (Iv 49152 (0) (100000000) g13_mtall) → (∀ j : Nat, ((j : Int) < 12 * (p0).toInt ∨ 12 * (p0).toInt + 12 ≤ (j : Int)) → g13_mtall j = m_tall j) → (∀ w : Int32, 0 ≤ w.toInt → w.toInt < x13_3.toInt → bI p0 w = 1 → TP m_told m_mays m_tall w (cl p0 w) (g13_mtall (12 * (p0).toInt.toNat + w.toInt.toNat)).toInt) → (12 - x13_3.toInt).toNat < k_13 → J p l e ({ frames := 3, cells := 0, slots := 0, locals := 70 } : Room) s m args below meth c D A 4 0 0 (QX below D (TY cyC cyI cyJ cyZ cyO) A (fun u => none) (fun u => (Iv 49152 (0) (100000000) (u.2.2.1 0)) ∧ (∀ j : Nat, ((j : Int) < 12 * (p0).toInt ∨ 12 * (p0).toInt + 12 ≤ (j : Int)) → (u.2.2.1 0) j = m_tall j) ∧ (TS m_told m_mays (u.2.2.1 0) p0)) (fun u => [(m0, .inr (11, [.int m_thrown, .ref mtape, .int m_taped, .int m_size, .ref msort, .ref mplace, .ref mvalue, .int m_at, .int m_fault, .ref mwords, .ref mtold, .ref mop, .ref marg, .int m_codes, .ref mnames, .ref mhasHabit, .int m_isNew, .ref mfactWords, .ref mfacts, .ref mpile, .ref mstates, .ref misMarked, .int m_inShelf, .int m_inStack, .int m_inPlace, .ref mrow, .int m_rowMany, .ref mthr, .ref mmays, .ref mtall, .ref mweights, .ref mrowOfWare, .ref mneededOf, .int m_goShelf, .int m_goStack, .int m_goLeft, .ref mtried, .ref mbestRow, .int m_bestCost, .int m_bestMany, .int m_bestShelf, .int m_bestSet, .ref mdigits])), (mtold, .inl (cyI, 240, .inl m_told)), (mmays, .inl (cyZ, 144, .inl m_mays)), (mtall, .inl (cyI, 49152, .inl (u.2.2.1 0))), (mweights, .inl (cyI, 4096, .inl (u.2.2.1 1)))]) args s 0 0) [(mmays, .inl (cyZ, 144, .inl m_mays)), (mtall, .inl (cyI, 49152, .inl g13_mtall)), (mweights, .inl (cyI, 4096, .inl f_12)), (m0, .inr (11, [.int m_thrown, .ref mtape, .int m_taped, .int m_size, .ref msort, .ref mplace, .ref mvalue, .int m_at, .int m_fault, .ref mwords, .ref mtold, .ref mop, .ref marg, .int m_codes, .ref mnames, .ref mhasHabit, .int m_isNew, .ref mfactWords, .ref mfacts, .ref mpile, .ref mstates, .ref misMarked, .int m_inShelf, .int m_inStack, .int m_inPlace, .ref mrow, .int m_rowMany, .ref mthr, .ref mmays, .ref mtall, .ref mweights, .ref mrowOfWare, .ref mneededOf, .int m_goShelf, .int m_goStack, .int m_goLeft, .ref mtried, .ref mbestRow, .int m_bestCost, .int m_bestMany, .int m_bestShelf, .int m_bestSet, .ref mdigits])), (mtold, .inl (cyI, 240, .inl m_told))] 43 [(3, .int x13_3), (2, .int x1_2), (0, .ref m0), (1, .int p0)] [] := by
          intro k_13
          induction k_13 with
          | zero =>
            intro x13_3 g13_mtall hi_13_0 hi_13_1 hq_13_0 hq_13_1 hm_13
            exact absurd hm_13 (Nat.not_lt_zero _)
          | succ k_13 ih_13 =>
            intro x13_3 g13_mtall hi_13_0 hi_13_1 hq_13_0 hq_13_1 hm_13
            refine j_iload_n (pc := 43) C dX11_findTall_43 rfl 0 rfl ?_
            refine j_aload_n (pc := 44) C dX11_findTall_44 rfl 2 rfl ?_
            refine j_callV (pc := 45) (As := []) (rest := [.int x13_3]) (wr := [(mmays, .inl (cyZ, 144, .inl m_mays)), (mtall, .inl (cyI, 49152, .inl g13_mtall)), (mweights, .inl (cyI, 4096, .inl f_12))]) C (c_X11_wares l D cyC cyI cyJ cyZ cyO m0 mtold mtape msort mplace mvalue mwords mop marg mnames mhasHabit mfactWords mfacts mpile mstates misMarked mrow mthr mmays mtall mweights mrowOfWare mneededOf mtried mbestRow mdigits m_thrown m_taped m_size m_at m_fault m_codes m_isNew m_inShelf m_inStack m_inPlace m_rowMany m_goShelf m_goStack m_goLeft m_bestCost m_bestMany m_bestShelf m_bestSet m_told h_m_taped h_m_size h_m_at h_m_fault h_m_codes h_m_isNew h_m_inShelf h_m_inStack h_m_inPlace h_m_rowMany h_m_goShelf h_m_bestMany h_m_bestShelf h_m_told) wd_748 wd_624 wd_749 wd_750 wd_751 ⟨by decide, by decide, rfl⟩ rfl ⟨rfl, rfl, by decide, by decide⟩ ⟨by decide, by decide⟩ [3, 4] [0, 1, 2] rfl rfl ⟨by decide, by decide, by decide⟩ 3 rfl rfl rfl (Nat.le_of_ble_eq_true rfl) dX11_findTall_45 (fun u_14 hw_15 => ?_)
            refine j_eq (ws2 := [(mmays, .inl (cyZ, 144, .inl m_mays)), (mtall, .inl (cyI, 49152, .inl g13_mtall)), (mweights, .inl (cyI, 4096, .inl f_12)), (m0, .inr (11, [.int m_thrown, .ref mtape, .int m_taped, .int m_size, .ref msort, .ref mplace, .ref mvalue, .int m_at, .int m_fault, .ref mwords, .ref mtold, .ref mop, .ref marg, .int m_codes, .ref mnames, .ref mhasHabit, .int m_isNew, .ref mfactWords, .ref mfacts, .ref mpile, .ref mstates, .ref misMarked, .int m_inShelf, .int m_inStack, .int m_inPlace, .ref mrow, .int m_rowMany, .ref mthr, .ref mmays, .ref mtall, .ref mweights, .ref mrowOfWare, .ref mneededOf, .int m_goShelf, .int m_goStack, .int m_goLeft, .ref mtried, .ref mbestRow, .int m_bestCost, .int m_bestMany, .int m_bestShelf, .int m_bestSet, .ref mdigits])), (mtold, .inl (cyI, 240, .inl m_told))]) (pc2 := 48) (lv2 := [(3, .int x13_3), (2, .int x1_2), (0, .ref m0), (1, .int p0)]) (st2 := [.int (u_14.2.1 0), .int x13_3]) rfl rfl rfl rfl ?_
            obtain ⟨hw_15_0, hw_15_1⟩ := hw_15
            refine j_icmp_ge (pc := 48) (tgt := 89) C dX11_findTall_48 (by decide) (fun c_16 => ?_) (fun c_16 => ?_)
            · skip
              rw [i_le] at c_16
              exact j_vret (pc := 89) C hr hk (fun i => [].getD i 0, fun i => [].getD i 0, fun i => [g13_mtall, f_12].getD i (fun _ => 0), fun i => [].getD i (fun _ => 0)) rfl (show (Iv 49152 (0) (100000000) g13_mtall) ∧ (∀ j : Nat, ((j : Int) < 12 * (p0).toInt ∨ 12 * (p0).toInt + 12 ≤ (j : Int)) → g13_mtall j = m_tall j) ∧ (TS m_told m_mays g13_mtall p0) from ⟨hi_13_1, hq_13_0, (fun w w0 w1 wb => by have hc := cl_lt (x := p0) (l := w) (by omega) w0 (by have := (h_m_told 0 (by decide)).2; have h9 : hiT 0 = 12 := rfl; omega) wb; exact TP.fr (hq_13_1 w w0 (by have h9 := congrArg Int32.toInt hw_15_1; omega) wb) (h_m_told 0 (by decide)).2 (fun j j1 j2 => hq_13_0 j (by omega)))⟩) [3, 4, 0, 1, 2] (by decide) rfl (by decide) (by decide) dX11_findTall_89
            · skip
              rw [i_le] at c_16
              refine j_iload_n (pc := 51) C dX11_findTall_51 rfl 3 rfl ?_
              refine j_iload_n (pc := 52) C dX11_findTall_52 rfl 0 rfl ?_
              obtain ⟨v_17, ev_17⟩ : ∃ z : Int32, p0 >>> (x13_3 &&& 31) = z := ⟨_, rfl⟩
              refine j_ishr (pc := 53) (v := v_17) C dX11_findTall_53 ev_17 ?_
              refine j_iconst (pc := 54) (v := 1) C dX11_findTall_54 (by decide) ?_
              obtain ⟨v_18, ev_18⟩ : ∃ z : Int32, v_17 &&& 1 = z := ⟨_, rfl⟩
              have el_1 : (1 : Int32).toInt = 1 := rfl
              have hv_18 : 0 ≤ v_18.toInt ∧ v_18.toInt ≤ 1 := by rw [← ev_18]; exact and1_r _
              refine j_iand (pc := 55) (v := v_18) C dX11_findTall_55 ev_18 ?_
              refine j_iconst (pc := 56) (v := 1) C dX11_findTall_56 (by decide) ?_
              refine j_icmp_ne (pc := 57) (tgt := 83) C dX11_findTall_57 (by decide) (fun c_19 => ?_) (fun c_19 => ?_)
              · skip
                have el_1 : (1 : Int32).toInt = 1 := rfl
                rw [i_eq] at c_19
                have k0c_19 : v_18.toInt = 0 := by omega
                obtain ⟨v_20, ev_20⟩ : ∃ z : Int32, x13_3 + 1 = z := ⟨_, rfl⟩
                have el_1 : (1 : Int32).toInt = 1 := rfl
                have hv_20 : v_20.toInt = x13_3.toInt + (1 : Int32).toInt := by rw [← ev_20]; exact fb_addI (by omega) (by omega)
                refine j_iinc (pc := 83) (v := v_20) (lv' := [(3, .int v_20), (2, .int x1_2), (0, .ref m0), (1, .int p0)]) C dX11_findTall_83 0 rfl ev_20 (by decide) rfl ?_
                refine j_goto (pc := 86) (tgt := 43) C dX11_findTall_86 (by decide) ?_
                exact j_lv [0, 1, 2, 3] rfl (ih_13 v_20 g13_mtall (by omega) hi_13_1 hq_13_0 (fun w w0 w1 wb => by rcases Int.lt_or_le (w).toInt (x13_3).toInt with q | q; (exact hq_13_1 w w0 q wb); (exfalso; have ew : w = x13_3 := (i_eq _ _).mpr (by omega); rw [ew] at wb; unfold bI at wb; rw [ev_17, ev_18] at wb; omega)) (by omega))
              · skip
                have el_1 : (1 : Int32).toInt = 1 := rfl
                rw [i_eq] at c_19
                refine j_aload_n (pc := 60) C dX11_findTall_60 rfl 2 rfl ?_
                refine j_get (pc := 61) (ci := 11) (v := .ref mtall) C inw_11 3 rfl rfl 29 (by decide) wd_901 rfl rfl dX11_findTall_61 ?_
                refine j_bipush (pc := 64) (v := 12) C dX11_findTall_64 (by decide) ?_
                refine j_iload_n (pc := 66) C dX11_findTall_66 rfl 3 rfl ?_
                obtain ⟨v_21, ev_21⟩ : ∃ z : Int32, 12 * p0 = z := ⟨_, rfl⟩
                have el_12 : (12 : Int32).toInt = 12 := rfl
                have hv_21 : v_21.toInt = 12 * p0.toInt := by rw [← ev_21]; exact mulL (c := 12) rfl (by omega) (by omega)
                refine j_imul (pc := 67) (v := v_21) C dX11_findTall_67 ev_21 ?_
                refine j_iload_n (pc := 68) C dX11_findTall_68 rfl 0 rfl ?_
                obtain ⟨v_22, ev_22⟩ : ∃ z : Int32, v_21 + x13_3 = z := ⟨_, rfl⟩
                have hv_22 : v_22.toInt = v_21.toInt + x13_3.toInt := by rw [← ev_22]; exact fb_addI (by omega) (by omega)
                refine j_iadd (pc := 69) (v := v_22) C dX11_findTall_69 ev_22 ?_
                refine j_aload_n (pc := 70) C dX11_findTall_70 rfl 2 rfl ?_
                refine j_iload_n (pc := 71) C dX11_findTall_71 rfl 0 rfl ?_
                refine j_iload_n (pc := 72) C dX11_findTall_72 rfl 3 rfl ?_
                refine j_iconst (pc := 73) (v := 1) C dX11_findTall_73 (by decide) ?_
                refine j_iload_n (pc := 74) C dX11_findTall_74 rfl 0 rfl ?_
                obtain ⟨v_23, ev_23⟩ : ∃ z : Int32, 1 <<< (x13_3 &&& 31) = z := ⟨_, rfl⟩
                have el_1 : (1 : Int32).toInt = 1 := rfl
                have hv_23 : 1 ≤ v_23.toInt ∧ v_23.toInt ≤ 2048 := by rw [← ev_23]; exact shl1_iv 0 11 (by omega) (by omega) (by omega)
                refine j_ishl (pc := 75) (v := v_23) C dX11_findTall_75 ev_23 ?_
                refine j_iconst (pc := 76) (v := (-1)) C dX11_findTall_76 (by decide) ?_
                obtain ⟨v_24, ev_24⟩ : ∃ z : Int32, v_23 ^^^ (-1) = z := ⟨_, rfl⟩
                have el_m1 : ((-1) : Int32).toInt = (-1) := rfl
                refine j_ixor (pc := 77) (v := v_24) C dX11_findTall_77 ev_24 ?_
                obtain ⟨v_25, ev_25⟩ : ∃ z : Int32, p0 &&& v_24 = z := ⟨_, rfl⟩
                have hv_25 : 0 ≤ v_25.toInt ∧ v_25.toInt ≤ p0.toInt := by rw [← ev_25]; exact andb_l (by omega)
                refine j_iand (pc := 78) (v := v_25) C dX11_findTall_78 ev_25 ?_
                refine j_callV (pc := 79) (As := [.int x13_3, .int v_25]) (rest := [.int v_22, .ref mtall]) (wr := []) C (c_X11_tallOn l D cyC cyI cyJ cyZ cyO m0 mtold mmays mtall mweights mtape msort mplace mvalue mwords mop marg mnames mhasHabit mfactWords mfacts mpile mstates misMarked mrow mthr mrowOfWare mneededOf mtried mbestRow mdigits x13_3 v_25 m_thrown m_taped m_size m_at m_fault m_codes m_isNew m_inShelf m_inStack m_inPlace m_rowMany m_goShelf m_goStack m_goLeft m_bestCost m_bestMany m_bestShelf m_bestSet m_told m_mays g13_mtall f_12 h_m_taped h_m_size h_m_at h_m_fault h_m_codes h_m_isNew h_m_inShelf h_m_inStack h_m_inPlace h_m_rowMany h_m_goShelf h_m_bestMany h_m_bestShelf (by omega) (by omega) h_m_told hi_13_1) wd_902 wd_624 wd_903 wd_904 wd_905 ⟨by decide, by decide, rfl⟩ rfl ⟨rfl, rfl, by decide, by decide⟩ ⟨by decide, by decide⟩ [3, 4, 0, 1, 2] [] rfl rfl ⟨by decide, by decide, by decide⟩ 3 rfl rfl rfl (Nat.le_of_ble_eq_true rfl) dX11_findTall_79 (fun u_26 hw_27 => ?_)
                refine j_eq (ws2 := [(m0, .inr (11, [.int m_thrown, .ref mtape, .int m_taped, .int m_size, .ref msort, .ref mplace, .ref mvalue, .int m_at, .int m_fault, .ref mwords, .ref mtold, .ref mop, .ref marg, .int m_codes, .ref mnames, .ref mhasHabit, .int m_isNew, .ref mfactWords, .ref mfacts, .ref mpile, .ref mstates, .ref misMarked, .int m_inShelf, .int m_inStack, .int m_inPlace, .ref mrow, .int m_rowMany, .ref mthr, .ref mmays, .ref mtall, .ref mweights, .ref mrowOfWare, .ref mneededOf, .int m_goShelf, .int m_goStack, .int m_goLeft, .ref mtried, .ref mbestRow, .int m_bestCost, .int m_bestMany, .int m_bestShelf, .int m_bestSet, .ref mdigits])), (mtold, .inl (cyI, 240, .inl m_told)), (mmays, .inl (cyZ, 144, .inl m_mays)), (mtall, .inl (cyI, 49152, .inl g13_mtall)), (mweights, .inl (cyI, 4096, .inl f_12))]) (pc2 := 82) (lv2 := [(3, .int x13_3), (2, .int x1_2), (0, .ref m0), (1, .int p0)]) (st2 := [.int (u_26.2.1 0), .int v_22, .ref mtall]) rfl rfl rfl rfl ?_
                obtain ⟨hw_27_0, hw_27_1⟩ := hw_27
                obtain ⟨f_28, ef_28⟩ : ∃ z, z = upd g13_mtall (v_22).toInt.toNat (u_26.2.1 0) := ⟨_, rfl⟩
                have hf_28 : Iv 49152 (0) (100000000) f_28 := by rw [ef_28]; exact Iv.upd hi_13_1 (by omega) (by omega)
                refine j_iast (pc := 82) (k := (v_22).toInt.toNat) (ws' := [(m0, .inr (11, [.int m_thrown, .ref mtape, .int m_taped, .int m_size, .ref msort, .ref mplace, .ref mvalue, .int m_at, .int m_fault, .ref mwords, .ref mtold, .ref mop, .ref marg, .int m_codes, .ref mnames, .ref mhasHabit, .int m_isNew, .ref mfactWords, .ref mfacts, .ref mpile, .ref mstates, .ref misMarked, .int m_inShelf, .int m_inStack, .int m_inPlace, .ref mrow, .int m_rowMany, .ref mthr, .ref mmays, .ref mtall, .ref mweights, .ref mrowOfWare, .ref mneededOf, .int m_goShelf, .int m_goStack, .int m_goLeft, .ref mtried, .ref mbestRow, .int m_bestCost, .int m_bestMany, .int m_bestShelf, .int m_bestSet, .ref mdigits])), (mtold, .inl (cyI, 240, .inl m_told)), (mmays, .inl (cyZ, 144, .inl m_mays)), (mtall, .inl (cyI, 49152, .inl f_28)), (mweights, .inl (cyI, 4096, .inl f_12))]) C 3 1 rfl rfl (i_nn (by omega)) rfl (i_lt_n (by omega) (by omega)) dX11_findTall_82 (by rw [ef_28]; rfl) ?_
                obtain ⟨v_29, ev_29⟩ : ∃ z : Int32, x13_3 + 1 = z := ⟨_, rfl⟩
                have el_1 : (1 : Int32).toInt = 1 := rfl
                have hv_29 : v_29.toInt = x13_3.toInt + (1 : Int32).toInt := by rw [← ev_29]; exact fb_addI (by omega) (by omega)
                refine j_iinc (pc := 83) (v := v_29) (lv' := [(3, .int v_29), (2, .int x1_2), (0, .ref m0), (1, .int p0)]) C dX11_findTall_83 0 rfl ev_29 (by decide) rfl ?_
                refine j_goto (pc := 86) (tgt := 43) C dX11_findTall_86 (by decide) ?_
                refine j_subG (ws' := [(mmays, .inl (cyZ, 144, .inl m_mays)), (mtall, .inl (cyI, 49152, .inl f_28)), (mweights, .inl (cyI, 4096, .inl f_12)), (m0, .inr (11, [.int m_thrown, .ref mtape, .int m_taped, .int m_size, .ref msort, .ref mplace, .ref mvalue, .int m_at, .int m_fault, .ref mwords, .ref mtold, .ref mop, .ref marg, .int m_codes, .ref mnames, .ref mhasHabit, .int m_isNew, .ref mfactWords, .ref mfacts, .ref mpile, .ref mstates, .ref misMarked, .int m_inShelf, .int m_inStack, .int m_inPlace, .ref mrow, .int m_rowMany, .ref mthr, .ref mmays, .ref mtall, .ref mweights, .ref mrowOfWare, .ref mneededOf, .int m_goShelf, .int m_goStack, .int m_goLeft, .ref mtried, .ref mbestRow, .int m_bestCost, .int m_bestMany, .int m_bestShelf, .int m_bestSet, .ref mdigits])), (mtold, .inl (cyI, 240, .inl m_told))]) [2, 3, 4, 0, 1] (by decide) rfl ?_
                exact j_lv [0, 1, 2, 3] rfl (ih_13 v_29 f_28 (by omega) hf_28 (fun j hj => by rw [ef_28, pk_un (show ¬ j = (v_22).toInt.toNat from (by omega))]; exact hq_13_0 j hj) (fun w w0 w1 wb => by rcases Int.lt_or_le (w).toInt (x13_3).toInt with q | q; (rw [ef_28, pk_un (show ¬ 12 * (p0).toInt.toNat + (w).toInt.toNat = (v_22).toInt.toNat from (by omega))]; exact hq_13_1 w w0 q wb); (have ew : w = x13_3 := (i_eq _ _).mpr (by omega); subst ew; have ec : cl p0 w = v_25 := (by unfold cl; rw [ev_23, ev_24, ev_25]); have hc := cl_lt (x := p0) (l := w) (by omega) (by omega) (by omega) wb; rw [ec] at hc ⊢; rw [ef_28, show 12 * (p0).toInt.toNat + (w).toInt.toNat = (v_22).toInt.toNat from (by omega), pk_us]; exact TP.fr hw_27_1 (h_m_told 0 (by decide)).2 (fun j j1 j2 => (hq_13_0 j (by omega)).symm))) (by omega))
        have el_0 : (0 : Int32).toInt = 0 := rfl
        exact j_lv [0, 1, 2, 3] rfl (loop_13 4096 0 m_tall (by decide) h_m_tall (fun j _ => rfl) (fun w w0 w1 => absurd w1 (by omega)) (by omega))
      · skip
        have el_0 : (0 : Int32).toInt = 0 := rfl
        rw [i_eq] at c_4
        obtain ⟨k9, hk1, hk2, hk3⟩ := hq_1_0
        have hk4 : (x1_2).toInt < (k9 : Int) := by rcases Int.lt_or_le (x1_2).toInt (k9 : Int) with q | q; exact q; (exfalso; have ek : nI k9 = x1_2 := (i_eq _ _).mpr (by rw [nI_toInt (by omega)]; omega); rw [ek] at hk3; unfold bI at hk3; rw [ev_2, ev_3] at hk3; omega)
        obtain ⟨v_30, ev_30⟩ : ∃ z : Int32, x1_2 + 1 = z := ⟨_, rfl⟩
        have el_1 : (1 : Int32).toInt = 1 := rfl
        have hv_30 : v_30.toInt = x1_2.toInt + (1 : Int32).toInt := by rw [← ev_30]; exact fb_addI (by omega) (by omega)
        refine j_iinc (pc := 10) (v := v_30) (lv' := [(2, .int v_30), (0, .ref m0), (1, .int p0)]) C dX11_findTall_10 0 rfl ev_30 (by decide) rfl ?_
        refine j_goto (pc := 13) (tgt := 2) C dX11_findTall_13 (by decide) ?_
        exact j_lv [0, 1, 2] rfl (ih_1 v_30 (by omega) ⟨k9, by omega, hk2, hk3⟩ (by omega))
  have el_0 : (0 : Int32).toInt = 0 := rfl
  exact j_lv [0, 1, 2] rfl (loop_1 4096 0 (by decide) (ex_bit (by omega)) (by omega))
theorem wd_906 : Cond.fieldLink RX11 145 "BowlShelfModel" "isNew" "Z" ∈ WALL := wl_in (by decide +kernel) (by decide +kernel)
theorem wd_907 : Cond.fieldLink RX11 117 "BowlShelfModel" "thr" "[Z" ∈ WALL := wl_in (by decide +kernel) (by decide +kernel)
theorem wd_908 : Cond.code yX11_findTall cX11_findTall 4 none ∈ WALL := wl_in (by decide +kernel) (by decide +kernel)
theorem wd_909 : Cond.methodLink RX11 357 yX11_findTall ∈ WALL := wl_in (by decide +kernel) (by decide +kernel)
theorem wd_910 : Cond.instanceMethod yX11_findTall ∈ WALL := wl_in (by decide +kernel) (by decide +kernel)
theorem wd_911 : Cond.selects RX11 yX11_findTall yX11_findTall ∈ WALL := wl_in (by decide +kernel) (by decide +kernel)
theorem dX11_find_0 : decode cX11_find 0 = .ok (.aload_n 0, 1) := by decide +kernel
theorem dX11_find_1 : decode cX11_find 1 = .ok (.getfield 145, 3) := by decide +kernel
theorem dX11_find_4 : decode cX11_find 4 = .ok (.ifCond .ne 4, 3) := by decide +kernel
theorem dX11_find_7 : decode cX11_find 7 = .ok (.return_, 1) := by decide +kernel
theorem dX11_find_8 : decode cX11_find 8 = .ok (.aload_n 0, 1) := by decide +kernel
theorem dX11_find_9 : decode cX11_find 9 = .ok (.iconst 0, 1) := by decide +kernel
theorem dX11_find_10 : decode cX11_find 10 = .ok (.putfield 145, 3) := by decide +kernel
theorem dX11_find_13 : decode cX11_find 13 = .ok (.aload_n 0, 1) := by decide +kernel
theorem dX11_find_14 : decode cX11_find 14 = .ok (.invokevirtual 264, 3) := by decide +kernel
theorem dX11_find_17 : decode cX11_find 17 = .ok (.istore_n 1, 1) := by decide +kernel
theorem dX11_find_18 : decode cX11_find 18 = .ok (.iconst 0, 1) := by decide +kernel
theorem dX11_find_19 : decode cX11_find 19 = .ok (.istore_n 2, 1) := by decide +kernel
theorem dX11_find_20 : decode cX11_find 20 = .ok (.iload_n 2, 1) := by decide +kernel
theorem dX11_find_21 : decode cX11_find 21 = .ok (.iload_n 1, 1) := by decide +kernel
theorem dX11_find_22 : decode cX11_find 22 = .ok (.if_icmp .ge 74, 3) := by decide +kernel
theorem dX11_find_25 : decode cX11_find 25 = .ok (.iconst 0, 1) := by decide +kernel
theorem dX11_find_26 : decode cX11_find 26 = .ok (.istore_n 3, 1) := by decide +kernel
theorem dX11_find_27 : decode cX11_find 27 = .ok (.iload_n 3, 1) := by decide +kernel
theorem dX11_find_28 : decode cX11_find 28 = .ok (.iload_n 1, 1) := by decide +kernel
theorem dX11_find_29 : decode cX11_find 29 = .ok (.if_icmp .ge 61, 3) := by decide +kernel
theorem dX11_find_32 : decode cX11_find 32 = .ok (.aload_n 0, 1) := by decide +kernel
theorem dX11_find_33 : decode cX11_find 33 = .ok (.getfield 120, 3) := by decide +kernel
theorem dX11_find_36 : decode cX11_find 36 = .ok (.bipush 12, 2) := by decide +kernel
theorem dX11_find_38 : decode cX11_find 38 = .ok (.iload_n 2, 1) := by decide +kernel
theorem dX11_find_39 : decode cX11_find 39 = .ok (.imul, 1) := by decide +kernel
theorem dX11_find_40 : decode cX11_find 40 = .ok (.iload_n 3, 1) := by decide +kernel
theorem dX11_find_41 : decode cX11_find 41 = .ok (.iadd, 1) := by decide +kernel
theorem dX11_find_42 : decode cX11_find 42 = .ok (.iload_n 2, 1) := by decide +kernel
theorem dX11_find_43 : decode cX11_find 43 = .ok (.iload_n 3, 1) := by decide +kernel
theorem dX11_find_44 : decode cX11_find 44 = .ok (.if_icmp .eq 16, 3) := by decide +kernel
theorem dX11_find_47 : decode cX11_find 47 = .ok (.aload_n 0, 1) := by decide +kernel
theorem dX11_find_48 : decode cX11_find 48 = .ok (.iload_n 2, 1) := by decide +kernel
theorem dX11_find_49 : decode cX11_find 49 = .ok (.iload_n 3, 1) := by decide +kernel
theorem dX11_find_50 : decode cX11_find 50 = .ok (.invokevirtual 284, 3) := by decide +kernel
theorem dX11_find_53 : decode cX11_find 53 = .ok (.ifCond .eq 7, 3) := by decide +kernel
theorem dX11_find_56 : decode cX11_find 56 = .ok (.iconst 1, 1) := by decide +kernel
theorem dX11_find_57 : decode cX11_find 57 = .ok (.goto 4, 3) := by decide +kernel
theorem dX11_find_60 : decode cX11_find 60 = .ok (.iconst 0, 1) := by decide +kernel
theorem dX11_find_61 : decode cX11_find 61 = .ok (.bastore, 1) := by decide +kernel
theorem dX11_find_62 : decode cX11_find 62 = .ok (.aload_n 0, 1) := by decide +kernel
theorem dX11_find_63 : decode cX11_find 63 = .ok (.getfield 117, 3) := by decide +kernel
theorem dX11_find_66 : decode cX11_find 66 = .ok (.bipush 12, 2) := by decide +kernel
theorem dX11_find_68 : decode cX11_find 68 = .ok (.iload_n 2, 1) := by decide +kernel
theorem dX11_find_69 : decode cX11_find 69 = .ok (.imul, 1) := by decide +kernel
theorem dX11_find_70 : decode cX11_find 70 = .ok (.iload_n 3, 1) := by decide +kernel
theorem dX11_find_71 : decode cX11_find 71 = .ok (.iadd, 1) := by decide +kernel
theorem dX11_find_72 : decode cX11_find 72 = .ok (.aload_n 0, 1) := by decide +kernel
theorem dX11_find_73 : decode cX11_find 73 = .ok (.getfield 120, 3) := by decide +kernel
theorem dX11_find_76 : decode cX11_find 76 = .ok (.bipush 12, 2) := by decide +kernel
theorem dX11_find_78 : decode cX11_find 78 = .ok (.iload_n 2, 1) := by decide +kernel
theorem dX11_find_79 : decode cX11_find 79 = .ok (.imul, 1) := by decide +kernel
theorem dX11_find_80 : decode cX11_find 80 = .ok (.iload_n 3, 1) := by decide +kernel
theorem dX11_find_81 : decode cX11_find 81 = .ok (.iadd, 1) := by decide +kernel
theorem dX11_find_82 : decode cX11_find 82 = .ok (.baload, 1) := by decide +kernel
theorem dX11_find_83 : decode cX11_find 83 = .ok (.bastore, 1) := by decide +kernel
theorem dX11_find_84 : decode cX11_find 84 = .ok (.iinc 3 1, 3) := by decide +kernel
theorem dX11_find_87 : decode cX11_find 87 = .ok (.goto (-60), 3) := by decide +kernel
theorem dX11_find_90 : decode cX11_find 90 = .ok (.iinc 2 1, 3) := by decide +kernel
theorem dX11_find_93 : decode cX11_find 93 = .ok (.goto (-73), 3) := by decide +kernel
theorem dX11_find_96 : decode cX11_find 96 = .ok (.iconst 0, 1) := by decide +kernel
theorem dX11_find_97 : decode cX11_find 97 = .ok (.istore_n 2, 1) := by decide +kernel
theorem dX11_find_98 : decode cX11_find 98 = .ok (.iload_n 2, 1) := by decide +kernel
theorem dX11_find_99 : decode cX11_find 99 = .ok (.iload_n 1, 1) := by decide +kernel
theorem dX11_find_100 : decode cX11_find 100 = .ok (.if_icmp .ge 98, 3) := by decide +kernel
theorem dX11_find_103 : decode cX11_find 103 = .ok (.iconst 0, 1) := by decide +kernel
theorem dX11_find_104 : decode cX11_find 104 = .ok (.istore_n 3, 1) := by decide +kernel
theorem dX11_find_105 : decode cX11_find 105 = .ok (.iload_n 3, 1) := by decide +kernel
theorem dX11_find_106 : decode cX11_find 106 = .ok (.iload_n 1, 1) := by decide +kernel
theorem dX11_find_107 : decode cX11_find 107 = .ok (.if_icmp .ge 85, 3) := by decide +kernel
theorem dX11_find_110 : decode cX11_find 110 = .ok (.iconst 0, 1) := by decide +kernel
theorem dX11_find_111 : decode cX11_find 111 = .ok (.istore 4, 2) := by decide +kernel
theorem dX11_find_113 : decode cX11_find 113 = .ok (.iload 4, 2) := by decide +kernel
theorem dX11_find_115 : decode cX11_find 115 = .ok (.iload_n 1, 1) := by decide +kernel
theorem dX11_find_116 : decode cX11_find 116 = .ok (.if_icmp .ge 70, 3) := by decide +kernel
theorem dX11_find_119 : decode cX11_find 119 = .ok (.aload_n 0, 1) := by decide +kernel
theorem dX11_find_120 : decode cX11_find 120 = .ok (.getfield 117, 3) := by decide +kernel
theorem dX11_find_123 : decode cX11_find 123 = .ok (.bipush 12, 2) := by decide +kernel
theorem dX11_find_125 : decode cX11_find 125 = .ok (.iload_n 3, 1) := by decide +kernel
theorem dX11_find_126 : decode cX11_find 126 = .ok (.imul, 1) := by decide +kernel
theorem dX11_find_127 : decode cX11_find 127 = .ok (.iload 4, 2) := by decide +kernel
theorem dX11_find_129 : decode cX11_find 129 = .ok (.iadd, 1) := by decide +kernel
theorem dX11_find_130 : decode cX11_find 130 = .ok (.aload_n 0, 1) := by decide +kernel
theorem dX11_find_131 : decode cX11_find 131 = .ok (.getfield 117, 3) := by decide +kernel
theorem dX11_find_134 : decode cX11_find 134 = .ok (.bipush 12, 2) := by decide +kernel
theorem dX11_find_136 : decode cX11_find 136 = .ok (.iload_n 3, 1) := by decide +kernel
theorem dX11_find_137 : decode cX11_find 137 = .ok (.imul, 1) := by decide +kernel
theorem dX11_find_138 : decode cX11_find 138 = .ok (.iload 4, 2) := by decide +kernel
theorem dX11_find_140 : decode cX11_find 140 = .ok (.iadd, 1) := by decide +kernel
theorem dX11_find_141 : decode cX11_find 141 = .ok (.baload, 1) := by decide +kernel
theorem dX11_find_142 : decode cX11_find 142 = .ok (.ifCond .ne 32, 3) := by decide +kernel
theorem dX11_find_145 : decode cX11_find 145 = .ok (.aload_n 0, 1) := by decide +kernel
theorem dX11_find_146 : decode cX11_find 146 = .ok (.getfield 117, 3) := by decide +kernel
theorem dX11_find_149 : decode cX11_find 149 = .ok (.bipush 12, 2) := by decide +kernel
theorem dX11_find_151 : decode cX11_find 151 = .ok (.iload_n 3, 1) := by decide +kernel
theorem dX11_find_152 : decode cX11_find 152 = .ok (.imul, 1) := by decide +kernel
theorem dX11_find_153 : decode cX11_find 153 = .ok (.iload_n 2, 1) := by decide +kernel
theorem dX11_find_154 : decode cX11_find 154 = .ok (.iadd, 1) := by decide +kernel
theorem dX11_find_155 : decode cX11_find 155 = .ok (.baload, 1) := by decide +kernel
theorem dX11_find_156 : decode cX11_find 156 = .ok (.ifCond .eq 22, 3) := by decide +kernel
theorem dX11_find_159 : decode cX11_find 159 = .ok (.aload_n 0, 1) := by decide +kernel
theorem dX11_find_160 : decode cX11_find 160 = .ok (.getfield 117, 3) := by decide +kernel
theorem dX11_find_163 : decode cX11_find 163 = .ok (.bipush 12, 2) := by decide +kernel
theorem dX11_find_165 : decode cX11_find 165 = .ok (.iload_n 2, 1) := by decide +kernel
theorem dX11_find_166 : decode cX11_find 166 = .ok (.imul, 1) := by decide +kernel
theorem dX11_find_167 : decode cX11_find 167 = .ok (.iload 4, 2) := by decide +kernel
theorem dX11_find_169 : decode cX11_find 169 = .ok (.iadd, 1) := by decide +kernel
theorem dX11_find_170 : decode cX11_find 170 = .ok (.baload, 1) := by decide +kernel
theorem dX11_find_171 : decode cX11_find 171 = .ok (.ifCond .eq 7, 3) := by decide +kernel
theorem dX11_find_174 : decode cX11_find 174 = .ok (.iconst 1, 1) := by decide +kernel
theorem dX11_find_175 : decode cX11_find 175 = .ok (.goto 4, 3) := by decide +kernel
theorem dX11_find_178 : decode cX11_find 178 = .ok (.iconst 0, 1) := by decide +kernel
theorem dX11_find_179 : decode cX11_find 179 = .ok (.bastore, 1) := by decide +kernel
theorem dX11_find_180 : decode cX11_find 180 = .ok (.iinc 4 1, 3) := by decide +kernel
theorem dX11_find_183 : decode cX11_find 183 = .ok (.goto (-70), 3) := by decide +kernel
theorem dX11_find_186 : decode cX11_find 186 = .ok (.iinc 3 1, 3) := by decide +kernel
theorem dX11_find_189 : decode cX11_find 189 = .ok (.goto (-84), 3) := by decide +kernel
theorem dX11_find_192 : decode cX11_find 192 = .ok (.iinc 2 1, 3) := by decide +kernel
theorem dX11_find_195 : decode cX11_find 195 = .ok (.goto (-97), 3) := by decide +kernel
theorem dX11_find_198 : decode cX11_find 198 = .ok (.aload_n 0, 1) := by decide +kernel
theorem dX11_find_199 : decode cX11_find 199 = .ok (.getfield 127, 3) := by decide +kernel
theorem dX11_find_202 : decode cX11_find 202 = .ok (.iconst 0, 1) := by decide +kernel
theorem dX11_find_203 : decode cX11_find 203 = .ok (.iconst 0, 1) := by decide +kernel
theorem dX11_find_204 : decode cX11_find 204 = .ok (.iastore, 1) := by decide +kernel
theorem dX11_find_205 : decode cX11_find 205 = .ok (.iconst 1, 1) := by decide +kernel
theorem dX11_find_206 : decode cX11_find 206 = .ok (.istore_n 2, 1) := by decide +kernel
theorem dX11_find_207 : decode cX11_find 207 = .ok (.iload_n 2, 1) := by decide +kernel
theorem dX11_find_208 : decode cX11_find 208 = .ok (.iconst 1, 1) := by decide +kernel
theorem dX11_find_209 : decode cX11_find 209 = .ok (.iload_n 1, 1) := by decide +kernel
theorem dX11_find_210 : decode cX11_find 210 = .ok (.ishl, 1) := by decide +kernel
theorem dX11_find_211 : decode cX11_find 211 = .ok (.if_icmp .ge 14, 3) := by decide +kernel
theorem dX11_find_214 : decode cX11_find 214 = .ok (.aload_n 0, 1) := by decide +kernel
theorem dX11_find_215 : decode cX11_find 215 = .ok (.iload_n 2, 1) := by decide +kernel
theorem dX11_find_216 : decode cX11_find 216 = .ok (.invokevirtual 357, 3) := by decide +kernel
theorem dX11_find_219 : decode cX11_find 219 = .ok (.iinc 2 1, 3) := by decide +kernel
theorem dX11_find_222 : decode cX11_find 222 = .ok (.goto (-15), 3) := by decide +kernel
theorem dX11_find_225 : decode cX11_find 225 = .ok (.return_, 1) := by decide +kernel
set_option maxHeartbeats 4000000 in
set_option maxRecDepth 100000 in
theorem c_X11_find (l : Launch) (D : DG) (cyC cyI cyJ cyZ cyO : ClassId) (m0 : Nat) (mtold : Nat) (mop : Nat) (marg : Nat) (mfacts : Nat) (mpile : Nat) (mthr : Nat) (mmays : Nat) (mtall : Nat) (mweights : Nat) (mtape : Nat) (msort : Nat) (mplace : Nat) (mvalue : Nat) (mwords : Nat) (mnames : Nat) (mhasHabit : Nat) (mfactWords : Nat) (mstates : Nat) (misMarked : Nat) (mrow : Nat) (mrowOfWare : Nat) (mneededOf : Nat) (mtried : Nat) (mbestRow : Nat) (mdigits : Nat) (m_thrown : Int32) (m_taped : Int32) (m_size : Int32) (m_at : Int32) (m_fault : Int32) (m_codes : Int32) (m_isNew : Int32) (m_inShelf : Int32) (m_inStack : Int32) (m_inPlace : Int32) (m_rowMany : Int32) (m_goShelf : Int32) (m_goStack : Int32) (m_goLeft : Int32) (m_bestCost : Int32) (m_bestMany : Int32) (m_bestShelf : Int32) (m_bestSet : Int32) (m_told : Nat → Int32) (m_op : Nat → Int32) (m_arg : Nat → Int32) (m_facts : Nat → Int32) (m_pile : Nat → Int32) (m_thr : Nat → Int32) (m_mays : Nat → Int32) (m_tall : Nat → Int32) (m_weights : Nat → Int32) (h_m_taped : 0 ≤ (m_taped).toInt ∧ (m_taped).toInt ≤ 1000) (h_m_size : 0 ≤ (m_size).toInt ∧ (m_size).toInt ≤ 1000) (h_m_at : 0 ≤ (m_at).toInt ∧ (m_at).toInt ≤ 1000) (h_m_fault : 0 ≤ (m_fault).toInt ∧ (m_fault).toInt ≤ 16005) (h_m_codes : 0 ≤ (m_codes).toInt ∧ (m_codes).toInt ≤ 1000) (h_m_isNew : 0 ≤ (m_isNew).toInt ∧ (m_isNew).toInt ≤ 1) (h_m_inShelf : 0 ≤ (m_inShelf).toInt ∧ (m_inShelf).toInt ≤ 3) (h_m_inStack : 0 ≤ (m_inStack).toInt ∧ (m_inStack).toInt ≤ 7) (h_m_inPlace : 0 ≤ (m_inPlace).toInt ∧ (m_inPlace).toInt ≤ 11) (h_m_rowMany : 0 ≤ (m_rowMany).toInt ∧ (m_rowMany).toInt ≤ 12) (h_m_goShelf : -1 ≤ (m_goShelf).toInt ∧ (m_goShelf).toInt ≤ 3) (h_m_bestMany : 0 ≤ (m_bestMany).toInt ∧ (m_bestMany).toInt ≤ 7) (h_m_bestShelf : 0 ≤ (m_bestShelf).toInt ∧ (m_bestShelf).toInt ≤ 3) (h_m_told : TV m_told) (h_m_tall : Iv 49152 (0) (100000000) m_tall) (hwf : WFm m_told m_op m_arg) (hTA : (m_isNew).toInt = 0 → TALL m_told m_mays m_tall) : KK l D (TY cyC cyI cyJ cyZ cyO) yX11_find cX11_find 5 none ({ frames := 4, cells := 0, slots := 0, locals := 93 } : Room) 0 0 [.ref m0] [(m0, .inr (11, [.int m_thrown, .ref mtape, .int m_taped, .int m_size, .ref msort, .ref mplace, .ref mvalue, .int m_at, .int m_fault, .ref mwords, .ref mtold, .ref mop, .ref marg, .int m_codes, .ref mnames, .ref mhasHabit, .int m_isNew, .ref mfactWords, .ref mfacts, .ref mpile, .ref mstates, .ref misMarked, .int m_inShelf, .int m_inStack, .int m_inPlace, .ref mrow, .int m_rowMany, .ref mthr, .ref mmays, .ref mtall, .ref mweights, .ref mrowOfWare, .ref mneededOf, .int m_goShelf, .int m_goStack, .int m_goLeft, .ref mtried, .ref mbestRow, .int m_bestCost, .int m_bestMany, .int m_bestShelf, .int m_bestSet, .ref mdigits])), (mtold, .inl (cyI, 240, .inl m_told)), (mop, .inl (cyI, 2200, .inl m_op)), (marg, .inl (cyI, 2200, .inl m_arg)), (mfacts, .inl (cyI, 8, .inl m_facts)), (mpile, .inl (cyI, 1100, .inl m_pile)), (mthr, .inl (cyZ, 144, .inl m_thr)), (mmays, .inl (cyZ, 144, .inl m_mays)), (mtall, .inl (cyI, 49152, .inl m_tall)), (mweights, .inl (cyI, 4096, .inl m_weights))] (fun u => none) (fun u => (0 ≤ (u.2.1 0).toInt ∧ (u.2.1 0).toInt ≤ 0) ∧ (Iv 49152 (0) (100000000) (u.2.2.1 4)) ∧ (TALL m_told (u.2.2.1 3) (u.2.2.1 4))) (fun u => [(m0, .inr (11, [.int m_thrown, .ref mtape, .int m_taped, .int m_size, .ref msort, .ref mplace, .ref mvalue, .int m_at, .int m_fault, .ref mwords, .ref mtold, .ref mop, .ref marg, .int m_codes, .ref mnames, .ref mhasHabit, .int (u.2.1 0), .ref mfactWords, .ref mfacts, .ref mpile, .ref mstates, .ref misMarked, .int m_inShelf, .int m_inStack, .int m_inPlace, .ref mrow, .int m_rowMany, .ref mthr, .ref mmays, .ref mtall, .ref mweights, .ref mrowOfWare, .ref mneededOf, .int m_goShelf, .int m_goStack, .int m_goLeft, .ref mtried, .ref mbestRow, .int m_bestCost, .int m_bestMany, .int m_bestShelf, .int m_bestSet, .ref mdigits])), (mtold, .inl (cyI, 240, .inl m_told)), (mop, .inl (cyI, 2200, .inl m_op)), (marg, .inl (cyI, 2200, .inl m_arg)), (mfacts, .inl (cyI, 8, .inl (u.2.2.1 0))), (mpile, .inl (cyI, 1100, .inl (u.2.2.1 1))), (mthr, .inl (cyZ, 144, .inl (u.2.2.1 2))), (mmays, .inl (cyZ, 144, .inl (u.2.2.1 3))), (mtall, .inl (cyI, 49152, .inl (u.2.2.1 4))), (mweights, .inl (cyI, 4096, .inl (u.2.2.1 5)))]) := by
  refine KK.of (lv0 := [(0, .ref m0)]) (by decide) rfl (Nat.le_of_ble_eq_true rfl) ?_
  intro p e s m args below meth c A C hr hk hin
  refine j_aload_n (pc := 0) C dX11_find_0 rfl 0 rfl ?_
  refine j_get (pc := 1) (ci := 11) (v := .int m_isNew) C inw_11 0 rfl rfl 16 (by decide) wd_906 rfl rfl dX11_find_1 ?_
  refine j_if_ne (pc := 4) (tgt := 8) C dX11_find_4 (by decide) (fun c_1 => ?_) (fun c_1 => ?_)
  · skip
    have el_0 : (0 : Int32).toInt = 0 := rfl
    rw [i_eq] at c_1
    have k0c_1 : m_isNew.toInt = 1 := by omega
    refine j_aload_n (pc := 8) C dX11_find_8 rfl 0 rfl ?_
    refine j_iconst (pc := 9) (v := 0) C dX11_find_9 (by decide) ?_
    refine j_put (pc := 10) (ci := 11) (v := .int 0) (ws' := [(m0, .inr (11, [.int m_thrown, .ref mtape, .int m_taped, .int m_size, .ref msort, .ref mplace, .ref mvalue, .int m_at, .int m_fault, .ref mwords, .ref mtold, .ref mop, .ref marg, .int m_codes, .ref mnames, .ref mhasHabit, .int 0, .ref mfactWords, .ref mfacts, .ref mpile, .ref mstates, .ref misMarked, .int m_inShelf, .int m_inStack, .int m_inPlace, .ref mrow, .int m_rowMany, .ref mthr, .ref mmays, .ref mtall, .ref mweights, .ref mrowOfWare, .ref mneededOf, .int m_goShelf, .int m_goStack, .int m_goLeft, .ref mtried, .ref mbestRow, .int m_bestCost, .int m_bestMany, .int m_bestShelf, .int m_bestSet, .ref mdigits])), (mtold, .inl (cyI, 240, .inl m_told)), (mop, .inl (cyI, 2200, .inl m_op)), (marg, .inl (cyI, 2200, .inl m_arg)), (mfacts, .inl (cyI, 8, .inl m_facts)), (mpile, .inl (cyI, 1100, .inl m_pile)), (mthr, .inl (cyZ, 144, .inl m_thr)), (mmays, .inl (cyZ, 144, .inl m_mays)), (mtall, .inl (cyI, 49152, .inl m_tall)), (mweights, .inl (cyI, 4096, .inl m_weights))]) C inw_11 0 rfl rfl 16 (by decide) wd_906 rfl tyX11_ok nmX11 rfl (tyX11_ok 16 (by decide)) rfl rfl (Nat.le_of_ble_eq_true rfl) dX11_find_10 rfl ?_
    refine j_aload_n (pc := 13) C dX11_find_13 rfl 0 rfl ?_
    refine j_callV (pc := 14) (As := []) (rest := []) (wr := [(mop, .inl (cyI, 2200, .inl m_op)), (marg, .inl (cyI, 2200, .inl m_arg)), (mfacts, .inl (cyI, 8, .inl m_facts)), (mpile, .inl (cyI, 1100, .inl m_pile)), (mthr, .inl (cyZ, 144, .inl m_thr)), (mmays, .inl (cyZ, 144, .inl m_mays)), (mtall, .inl (cyI, 49152, .inl m_tall)), (mweights, .inl (cyI, 4096, .inl m_weights))]) C (c_X11_wares l D cyC cyI cyJ cyZ cyO m0 mtold mtape msort mplace mvalue mwords mop marg mnames mhasHabit mfactWords mfacts mpile mstates misMarked mrow mthr mmays mtall mweights mrowOfWare mneededOf mtried mbestRow mdigits m_thrown m_taped m_size m_at m_fault m_codes 0 m_inShelf m_inStack m_inPlace m_rowMany m_goShelf m_goStack m_goLeft m_bestCost m_bestMany m_bestShelf m_bestSet m_told h_m_taped h_m_size h_m_at h_m_fault h_m_codes (by decide) h_m_inShelf h_m_inStack h_m_inPlace h_m_rowMany h_m_goShelf h_m_bestMany h_m_bestShelf h_m_told) wd_748 wd_624 wd_749 wd_750 wd_751 ⟨by decide, by decide, rfl⟩ rfl ⟨rfl, rfl, by decide, by decide⟩ ⟨by decide, by decide⟩ [0, 1] [2, 3, 4, 5, 6, 7, 8, 9] rfl rfl ⟨by decide, by decide, by decide⟩ 0 rfl rfl rfl (Nat.le_of_ble_eq_true rfl) dX11_find_14 (fun u_2 hw_3 => ?_)
    refine j_eq (ws2 := [(mop, .inl (cyI, 2200, .inl m_op)), (marg, .inl (cyI, 2200, .inl m_arg)), (mfacts, .inl (cyI, 8, .inl m_facts)), (mpile, .inl (cyI, 1100, .inl m_pile)), (mthr, .inl (cyZ, 144, .inl m_thr)), (mmays, .inl (cyZ, 144, .inl m_mays)), (mtall, .inl (cyI, 49152, .inl m_tall)), (mweights, .inl (cyI, 4096, .inl m_weights)), (m0, .inr (11, [.int m_thrown, .ref mtape, .int m_taped, .int m_size, .ref msort, .ref mplace, .ref mvalue, .int m_at, .int m_fault, .ref mwords, .ref mtold, .ref mop, .ref marg, .int m_codes, .ref mnames, .ref mhasHabit, .int 0, .ref mfactWords, .ref mfacts, .ref mpile, .ref mstates, .ref misMarked, .int m_inShelf, .int m_inStack, .int m_inPlace, .ref mrow, .int m_rowMany, .ref mthr, .ref mmays, .ref mtall, .ref mweights, .ref mrowOfWare, .ref mneededOf, .int m_goShelf, .int m_goStack, .int m_goLeft, .ref mtried, .ref mbestRow, .int m_bestCost, .int m_bestMany, .int m_bestShelf, .int m_bestSet, .ref mdigits])), (mtold, .inl (cyI, 240, .inl m_told))]) (pc2 := 17) (lv2 := [(0, .ref m0)]) (st2 := [.int (u_2.2.1 0)]) rfl rfl rfl rfl ?_
    obtain ⟨hw_3_0, hw_3_1⟩ := hw_3
    refine j_istore_n (pc := 17) (lv' := [(1, .int (u_2.2.1 0)), (0, .ref m0)]) C dX11_find_17 rfl (by decide) rfl ?_
    refine j_iconst (pc := 18) (v := 0) C dX11_find_18 (by decide) ?_
    refine j_istore_n (pc := 19) (lv' := [(2, .int 0), (1, .int (u_2.2.1 0)), (0, .ref m0)]) C dX11_find_19 rfl (by decide) rfl ?_
    have loop_4 : ∀ (k_4 : Nat) (x4_2 : Int32) (g4_mfacts : Nat → Int32) (g4_mpile : Nat → Int32) (g4_mthr : Nat → Int32) (g4_mmays : Nat → Int32), (0 ≤ (x4_2).toInt ∧ (x4_2).toInt ≤ 12) → (12 - x4_2.toInt).toNat < k_4 → J p l e ({ frames := 4, cells := 0, slots := 0, locals := 93 } : Room) s m args below meth c D A 5 0 0 (QX below D (TY cyC cyI cyJ cyZ cyO) A (fun u => none) (fun u => (0 ≤ (u.2.1 0).toInt ∧ (u.2.1 0).toInt ≤ 0) ∧ (Iv 49152 (0) (100000000) (u.2.2.1 4)) ∧ (TALL m_told (u.2.2.1 3) (u.2.2.1 4))) (fun u => [(m0, .inr (11, [.int m_thrown, .ref mtape, .int m_taped, .int m_size, .ref msort, .ref mplace, .ref mvalue, .int m_at, .int m_fault, .ref mwords, .ref mtold, .ref mop, .ref marg, .int m_codes, .ref mnames, .ref mhasHabit, .int (u.2.1 0), .ref mfactWords, .ref mfacts, .ref mpile, .ref mstates, .ref misMarked, .int m_inShelf, .int m_inStack, .int m_inPlace, .ref mrow, .int m_rowMany, .ref mthr, .ref mmays, .ref mtall, .ref mweights, .ref mrowOfWare, .ref mneededOf, .int m_goShelf, .int m_goStack, .int m_goLeft, .ref mtried, .ref mbestRow, .int m_bestCost, .int m_bestMany, .int m_bestShelf, .int m_bestSet, .ref mdigits])), (mtold, .inl (cyI, 240, .inl m_told)), (mop, .inl (cyI, 2200, .inl m_op)), (marg, .inl (cyI, 2200, .inl m_arg)), (mfacts, .inl (cyI, 8, .inl (u.2.2.1 0))), (mpile, .inl (cyI, 1100, .inl (u.2.2.1 1))), (mthr, .inl (cyZ, 144, .inl (u.2.2.1 2))), (mmays, .inl (cyZ, 144, .inl (u.2.2.1 3))), (mtall, .inl (cyI, 49152, .inl (u.2.2.1 4))), (mweights, .inl (cyI, 4096, .inl (u.2.2.1 5)))]) args s 0 0) [(mop, .inl (cyI, 2200, .inl m_op)), (marg, .inl (cyI, 2200, .inl m_arg)), (mfacts, .inl (cyI, 8, .inl g4_mfacts)), (mpile, .inl (cyI, 1100, .inl g4_mpile)), (mthr, .inl (cyZ, 144, .inl g4_mthr)), (mmays, .inl (cyZ, 144, .inl g4_mmays)), (mtall, .inl (cyI, 49152, .inl m_tall)), (mweights, .inl (cyI, 4096, .inl m_weights)), (m0, .inr (11, [.int m_thrown, .ref mtape, .int m_taped, .int m_size, .ref msort, .ref mplace, .ref mvalue, .int m_at, .int m_fault, .ref mwords, .ref mtold, .ref mop, .ref marg, .int m_codes, .ref mnames, .ref mhasHabit, .int 0, .ref mfactWords, .ref mfacts, .ref mpile, .ref mstates, .ref misMarked, .int m_inShelf, .int m_inStack, .int m_inPlace, .ref mrow, .int m_rowMany, .ref mthr, .ref mmays, .ref mtall, .ref mweights, .ref mrowOfWare, .ref mneededOf, .int m_goShelf, .int m_goStack, .int m_goLeft, .ref mtried, .ref mbestRow, .int m_bestCost, .int m_bestMany, .int m_bestShelf, .int m_bestSet, .ref mdigits])), (mtold, .inl (cyI, 240, .inl m_told))] 20 [(2, .int x4_2), (1, .int (u_2.2.1 0)), (0, .ref m0)] [] := by
      intro k_4
      induction k_4 with
      | zero =>
        intro x4_2 g4_mfacts g4_mpile g4_mthr g4_mmays hi_4_0 hm_4
        exact absurd hm_4 (Nat.not_lt_zero _)
      | succ k_4 ih_4 =>
        intro x4_2 g4_mfacts g4_mpile g4_mthr g4_mmays hi_4_0 hm_4
        refine j_iload_n (pc := 20) C dX11_find_20 rfl 0 rfl ?_
        refine j_iload_n (pc := 21) C dX11_find_21 rfl 1 rfl ?_
        refine j_icmp_ge (pc := 22) (tgt := 96) C dX11_find_22 (by decide) (fun c_5 => ?_) (fun c_5 => ?_)
        · skip
          rw [i_le] at c_5
          refine j_iconst (pc := 96) (v := 0) C dX11_find_96 (by decide) ?_
          refine j_istore_n (pc := 97) (lv' := [(2, .int 0), (1, .int (u_2.2.1 0)), (0, .ref m0)]) C dX11_find_97 rfl (by decide) rfl ?_
          have loop_6 : ∀ (k_6 : Nat) (x6_2 : Int32) (g6_mthr : Nat → Int32), (0 ≤ (x6_2).toInt ∧ (x6_2).toInt ≤ 12) → (12 - x6_2.toInt).toNat < k_6 → J p l e ({ frames := 4, cells := 0, slots := 0, locals := 93 } : Room) s m args below meth c D A 5 0 0 (QX below D (TY cyC cyI cyJ cyZ cyO) A (fun u => none) (fun u => (0 ≤ (u.2.1 0).toInt ∧ (u.2.1 0).toInt ≤ 0) ∧ (Iv 49152 (0) (100000000) (u.2.2.1 4)) ∧ (TALL m_told (u.2.2.1 3) (u.2.2.1 4))) (fun u => [(m0, .inr (11, [.int m_thrown, .ref mtape, .int m_taped, .int m_size, .ref msort, .ref mplace, .ref mvalue, .int m_at, .int m_fault, .ref mwords, .ref mtold, .ref mop, .ref marg, .int m_codes, .ref mnames, .ref mhasHabit, .int (u.2.1 0), .ref mfactWords, .ref mfacts, .ref mpile, .ref mstates, .ref misMarked, .int m_inShelf, .int m_inStack, .int m_inPlace, .ref mrow, .int m_rowMany, .ref mthr, .ref mmays, .ref mtall, .ref mweights, .ref mrowOfWare, .ref mneededOf, .int m_goShelf, .int m_goStack, .int m_goLeft, .ref mtried, .ref mbestRow, .int m_bestCost, .int m_bestMany, .int m_bestShelf, .int m_bestSet, .ref mdigits])), (mtold, .inl (cyI, 240, .inl m_told)), (mop, .inl (cyI, 2200, .inl m_op)), (marg, .inl (cyI, 2200, .inl m_arg)), (mfacts, .inl (cyI, 8, .inl (u.2.2.1 0))), (mpile, .inl (cyI, 1100, .inl (u.2.2.1 1))), (mthr, .inl (cyZ, 144, .inl (u.2.2.1 2))), (mmays, .inl (cyZ, 144, .inl (u.2.2.1 3))), (mtall, .inl (cyI, 49152, .inl (u.2.2.1 4))), (mweights, .inl (cyI, 4096, .inl (u.2.2.1 5)))]) args s 0 0) [(mop, .inl (cyI, 2200, .inl m_op)), (marg, .inl (cyI, 2200, .inl m_arg)), (mfacts, .inl (cyI, 8, .inl g4_mfacts)), (mpile, .inl (cyI, 1100, .inl g4_mpile)), (mthr, .inl (cyZ, 144, .inl g6_mthr)), (mmays, .inl (cyZ, 144, .inl g4_mmays)), (mtall, .inl (cyI, 49152, .inl m_tall)), (mweights, .inl (cyI, 4096, .inl m_weights)), (m0, .inr (11, [.int m_thrown, .ref mtape, .int m_taped, .int m_size, .ref msort, .ref mplace, .ref mvalue, .int m_at, .int m_fault, .ref mwords, .ref mtold, .ref mop, .ref marg, .int m_codes, .ref mnames, .ref mhasHabit, .int 0, .ref mfactWords, .ref mfacts, .ref mpile, .ref mstates, .ref misMarked, .int m_inShelf, .int m_inStack, .int m_inPlace, .ref mrow, .int m_rowMany, .ref mthr, .ref mmays, .ref mtall, .ref mweights, .ref mrowOfWare, .ref mneededOf, .int m_goShelf, .int m_goStack, .int m_goLeft, .ref mtried, .ref mbestRow, .int m_bestCost, .int m_bestMany, .int m_bestShelf, .int m_bestSet, .ref mdigits])), (mtold, .inl (cyI, 240, .inl m_told))] 98 [(2, .int x6_2), (1, .int (u_2.2.1 0)), (0, .ref m0)] [] := by
            intro k_6
            induction k_6 with
            | zero =>
              intro x6_2 g6_mthr hi_6_0 hm_6
              exact absurd hm_6 (Nat.not_lt_zero _)
            | succ k_6 ih_6 =>
              intro x6_2 g6_mthr hi_6_0 hm_6
              refine j_iload_n (pc := 98) C dX11_find_98 rfl 0 rfl ?_
              refine j_iload_n (pc := 99) C dX11_find_99 rfl 1 rfl ?_
              refine j_icmp_ge (pc := 100) (tgt := 198) C dX11_find_100 (by decide) (fun c_7 => ?_) (fun c_7 => ?_)
              · skip
                rw [i_le] at c_7
                refine j_aload_n (pc := 198) C dX11_find_198 rfl 2 rfl ?_
                refine j_get (pc := 199) (ci := 11) (v := .ref mweights) C inw_11 8 rfl rfl 30 (by decide) wd_898 rfl rfl dX11_find_199 ?_
                refine j_iconst (pc := 202) (v := 0) C dX11_find_202 (by decide) ?_
                refine j_iconst (pc := 203) (v := 0) C dX11_find_203 (by decide) ?_
                obtain ⟨f_8, ef_8⟩ : ∃ z, z = upd m_weights 0 0 := ⟨_, rfl⟩
                refine j_iast (pc := 204) (k := 0) (ws' := [(mop, .inl (cyI, 2200, .inl m_op)), (marg, .inl (cyI, 2200, .inl m_arg)), (mfacts, .inl (cyI, 8, .inl g4_mfacts)), (mpile, .inl (cyI, 1100, .inl g4_mpile)), (mthr, .inl (cyZ, 144, .inl g6_mthr)), (mmays, .inl (cyZ, 144, .inl g4_mmays)), (mtall, .inl (cyI, 49152, .inl m_tall)), (mweights, .inl (cyI, 4096, .inl f_8)), (m0, .inr (11, [.int m_thrown, .ref mtape, .int m_taped, .int m_size, .ref msort, .ref mplace, .ref mvalue, .int m_at, .int m_fault, .ref mwords, .ref mtold, .ref mop, .ref marg, .int m_codes, .ref mnames, .ref mhasHabit, .int 0, .ref mfactWords, .ref mfacts, .ref mpile, .ref mstates, .ref misMarked, .int m_inShelf, .int m_inStack, .int m_inPlace, .ref mrow, .int m_rowMany, .ref mthr, .ref mmays, .ref mtall, .ref mweights, .ref mrowOfWare, .ref mneededOf, .int m_goShelf, .int m_goStack, .int m_goLeft, .ref mtried, .ref mbestRow, .int m_bestCost, .int m_bestMany, .int m_bestShelf, .int m_bestSet, .ref mdigits])), (mtold, .inl (cyI, 240, .inl m_told))]) C 7 1 rfl rfl (by decide) (by decide) (by decide) dX11_find_204 (by rw [ef_8]; rfl) ?_
                refine j_iconst (pc := 205) (v := 1) C dX11_find_205 (by decide) ?_
                refine j_istore_n (pc := 206) (lv' := [(2, .int 1), (1, .int (u_2.2.1 0)), (0, .ref m0)]) C dX11_find_206 rfl (by decide) rfl ?_
                have loop_9 : ∀ (k_9 : Nat) (x9_2 : Int32) (g9_mtall : Nat → Int32) (g9_mweights : Nat → Int32), (1 ≤ (x9_2).toInt ∧ (x9_2).toInt ≤ 4096) → (Iv 49152 (0) (100000000) g9_mtall) → (∀ x : Int32, 1 ≤ x.toInt → x.toInt < x9_2.toInt → TS m_told g4_mmays g9_mtall x) → (4096 - x9_2.toInt).toNat < k_9 → J p l e ({ frames := 4, cells := 0, slots := 0, locals := 93 } : Room) s m args below meth c D A 5 0 0 (QX below D (TY cyC cyI cyJ cyZ cyO) A (fun u => none) (fun u => (0 ≤ (u.2.1 0).toInt ∧ (u.2.1 0).toInt ≤ 0) ∧ (Iv 49152 (0) (100000000) (u.2.2.1 4)) ∧ (TALL m_told (u.2.2.1 3) (u.2.2.1 4))) (fun u => [(m0, .inr (11, [.int m_thrown, .ref mtape, .int m_taped, .int m_size, .ref msort, .ref mplace, .ref mvalue, .int m_at, .int m_fault, .ref mwords, .ref mtold, .ref mop, .ref marg, .int m_codes, .ref mnames, .ref mhasHabit, .int (u.2.1 0), .ref mfactWords, .ref mfacts, .ref mpile, .ref mstates, .ref misMarked, .int m_inShelf, .int m_inStack, .int m_inPlace, .ref mrow, .int m_rowMany, .ref mthr, .ref mmays, .ref mtall, .ref mweights, .ref mrowOfWare, .ref mneededOf, .int m_goShelf, .int m_goStack, .int m_goLeft, .ref mtried, .ref mbestRow, .int m_bestCost, .int m_bestMany, .int m_bestShelf, .int m_bestSet, .ref mdigits])), (mtold, .inl (cyI, 240, .inl m_told)), (mop, .inl (cyI, 2200, .inl m_op)), (marg, .inl (cyI, 2200, .inl m_arg)), (mfacts, .inl (cyI, 8, .inl (u.2.2.1 0))), (mpile, .inl (cyI, 1100, .inl (u.2.2.1 1))), (mthr, .inl (cyZ, 144, .inl (u.2.2.1 2))), (mmays, .inl (cyZ, 144, .inl (u.2.2.1 3))), (mtall, .inl (cyI, 49152, .inl (u.2.2.1 4))), (mweights, .inl (cyI, 4096, .inl (u.2.2.1 5)))]) args s 0 0) [(mop, .inl (cyI, 2200, .inl m_op)), (marg, .inl (cyI, 2200, .inl m_arg)), (mfacts, .inl (cyI, 8, .inl g4_mfacts)), (mpile, .inl (cyI, 1100, .inl g4_mpile)), (mthr, .inl (cyZ, 144, .inl g6_mthr)), (mmays, .inl (cyZ, 144, .inl g4_mmays)), (mtall, .inl (cyI, 49152, .inl g9_mtall)), (mweights, .inl (cyI, 4096, .inl g9_mweights)), (m0, .inr (11, [.int m_thrown, .ref mtape, .int m_taped, .int m_size, .ref msort, .ref mplace, .ref mvalue, .int m_at, .int m_fault, .ref mwords, .ref mtold, .ref mop, .ref marg, .int m_codes, .ref mnames, .ref mhasHabit, .int 0, .ref mfactWords, .ref mfacts, .ref mpile, .ref mstates, .ref misMarked, .int m_inShelf, .int m_inStack, .int m_inPlace, .ref mrow, .int m_rowMany, .ref mthr, .ref mmays, .ref mtall, .ref mweights, .ref mrowOfWare, .ref mneededOf, .int m_goShelf, .int m_goStack, .int m_goLeft, .ref mtried, .ref mbestRow, .int m_bestCost, .int m_bestMany, .int m_bestShelf, .int m_bestSet, .ref mdigits])), (mtold, .inl (cyI, 240, .inl m_told))] 207 [(2, .int x9_2), (1, .int (u_2.2.1 0)), (0, .ref m0)] [] := by
                  intro k_9
                  induction k_9 with
                  | zero =>
                    intro x9_2 g9_mtall g9_mweights hi_9_0 hi_9_1 hq_9_0 hm_9
                    exact absurd hm_9 (Nat.not_lt_zero _)
                  | succ k_9 ih_9 =>
                    intro x9_2 g9_mtall g9_mweights hi_9_0 hi_9_1 hq_9_0 hm_9
                    refine j_iload_n (pc := 207) C dX11_find_207 rfl 0 rfl ?_
                    refine j_iconst (pc := 208) (v := 1) C dX11_find_208 (by decide) ?_
                    refine j_iload_n (pc := 209) C dX11_find_209 rfl 1 rfl ?_
                    obtain ⟨v_10, ev_10⟩ : ∃ z : Int32, 1 <<< ((u_2.2.1 0) &&& 31) = z := ⟨_, rfl⟩
                    have el_1 : (1 : Int32).toInt = 1 := rfl
                    have hv_10 : 1 ≤ v_10.toInt ∧ v_10.toInt ≤ 4096 := by rw [← ev_10]; exact shl1_iv 0 12 (by omega) (by omega) (by omega)
                    refine j_ishl (pc := 210) (v := v_10) C dX11_find_210 ev_10 ?_
                    refine j_icmp_ge (pc := 211) (tgt := 225) C dX11_find_211 (by decide) (fun c_11 => ?_) (fun c_11 => ?_)
                    · skip
                      rw [i_le] at c_11
                      have el_0 : (0 : Int32).toInt = 0 := rfl
                      have el_0 : (0 : Int32).toInt = 0 := rfl
                      exact j_vret (pc := 225) C hr hk (fun i => [].getD i 0, fun i => [0].getD i 0, fun i => [g4_mfacts, g4_mpile, g6_mthr, g4_mmays, g9_mtall, g9_mweights].getD i (fun _ => 0), fun i => [].getD i (fun _ => 0)) rfl (show (0 ≤ ((0 : Int32)).toInt ∧ ((0 : Int32)).toInt ≤ 0) ∧ (Iv 49152 (0) (100000000) g9_mtall) ∧ (TALL m_told g4_mmays g9_mtall) from ⟨by omega, hi_9_1, (fun x x0 x1 => hq_9_0 x x0 (by have h8 := shl1_I (y := (u_2.2.1 0)) (by omega) (by omega); rw [ev_10] at h8; rw [← hw_3_1] at x1; omega))⟩) [8, 9, 0, 1, 2, 3, 4, 5, 6, 7] (by decide) rfl (by decide) (by decide) dX11_find_225
                    · skip
                      rw [i_le] at c_11
                      refine j_aload_n (pc := 214) C dX11_find_214 rfl 2 rfl ?_
                      refine j_iload_n (pc := 215) C dX11_find_215 rfl 0 rfl ?_
                      refine j_callV (pc := 216) (As := [.int x9_2]) (rest := []) (wr := [(mop, .inl (cyI, 2200, .inl m_op)), (marg, .inl (cyI, 2200, .inl m_arg)), (mfacts, .inl (cyI, 8, .inl g4_mfacts)), (mpile, .inl (cyI, 1100, .inl g4_mpile)), (mthr, .inl (cyZ, 144, .inl g6_mthr))]) C (c_X11_findTall l D cyC cyI cyJ cyZ cyO m0 mtold mmays mtall mweights mtape msort mplace mvalue mwords mop marg mnames mhasHabit mfactWords mfacts mpile mstates misMarked mrow mthr mrowOfWare mneededOf mtried mbestRow mdigits x9_2 m_thrown m_taped m_size m_at m_fault m_codes 0 m_inShelf m_inStack m_inPlace m_rowMany m_goShelf m_goStack m_goLeft m_bestCost m_bestMany m_bestShelf m_bestSet m_told g4_mmays g9_mtall g9_mweights h_m_taped h_m_size h_m_at h_m_fault h_m_codes (by decide) h_m_inShelf h_m_inStack h_m_inPlace h_m_rowMany h_m_goShelf h_m_bestMany h_m_bestShelf (by omega) h_m_told hi_9_1) wd_908 wd_624 wd_909 wd_910 wd_911 ⟨by decide, by decide, rfl⟩ rfl ⟨rfl, rfl, by decide, by decide⟩ ⟨by decide, by decide⟩ [8, 9, 5, 6, 7] [0, 1, 2, 3, 4] rfl rfl ⟨by decide, by decide, by decide⟩ 8 rfl rfl rfl (Nat.le_of_ble_eq_true rfl) dX11_find_216 (fun u_12 hw_13 => ?_)
                      refine j_eq (ws2 := [(mop, .inl (cyI, 2200, .inl m_op)), (marg, .inl (cyI, 2200, .inl m_arg)), (mfacts, .inl (cyI, 8, .inl g4_mfacts)), (mpile, .inl (cyI, 1100, .inl g4_mpile)), (mthr, .inl (cyZ, 144, .inl g6_mthr)), (m0, .inr (11, [.int m_thrown, .ref mtape, .int m_taped, .int m_size, .ref msort, .ref mplace, .ref mvalue, .int m_at, .int m_fault, .ref mwords, .ref mtold, .ref mop, .ref marg, .int m_codes, .ref mnames, .ref mhasHabit, .int 0, .ref mfactWords, .ref mfacts, .ref mpile, .ref mstates, .ref misMarked, .int m_inShelf, .int m_inStack, .int m_inPlace, .ref mrow, .int m_rowMany, .ref mthr, .ref mmays, .ref mtall, .ref mweights, .ref mrowOfWare, .ref mneededOf, .int m_goShelf, .int m_goStack, .int m_goLeft, .ref mtried, .ref mbestRow, .int m_bestCost, .int m_bestMany, .int m_bestShelf, .int m_bestSet, .ref mdigits])), (mtold, .inl (cyI, 240, .inl m_told)), (mmays, .inl (cyZ, 144, .inl g4_mmays)), (mtall, .inl (cyI, 49152, .inl (u_12.2.2.1 0))), (mweights, .inl (cyI, 4096, .inl (u_12.2.2.1 1)))]) (pc2 := 219) (lv2 := [(2, .int x9_2), (1, .int (u_2.2.1 0)), (0, .ref m0)]) (st2 := []) rfl rfl rfl rfl ?_
                      obtain ⟨hw_13_0, hw_13_1, hw_13_2⟩ := hw_13
                      obtain ⟨v_14, ev_14⟩ : ∃ z : Int32, x9_2 + 1 = z := ⟨_, rfl⟩
                      have el_1 : (1 : Int32).toInt = 1 := rfl
                      have hv_14 : v_14.toInt = x9_2.toInt + (1 : Int32).toInt := by rw [← ev_14]; exact fb_addI (by omega) (by omega)
                      refine j_iinc (pc := 219) (v := v_14) (lv' := [(2, .int v_14), (1, .int (u_2.2.1 0)), (0, .ref m0)]) C dX11_find_219 0 rfl ev_14 (by decide) rfl ?_
                      refine j_goto (pc := 222) (tgt := 207) C dX11_find_222 (by decide) ?_
                      refine j_subG (ws' := [(mop, .inl (cyI, 2200, .inl m_op)), (marg, .inl (cyI, 2200, .inl m_arg)), (mfacts, .inl (cyI, 8, .inl g4_mfacts)), (mpile, .inl (cyI, 1100, .inl g4_mpile)), (mthr, .inl (cyZ, 144, .inl g6_mthr)), (mmays, .inl (cyZ, 144, .inl g4_mmays)), (mtall, .inl (cyI, 49152, .inl (u_12.2.2.1 0))), (mweights, .inl (cyI, 4096, .inl (u_12.2.2.1 1))), (m0, .inr (11, [.int m_thrown, .ref mtape, .int m_taped, .int m_size, .ref msort, .ref mplace, .ref mvalue, .int m_at, .int m_fault, .ref mwords, .ref mtold, .ref mop, .ref marg, .int m_codes, .ref mnames, .ref mhasHabit, .int 0, .ref mfactWords, .ref mfacts, .ref mpile, .ref mstates, .ref misMarked, .int m_inShelf, .int m_inStack, .int m_inPlace, .ref mrow, .int m_rowMany, .ref mthr, .ref mmays, .ref mtall, .ref mweights, .ref mrowOfWare, .ref mneededOf, .int m_goShelf, .int m_goStack, .int m_goLeft, .ref mtried, .ref mbestRow, .int m_bestCost, .int m_bestMany, .int m_bestShelf, .int m_bestSet, .ref mdigits])), (mtold, .inl (cyI, 240, .inl m_told))]) [0, 1, 2, 3, 4, 7, 8, 9, 5, 6] (by decide) rfl ?_
                      exact j_lv [0, 1, 2] rfl (ih_9 v_14 (u_12.2.2.1 0) (u_12.2.2.1 1) (by omega) hw_13_0 (fun x x0 x1 => by rcases Int.lt_or_le x.toInt (x9_2).toInt with q | q; (exact TS.fr (hq_9_0 x x0 q) (h_m_told 0 (by decide)).2 (by omega) (fun j hj => hw_13_1 j (by omega))); (have ex : x = x9_2 := (i_eq _ _).mpr (by omega); rw [ex]; exact hw_13_2)) (by omega))
                have el_1 : (1 : Int32).toInt = 1 := rfl
                exact j_lv [0, 1, 2] rfl (loop_9 5000 1 m_tall f_8 (by decide) h_m_tall (fun x x0 x1 => absurd x1 (by omega)) (by omega))
              · skip
                rw [i_le] at c_7
                refine j_iconst (pc := 103) (v := 0) C dX11_find_103 (by decide) ?_
                refine j_istore_n (pc := 104) (lv' := [(3, .int 0), (2, .int x6_2), (1, .int (u_2.2.1 0)), (0, .ref m0)]) C dX11_find_104 rfl (by decide) rfl ?_
                have loop_15 : ∀ (k_15 : Nat) (x15_3 : Int32) (g15_mthr : Nat → Int32), (0 ≤ (x15_3).toInt ∧ (x15_3).toInt ≤ 12) → (12 - x15_3.toInt).toNat < k_15 → J p l e ({ frames := 4, cells := 0, slots := 0, locals := 93 } : Room) s m args below meth c D A 5 0 0 (QX below D (TY cyC cyI cyJ cyZ cyO) A (fun u => none) (fun u => (0 ≤ (u.2.1 0).toInt ∧ (u.2.1 0).toInt ≤ 0) ∧ (Iv 49152 (0) (100000000) (u.2.2.1 4)) ∧ (TALL m_told (u.2.2.1 3) (u.2.2.1 4))) (fun u => [(m0, .inr (11, [.int m_thrown, .ref mtape, .int m_taped, .int m_size, .ref msort, .ref mplace, .ref mvalue, .int m_at, .int m_fault, .ref mwords, .ref mtold, .ref mop, .ref marg, .int m_codes, .ref mnames, .ref mhasHabit, .int (u.2.1 0), .ref mfactWords, .ref mfacts, .ref mpile, .ref mstates, .ref misMarked, .int m_inShelf, .int m_inStack, .int m_inPlace, .ref mrow, .int m_rowMany, .ref mthr, .ref mmays, .ref mtall, .ref mweights, .ref mrowOfWare, .ref mneededOf, .int m_goShelf, .int m_goStack, .int m_goLeft, .ref mtried, .ref mbestRow, .int m_bestCost, .int m_bestMany, .int m_bestShelf, .int m_bestSet, .ref mdigits])), (mtold, .inl (cyI, 240, .inl m_told)), (mop, .inl (cyI, 2200, .inl m_op)), (marg, .inl (cyI, 2200, .inl m_arg)), (mfacts, .inl (cyI, 8, .inl (u.2.2.1 0))), (mpile, .inl (cyI, 1100, .inl (u.2.2.1 1))), (mthr, .inl (cyZ, 144, .inl (u.2.2.1 2))), (mmays, .inl (cyZ, 144, .inl (u.2.2.1 3))), (mtall, .inl (cyI, 49152, .inl (u.2.2.1 4))), (mweights, .inl (cyI, 4096, .inl (u.2.2.1 5)))]) args s 0 0) [(mop, .inl (cyI, 2200, .inl m_op)), (marg, .inl (cyI, 2200, .inl m_arg)), (mfacts, .inl (cyI, 8, .inl g4_mfacts)), (mpile, .inl (cyI, 1100, .inl g4_mpile)), (mthr, .inl (cyZ, 144, .inl g15_mthr)), (mmays, .inl (cyZ, 144, .inl g4_mmays)), (mtall, .inl (cyI, 49152, .inl m_tall)), (mweights, .inl (cyI, 4096, .inl m_weights)), (m0, .inr (11, [.int m_thrown, .ref mtape, .int m_taped, .int m_size, .ref msort, .ref mplace, .ref mvalue, .int m_at, .int m_fault, .ref mwords, .ref mtold, .ref mop, .ref marg, .int m_codes, .ref mnames, .ref mhasHabit, .int 0, .ref mfactWords, .ref mfacts, .ref mpile, .ref mstates, .ref misMarked, .int m_inShelf, .int m_inStack, .int m_inPlace, .ref mrow, .int m_rowMany, .ref mthr, .ref mmays, .ref mtall, .ref mweights, .ref mrowOfWare, .ref mneededOf, .int m_goShelf, .int m_goStack, .int m_goLeft, .ref mtried, .ref mbestRow, .int m_bestCost, .int m_bestMany, .int m_bestShelf, .int m_bestSet, .ref mdigits])), (mtold, .inl (cyI, 240, .inl m_told))] 105 [(3, .int x15_3), (2, .int x6_2), (1, .int (u_2.2.1 0)), (0, .ref m0)] [] := by
                  intro k_15
                  induction k_15 with
                  | zero =>
                    intro x15_3 g15_mthr hi_15_0 hm_15
                    exact absurd hm_15 (Nat.not_lt_zero _)
                  | succ k_15 ih_15 =>
                    intro x15_3 g15_mthr hi_15_0 hm_15
                    refine j_iload_n (pc := 105) C dX11_find_105 rfl 0 rfl ?_
                    refine j_iload_n (pc := 106) C dX11_find_106 rfl 2 rfl ?_
                    refine j_icmp_ge (pc := 107) (tgt := 192) C dX11_find_107 (by decide) (fun c_16 => ?_) (fun c_16 => ?_)
                    · skip
                      rw [i_le] at c_16
                      obtain ⟨v_17, ev_17⟩ : ∃ z : Int32, x6_2 + 1 = z := ⟨_, rfl⟩
                      have el_1 : (1 : Int32).toInt = 1 := rfl
                      have hv_17 : v_17.toInt = x6_2.toInt + (1 : Int32).toInt := by rw [← ev_17]; exact fb_addI (by omega) (by omega)
                      refine j_iinc (pc := 192) (v := v_17) (lv' := [(2, .int v_17), (3, .int x15_3), (1, .int (u_2.2.1 0)), (0, .ref m0)]) C dX11_find_192 1 rfl ev_17 (by decide) rfl ?_
                      refine j_goto (pc := 195) (tgt := 98) C dX11_find_195 (by decide) ?_
                      exact j_lv [0, 2, 3] rfl (ih_6 v_17 g15_mthr (by omega) (by omega))
                    · skip
                      rw [i_le] at c_16
                      refine j_iconst (pc := 110) (v := 0) C dX11_find_110 (by decide) ?_
                      refine j_istore (pc := 111) (lv' := [(4, .int 0), (3, .int x15_3), (2, .int x6_2), (1, .int (u_2.2.1 0)), (0, .ref m0)]) C dX11_find_111 (by decide) rfl ?_
                      have loop_18 : ∀ (k_18 : Nat) (x18_4 : Int32) (g18_mthr : Nat → Int32), (0 ≤ (x18_4).toInt ∧ (x18_4).toInt ≤ 12) → (12 - x18_4.toInt).toNat < k_18 → J p l e ({ frames := 4, cells := 0, slots := 0, locals := 93 } : Room) s m args below meth c D A 5 0 0 (QX below D (TY cyC cyI cyJ cyZ cyO) A (fun u => none) (fun u => (0 ≤ (u.2.1 0).toInt ∧ (u.2.1 0).toInt ≤ 0) ∧ (Iv 49152 (0) (100000000) (u.2.2.1 4)) ∧ (TALL m_told (u.2.2.1 3) (u.2.2.1 4))) (fun u => [(m0, .inr (11, [.int m_thrown, .ref mtape, .int m_taped, .int m_size, .ref msort, .ref mplace, .ref mvalue, .int m_at, .int m_fault, .ref mwords, .ref mtold, .ref mop, .ref marg, .int m_codes, .ref mnames, .ref mhasHabit, .int (u.2.1 0), .ref mfactWords, .ref mfacts, .ref mpile, .ref mstates, .ref misMarked, .int m_inShelf, .int m_inStack, .int m_inPlace, .ref mrow, .int m_rowMany, .ref mthr, .ref mmays, .ref mtall, .ref mweights, .ref mrowOfWare, .ref mneededOf, .int m_goShelf, .int m_goStack, .int m_goLeft, .ref mtried, .ref mbestRow, .int m_bestCost, .int m_bestMany, .int m_bestShelf, .int m_bestSet, .ref mdigits])), (mtold, .inl (cyI, 240, .inl m_told)), (mop, .inl (cyI, 2200, .inl m_op)), (marg, .inl (cyI, 2200, .inl m_arg)), (mfacts, .inl (cyI, 8, .inl (u.2.2.1 0))), (mpile, .inl (cyI, 1100, .inl (u.2.2.1 1))), (mthr, .inl (cyZ, 144, .inl (u.2.2.1 2))), (mmays, .inl (cyZ, 144, .inl (u.2.2.1 3))), (mtall, .inl (cyI, 49152, .inl (u.2.2.1 4))), (mweights, .inl (cyI, 4096, .inl (u.2.2.1 5)))]) args s 0 0) [(mop, .inl (cyI, 2200, .inl m_op)), (marg, .inl (cyI, 2200, .inl m_arg)), (mfacts, .inl (cyI, 8, .inl g4_mfacts)), (mpile, .inl (cyI, 1100, .inl g4_mpile)), (mthr, .inl (cyZ, 144, .inl g18_mthr)), (mmays, .inl (cyZ, 144, .inl g4_mmays)), (mtall, .inl (cyI, 49152, .inl m_tall)), (mweights, .inl (cyI, 4096, .inl m_weights)), (m0, .inr (11, [.int m_thrown, .ref mtape, .int m_taped, .int m_size, .ref msort, .ref mplace, .ref mvalue, .int m_at, .int m_fault, .ref mwords, .ref mtold, .ref mop, .ref marg, .int m_codes, .ref mnames, .ref mhasHabit, .int 0, .ref mfactWords, .ref mfacts, .ref mpile, .ref mstates, .ref misMarked, .int m_inShelf, .int m_inStack, .int m_inPlace, .ref mrow, .int m_rowMany, .ref mthr, .ref mmays, .ref mtall, .ref mweights, .ref mrowOfWare, .ref mneededOf, .int m_goShelf, .int m_goStack, .int m_goLeft, .ref mtried, .ref mbestRow, .int m_bestCost, .int m_bestMany, .int m_bestShelf, .int m_bestSet, .ref mdigits])), (mtold, .inl (cyI, 240, .inl m_told))] 113 [(4, .int x18_4), (3, .int x15_3), (2, .int x6_2), (1, .int (u_2.2.1 0)), (0, .ref m0)] [] := by
                        intro k_18
                        induction k_18 with
                        | zero =>
                          intro x18_4 g18_mthr hi_18_0 hm_18
                          exact absurd hm_18 (Nat.not_lt_zero _)
                        | succ k_18 ih_18 =>
                          intro x18_4 g18_mthr hi_18_0 hm_18
                          refine j_iload (pc := 113) C dX11_find_113 0 rfl ?_
                          refine j_iload_n (pc := 115) C dX11_find_115 rfl 3 rfl ?_
                          refine j_icmp_ge (pc := 116) (tgt := 186) C dX11_find_116 (by decide) (fun c_19 => ?_) (fun c_19 => ?_)
                          · skip
                            rw [i_le] at c_19
                            obtain ⟨v_20, ev_20⟩ : ∃ z : Int32, x15_3 + 1 = z := ⟨_, rfl⟩
                            have el_1 : (1 : Int32).toInt = 1 := rfl
                            have hv_20 : v_20.toInt = x15_3.toInt + (1 : Int32).toInt := by rw [← ev_20]; exact fb_addI (by omega) (by omega)
                            refine j_iinc (pc := 186) (v := v_20) (lv' := [(3, .int v_20), (4, .int x18_4), (2, .int x6_2), (1, .int (u_2.2.1 0)), (0, .ref m0)]) C dX11_find_186 1 rfl ev_20 (by decide) rfl ?_
                            refine j_goto (pc := 189) (tgt := 105) C dX11_find_189 (by decide) ?_
                            exact j_lv [0, 2, 3, 4] rfl (ih_15 v_20 g18_mthr (by omega) (by omega))
                          · skip
                            rw [i_le] at c_19
                            refine j_aload_n (pc := 119) C dX11_find_119 rfl 4 rfl ?_
                            refine j_get (pc := 120) (ci := 11) (v := .ref mthr) C inw_11 8 rfl rfl 27 (by decide) wd_907 rfl rfl dX11_find_120 ?_
                            refine j_bipush (pc := 123) (v := 12) C dX11_find_123 (by decide) ?_
                            refine j_iload_n (pc := 125) C dX11_find_125 rfl 1 rfl ?_
                            obtain ⟨v_21, ev_21⟩ : ∃ z : Int32, 12 * x15_3 = z := ⟨_, rfl⟩
                            have el_12 : (12 : Int32).toInt = 12 := rfl
                            have hv_21 : v_21.toInt = 12 * x15_3.toInt := by rw [← ev_21]; exact mulL (c := 12) rfl (by omega) (by omega)
                            refine j_imul (pc := 126) (v := v_21) C dX11_find_126 ev_21 ?_
                            refine j_iload (pc := 127) C dX11_find_127 0 rfl ?_
                            obtain ⟨v_22, ev_22⟩ : ∃ z : Int32, v_21 + x18_4 = z := ⟨_, rfl⟩
                            have hv_22 : v_22.toInt = v_21.toInt + x18_4.toInt := by rw [← ev_22]; exact fb_addI (by omega) (by omega)
                            refine j_iadd (pc := 129) (v := v_22) C dX11_find_129 ev_22 ?_
                            refine j_aload_n (pc := 130) C dX11_find_130 rfl 4 rfl ?_
                            refine j_get (pc := 131) (ci := 11) (v := .ref mthr) C inw_11 8 rfl rfl 27 (by decide) wd_907 rfl rfl dX11_find_131 ?_
                            refine j_bipush (pc := 134) (v := 12) C dX11_find_134 (by decide) ?_
                            refine j_iload_n (pc := 136) C dX11_find_136 rfl 1 rfl ?_
                            obtain ⟨v_23, ev_23⟩ : ∃ z : Int32, 12 * x15_3 = z := ⟨_, rfl⟩
                            have el_12 : (12 : Int32).toInt = 12 := rfl
                            have hv_23 : v_23.toInt = 12 * x15_3.toInt := by rw [← ev_23]; exact mulL (c := 12) rfl (by omega) (by omega)
                            refine j_imul (pc := 137) (v := v_23) C dX11_find_137 ev_23 ?_
                            refine j_iload (pc := 138) C dX11_find_138 0 rfl ?_
                            obtain ⟨v_24, ev_24⟩ : ∃ z : Int32, v_23 + x18_4 = z := ⟨_, rfl⟩
                            have hv_24 : v_24.toInt = v_23.toInt + x18_4.toInt := by rw [← ev_24]; exact fb_addI (by omega) (by omega)
                            refine j_iadd (pc := 140) (v := v_24) C dX11_find_140 ev_24 ?_
                            obtain ⟨v_25, ev_25⟩ : ∃ z, g18_mthr (v_24).toInt.toNat = z := ⟨_, rfl⟩
                            have env_25 : (g18_mthr (v_24).toInt.toNat).toInt = v_25.toInt := by rw [ev_25]
                            refine j_zald (pc := 141) (v := v_25) (k := (v_24).toInt.toNat) C 4 3 rfl rfl (i_nn (by omega)) rfl (i_lt_n (by omega) (by omega)) ev_25 dX11_find_141 ?_
                            refine j_if_ne (pc := 142) (tgt := 174) C dX11_find_142 (by decide) (fun c_26 => ?_) (fun c_26 => ?_)
                            · skip
                              have el_0 : (0 : Int32).toInt = 0 := rfl
                              rw [i_eq] at c_26
                              refine j_iconst (pc := 174) (v := 1) C dX11_find_174 (by decide) ?_
                              refine j_goto (pc := 175) (tgt := 179) C dX11_find_175 (by decide) ?_
                              obtain ⟨f_27, ef_27⟩ : ∃ z, z = upd g18_mthr (v_22).toInt.toNat (vp_nar .boolean 1) := ⟨_, rfl⟩
                              refine j_zast (pc := 179) (k := (v_22).toInt.toNat) (ws' := [(mop, .inl (cyI, 2200, .inl m_op)), (marg, .inl (cyI, 2200, .inl m_arg)), (mfacts, .inl (cyI, 8, .inl g4_mfacts)), (mpile, .inl (cyI, 1100, .inl g4_mpile)), (mthr, .inl (cyZ, 144, .inl f_27)), (mmays, .inl (cyZ, 144, .inl g4_mmays)), (mtall, .inl (cyI, 49152, .inl m_tall)), (mweights, .inl (cyI, 4096, .inl m_weights)), (m0, .inr (11, [.int m_thrown, .ref mtape, .int m_taped, .int m_size, .ref msort, .ref mplace, .ref mvalue, .int m_at, .int m_fault, .ref mwords, .ref mtold, .ref mop, .ref marg, .int m_codes, .ref mnames, .ref mhasHabit, .int 0, .ref mfactWords, .ref mfacts, .ref mpile, .ref mstates, .ref misMarked, .int m_inShelf, .int m_inStack, .int m_inPlace, .ref mrow, .int m_rowMany, .ref mthr, .ref mmays, .ref mtall, .ref mweights, .ref mrowOfWare, .ref mneededOf, .int m_goShelf, .int m_goStack, .int m_goLeft, .ref mtried, .ref mbestRow, .int m_bestCost, .int m_bestMany, .int m_bestShelf, .int m_bestSet, .ref mdigits])), (mtold, .inl (cyI, 240, .inl m_told))]) C 4 3 rfl rfl (i_nn (by omega)) rfl (i_lt_n (by omega) (by omega)) dX11_find_179 (by rw [ef_27]; rfl) ?_
                              obtain ⟨v_28, ev_28⟩ : ∃ z : Int32, x18_4 + 1 = z := ⟨_, rfl⟩
                              have el_1 : (1 : Int32).toInt = 1 := rfl
                              have hv_28 : v_28.toInt = x18_4.toInt + (1 : Int32).toInt := by rw [← ev_28]; exact fb_addI (by omega) (by omega)
                              refine j_iinc (pc := 180) (v := v_28) (lv' := [(4, .int v_28), (3, .int x15_3), (2, .int x6_2), (1, .int (u_2.2.1 0)), (0, .ref m0)]) C dX11_find_180 0 rfl ev_28 (by decide) rfl ?_
                              refine j_goto (pc := 183) (tgt := 113) C dX11_find_183 (by decide) ?_
                              exact j_lv [0, 1, 2, 3, 4] rfl (ih_18 v_28 f_27 (by omega) (by omega))
                            · skip
                              have el_0 : (0 : Int32).toInt = 0 := rfl
                              rw [i_eq] at c_26
                              refine j_aload_n (pc := 145) C dX11_find_145 rfl 4 rfl ?_
                              refine j_get (pc := 146) (ci := 11) (v := .ref mthr) C inw_11 8 rfl rfl 27 (by decide) wd_907 rfl rfl dX11_find_146 ?_
                              refine j_bipush (pc := 149) (v := 12) C dX11_find_149 (by decide) ?_
                              refine j_iload_n (pc := 151) C dX11_find_151 rfl 1 rfl ?_
                              obtain ⟨v_29, ev_29⟩ : ∃ z : Int32, 12 * x15_3 = z := ⟨_, rfl⟩
                              have el_12 : (12 : Int32).toInt = 12 := rfl
                              have hv_29 : v_29.toInt = 12 * x15_3.toInt := by rw [← ev_29]; exact mulL (c := 12) rfl (by omega) (by omega)
                              refine j_imul (pc := 152) (v := v_29) C dX11_find_152 ev_29 ?_
                              refine j_iload_n (pc := 153) C dX11_find_153 rfl 2 rfl ?_
                              obtain ⟨v_30, ev_30⟩ : ∃ z : Int32, v_29 + x6_2 = z := ⟨_, rfl⟩
                              have hv_30 : v_30.toInt = v_29.toInt + x6_2.toInt := by rw [← ev_30]; exact fb_addI (by omega) (by omega)
                              refine j_iadd (pc := 154) (v := v_30) C dX11_find_154 ev_30 ?_
                              obtain ⟨v_31, ev_31⟩ : ∃ z, g18_mthr (v_30).toInt.toNat = z := ⟨_, rfl⟩
                              have env_31 : (g18_mthr (v_30).toInt.toNat).toInt = v_31.toInt := by rw [ev_31]
                              refine j_zald (pc := 155) (v := v_31) (k := (v_30).toInt.toNat) C 4 3 rfl rfl (i_nn (by omega)) rfl (i_lt_n (by omega) (by omega)) ev_31 dX11_find_155 ?_
                              refine j_if_eq (pc := 156) (tgt := 178) C dX11_find_156 (by decide) (fun c_32 => ?_) (fun c_32 => ?_)
                              · skip
                                have el_0 : (0 : Int32).toInt = 0 := rfl
                                rw [i_eq] at c_32
                                refine j_iconst (pc := 178) (v := 0) C dX11_find_178 (by decide) ?_
                                obtain ⟨f_33, ef_33⟩ : ∃ z, z = upd g18_mthr (v_22).toInt.toNat (vp_nar .boolean 0) := ⟨_, rfl⟩
                                refine j_zast (pc := 179) (k := (v_22).toInt.toNat) (ws' := [(mop, .inl (cyI, 2200, .inl m_op)), (marg, .inl (cyI, 2200, .inl m_arg)), (mfacts, .inl (cyI, 8, .inl g4_mfacts)), (mpile, .inl (cyI, 1100, .inl g4_mpile)), (mthr, .inl (cyZ, 144, .inl f_33)), (mmays, .inl (cyZ, 144, .inl g4_mmays)), (mtall, .inl (cyI, 49152, .inl m_tall)), (mweights, .inl (cyI, 4096, .inl m_weights)), (m0, .inr (11, [.int m_thrown, .ref mtape, .int m_taped, .int m_size, .ref msort, .ref mplace, .ref mvalue, .int m_at, .int m_fault, .ref mwords, .ref mtold, .ref mop, .ref marg, .int m_codes, .ref mnames, .ref mhasHabit, .int 0, .ref mfactWords, .ref mfacts, .ref mpile, .ref mstates, .ref misMarked, .int m_inShelf, .int m_inStack, .int m_inPlace, .ref mrow, .int m_rowMany, .ref mthr, .ref mmays, .ref mtall, .ref mweights, .ref mrowOfWare, .ref mneededOf, .int m_goShelf, .int m_goStack, .int m_goLeft, .ref mtried, .ref mbestRow, .int m_bestCost, .int m_bestMany, .int m_bestShelf, .int m_bestSet, .ref mdigits])), (mtold, .inl (cyI, 240, .inl m_told))]) C 4 3 rfl rfl (i_nn (by omega)) rfl (i_lt_n (by omega) (by omega)) dX11_find_179 (by rw [ef_33]; rfl) ?_
                                obtain ⟨v_34, ev_34⟩ : ∃ z : Int32, x18_4 + 1 = z := ⟨_, rfl⟩
                                have el_1 : (1 : Int32).toInt = 1 := rfl
                                have hv_34 : v_34.toInt = x18_4.toInt + (1 : Int32).toInt := by rw [← ev_34]; exact fb_addI (by omega) (by omega)
                                refine j_iinc (pc := 180) (v := v_34) (lv' := [(4, .int v_34), (3, .int x15_3), (2, .int x6_2), (1, .int (u_2.2.1 0)), (0, .ref m0)]) C dX11_find_180 0 rfl ev_34 (by decide) rfl ?_
                                refine j_goto (pc := 183) (tgt := 113) C dX11_find_183 (by decide) ?_
                                exact j_lv [0, 1, 2, 3, 4] rfl (ih_18 v_34 f_33 (by omega) (by omega))
                              · skip
                                have el_0 : (0 : Int32).toInt = 0 := rfl
                                rw [i_eq] at c_32
                                refine j_aload_n (pc := 159) C dX11_find_159 rfl 4 rfl ?_
                                refine j_get (pc := 160) (ci := 11) (v := .ref mthr) C inw_11 8 rfl rfl 27 (by decide) wd_907 rfl rfl dX11_find_160 ?_
                                refine j_bipush (pc := 163) (v := 12) C dX11_find_163 (by decide) ?_
                                refine j_iload_n (pc := 165) C dX11_find_165 rfl 2 rfl ?_
                                obtain ⟨v_35, ev_35⟩ : ∃ z : Int32, 12 * x6_2 = z := ⟨_, rfl⟩
                                have el_12 : (12 : Int32).toInt = 12 := rfl
                                have hv_35 : v_35.toInt = 12 * x6_2.toInt := by rw [← ev_35]; exact mulL (c := 12) rfl (by omega) (by omega)
                                refine j_imul (pc := 166) (v := v_35) C dX11_find_166 ev_35 ?_
                                refine j_iload (pc := 167) C dX11_find_167 0 rfl ?_
                                obtain ⟨v_36, ev_36⟩ : ∃ z : Int32, v_35 + x18_4 = z := ⟨_, rfl⟩
                                have hv_36 : v_36.toInt = v_35.toInt + x18_4.toInt := by rw [← ev_36]; exact fb_addI (by omega) (by omega)
                                refine j_iadd (pc := 169) (v := v_36) C dX11_find_169 ev_36 ?_
                                obtain ⟨v_37, ev_37⟩ : ∃ z, g18_mthr (v_36).toInt.toNat = z := ⟨_, rfl⟩
                                have env_37 : (g18_mthr (v_36).toInt.toNat).toInt = v_37.toInt := by rw [ev_37]
                                refine j_zald (pc := 170) (v := v_37) (k := (v_36).toInt.toNat) C 4 3 rfl rfl (i_nn (by omega)) rfl (i_lt_n (by omega) (by omega)) ev_37 dX11_find_170 ?_
                                refine j_if_eq (pc := 171) (tgt := 178) C dX11_find_171 (by decide) (fun c_38 => ?_) (fun c_38 => ?_)
                                · skip
                                  have el_0 : (0 : Int32).toInt = 0 := rfl
                                  rw [i_eq] at c_38
                                  refine j_iconst (pc := 178) (v := 0) C dX11_find_178 (by decide) ?_
                                  obtain ⟨f_39, ef_39⟩ : ∃ z, z = upd g18_mthr (v_22).toInt.toNat (vp_nar .boolean 0) := ⟨_, rfl⟩
                                  refine j_zast (pc := 179) (k := (v_22).toInt.toNat) (ws' := [(mop, .inl (cyI, 2200, .inl m_op)), (marg, .inl (cyI, 2200, .inl m_arg)), (mfacts, .inl (cyI, 8, .inl g4_mfacts)), (mpile, .inl (cyI, 1100, .inl g4_mpile)), (mthr, .inl (cyZ, 144, .inl f_39)), (mmays, .inl (cyZ, 144, .inl g4_mmays)), (mtall, .inl (cyI, 49152, .inl m_tall)), (mweights, .inl (cyI, 4096, .inl m_weights)), (m0, .inr (11, [.int m_thrown, .ref mtape, .int m_taped, .int m_size, .ref msort, .ref mplace, .ref mvalue, .int m_at, .int m_fault, .ref mwords, .ref mtold, .ref mop, .ref marg, .int m_codes, .ref mnames, .ref mhasHabit, .int 0, .ref mfactWords, .ref mfacts, .ref mpile, .ref mstates, .ref misMarked, .int m_inShelf, .int m_inStack, .int m_inPlace, .ref mrow, .int m_rowMany, .ref mthr, .ref mmays, .ref mtall, .ref mweights, .ref mrowOfWare, .ref mneededOf, .int m_goShelf, .int m_goStack, .int m_goLeft, .ref mtried, .ref mbestRow, .int m_bestCost, .int m_bestMany, .int m_bestShelf, .int m_bestSet, .ref mdigits])), (mtold, .inl (cyI, 240, .inl m_told))]) C 4 3 rfl rfl (i_nn (by omega)) rfl (i_lt_n (by omega) (by omega)) dX11_find_179 (by rw [ef_39]; rfl) ?_
                                  obtain ⟨v_40, ev_40⟩ : ∃ z : Int32, x18_4 + 1 = z := ⟨_, rfl⟩
                                  have el_1 : (1 : Int32).toInt = 1 := rfl
                                  have hv_40 : v_40.toInt = x18_4.toInt + (1 : Int32).toInt := by rw [← ev_40]; exact fb_addI (by omega) (by omega)
                                  refine j_iinc (pc := 180) (v := v_40) (lv' := [(4, .int v_40), (3, .int x15_3), (2, .int x6_2), (1, .int (u_2.2.1 0)), (0, .ref m0)]) C dX11_find_180 0 rfl ev_40 (by decide) rfl ?_
                                  refine j_goto (pc := 183) (tgt := 113) C dX11_find_183 (by decide) ?_
                                  exact j_lv [0, 1, 2, 3, 4] rfl (ih_18 v_40 f_39 (by omega) (by omega))
                                · skip
                                  have el_0 : (0 : Int32).toInt = 0 := rfl
                                  rw [i_eq] at c_38
                                  refine j_iconst (pc := 174) (v := 1) C dX11_find_174 (by decide) ?_
                                  refine j_goto (pc := 175) (tgt := 179) C dX11_find_175 (by decide) ?_
                                  obtain ⟨f_41, ef_41⟩ : ∃ z, z = upd g18_mthr (v_22).toInt.toNat (vp_nar .boolean 1) := ⟨_, rfl⟩
                                  refine j_zast (pc := 179) (k := (v_22).toInt.toNat) (ws' := [(mop, .inl (cyI, 2200, .inl m_op)), (marg, .inl (cyI, 2200, .inl m_arg)), (mfacts, .inl (cyI, 8, .inl g4_mfacts)), (mpile, .inl (cyI, 1100, .inl g4_mpile)), (mthr, .inl (cyZ, 144, .inl f_41)), (mmays, .inl (cyZ, 144, .inl g4_mmays)), (mtall, .inl (cyI, 49152, .inl m_tall)), (mweights, .inl (cyI, 4096, .inl m_weights)), (m0, .inr (11, [.int m_thrown, .ref mtape, .int m_taped, .int m_size, .ref msort, .ref mplace, .ref mvalue, .int m_at, .int m_fault, .ref mwords, .ref mtold, .ref mop, .ref marg, .int m_codes, .ref mnames, .ref mhasHabit, .int 0, .ref mfactWords, .ref mfacts, .ref mpile, .ref mstates, .ref misMarked, .int m_inShelf, .int m_inStack, .int m_inPlace, .ref mrow, .int m_rowMany, .ref mthr, .ref mmays, .ref mtall, .ref mweights, .ref mrowOfWare, .ref mneededOf, .int m_goShelf, .int m_goStack, .int m_goLeft, .ref mtried, .ref mbestRow, .int m_bestCost, .int m_bestMany, .int m_bestShelf, .int m_bestSet, .ref mdigits])), (mtold, .inl (cyI, 240, .inl m_told))]) C 4 3 rfl rfl (i_nn (by omega)) rfl (i_lt_n (by omega) (by omega)) dX11_find_179 (by rw [ef_41]; rfl) ?_
                                  obtain ⟨v_42, ev_42⟩ : ∃ z : Int32, x18_4 + 1 = z := ⟨_, rfl⟩
                                  have el_1 : (1 : Int32).toInt = 1 := rfl
                                  have hv_42 : v_42.toInt = x18_4.toInt + (1 : Int32).toInt := by rw [← ev_42]; exact fb_addI (by omega) (by omega)
                                  refine j_iinc (pc := 180) (v := v_42) (lv' := [(4, .int v_42), (3, .int x15_3), (2, .int x6_2), (1, .int (u_2.2.1 0)), (0, .ref m0)]) C dX11_find_180 0 rfl ev_42 (by decide) rfl ?_
                                  refine j_goto (pc := 183) (tgt := 113) C dX11_find_183 (by decide) ?_
                                  exact j_lv [0, 1, 2, 3, 4] rfl (ih_18 v_42 f_41 (by omega) (by omega))
                      have el_0 : (0 : Int32).toInt = 0 := rfl
                      exact j_lv [0, 1, 2, 3, 4] rfl (loop_18 4096 0 g15_mthr (by decide) (by omega))
                have el_0 : (0 : Int32).toInt = 0 := rfl
                exact j_lv [0, 1, 2, 3] rfl (loop_15 4096 0 g6_mthr (by decide) (by omega))
          have el_0 : (0 : Int32).toInt = 0 := rfl
          exact j_lv [0, 1, 2] rfl (loop_6 4096 0 g4_mthr (by decide) (by omega))
        · skip
          rw [i_le] at c_5
          refine j_iconst (pc := 25) (v := 0) C dX11_find_25 (by decide) ?_
          refine j_istore_n (pc := 26) (lv' := [(3, .int 0), (2, .int x4_2), (1, .int (u_2.2.1 0)), (0, .ref m0)]) C dX11_find_26 rfl (by decide) rfl ?_
          have loop_43 : ∀ (k_43 : Nat) (x43_3 : Int32) (g43_mfacts : Nat → Int32) (g43_mpile : Nat → Int32) (g43_mthr : Nat → Int32) (g43_mmays : Nat → Int32), (0 ≤ (x43_3).toInt ∧ (x43_3).toInt ≤ 12) → (12 - x43_3.toInt).toNat < k_43 → J p l e ({ frames := 4, cells := 0, slots := 0, locals := 93 } : Room) s m args below meth c D A 5 0 0 (QX below D (TY cyC cyI cyJ cyZ cyO) A (fun u => none) (fun u => (0 ≤ (u.2.1 0).toInt ∧ (u.2.1 0).toInt ≤ 0) ∧ (Iv 49152 (0) (100000000) (u.2.2.1 4)) ∧ (TALL m_told (u.2.2.1 3) (u.2.2.1 4))) (fun u => [(m0, .inr (11, [.int m_thrown, .ref mtape, .int m_taped, .int m_size, .ref msort, .ref mplace, .ref mvalue, .int m_at, .int m_fault, .ref mwords, .ref mtold, .ref mop, .ref marg, .int m_codes, .ref mnames, .ref mhasHabit, .int (u.2.1 0), .ref mfactWords, .ref mfacts, .ref mpile, .ref mstates, .ref misMarked, .int m_inShelf, .int m_inStack, .int m_inPlace, .ref mrow, .int m_rowMany, .ref mthr, .ref mmays, .ref mtall, .ref mweights, .ref mrowOfWare, .ref mneededOf, .int m_goShelf, .int m_goStack, .int m_goLeft, .ref mtried, .ref mbestRow, .int m_bestCost, .int m_bestMany, .int m_bestShelf, .int m_bestSet, .ref mdigits])), (mtold, .inl (cyI, 240, .inl m_told)), (mop, .inl (cyI, 2200, .inl m_op)), (marg, .inl (cyI, 2200, .inl m_arg)), (mfacts, .inl (cyI, 8, .inl (u.2.2.1 0))), (mpile, .inl (cyI, 1100, .inl (u.2.2.1 1))), (mthr, .inl (cyZ, 144, .inl (u.2.2.1 2))), (mmays, .inl (cyZ, 144, .inl (u.2.2.1 3))), (mtall, .inl (cyI, 49152, .inl (u.2.2.1 4))), (mweights, .inl (cyI, 4096, .inl (u.2.2.1 5)))]) args s 0 0) [(mop, .inl (cyI, 2200, .inl m_op)), (marg, .inl (cyI, 2200, .inl m_arg)), (mfacts, .inl (cyI, 8, .inl g43_mfacts)), (mpile, .inl (cyI, 1100, .inl g43_mpile)), (mthr, .inl (cyZ, 144, .inl g43_mthr)), (mmays, .inl (cyZ, 144, .inl g43_mmays)), (mtall, .inl (cyI, 49152, .inl m_tall)), (mweights, .inl (cyI, 4096, .inl m_weights)), (m0, .inr (11, [.int m_thrown, .ref mtape, .int m_taped, .int m_size, .ref msort, .ref mplace, .ref mvalue, .int m_at, .int m_fault, .ref mwords, .ref mtold, .ref mop, .ref marg, .int m_codes, .ref mnames, .ref mhasHabit, .int 0, .ref mfactWords, .ref mfacts, .ref mpile, .ref mstates, .ref misMarked, .int m_inShelf, .int m_inStack, .int m_inPlace, .ref mrow, .int m_rowMany, .ref mthr, .ref mmays, .ref mtall, .ref mweights, .ref mrowOfWare, .ref mneededOf, .int m_goShelf, .int m_goStack, .int m_goLeft, .ref mtried, .ref mbestRow, .int m_bestCost, .int m_bestMany, .int m_bestShelf, .int m_bestSet, .ref mdigits])), (mtold, .inl (cyI, 240, .inl m_told))] 27 [(3, .int x43_3), (2, .int x4_2), (1, .int (u_2.2.1 0)), (0, .ref m0)] [] := by
            intro k_43
            induction k_43 with
            | zero =>
              intro x43_3 g43_mfacts g43_mpile g43_mthr g43_mmays hi_43_0 hm_43
              exact absurd hm_43 (Nat.not_lt_zero _)
            | succ k_43 ih_43 =>
              intro x43_3 g43_mfacts g43_mpile g43_mthr g43_mmays hi_43_0 hm_43
              refine j_iload_n (pc := 27) C dX11_find_27 rfl 0 rfl ?_
              refine j_iload_n (pc := 28) C dX11_find_28 rfl 2 rfl ?_
              refine j_icmp_ge (pc := 29) (tgt := 90) C dX11_find_29 (by decide) (fun c_44 => ?_) (fun c_44 => ?_)
              · skip
                rw [i_le] at c_44
                obtain ⟨v_45, ev_45⟩ : ∃ z : Int32, x4_2 + 1 = z := ⟨_, rfl⟩
                have el_1 : (1 : Int32).toInt = 1 := rfl
                have hv_45 : v_45.toInt = x4_2.toInt + (1 : Int32).toInt := by rw [← ev_45]; exact fb_addI (by omega) (by omega)
                refine j_iinc (pc := 90) (v := v_45) (lv' := [(2, .int v_45), (3, .int x43_3), (1, .int (u_2.2.1 0)), (0, .ref m0)]) C dX11_find_90 1 rfl ev_45 (by decide) rfl ?_
                refine j_goto (pc := 93) (tgt := 20) C dX11_find_93 (by decide) ?_
                exact j_lv [0, 2, 3] rfl (ih_4 v_45 g43_mfacts g43_mpile g43_mthr g43_mmays (by omega) (by omega))
              · skip
                rw [i_le] at c_44
                refine j_aload_n (pc := 32) C dX11_find_32 rfl 3 rfl ?_
                refine j_get (pc := 33) (ci := 11) (v := .ref mmays) C inw_11 8 rfl rfl 28 (by decide) wd_900 rfl rfl dX11_find_33 ?_
                refine j_bipush (pc := 36) (v := 12) C dX11_find_36 (by decide) ?_
                refine j_iload_n (pc := 38) C dX11_find_38 rfl 1 rfl ?_
                obtain ⟨v_46, ev_46⟩ : ∃ z : Int32, 12 * x4_2 = z := ⟨_, rfl⟩
                have el_12 : (12 : Int32).toInt = 12 := rfl
                have hv_46 : v_46.toInt = 12 * x4_2.toInt := by rw [← ev_46]; exact mulL (c := 12) rfl (by omega) (by omega)
                refine j_imul (pc := 39) (v := v_46) C dX11_find_39 ev_46 ?_
                refine j_iload_n (pc := 40) C dX11_find_40 rfl 0 rfl ?_
                obtain ⟨v_47, ev_47⟩ : ∃ z : Int32, v_46 + x43_3 = z := ⟨_, rfl⟩
                have hv_47 : v_47.toInt = v_46.toInt + x43_3.toInt := by rw [← ev_47]; exact fb_addI (by omega) (by omega)
                refine j_iadd (pc := 41) (v := v_47) C dX11_find_41 ev_47 ?_
                refine j_iload_n (pc := 42) C dX11_find_42 rfl 1 rfl ?_
                refine j_iload_n (pc := 43) C dX11_find_43 rfl 0 rfl ?_
                refine j_icmp_eq (pc := 44) (tgt := 60) C dX11_find_44 (by decide) (fun c_48 => ?_) (fun c_48 => ?_)
                · skip
                  rw [i_eq] at c_48
                  refine j_iconst (pc := 60) (v := 0) C dX11_find_60 (by decide) ?_
                  obtain ⟨f_49, ef_49⟩ : ∃ z, z = upd g43_mmays (v_47).toInt.toNat (vp_nar .boolean 0) := ⟨_, rfl⟩
                  refine j_zast (pc := 61) (k := (v_47).toInt.toNat) (ws' := [(mop, .inl (cyI, 2200, .inl m_op)), (marg, .inl (cyI, 2200, .inl m_arg)), (mfacts, .inl (cyI, 8, .inl g43_mfacts)), (mpile, .inl (cyI, 1100, .inl g43_mpile)), (mthr, .inl (cyZ, 144, .inl g43_mthr)), (mmays, .inl (cyZ, 144, .inl f_49)), (mtall, .inl (cyI, 49152, .inl m_tall)), (mweights, .inl (cyI, 4096, .inl m_weights)), (m0, .inr (11, [.int m_thrown, .ref mtape, .int m_taped, .int m_size, .ref msort, .ref mplace, .ref mvalue, .int m_at, .int m_fault, .ref mwords, .ref mtold, .ref mop, .ref marg, .int m_codes, .ref mnames, .ref mhasHabit, .int 0, .ref mfactWords, .ref mfacts, .ref mpile, .ref mstates, .ref misMarked, .int m_inShelf, .int m_inStack, .int m_inPlace, .ref mrow, .int m_rowMany, .ref mthr, .ref mmays, .ref mtall, .ref mweights, .ref mrowOfWare, .ref mneededOf, .int m_goShelf, .int m_goStack, .int m_goLeft, .ref mtried, .ref mbestRow, .int m_bestCost, .int m_bestMany, .int m_bestShelf, .int m_bestSet, .ref mdigits])), (mtold, .inl (cyI, 240, .inl m_told))]) C 5 3 rfl rfl (i_nn (by omega)) rfl (i_lt_n (by omega) (by omega)) dX11_find_61 (by rw [ef_49]; rfl) ?_
                  refine j_aload_n (pc := 62) C dX11_find_62 rfl 3 rfl ?_
                  refine j_get (pc := 63) (ci := 11) (v := .ref mthr) C inw_11 8 rfl rfl 27 (by decide) wd_907 rfl rfl dX11_find_63 ?_
                  refine j_bipush (pc := 66) (v := 12) C dX11_find_66 (by decide) ?_
                  refine j_iload_n (pc := 68) C dX11_find_68 rfl 1 rfl ?_
                  obtain ⟨v_50, ev_50⟩ : ∃ z : Int32, 12 * x4_2 = z := ⟨_, rfl⟩
                  have el_12 : (12 : Int32).toInt = 12 := rfl
                  have hv_50 : v_50.toInt = 12 * x4_2.toInt := by rw [← ev_50]; exact mulL (c := 12) rfl (by omega) (by omega)
                  refine j_imul (pc := 69) (v := v_50) C dX11_find_69 ev_50 ?_
                  refine j_iload_n (pc := 70) C dX11_find_70 rfl 0 rfl ?_
                  obtain ⟨v_51, ev_51⟩ : ∃ z : Int32, v_50 + x43_3 = z := ⟨_, rfl⟩
                  have hv_51 : v_51.toInt = v_50.toInt + x43_3.toInt := by rw [← ev_51]; exact fb_addI (by omega) (by omega)
                  refine j_iadd (pc := 71) (v := v_51) C dX11_find_71 ev_51 ?_
                  refine j_aload_n (pc := 72) C dX11_find_72 rfl 3 rfl ?_
                  refine j_get (pc := 73) (ci := 11) (v := .ref mmays) C inw_11 8 rfl rfl 28 (by decide) wd_900 rfl rfl dX11_find_73 ?_
                  refine j_bipush (pc := 76) (v := 12) C dX11_find_76 (by decide) ?_
                  refine j_iload_n (pc := 78) C dX11_find_78 rfl 1 rfl ?_
                  obtain ⟨v_52, ev_52⟩ : ∃ z : Int32, 12 * x4_2 = z := ⟨_, rfl⟩
                  have el_12 : (12 : Int32).toInt = 12 := rfl
                  have hv_52 : v_52.toInt = 12 * x4_2.toInt := by rw [← ev_52]; exact mulL (c := 12) rfl (by omega) (by omega)
                  refine j_imul (pc := 79) (v := v_52) C dX11_find_79 ev_52 ?_
                  refine j_iload_n (pc := 80) C dX11_find_80 rfl 0 rfl ?_
                  obtain ⟨v_53, ev_53⟩ : ∃ z : Int32, v_52 + x43_3 = z := ⟨_, rfl⟩
                  have hv_53 : v_53.toInt = v_52.toInt + x43_3.toInt := by rw [← ev_53]; exact fb_addI (by omega) (by omega)
                  refine j_iadd (pc := 81) (v := v_53) C dX11_find_81 ev_53 ?_
                  obtain ⟨v_54, ev_54⟩ : ∃ z, f_49 (v_53).toInt.toNat = z := ⟨_, rfl⟩
                  have env_54 : (f_49 (v_53).toInt.toNat).toInt = v_54.toInt := by rw [ev_54]
                  refine j_zald (pc := 82) (v := v_54) (k := (v_53).toInt.toNat) C 5 3 rfl rfl (i_nn (by omega)) rfl (i_lt_n (by omega) (by omega)) ev_54 dX11_find_82 ?_
                  obtain ⟨f_55, ef_55⟩ : ∃ z, z = upd g43_mthr (v_51).toInt.toNat (vp_nar .boolean v_54) := ⟨_, rfl⟩
                  refine j_zast (pc := 83) (k := (v_51).toInt.toNat) (ws' := [(mop, .inl (cyI, 2200, .inl m_op)), (marg, .inl (cyI, 2200, .inl m_arg)), (mfacts, .inl (cyI, 8, .inl g43_mfacts)), (mpile, .inl (cyI, 1100, .inl g43_mpile)), (mthr, .inl (cyZ, 144, .inl f_55)), (mmays, .inl (cyZ, 144, .inl f_49)), (mtall, .inl (cyI, 49152, .inl m_tall)), (mweights, .inl (cyI, 4096, .inl m_weights)), (m0, .inr (11, [.int m_thrown, .ref mtape, .int m_taped, .int m_size, .ref msort, .ref mplace, .ref mvalue, .int m_at, .int m_fault, .ref mwords, .ref mtold, .ref mop, .ref marg, .int m_codes, .ref mnames, .ref mhasHabit, .int 0, .ref mfactWords, .ref mfacts, .ref mpile, .ref mstates, .ref misMarked, .int m_inShelf, .int m_inStack, .int m_inPlace, .ref mrow, .int m_rowMany, .ref mthr, .ref mmays, .ref mtall, .ref mweights, .ref mrowOfWare, .ref mneededOf, .int m_goShelf, .int m_goStack, .int m_goLeft, .ref mtried, .ref mbestRow, .int m_bestCost, .int m_bestMany, .int m_bestShelf, .int m_bestSet, .ref mdigits])), (mtold, .inl (cyI, 240, .inl m_told))]) C 4 3 rfl rfl (i_nn (by omega)) rfl (i_lt_n (by omega) (by omega)) dX11_find_83 (by rw [ef_55]; rfl) ?_
                  obtain ⟨v_56, ev_56⟩ : ∃ z : Int32, x43_3 + 1 = z := ⟨_, rfl⟩
                  have el_1 : (1 : Int32).toInt = 1 := rfl
                  have hv_56 : v_56.toInt = x43_3.toInt + (1 : Int32).toInt := by rw [← ev_56]; exact fb_addI (by omega) (by omega)
                  refine j_iinc (pc := 84) (v := v_56) (lv' := [(3, .int v_56), (2, .int x4_2), (1, .int (u_2.2.1 0)), (0, .ref m0)]) C dX11_find_84 0 rfl ev_56 (by decide) rfl ?_
                  refine j_goto (pc := 87) (tgt := 27) C dX11_find_87 (by decide) ?_
                  exact j_lv [0, 1, 2, 3] rfl (ih_43 v_56 g43_mfacts g43_mpile f_55 f_49 (by omega) (by omega))
                · skip
                  rw [i_eq] at c_48
                  refine j_aload_n (pc := 47) C dX11_find_47 rfl 3 rfl ?_
                  refine j_iload_n (pc := 48) C dX11_find_48 rfl 1 rfl ?_
                  refine j_iload_n (pc := 49) C dX11_find_49 rfl 0 rfl ?_
                  refine j_callV (pc := 50) (As := [.int x4_2, .int x43_3]) (rest := [.int v_47, .ref mmays]) (wr := [(mthr, .inl (cyZ, 144, .inl g43_mthr)), (mmays, .inl (cyZ, 144, .inl g43_mmays)), (mtall, .inl (cyI, 49152, .inl m_tall)), (mweights, .inl (cyI, 4096, .inl m_weights))]) C (c_X11_mayOn l D cyC cyI cyJ cyZ cyO m0 mtold mop marg mfacts mpile mtape msort mplace mvalue mwords mnames mhasHabit mfactWords mstates misMarked mrow mthr mmays mtall mweights mrowOfWare mneededOf mtried mbestRow mdigits x4_2 x43_3 m_thrown m_taped m_size m_at m_fault m_codes 0 m_inShelf m_inStack m_inPlace m_rowMany m_goShelf m_goStack m_goLeft m_bestCost m_bestMany m_bestShelf m_bestSet m_told m_op m_arg g43_mfacts g43_mpile h_m_taped h_m_size h_m_at h_m_fault h_m_codes (by decide) h_m_inShelf h_m_inStack h_m_inPlace h_m_rowMany h_m_goShelf h_m_bestMany h_m_bestShelf (by omega) (by omega) h_m_told hwf) wd_810 wd_624 wd_811 wd_812 wd_813 ⟨by decide, by decide, rfl⟩ rfl ⟨rfl, rfl, by decide, by decide⟩ ⟨by decide, by decide⟩ [8, 9, 0, 1, 2, 3] [4, 5, 6, 7] rfl rfl ⟨by decide, by decide, by decide⟩ 8 rfl rfl rfl (Nat.le_of_ble_eq_true rfl) dX11_find_50 (fun u_57 hw_58 => ?_)
                  refine j_eq (ws2 := [(mthr, .inl (cyZ, 144, .inl g43_mthr)), (mmays, .inl (cyZ, 144, .inl g43_mmays)), (mtall, .inl (cyI, 49152, .inl m_tall)), (mweights, .inl (cyI, 4096, .inl m_weights)), (m0, .inr (11, [.int m_thrown, .ref mtape, .int m_taped, .int m_size, .ref msort, .ref mplace, .ref mvalue, .int m_at, .int m_fault, .ref mwords, .ref mtold, .ref mop, .ref marg, .int m_codes, .ref mnames, .ref mhasHabit, .int 0, .ref mfactWords, .ref mfacts, .ref mpile, .ref mstates, .ref misMarked, .int m_inShelf, .int m_inStack, .int m_inPlace, .ref mrow, .int m_rowMany, .ref mthr, .ref mmays, .ref mtall, .ref mweights, .ref mrowOfWare, .ref mneededOf, .int m_goShelf, .int m_goStack, .int m_goLeft, .ref mtried, .ref mbestRow, .int m_bestCost, .int m_bestMany, .int m_bestShelf, .int m_bestSet, .ref mdigits])), (mtold, .inl (cyI, 240, .inl m_told)), (mop, .inl (cyI, 2200, .inl m_op)), (marg, .inl (cyI, 2200, .inl m_arg)), (mfacts, .inl (cyI, 8, .inl (u_57.2.2.1 0))), (mpile, .inl (cyI, 1100, .inl (u_57.2.2.1 1)))]) (pc2 := 53) (lv2 := [(3, .int x43_3), (2, .int x4_2), (1, .int (u_2.2.1 0)), (0, .ref m0)]) (st2 := [.int (u_57.2.1 0), .int v_47, .ref mmays]) rfl rfl rfl rfl ?_
                  obtain ⟨hw_58_0, hw_58_1⟩ := hw_58
                  refine j_if_eq (pc := 53) (tgt := 60) C dX11_find_53 (by decide) (fun c_59 => ?_) (fun c_59 => ?_)
                  · skip
                    have el_0 : (0 : Int32).toInt = 0 := rfl
                    rw [i_eq] at c_59
                    refine j_iconst (pc := 60) (v := 0) C dX11_find_60 (by decide) ?_
                    obtain ⟨f_60, ef_60⟩ : ∃ z, z = upd g43_mmays (v_47).toInt.toNat (vp_nar .boolean 0) := ⟨_, rfl⟩
                    refine j_zast (pc := 61) (k := (v_47).toInt.toNat) (ws' := [(mthr, .inl (cyZ, 144, .inl g43_mthr)), (mmays, .inl (cyZ, 144, .inl f_60)), (mtall, .inl (cyI, 49152, .inl m_tall)), (mweights, .inl (cyI, 4096, .inl m_weights)), (m0, .inr (11, [.int m_thrown, .ref mtape, .int m_taped, .int m_size, .ref msort, .ref mplace, .ref mvalue, .int m_at, .int m_fault, .ref mwords, .ref mtold, .ref mop, .ref marg, .int m_codes, .ref mnames, .ref mhasHabit, .int 0, .ref mfactWords, .ref mfacts, .ref mpile, .ref mstates, .ref misMarked, .int m_inShelf, .int m_inStack, .int m_inPlace, .ref mrow, .int m_rowMany, .ref mthr, .ref mmays, .ref mtall, .ref mweights, .ref mrowOfWare, .ref mneededOf, .int m_goShelf, .int m_goStack, .int m_goLeft, .ref mtried, .ref mbestRow, .int m_bestCost, .int m_bestMany, .int m_bestShelf, .int m_bestSet, .ref mdigits])), (mtold, .inl (cyI, 240, .inl m_told)), (mop, .inl (cyI, 2200, .inl m_op)), (marg, .inl (cyI, 2200, .inl m_arg)), (mfacts, .inl (cyI, 8, .inl (u_57.2.2.1 0))), (mpile, .inl (cyI, 1100, .inl (u_57.2.2.1 1)))]) C 1 3 rfl rfl (i_nn (by omega)) rfl (i_lt_n (by omega) (by omega)) dX11_find_61 (by rw [ef_60]; rfl) ?_
                    refine j_aload_n (pc := 62) C dX11_find_62 rfl 3 rfl ?_
                    refine j_get (pc := 63) (ci := 11) (v := .ref mthr) C inw_11 4 rfl rfl 27 (by decide) wd_907 rfl rfl dX11_find_63 ?_
                    refine j_bipush (pc := 66) (v := 12) C dX11_find_66 (by decide) ?_
                    refine j_iload_n (pc := 68) C dX11_find_68 rfl 1 rfl ?_
                    obtain ⟨v_61, ev_61⟩ : ∃ z : Int32, 12 * x4_2 = z := ⟨_, rfl⟩
                    have el_12 : (12 : Int32).toInt = 12 := rfl
                    have hv_61 : v_61.toInt = 12 * x4_2.toInt := by rw [← ev_61]; exact mulL (c := 12) rfl (by omega) (by omega)
                    refine j_imul (pc := 69) (v := v_61) C dX11_find_69 ev_61 ?_
                    refine j_iload_n (pc := 70) C dX11_find_70 rfl 0 rfl ?_
                    obtain ⟨v_62, ev_62⟩ : ∃ z : Int32, v_61 + x43_3 = z := ⟨_, rfl⟩
                    have hv_62 : v_62.toInt = v_61.toInt + x43_3.toInt := by rw [← ev_62]; exact fb_addI (by omega) (by omega)
                    refine j_iadd (pc := 71) (v := v_62) C dX11_find_71 ev_62 ?_
                    refine j_aload_n (pc := 72) C dX11_find_72 rfl 3 rfl ?_
                    refine j_get (pc := 73) (ci := 11) (v := .ref mmays) C inw_11 4 rfl rfl 28 (by decide) wd_900 rfl rfl dX11_find_73 ?_
                    refine j_bipush (pc := 76) (v := 12) C dX11_find_76 (by decide) ?_
                    refine j_iload_n (pc := 78) C dX11_find_78 rfl 1 rfl ?_
                    obtain ⟨v_63, ev_63⟩ : ∃ z : Int32, 12 * x4_2 = z := ⟨_, rfl⟩
                    have el_12 : (12 : Int32).toInt = 12 := rfl
                    have hv_63 : v_63.toInt = 12 * x4_2.toInt := by rw [← ev_63]; exact mulL (c := 12) rfl (by omega) (by omega)
                    refine j_imul (pc := 79) (v := v_63) C dX11_find_79 ev_63 ?_
                    refine j_iload_n (pc := 80) C dX11_find_80 rfl 0 rfl ?_
                    obtain ⟨v_64, ev_64⟩ : ∃ z : Int32, v_63 + x43_3 = z := ⟨_, rfl⟩
                    have hv_64 : v_64.toInt = v_63.toInt + x43_3.toInt := by rw [← ev_64]; exact fb_addI (by omega) (by omega)
                    refine j_iadd (pc := 81) (v := v_64) C dX11_find_81 ev_64 ?_
                    obtain ⟨v_65, ev_65⟩ : ∃ z, f_60 (v_64).toInt.toNat = z := ⟨_, rfl⟩
                    have env_65 : (f_60 (v_64).toInt.toNat).toInt = v_65.toInt := by rw [ev_65]
                    refine j_zald (pc := 82) (v := v_65) (k := (v_64).toInt.toNat) C 1 3 rfl rfl (i_nn (by omega)) rfl (i_lt_n (by omega) (by omega)) ev_65 dX11_find_82 ?_
                    obtain ⟨f_66, ef_66⟩ : ∃ z, z = upd g43_mthr (v_62).toInt.toNat (vp_nar .boolean v_65) := ⟨_, rfl⟩
                    refine j_zast (pc := 83) (k := (v_62).toInt.toNat) (ws' := [(mthr, .inl (cyZ, 144, .inl f_66)), (mmays, .inl (cyZ, 144, .inl f_60)), (mtall, .inl (cyI, 49152, .inl m_tall)), (mweights, .inl (cyI, 4096, .inl m_weights)), (m0, .inr (11, [.int m_thrown, .ref mtape, .int m_taped, .int m_size, .ref msort, .ref mplace, .ref mvalue, .int m_at, .int m_fault, .ref mwords, .ref mtold, .ref mop, .ref marg, .int m_codes, .ref mnames, .ref mhasHabit, .int 0, .ref mfactWords, .ref mfacts, .ref mpile, .ref mstates, .ref misMarked, .int m_inShelf, .int m_inStack, .int m_inPlace, .ref mrow, .int m_rowMany, .ref mthr, .ref mmays, .ref mtall, .ref mweights, .ref mrowOfWare, .ref mneededOf, .int m_goShelf, .int m_goStack, .int m_goLeft, .ref mtried, .ref mbestRow, .int m_bestCost, .int m_bestMany, .int m_bestShelf, .int m_bestSet, .ref mdigits])), (mtold, .inl (cyI, 240, .inl m_told)), (mop, .inl (cyI, 2200, .inl m_op)), (marg, .inl (cyI, 2200, .inl m_arg)), (mfacts, .inl (cyI, 8, .inl (u_57.2.2.1 0))), (mpile, .inl (cyI, 1100, .inl (u_57.2.2.1 1)))]) C 0 3 rfl rfl (i_nn (by omega)) rfl (i_lt_n (by omega) (by omega)) dX11_find_83 (by rw [ef_66]; rfl) ?_
                    obtain ⟨v_67, ev_67⟩ : ∃ z : Int32, x43_3 + 1 = z := ⟨_, rfl⟩
                    have el_1 : (1 : Int32).toInt = 1 := rfl
                    have hv_67 : v_67.toInt = x43_3.toInt + (1 : Int32).toInt := by rw [← ev_67]; exact fb_addI (by omega) (by omega)
                    refine j_iinc (pc := 84) (v := v_67) (lv' := [(3, .int v_67), (2, .int x4_2), (1, .int (u_2.2.1 0)), (0, .ref m0)]) C dX11_find_84 0 rfl ev_67 (by decide) rfl ?_
                    refine j_goto (pc := 87) (tgt := 27) C dX11_find_87 (by decide) ?_
                    refine j_subG (ws' := [(mop, .inl (cyI, 2200, .inl m_op)), (marg, .inl (cyI, 2200, .inl m_arg)), (mfacts, .inl (cyI, 8, .inl (u_57.2.2.1 0))), (mpile, .inl (cyI, 1100, .inl (u_57.2.2.1 1))), (mthr, .inl (cyZ, 144, .inl f_66)), (mmays, .inl (cyZ, 144, .inl f_60)), (mtall, .inl (cyI, 49152, .inl m_tall)), (mweights, .inl (cyI, 4096, .inl m_weights)), (m0, .inr (11, [.int m_thrown, .ref mtape, .int m_taped, .int m_size, .ref msort, .ref mplace, .ref mvalue, .int m_at, .int m_fault, .ref mwords, .ref mtold, .ref mop, .ref marg, .int m_codes, .ref mnames, .ref mhasHabit, .int 0, .ref mfactWords, .ref mfacts, .ref mpile, .ref mstates, .ref misMarked, .int m_inShelf, .int m_inStack, .int m_inPlace, .ref mrow, .int m_rowMany, .ref mthr, .ref mmays, .ref mtall, .ref mweights, .ref mrowOfWare, .ref mneededOf, .int m_goShelf, .int m_goStack, .int m_goLeft, .ref mtried, .ref mbestRow, .int m_bestCost, .int m_bestMany, .int m_bestShelf, .int m_bestSet, .ref mdigits])), (mtold, .inl (cyI, 240, .inl m_told))]) [6, 7, 8, 9, 0, 1, 2, 3, 4, 5] (by decide) rfl ?_
                    exact j_lv [0, 1, 2, 3] rfl (ih_43 v_67 (u_57.2.2.1 0) (u_57.2.2.1 1) f_66 f_60 (by omega) (by omega))
                  · skip
                    have el_0 : (0 : Int32).toInt = 0 := rfl
                    rw [i_eq] at c_59
                    have k0c_59 : ((u_57.2.1 0)).toInt = 1 := by omega
                    refine j_iconst (pc := 56) (v := 1) C dX11_find_56 (by decide) ?_
                    refine j_goto (pc := 57) (tgt := 61) C dX11_find_57 (by decide) ?_
                    obtain ⟨f_68, ef_68⟩ : ∃ z, z = upd g43_mmays (v_47).toInt.toNat (vp_nar .boolean 1) := ⟨_, rfl⟩
                    refine j_zast (pc := 61) (k := (v_47).toInt.toNat) (ws' := [(mthr, .inl (cyZ, 144, .inl g43_mthr)), (mmays, .inl (cyZ, 144, .inl f_68)), (mtall, .inl (cyI, 49152, .inl m_tall)), (mweights, .inl (cyI, 4096, .inl m_weights)), (m0, .inr (11, [.int m_thrown, .ref mtape, .int m_taped, .int m_size, .ref msort, .ref mplace, .ref mvalue, .int m_at, .int m_fault, .ref mwords, .ref mtold, .ref mop, .ref marg, .int m_codes, .ref mnames, .ref mhasHabit, .int 0, .ref mfactWords, .ref mfacts, .ref mpile, .ref mstates, .ref misMarked, .int m_inShelf, .int m_inStack, .int m_inPlace, .ref mrow, .int m_rowMany, .ref mthr, .ref mmays, .ref mtall, .ref mweights, .ref mrowOfWare, .ref mneededOf, .int m_goShelf, .int m_goStack, .int m_goLeft, .ref mtried, .ref mbestRow, .int m_bestCost, .int m_bestMany, .int m_bestShelf, .int m_bestSet, .ref mdigits])), (mtold, .inl (cyI, 240, .inl m_told)), (mop, .inl (cyI, 2200, .inl m_op)), (marg, .inl (cyI, 2200, .inl m_arg)), (mfacts, .inl (cyI, 8, .inl (u_57.2.2.1 0))), (mpile, .inl (cyI, 1100, .inl (u_57.2.2.1 1)))]) C 1 3 rfl rfl (i_nn (by omega)) rfl (i_lt_n (by omega) (by omega)) dX11_find_61 (by rw [ef_68]; rfl) ?_
                    refine j_aload_n (pc := 62) C dX11_find_62 rfl 3 rfl ?_
                    refine j_get (pc := 63) (ci := 11) (v := .ref mthr) C inw_11 4 rfl rfl 27 (by decide) wd_907 rfl rfl dX11_find_63 ?_
                    refine j_bipush (pc := 66) (v := 12) C dX11_find_66 (by decide) ?_
                    refine j_iload_n (pc := 68) C dX11_find_68 rfl 1 rfl ?_
                    obtain ⟨v_69, ev_69⟩ : ∃ z : Int32, 12 * x4_2 = z := ⟨_, rfl⟩
                    have el_12 : (12 : Int32).toInt = 12 := rfl
                    have hv_69 : v_69.toInt = 12 * x4_2.toInt := by rw [← ev_69]; exact mulL (c := 12) rfl (by omega) (by omega)
                    refine j_imul (pc := 69) (v := v_69) C dX11_find_69 ev_69 ?_
                    refine j_iload_n (pc := 70) C dX11_find_70 rfl 0 rfl ?_
                    obtain ⟨v_70, ev_70⟩ : ∃ z : Int32, v_69 + x43_3 = z := ⟨_, rfl⟩
                    have hv_70 : v_70.toInt = v_69.toInt + x43_3.toInt := by rw [← ev_70]; exact fb_addI (by omega) (by omega)
                    refine j_iadd (pc := 71) (v := v_70) C dX11_find_71 ev_70 ?_
                    refine j_aload_n (pc := 72) C dX11_find_72 rfl 3 rfl ?_
                    refine j_get (pc := 73) (ci := 11) (v := .ref mmays) C inw_11 4 rfl rfl 28 (by decide) wd_900 rfl rfl dX11_find_73 ?_
                    refine j_bipush (pc := 76) (v := 12) C dX11_find_76 (by decide) ?_
                    refine j_iload_n (pc := 78) C dX11_find_78 rfl 1 rfl ?_
                    obtain ⟨v_71, ev_71⟩ : ∃ z : Int32, 12 * x4_2 = z := ⟨_, rfl⟩
                    have el_12 : (12 : Int32).toInt = 12 := rfl
                    have hv_71 : v_71.toInt = 12 * x4_2.toInt := by rw [← ev_71]; exact mulL (c := 12) rfl (by omega) (by omega)
                    refine j_imul (pc := 79) (v := v_71) C dX11_find_79 ev_71 ?_
                    refine j_iload_n (pc := 80) C dX11_find_80 rfl 0 rfl ?_
                    obtain ⟨v_72, ev_72⟩ : ∃ z : Int32, v_71 + x43_3 = z := ⟨_, rfl⟩
                    have hv_72 : v_72.toInt = v_71.toInt + x43_3.toInt := by rw [← ev_72]; exact fb_addI (by omega) (by omega)
                    refine j_iadd (pc := 81) (v := v_72) C dX11_find_81 ev_72 ?_
                    obtain ⟨v_73, ev_73⟩ : ∃ z, f_68 (v_72).toInt.toNat = z := ⟨_, rfl⟩
                    have env_73 : (f_68 (v_72).toInt.toNat).toInt = v_73.toInt := by rw [ev_73]
                    refine j_zald (pc := 82) (v := v_73) (k := (v_72).toInt.toNat) C 1 3 rfl rfl (i_nn (by omega)) rfl (i_lt_n (by omega) (by omega)) ev_73 dX11_find_82 ?_
                    obtain ⟨f_74, ef_74⟩ : ∃ z, z = upd g43_mthr (v_70).toInt.toNat (vp_nar .boolean v_73) := ⟨_, rfl⟩
                    refine j_zast (pc := 83) (k := (v_70).toInt.toNat) (ws' := [(mthr, .inl (cyZ, 144, .inl f_74)), (mmays, .inl (cyZ, 144, .inl f_68)), (mtall, .inl (cyI, 49152, .inl m_tall)), (mweights, .inl (cyI, 4096, .inl m_weights)), (m0, .inr (11, [.int m_thrown, .ref mtape, .int m_taped, .int m_size, .ref msort, .ref mplace, .ref mvalue, .int m_at, .int m_fault, .ref mwords, .ref mtold, .ref mop, .ref marg, .int m_codes, .ref mnames, .ref mhasHabit, .int 0, .ref mfactWords, .ref mfacts, .ref mpile, .ref mstates, .ref misMarked, .int m_inShelf, .int m_inStack, .int m_inPlace, .ref mrow, .int m_rowMany, .ref mthr, .ref mmays, .ref mtall, .ref mweights, .ref mrowOfWare, .ref mneededOf, .int m_goShelf, .int m_goStack, .int m_goLeft, .ref mtried, .ref mbestRow, .int m_bestCost, .int m_bestMany, .int m_bestShelf, .int m_bestSet, .ref mdigits])), (mtold, .inl (cyI, 240, .inl m_told)), (mop, .inl (cyI, 2200, .inl m_op)), (marg, .inl (cyI, 2200, .inl m_arg)), (mfacts, .inl (cyI, 8, .inl (u_57.2.2.1 0))), (mpile, .inl (cyI, 1100, .inl (u_57.2.2.1 1)))]) C 0 3 rfl rfl (i_nn (by omega)) rfl (i_lt_n (by omega) (by omega)) dX11_find_83 (by rw [ef_74]; rfl) ?_
                    obtain ⟨v_75, ev_75⟩ : ∃ z : Int32, x43_3 + 1 = z := ⟨_, rfl⟩
                    have el_1 : (1 : Int32).toInt = 1 := rfl
                    have hv_75 : v_75.toInt = x43_3.toInt + (1 : Int32).toInt := by rw [← ev_75]; exact fb_addI (by omega) (by omega)
                    refine j_iinc (pc := 84) (v := v_75) (lv' := [(3, .int v_75), (2, .int x4_2), (1, .int (u_2.2.1 0)), (0, .ref m0)]) C dX11_find_84 0 rfl ev_75 (by decide) rfl ?_
                    refine j_goto (pc := 87) (tgt := 27) C dX11_find_87 (by decide) ?_
                    refine j_subG (ws' := [(mop, .inl (cyI, 2200, .inl m_op)), (marg, .inl (cyI, 2200, .inl m_arg)), (mfacts, .inl (cyI, 8, .inl (u_57.2.2.1 0))), (mpile, .inl (cyI, 1100, .inl (u_57.2.2.1 1))), (mthr, .inl (cyZ, 144, .inl f_74)), (mmays, .inl (cyZ, 144, .inl f_68)), (mtall, .inl (cyI, 49152, .inl m_tall)), (mweights, .inl (cyI, 4096, .inl m_weights)), (m0, .inr (11, [.int m_thrown, .ref mtape, .int m_taped, .int m_size, .ref msort, .ref mplace, .ref mvalue, .int m_at, .int m_fault, .ref mwords, .ref mtold, .ref mop, .ref marg, .int m_codes, .ref mnames, .ref mhasHabit, .int 0, .ref mfactWords, .ref mfacts, .ref mpile, .ref mstates, .ref misMarked, .int m_inShelf, .int m_inStack, .int m_inPlace, .ref mrow, .int m_rowMany, .ref mthr, .ref mmays, .ref mtall, .ref mweights, .ref mrowOfWare, .ref mneededOf, .int m_goShelf, .int m_goStack, .int m_goLeft, .ref mtried, .ref mbestRow, .int m_bestCost, .int m_bestMany, .int m_bestShelf, .int m_bestSet, .ref mdigits])), (mtold, .inl (cyI, 240, .inl m_told))]) [6, 7, 8, 9, 0, 1, 2, 3, 4, 5] (by decide) rfl ?_
                    exact j_lv [0, 1, 2, 3] rfl (ih_43 v_75 (u_57.2.2.1 0) (u_57.2.2.1 1) f_74 f_68 (by omega) (by omega))
          have el_0 : (0 : Int32).toInt = 0 := rfl
          exact j_lv [0, 1, 2, 3] rfl (loop_43 4096 0 g4_mfacts g4_mpile g4_mthr g4_mmays (by decide) (by omega))
    have el_0 : (0 : Int32).toInt = 0 := rfl
    exact j_lv [0, 1, 2] rfl (loop_4 4096 0 m_facts m_pile m_thr m_mays (by decide) (by omega))
  · skip
    have el_0 : (0 : Int32).toInt = 0 := rfl
    rw [i_eq] at c_1
    exact j_vret (pc := 7) C hr hk (fun i => [].getD i 0, fun i => [m_isNew].getD i 0, fun i => [m_facts, m_pile, m_thr, m_mays, m_tall, m_weights].getD i (fun _ => 0), fun i => [].getD i (fun _ => 0)) rfl (show (0 ≤ (m_isNew).toInt ∧ (m_isNew).toInt ≤ 0) ∧ (Iv 49152 (0) (100000000) m_tall) ∧ (TALL m_told m_mays m_tall) from ⟨by omega, h_m_tall, (hTA (by omega))⟩) [0, 1, 2, 3, 4, 5, 6, 7, 8, 9] (by decide) rfl (by decide) (by decide) dX11_find_7
