theorem dX11_bits_0 : decode cX11_bits 0 = .ok (.iconst 0, 1) := by decide +kernel
theorem dX11_bits_1 : decode cX11_bits 1 = .ok (.istore_n 1, 1) := by decide +kernel
theorem dX11_bits_2 : decode cX11_bits 2 = .ok (.iconst 0, 1) := by decide +kernel
theorem dX11_bits_3 : decode cX11_bits 3 = .ok (.istore_n 2, 1) := by decide +kernel
theorem dX11_bits_4 : decode cX11_bits 4 = .ok (.iload_n 2, 1) := by decide +kernel
theorem dX11_bits_5 : decode cX11_bits 5 = .ok (.bipush 12, 2) := by decide +kernel
theorem dX11_bits_7 : decode cX11_bits 7 = .ok (.if_icmp .ge 17, 3) := by decide +kernel
theorem dX11_bits_10 : decode cX11_bits 10 = .ok (.iload_n 1, 1) := by decide +kernel
theorem dX11_bits_11 : decode cX11_bits 11 = .ok (.iload_n 0, 1) := by decide +kernel
theorem dX11_bits_12 : decode cX11_bits 12 = .ok (.iload_n 2, 1) := by decide +kernel
theorem dX11_bits_13 : decode cX11_bits 13 = .ok (.ishr, 1) := by decide +kernel
theorem dX11_bits_14 : decode cX11_bits 14 = .ok (.iconst 1, 1) := by decide +kernel
theorem dX11_bits_15 : decode cX11_bits 15 = .ok (.iand, 1) := by decide +kernel
theorem dX11_bits_16 : decode cX11_bits 16 = .ok (.iadd, 1) := by decide +kernel
theorem dX11_bits_17 : decode cX11_bits 17 = .ok (.istore_n 1, 1) := by decide +kernel
theorem dX11_bits_18 : decode cX11_bits 18 = .ok (.iinc 2 1, 3) := by decide +kernel
theorem dX11_bits_21 : decode cX11_bits 21 = .ok (.goto (-17), 3) := by decide +kernel
theorem dX11_bits_24 : decode cX11_bits 24 = .ok (.iload_n 1, 1) := by decide +kernel
theorem dX11_bits_25 : decode cX11_bits 25 = .ok (.ireturn, 1) := by decide +kernel
def bt (x : Int32) (i : Nat) : Bool := x.toBitVec.getLsbD i
theorem b_ext {x y : Int32} (h : ∀ i, i < 32 → bt x i = bt y i) : x = y := Int32.toBitVec_inj.mp (BitVec.eq_of_getLsbD_eq (fun i hi => h i hi))
theorem b_and (x y : Int32) (i : Nat) : bt (x &&& y) i = (bt x i && bt y i) := by unfold bt; rw [Int32.toBitVec_and, BitVec.getLsbD_and]
theorem b_xor (x y : Int32) (i : Nat) : bt (x ^^^ y) i = (bt x i ^^ bt y i) := by unfold bt; rw [Int32.toBitVec_xor, BitVec.getLsbD_xor]
theorem b_m1 : ∀ i, i < 32 → bt (-1) i = true := by decide +kernel
theorem b_0 (i : Nat) : bt 0 i = false := BitVec.getLsbD_zero
theorem s_l : ∀ n, n < 32 → ((nI n &&& 31).toBitVec.smod 32).toNat = n := by decide +kernel
theorem b_shl (n : Nat) (hn : n < 32) (x : Int32) {i : Nat} (hi : i < 32) : bt (x <<< (nI n &&& 31)) i = (decide (n ≤ i) && bt x (i - n)) := by
  unfold bt
  rw [Int32.toBitVec_shiftLeft]
  show (x.toBitVec <<< ((nI n &&& 31).toBitVec.smod 32).toNat).getLsbD i = _
  rw [s_l n hn, BitVec.getLsbD_shiftLeft]
  rcases Nat.lt_or_ge i n with h | h
  · simp [h, Nat.not_le.mpr h]
  · simp [hi, h, Nat.not_lt.mpr h]
theorem b_sshr (n : Nat) (hn : n < 32) (x : Int32) {i : Nat} (hi : i < 32) : bt (x >>> (nI n &&& 31)) i = if n + i < 32 then bt x (n + i) else bt x 31 := by
  unfold bt
  rw [Int32.toBitVec_shiftRight]
  show (x.toBitVec.sshiftRight ((nI n &&& 31).toBitVec.smod 32).toNat).getLsbD i = _
  rw [s_l n hn, BitVec.getLsbD_sshiftRight, BitVec.msb_eq_getLsbD_last]
  simp [hi]
theorem b_1 : ∀ i, i < 32 → bt 1 i = decide (i = 0) := by decide +kernel
/-- the bit of a ware in a set; the set without it -/
def bI (x l : Int32) : Int := ((x >>> (l &&& 31)) &&& 1).toInt
def cl (x l : Int32) : Int32 := x &&& (((1 : Int32) <<< (l &&& 31)) ^^^ (-1))
theorem a1_bt (x : Int32) : (x &&& 1).toInt = if bt x 0 = true then 1 else 0 := by
  by_cases h : bt x 0 = true
  · have e : x &&& 1 = 1 := b_ext (fun i hi => by
      rw [b_and, b_1 i hi]
      by_cases q : i = 0
      · subst q; rw [h]; rfl
      · rw [decide_eq_false q, Bool.and_false])
    rw [e, if_pos h]; rfl
  · have e : x &&& 1 = 0 := b_ext (fun i hi => by
      rw [b_and, b_1 i hi, b_0]
      by_cases q : i = 0
      · subst q
        have h' : bt x 0 = false := by
          cases hb : bt x 0 with
          | false => rfl
          | true => exact absurd hb h
        rw [h']; rfl
      · rw [decide_eq_false q, Bool.and_false])
    rw [e, if_neg h]; rfl
theorem bI_bt {x l : Int32} (h0 : 0 ≤ l.toInt) (h1 : l.toInt < 32) : bI x l = if bt x l.toInt.toNat = true then 1 else 0 := by
  obtain ⟨n, e, hn, _⟩ := nI_ofI h0
  have e2 : l.toInt.toNat = n := by omega
  have e3 : bt (x >>> (nI n &&& 31)) 0 = bt x n := by rw [b_sshr n (by omega) x (by decide), if_pos (show n + 0 < 32 from (by omega)), Nat.add_zero]
  unfold bI
  rw [a1_bt, e2, e, e3]
theorem bI_01 (x l : Int32) : 0 ≤ bI x l ∧ bI x l ≤ 1 := and1_r _
theorem cl_bt {x l : Int32} (h0 : 0 ≤ l.toInt) (h1 : l.toInt < 32) {i : Nat} (hi : i < 32) : bt (cl x l) i = (bt x i && !decide (i = l.toInt.toNat)) := by
  obtain ⟨n, e, hn, _⟩ := nI_ofI h0
  have e2 : l.toInt.toNat = n := by omega
  unfold cl
  rw [e2, e, b_and, b_xor, b_shl n (by omega) 1 hi, b_m1 i hi]
  rcases Nat.lt_trichotomy i n with q | q | q
  · rw [decide_eq_false (show ¬ n ≤ i from by omega), decide_eq_false (show ¬ i = n from by omega)]; simp
  · subst q; rw [Nat.sub_self, b_1 0 (by decide)]; simp
  · rw [b_1 (i - n) (by omega), decide_eq_false (show ¬ i - n = 0 from by omega), decide_eq_false (show ¬ i = n from by omega)]; simp
theorem cl_lt {x l : Int32} (hx : 0 ≤ x.toInt) (h0 : 0 ≤ l.toInt) (h1 : l.toInt < 32) (hb : bI x l = 1) : 0 ≤ (cl x l).toInt ∧ (cl x l).toInt < x.toInt := by
  have a : 0 ≤ (cl x l).toInt ∧ (cl x l).toInt ≤ x.toInt := andb_l (x := x) (y := ((1 : Int32) <<< (l &&& 31)) ^^^ (-1)) hx
  have hne : ¬ cl x l = x := fun e => by
    have b1 : bt (cl x l) l.toInt.toNat = false := by rw [cl_bt h0 h1 (by omega), decide_eq_true rfl]; simp
    rw [e] at b1
    rw [bI_bt h0 h1, b1] at hb
    exact absurd hb (by decide)
  have : ¬ (cl x l).toInt = x.toInt := fun e => hne ((i_eq _ _).mpr e)
  omega
theorem bI_cl {x l : Int32} (h0 : 0 ≤ l.toInt) (h1 : l.toInt < 32) {k : Nat} (hk : k < 32) : bI (cl x l) (nI k) = if (k : Int) = l.toInt then 0 else bI x (nI k) := by
  have e : (nI k).toInt = k := nI_toInt (by omega)
  rw [bI_bt (by omega) (by omega), bI_bt (x := x) (by omega) (by omega), e, Int.toNat_natCast, cl_bt h0 h1 hk]
  by_cases q : (k : Int) = l.toInt
  · rw [if_pos q, decide_eq_true (show k = l.toInt.toNat from by omega)]; simp
  · rw [if_neg q, decide_eq_false (show ¬ k = l.toInt.toNat from by omega)]; simp
/-- how many of the first k are in a set -/
def bN (x : Int32) : Nat → Int
  | 0 => 0
  | k + 1 => bN x k + bI x (nI k)
theorem bN_cl {x l : Int32} (h0 : 0 ≤ l.toInt) (h1 : l.toInt < 32) (hb : bI x l = 1) : ∀ k : Nat, k ≤ 12 → bN (cl x l) k = bN x k - (if l.toInt < (k : Int) then 1 else 0) := by
  intro k
  induction k with
  | zero => intro _; rw [if_neg (by omega)]; rfl
  | succ k ih =>
    intro hk
    have e := ih (by omega)
    show bN (cl x l) k + bI (cl x l) (nI k) = bN x k + bI x (nI k) - (if l.toInt < ((k + 1 : Nat) : Int) then 1 else 0)
    rw [e, bI_cl h0 h1 (by omega)]
    by_cases q : (k : Int) = l.toInt
    · have el : nI k = l := (i_eq _ _).mpr (by rw [nI_toInt (by omega)]; exact q)
      rw [if_pos q, el, hb, if_neg (by omega), if_pos (by omega)]; omega
    · rw [if_neg q]
      by_cases z : l.toInt < (k : Int)
      · rw [if_pos z, if_pos (by omega)]; omega
      · rw [if_neg z, if_neg (by omega)]; omega
theorem bN_z : bN 0 12 = 0 := by decide +kernel
theorem nI_back {x : Int32} (h : 0 ≤ x.toInt) : nI x.toInt.toNat = x := by
  obtain ⟨n, e, hn, _⟩ := nI_ofI h
  rw [show x.toInt.toNat = n from (by omega)]; exact e.symm
theorem bt_n {n k : Nat} (hk : k < 32) : bt (nI n) k = n.testBit k := by
  show (BitVec.ofNat 32 n).getLsbD k = _
  rw [BitVec.getLsbD_ofNat, decide_eq_true hk, Bool.true_and]
theorem ex_tb {n : Nat} (h0 : 0 < n) (h1 : n < 4096) : ∃ k : Nat, k < 12 ∧ n.testBit k = true := by
  apply Classical.byContradiction
  intro hno
  have hz : n = 0 := Nat.eq_of_testBit_eq (fun i => by
    rw [Nat.zero_testBit]
    rcases Nat.lt_or_ge i 12 with q | q
    · cases hb : n.testBit i with
      | false => rfl
      | true => exact absurd ⟨i, q, hb⟩ hno
    · exact Nat.testBit_lt_two_pow (Nat.lt_of_lt_of_le h1 (by have := pw_mono q; omega)))
  omega
theorem ex_bit {x : Int32} (h : 1 ≤ x.toInt ∧ x.toInt ≤ 4095) : ∃ k : Nat, (0 : Int) ≤ (k : Int) ∧ k < 12 ∧ bI x (nI k) = 1 := by
  obtain ⟨n, e, hn, _⟩ := nI_ofI (x := x) (by omega)
  obtain ⟨k, k2, hk⟩ := ex_tb (n := n) (by omega) (by omega)
  refine ⟨k, by omega, k2, ?_⟩
  have ek : (nI k).toInt = k := nI_toInt (by omega)
  rw [bI_bt (by omega) (by omega), ek, Int.toNat_natCast, e, bt_n (by omega), if_pos hk]
/-- how much higher one stands on another -/
def rI (t : Nat → Int32) (a b : Int32) : Int := if (t (3 + 8 * a.toInt.toNat)).toInt < (t (3 + 8 * b.toInt.toNat)).toInt ∧ (t (9 + 8 * b.toInt.toNat)).toInt = 0 then 1 else (t (4 + 8 * b.toInt.toNat)).toInt
def TQ (t my ta : Nat → Int32) (w o : Int32) (r : Int) : Prop := r < 100000000 → ∃ l : Int32, 0 ≤ l.toInt ∧ l.toInt < (t 0).toInt ∧ bI o l = 1 ∧ ¬ (my (12 * l.toInt.toNat + w.toInt.toNat)).toInt = 0 ∧ rI t l w + (ta (12 * o.toInt.toNat + l.toInt.toNat)).toInt ≤ r
def TP (t my ta : Nat → Int32) (w o : Int32) (r : Int) : Prop := o = 0 ∨ TQ t my ta w o r
theorem TP.fr {t my ta ta' : Nat → Int32} {w o : Int32} {r : Int} (h : TP t my ta w o r) (ht : (t 0).toInt ≤ 12) (he : ∀ j : Nat, 12 * o.toInt.toNat ≤ j → j < 12 * o.toInt.toNat + 12 → ta' j = ta j) : TP t my ta' w o r := by
  rcases h with h | h
  · exact Or.inl h
  · refine Or.inr (fun hr => ?_)
    obtain ⟨l, l0, l1, l2, l3, l4⟩ := h hr
    exact ⟨l, l0, l1, l2, l3, by rw [he _ (by omega) (by omega)]; exact l4⟩
def TS (t my ta : Nat → Int32) (x : Int32) : Prop := ∀ w : Int32, 0 ≤ w.toInt → w.toInt < (t 0).toInt → bI x w = 1 → TP t my ta w (cl x w) (ta (12 * x.toInt.toNat + w.toInt.toNat)).toInt
/-- the table of heights: each is reached over one that is left -/
def TALL (t my ta : Nat → Int32) : Prop := ∀ x : Int32, 1 ≤ x.toInt → x.toInt < 2 ^ (t 0).toInt.toNat → TS t my ta x
theorem TS.fr {t my ta ta' : Nat → Int32} {x : Int32} (h : TS t my ta x) (ht : (t 0).toInt ≤ 12) (hx : 0 ≤ x.toInt) (he : ∀ j : Nat, j < 12 * x.toInt.toNat + 12 → ta' j = ta j) : TS t my ta' x := fun w w0 w1 w2 => by
  have hc := cl_lt hx w0 (by omega) w2
  rw [he _ (by omega)]
  exact TP.fr (h w w0 w1 w2) ht (fun j _ h2 => he j (by omega))
def FO (t my ta : Nat → Int32) (w left below foot height : Int32) : Prop := bI left w = 1 ∧ (0 ≤ below.toInt → ¬ (my (12 * w.toInt.toNat + below.toInt.toNat)).toInt = 0) ∧ foot.toInt + (if below.toInt < 0 then 0 else rI t w below) + (ta (12 * left.toInt.toNat + w.toInt.toNat)).toInt ≤ height.toInt
set_option maxHeartbeats 4000000 in
set_option maxRecDepth 100000 in
theorem c_X11_wareOf_0 (l : Launch) (D : DG) (cyC cyI cyJ cyZ cyO : ClassId) (m0 : Nat) (mtold : Nat) (mtape : Nat) (msort : Nat) (mplace : Nat) (mvalue : Nat) (mwords : Nat) (mop : Nat) (marg : Nat) (mnames : Nat) (mhasHabit : Nat) (mfactWords : Nat) (mfacts : Nat) (mpile : Nat) (mstates : Nat) (misMarked : Nat) (mrow : Nat) (mthr : Nat) (mmays : Nat) (mtall : Nat) (mweights : Nat) (mrowOfWare : Nat) (mneededOf : Nat) (mtried : Nat) (mbestRow : Nat) (mdigits : Nat) (p0 : Int32) (m_thrown : Int32) (m_taped : Int32) (m_size : Int32) (m_at : Int32) (m_fault : Int32) (m_codes : Int32) (m_isNew : Int32) (m_inShelf : Int32) (m_inStack : Int32) (m_inPlace : Int32) (m_rowMany : Int32) (m_goShelf : Int32) (m_goStack : Int32) (m_goLeft : Int32) (m_bestCost : Int32) (m_bestMany : Int32) (m_bestShelf : Int32) (m_bestSet : Int32) (m_told : Nat → Int32) (h_m_taped : 0 ≤ (m_taped).toInt ∧ (m_taped).toInt ≤ 1000) (h_m_size : 0 ≤ (m_size).toInt ∧ (m_size).toInt ≤ 1000) (h_m_at : 0 ≤ (m_at).toInt ∧ (m_at).toInt ≤ 1000) (h_m_fault : 0 ≤ (m_fault).toInt ∧ (m_fault).toInt ≤ 16005) (h_m_codes : 0 ≤ (m_codes).toInt ∧ (m_codes).toInt ≤ 1000) (h_m_isNew : 0 ≤ (m_isNew).toInt ∧ (m_isNew).toInt ≤ 1) (h_m_inShelf : 0 ≤ (m_inShelf).toInt ∧ (m_inShelf).toInt ≤ 3) (h_m_inStack : 0 ≤ (m_inStack).toInt ∧ (m_inStack).toInt ≤ 7) (h_m_inPlace : 0 ≤ (m_inPlace).toInt ∧ (m_inPlace).toInt ≤ 11) (h_m_rowMany : 0 ≤ (m_rowMany).toInt ∧ (m_rowMany).toInt ≤ 12) (h_m_goShelf : -1 ≤ (m_goShelf).toInt ∧ (m_goShelf).toInt ≤ 3) (h_m_bestMany : 0 ≤ (m_bestMany).toInt ∧ (m_bestMany).toInt ≤ 7) (h_m_bestShelf : 0 ≤ (m_bestShelf).toInt ∧ (m_bestShelf).toInt ≤ 3) (h_p0 : 0 ≤ (p0).toInt ∧ (p0).toInt ≤ 11) (h_m_told : TV m_told) : KK l D (TY cyC cyI cyJ cyZ cyO) yX11_wareOf cX11_wareOf 3 (some .int) ({ frames := 0, cells := 0, slots := 0, locals := 0 } : Room) 0 0 [.ref m0, .int p0, .int 0] [(m0, .inr (11, [.int m_thrown, .ref mtape, .int m_taped, .int m_size, .ref msort, .ref mplace, .ref mvalue, .int m_at, .int m_fault, .ref mwords, .ref mtold, .ref mop, .ref marg, .int m_codes, .ref mnames, .ref mhasHabit, .int m_isNew, .ref mfactWords, .ref mfacts, .ref mpile, .ref mstates, .ref misMarked, .int m_inShelf, .int m_inStack, .int m_inPlace, .ref mrow, .int m_rowMany, .ref mthr, .ref mmays, .ref mtall, .ref mweights, .ref mrowOfWare, .ref mneededOf, .int m_goShelf, .int m_goStack, .int m_goLeft, .ref mtried, .ref mbestRow, .int m_bestCost, .int m_bestMany, .int m_bestShelf, .int m_bestSet, .ref mdigits])), (mtold, .inl (cyI, 240, .inl m_told))] (fun u => some (.int (u.2.1 0))) (fun u => (0 ≤ (u.2.1 0).toInt ∧ (u.2.1 0).toInt ≤ 999) ∧ ((u.2.1 0) = m_told (3 + 8 * (p0).toInt.toNat))) (fun u => [(m0, .inr (11, [.int m_thrown, .ref mtape, .int m_taped, .int m_size, .ref msort, .ref mplace, .ref mvalue, .int m_at, .int m_fault, .ref mwords, .ref mtold, .ref mop, .ref marg, .int m_codes, .ref mnames, .ref mhasHabit, .int m_isNew, .ref mfactWords, .ref mfacts, .ref mpile, .ref mstates, .ref misMarked, .int m_inShelf, .int m_inStack, .int m_inPlace, .ref mrow, .int m_rowMany, .ref mthr, .ref mmays, .ref mtall, .ref mweights, .ref mrowOfWare, .ref mneededOf, .int m_goShelf, .int m_goStack, .int m_goLeft, .ref mtried, .ref mbestRow, .int m_bestCost, .int m_bestMany, .int m_bestShelf, .int m_bestSet, .ref mdigits])), (mtold, .inl (cyI, 240, .inl m_told))]) := by
  refine KK.of (lv0 := [(0, .ref m0), (1, .int p0), (2, .int 0)]) (by decide) rfl (Nat.le_of_ble_eq_true rfl) ?_
  intro p e s m args below meth c A C hr hk hin
  refine j_aload_n (pc := 0) C dX11_wareOf_0 rfl 0 rfl ?_
  refine j_get (pc := 1) (ci := 11) (v := .ref mtold) C inw_11 0 rfl rfl 10 (by decide) wd_669 rfl rfl dX11_wareOf_1 ?_
  refine j_iconst (pc := 4) (v := 3) C dX11_wareOf_4 (by decide) ?_
  refine j_bipush (pc := 5) (v := 8) C dX11_wareOf_5 (by decide) ?_
  refine j_iload_n (pc := 7) C dX11_wareOf_7 rfl 1 rfl ?_
  obtain ⟨v_1, ev_1⟩ : ∃ z : Int32, 8 * p0 = z := ⟨_, rfl⟩
  have el_8 : (8 : Int32).toInt = 8 := rfl
  have hv_1 : v_1.toInt = 8 * p0.toInt := by rw [← ev_1]; exact mulL (c := 8) rfl (by omega) (by omega)
  refine j_imul (pc := 8) (v := v_1) C dX11_wareOf_8 ev_1 ?_
  obtain ⟨v_2, ev_2⟩ : ∃ z : Int32, 3 + v_1 = z := ⟨_, rfl⟩
  have el_3 : (3 : Int32).toInt = 3 := rfl
  have hv_2 : v_2.toInt = (3 : Int32).toInt + v_1.toInt := by rw [← ev_2]; exact fb_addI (by omega) (by omega)
  refine j_iadd (pc := 9) (v := v_2) C dX11_wareOf_9 ev_2 ?_
  refine j_iload_n (pc := 10) C dX11_wareOf_10 rfl 2 rfl ?_
  obtain ⟨v_3, ev_3⟩ : ∃ z : Int32, v_2 + 0 = z := ⟨_, rfl⟩
  have el_0 : (0 : Int32).toInt = 0 := rfl
  have hv_3 : v_3.toInt = v_2.toInt + (0 : Int32).toInt := by rw [← ev_3]; exact fb_addI (by omega) (by omega)
  refine j_iadd (pc := 11) (v := v_3) C dX11_wareOf_11 ev_3 ?_
  obtain ⟨v_4, ev_4⟩ : ∃ z, m_told (v_3).toInt.toNat = z := ⟨_, rfl⟩
  have env_4 : (m_told (v_3).toInt.toNat).toInt = v_4.toInt := by rw [ev_4]
  have hv_4 : 0 ≤ v_4.toInt ∧ v_4.toInt ≤ 999 := by rw [← ev_4]; exact TV.k h_m_told (by omega) (by omega)
  refine j_iald (pc := 12) (v := v_4) (k := (v_3).toInt.toNat) C 1 1 rfl rfl (i_nn (by omega)) rfl (i_lt_n (by omega) (by omega)) ev_4 dX11_wareOf_12 ?_
  exact j_iret (pc := 13) C hr hk (fun i => [].getD i 0, fun i => [v_4].getD i 0, fun i => [].getD i (fun _ => 0), fun i => [].getD i (fun _ => 0)) rfl (show (0 ≤ (v_4).toInt ∧ (v_4).toInt ≤ 999) ∧ (v_4 = m_told (3 + 8 * (p0).toInt.toNat)) from ⟨by omega, by (rw [show 3 + 8 * (p0).toInt.toNat = (v_3).toInt.toNat from (by omega)]; exact ev_4.symm)⟩) [0, 1] (by decide) rfl (by decide) (by decide) dX11_wareOf_13
set_option maxHeartbeats 4000000 in
set_option maxRecDepth 100000 in
theorem c_X11_wareOf_1 (l : Launch) (D : DG) (cyC cyI cyJ cyZ cyO : ClassId) (m0 : Nat) (mtold : Nat) (mtape : Nat) (msort : Nat) (mplace : Nat) (mvalue : Nat) (mwords : Nat) (mop : Nat) (marg : Nat) (mnames : Nat) (mhasHabit : Nat) (mfactWords : Nat) (mfacts : Nat) (mpile : Nat) (mstates : Nat) (misMarked : Nat) (mrow : Nat) (mthr : Nat) (mmays : Nat) (mtall : Nat) (mweights : Nat) (mrowOfWare : Nat) (mneededOf : Nat) (mtried : Nat) (mbestRow : Nat) (mdigits : Nat) (p0 : Int32) (m_thrown : Int32) (m_taped : Int32) (m_size : Int32) (m_at : Int32) (m_fault : Int32) (m_codes : Int32) (m_isNew : Int32) (m_inShelf : Int32) (m_inStack : Int32) (m_inPlace : Int32) (m_rowMany : Int32) (m_goShelf : Int32) (m_goStack : Int32) (m_goLeft : Int32) (m_bestCost : Int32) (m_bestMany : Int32) (m_bestShelf : Int32) (m_bestSet : Int32) (m_told : Nat → Int32) (h_m_taped : 0 ≤ (m_taped).toInt ∧ (m_taped).toInt ≤ 1000) (h_m_size : 0 ≤ (m_size).toInt ∧ (m_size).toInt ≤ 1000) (h_m_at : 0 ≤ (m_at).toInt ∧ (m_at).toInt ≤ 1000) (h_m_fault : 0 ≤ (m_fault).toInt ∧ (m_fault).toInt ≤ 16005) (h_m_codes : 0 ≤ (m_codes).toInt ∧ (m_codes).toInt ≤ 1000) (h_m_isNew : 0 ≤ (m_isNew).toInt ∧ (m_isNew).toInt ≤ 1) (h_m_inShelf : 0 ≤ (m_inShelf).toInt ∧ (m_inShelf).toInt ≤ 3) (h_m_inStack : 0 ≤ (m_inStack).toInt ∧ (m_inStack).toInt ≤ 7) (h_m_inPlace : 0 ≤ (m_inPlace).toInt ∧ (m_inPlace).toInt ≤ 11) (h_m_rowMany : 0 ≤ (m_rowMany).toInt ∧ (m_rowMany).toInt ≤ 12) (h_m_goShelf : -1 ≤ (m_goShelf).toInt ∧ (m_goShelf).toInt ≤ 3) (h_m_bestMany : 0 ≤ (m_bestMany).toInt ∧ (m_bestMany).toInt ≤ 7) (h_m_bestShelf : 0 ≤ (m_bestShelf).toInt ∧ (m_bestShelf).toInt ≤ 3) (h_p0 : 0 ≤ (p0).toInt ∧ (p0).toInt ≤ 11) (h_m_told : TV m_told) : KK l D (TY cyC cyI cyJ cyZ cyO) yX11_wareOf cX11_wareOf 3 (some .int) ({ frames := 0, cells := 0, slots := 0, locals := 0 } : Room) 0 0 [.ref m0, .int p0, .int 1] [(m0, .inr (11, [.int m_thrown, .ref mtape, .int m_taped, .int m_size, .ref msort, .ref mplace, .ref mvalue, .int m_at, .int m_fault, .ref mwords, .ref mtold, .ref mop, .ref marg, .int m_codes, .ref mnames, .ref mhasHabit, .int m_isNew, .ref mfactWords, .ref mfacts, .ref mpile, .ref mstates, .ref misMarked, .int m_inShelf, .int m_inStack, .int m_inPlace, .ref mrow, .int m_rowMany, .ref mthr, .ref mmays, .ref mtall, .ref mweights, .ref mrowOfWare, .ref mneededOf, .int m_goShelf, .int m_goStack, .int m_goLeft, .ref mtried, .ref mbestRow, .int m_bestCost, .int m_bestMany, .int m_bestShelf, .int m_bestSet, .ref mdigits])), (mtold, .inl (cyI, 240, .inl m_told))] (fun u => some (.int (u.2.1 0))) (fun u => (0 ≤ (u.2.1 0).toInt ∧ (u.2.1 0).toInt ≤ 999) ∧ ((u.2.1 0) = m_told (4 + 8 * (p0).toInt.toNat))) (fun u => [(m0, .inr (11, [.int m_thrown, .ref mtape, .int m_taped, .int m_size, .ref msort, .ref mplace, .ref mvalue, .int m_at, .int m_fault, .ref mwords, .ref mtold, .ref mop, .ref marg, .int m_codes, .ref mnames, .ref mhasHabit, .int m_isNew, .ref mfactWords, .ref mfacts, .ref mpile, .ref mstates, .ref misMarked, .int m_inShelf, .int m_inStack, .int m_inPlace, .ref mrow, .int m_rowMany, .ref mthr, .ref mmays, .ref mtall, .ref mweights, .ref mrowOfWare, .ref mneededOf, .int m_goShelf, .int m_goStack, .int m_goLeft, .ref mtried, .ref mbestRow, .int m_bestCost, .int m_bestMany, .int m_bestShelf, .int m_bestSet, .ref mdigits])), (mtold, .inl (cyI, 240, .inl m_told))]) := by
  refine KK.of (lv0 := [(0, .ref m0), (1, .int p0), (2, .int 1)]) (by decide) rfl (Nat.le_of_ble_eq_true rfl) ?_
  intro p e s m args below meth c A C hr hk hin
  refine j_aload_n (pc := 0) C dX11_wareOf_0 rfl 0 rfl ?_
  refine j_get (pc := 1) (ci := 11) (v := .ref mtold) C inw_11 0 rfl rfl 10 (by decide) wd_669 rfl rfl dX11_wareOf_1 ?_
  refine j_iconst (pc := 4) (v := 3) C dX11_wareOf_4 (by decide) ?_
  refine j_bipush (pc := 5) (v := 8) C dX11_wareOf_5 (by decide) ?_
  refine j_iload_n (pc := 7) C dX11_wareOf_7 rfl 1 rfl ?_
  obtain ⟨v_1, ev_1⟩ : ∃ z : Int32, 8 * p0 = z := ⟨_, rfl⟩
  have el_8 : (8 : Int32).toInt = 8 := rfl
  have hv_1 : v_1.toInt = 8 * p0.toInt := by rw [← ev_1]; exact mulL (c := 8) rfl (by omega) (by omega)
  refine j_imul (pc := 8) (v := v_1) C dX11_wareOf_8 ev_1 ?_
  obtain ⟨v_2, ev_2⟩ : ∃ z : Int32, 3 + v_1 = z := ⟨_, rfl⟩
  have el_3 : (3 : Int32).toInt = 3 := rfl
  have hv_2 : v_2.toInt = (3 : Int32).toInt + v_1.toInt := by rw [← ev_2]; exact fb_addI (by omega) (by omega)
  refine j_iadd (pc := 9) (v := v_2) C dX11_wareOf_9 ev_2 ?_
  refine j_iload_n (pc := 10) C dX11_wareOf_10 rfl 2 rfl ?_
  obtain ⟨v_3, ev_3⟩ : ∃ z : Int32, v_2 + 1 = z := ⟨_, rfl⟩
  have el_1 : (1 : Int32).toInt = 1 := rfl
  have hv_3 : v_3.toInt = v_2.toInt + (1 : Int32).toInt := by rw [← ev_3]; exact fb_addI (by omega) (by omega)
  refine j_iadd (pc := 11) (v := v_3) C dX11_wareOf_11 ev_3 ?_
  obtain ⟨v_4, ev_4⟩ : ∃ z, m_told (v_3).toInt.toNat = z := ⟨_, rfl⟩
  have env_4 : (m_told (v_3).toInt.toNat).toInt = v_4.toInt := by rw [ev_4]
  have hv_4 : 0 ≤ v_4.toInt ∧ v_4.toInt ≤ 999 := by rw [← ev_4]; exact TV.k h_m_told (by omega) (by omega)
  refine j_iald (pc := 12) (v := v_4) (k := (v_3).toInt.toNat) C 1 1 rfl rfl (i_nn (by omega)) rfl (i_lt_n (by omega) (by omega)) ev_4 dX11_wareOf_12 ?_
  exact j_iret (pc := 13) C hr hk (fun i => [].getD i 0, fun i => [v_4].getD i 0, fun i => [].getD i (fun _ => 0), fun i => [].getD i (fun _ => 0)) rfl (show (0 ≤ (v_4).toInt ∧ (v_4).toInt ≤ 999) ∧ (v_4 = m_told (4 + 8 * (p0).toInt.toNat)) from ⟨by omega, by (rw [show 4 + 8 * (p0).toInt.toNat = (v_3).toInt.toNat from (by omega)]; exact ev_4.symm)⟩) [0, 1] (by decide) rfl (by decide) (by decide) dX11_wareOf_13
set_option maxHeartbeats 4000000 in
set_option maxRecDepth 100000 in
theorem c_X11_wareOf_6 (l : Launch) (D : DG) (cyC cyI cyJ cyZ cyO : ClassId) (m0 : Nat) (mtold : Nat) (mtape : Nat) (msort : Nat) (mplace : Nat) (mvalue : Nat) (mwords : Nat) (mop : Nat) (marg : Nat) (mnames : Nat) (mhasHabit : Nat) (mfactWords : Nat) (mfacts : Nat) (mpile : Nat) (mstates : Nat) (misMarked : Nat) (mrow : Nat) (mthr : Nat) (mmays : Nat) (mtall : Nat) (mweights : Nat) (mrowOfWare : Nat) (mneededOf : Nat) (mtried : Nat) (mbestRow : Nat) (mdigits : Nat) (p0 : Int32) (m_thrown : Int32) (m_taped : Int32) (m_size : Int32) (m_at : Int32) (m_fault : Int32) (m_codes : Int32) (m_isNew : Int32) (m_inShelf : Int32) (m_inStack : Int32) (m_inPlace : Int32) (m_rowMany : Int32) (m_goShelf : Int32) (m_goStack : Int32) (m_goLeft : Int32) (m_bestCost : Int32) (m_bestMany : Int32) (m_bestShelf : Int32) (m_bestSet : Int32) (m_told : Nat → Int32) (h_m_taped : 0 ≤ (m_taped).toInt ∧ (m_taped).toInt ≤ 1000) (h_m_size : 0 ≤ (m_size).toInt ∧ (m_size).toInt ≤ 1000) (h_m_at : 0 ≤ (m_at).toInt ∧ (m_at).toInt ≤ 1000) (h_m_fault : 0 ≤ (m_fault).toInt ∧ (m_fault).toInt ≤ 16005) (h_m_codes : 0 ≤ (m_codes).toInt ∧ (m_codes).toInt ≤ 1000) (h_m_isNew : 0 ≤ (m_isNew).toInt ∧ (m_isNew).toInt ≤ 1) (h_m_inShelf : 0 ≤ (m_inShelf).toInt ∧ (m_inShelf).toInt ≤ 3) (h_m_inStack : 0 ≤ (m_inStack).toInt ∧ (m_inStack).toInt ≤ 7) (h_m_inPlace : 0 ≤ (m_inPlace).toInt ∧ (m_inPlace).toInt ≤ 11) (h_m_rowMany : 0 ≤ (m_rowMany).toInt ∧ (m_rowMany).toInt ≤ 12) (h_m_goShelf : -1 ≤ (m_goShelf).toInt ∧ (m_goShelf).toInt ≤ 3) (h_m_bestMany : 0 ≤ (m_bestMany).toInt ∧ (m_bestMany).toInt ≤ 7) (h_m_bestShelf : 0 ≤ (m_bestShelf).toInt ∧ (m_bestShelf).toInt ≤ 3) (h_p0 : 0 ≤ (p0).toInt ∧ (p0).toInt ≤ 11) (h_m_told : TV m_told) : KK l D (TY cyC cyI cyJ cyZ cyO) yX11_wareOf cX11_wareOf 3 (some .int) ({ frames := 0, cells := 0, slots := 0, locals := 0 } : Room) 0 0 [.ref m0, .int p0, .int 6] [(m0, .inr (11, [.int m_thrown, .ref mtape, .int m_taped, .int m_size, .ref msort, .ref mplace, .ref mvalue, .int m_at, .int m_fault, .ref mwords, .ref mtold, .ref mop, .ref marg, .int m_codes, .ref mnames, .ref mhasHabit, .int m_isNew, .ref mfactWords, .ref mfacts, .ref mpile, .ref mstates, .ref misMarked, .int m_inShelf, .int m_inStack, .int m_inPlace, .ref mrow, .int m_rowMany, .ref mthr, .ref mmays, .ref mtall, .ref mweights, .ref mrowOfWare, .ref mneededOf, .int m_goShelf, .int m_goStack, .int m_goLeft, .ref mtried, .ref mbestRow, .int m_bestCost, .int m_bestMany, .int m_bestShelf, .int m_bestSet, .ref mdigits])), (mtold, .inl (cyI, 240, .inl m_told))] (fun u => some (.int (u.2.1 0))) (fun u => (0 ≤ (u.2.1 0).toInt ∧ (u.2.1 0).toInt ≤ 999) ∧ ((u.2.1 0) = m_told (9 + 8 * (p0).toInt.toNat))) (fun u => [(m0, .inr (11, [.int m_thrown, .ref mtape, .int m_taped, .int m_size, .ref msort, .ref mplace, .ref mvalue, .int m_at, .int m_fault, .ref mwords, .ref mtold, .ref mop, .ref marg, .int m_codes, .ref mnames, .ref mhasHabit, .int m_isNew, .ref mfactWords, .ref mfacts, .ref mpile, .ref mstates, .ref misMarked, .int m_inShelf, .int m_inStack, .int m_inPlace, .ref mrow, .int m_rowMany, .ref mthr, .ref mmays, .ref mtall, .ref mweights, .ref mrowOfWare, .ref mneededOf, .int m_goShelf, .int m_goStack, .int m_goLeft, .ref mtried, .ref mbestRow, .int m_bestCost, .int m_bestMany, .int m_bestShelf, .int m_bestSet, .ref mdigits])), (mtold, .inl (cyI, 240, .inl m_told))]) := by
  refine KK.of (lv0 := [(0, .ref m0), (1, .int p0), (2, .int 6)]) (by decide) rfl (Nat.le_of_ble_eq_true rfl) ?_
  intro p e s m args below meth c A C hr hk hin
  refine j_aload_n (pc := 0) C dX11_wareOf_0 rfl 0 rfl ?_
  refine j_get (pc := 1) (ci := 11) (v := .ref mtold) C inw_11 0 rfl rfl 10 (by decide) wd_669 rfl rfl dX11_wareOf_1 ?_
  refine j_iconst (pc := 4) (v := 3) C dX11_wareOf_4 (by decide) ?_
  refine j_bipush (pc := 5) (v := 8) C dX11_wareOf_5 (by decide) ?_
  refine j_iload_n (pc := 7) C dX11_wareOf_7 rfl 1 rfl ?_
  obtain ⟨v_1, ev_1⟩ : ∃ z : Int32, 8 * p0 = z := ⟨_, rfl⟩
  have el_8 : (8 : Int32).toInt = 8 := rfl
  have hv_1 : v_1.toInt = 8 * p0.toInt := by rw [← ev_1]; exact mulL (c := 8) rfl (by omega) (by omega)
  refine j_imul (pc := 8) (v := v_1) C dX11_wareOf_8 ev_1 ?_
  obtain ⟨v_2, ev_2⟩ : ∃ z : Int32, 3 + v_1 = z := ⟨_, rfl⟩
  have el_3 : (3 : Int32).toInt = 3 := rfl
  have hv_2 : v_2.toInt = (3 : Int32).toInt + v_1.toInt := by rw [← ev_2]; exact fb_addI (by omega) (by omega)
  refine j_iadd (pc := 9) (v := v_2) C dX11_wareOf_9 ev_2 ?_
  refine j_iload_n (pc := 10) C dX11_wareOf_10 rfl 2 rfl ?_
  obtain ⟨v_3, ev_3⟩ : ∃ z : Int32, v_2 + 6 = z := ⟨_, rfl⟩
  have el_6 : (6 : Int32).toInt = 6 := rfl
  have hv_3 : v_3.toInt = v_2.toInt + (6 : Int32).toInt := by rw [← ev_3]; exact fb_addI (by omega) (by omega)
  refine j_iadd (pc := 11) (v := v_3) C dX11_wareOf_11 ev_3 ?_
  obtain ⟨v_4, ev_4⟩ : ∃ z, m_told (v_3).toInt.toNat = z := ⟨_, rfl⟩
  have env_4 : (m_told (v_3).toInt.toNat).toInt = v_4.toInt := by rw [ev_4]
  have hv_4 : 0 ≤ v_4.toInt ∧ v_4.toInt ≤ 999 := by rw [← ev_4]; exact TV.k h_m_told (by omega) (by omega)
  refine j_iald (pc := 12) (v := v_4) (k := (v_3).toInt.toNat) C 1 1 rfl rfl (i_nn (by omega)) rfl (i_lt_n (by omega) (by omega)) ev_4 dX11_wareOf_12 ?_
  exact j_iret (pc := 13) C hr hk (fun i => [].getD i 0, fun i => [v_4].getD i 0, fun i => [].getD i (fun _ => 0), fun i => [].getD i (fun _ => 0)) rfl (show (0 ≤ (v_4).toInt ∧ (v_4).toInt ≤ 999) ∧ (v_4 = m_told (9 + 8 * (p0).toInt.toNat)) from ⟨by omega, by (rw [show 9 + 8 * (p0).toInt.toNat = (v_3).toInt.toNat from (by omega)]; exact ev_4.symm)⟩) [0, 1] (by decide) rfl (by decide) (by decide) dX11_wareOf_13
set_option maxHeartbeats 4000000 in
set_option maxRecDepth 100000 in
theorem c_X11_rises_f (l : Launch) (D : DG) (cyC cyI cyJ cyZ cyO : ClassId) (m0 : Nat) (mtold : Nat) (mtape : Nat) (msort : Nat) (mplace : Nat) (mvalue : Nat) (mwords : Nat) (mop : Nat) (marg : Nat) (mnames : Nat) (mhasHabit : Nat) (mfactWords : Nat) (mfacts : Nat) (mpile : Nat) (mstates : Nat) (misMarked : Nat) (mrow : Nat) (mthr : Nat) (mmays : Nat) (mtall : Nat) (mweights : Nat) (mrowOfWare : Nat) (mneededOf : Nat) (mtried : Nat) (mbestRow : Nat) (mdigits : Nat) (p0 : Int32) (p1 : Int32) (m_thrown : Int32) (m_taped : Int32) (m_size : Int32) (m_at : Int32) (m_fault : Int32) (m_codes : Int32) (m_isNew : Int32) (m_inShelf : Int32) (m_inStack : Int32) (m_inPlace : Int32) (m_rowMany : Int32) (m_goShelf : Int32) (m_goStack : Int32) (m_goLeft : Int32) (m_bestCost : Int32) (m_bestMany : Int32) (m_bestShelf : Int32) (m_bestSet : Int32) (m_told : Nat → Int32) (h_m_taped : 0 ≤ (m_taped).toInt ∧ (m_taped).toInt ≤ 1000) (h_m_size : 0 ≤ (m_size).toInt ∧ (m_size).toInt ≤ 1000) (h_m_at : 0 ≤ (m_at).toInt ∧ (m_at).toInt ≤ 1000) (h_m_fault : 0 ≤ (m_fault).toInt ∧ (m_fault).toInt ≤ 16005) (h_m_codes : 0 ≤ (m_codes).toInt ∧ (m_codes).toInt ≤ 1000) (h_m_isNew : 0 ≤ (m_isNew).toInt ∧ (m_isNew).toInt ≤ 1) (h_m_inShelf : 0 ≤ (m_inShelf).toInt ∧ (m_inShelf).toInt ≤ 3) (h_m_inStack : 0 ≤ (m_inStack).toInt ∧ (m_inStack).toInt ≤ 7) (h_m_inPlace : 0 ≤ (m_inPlace).toInt ∧ (m_inPlace).toInt ≤ 11) (h_m_rowMany : 0 ≤ (m_rowMany).toInt ∧ (m_rowMany).toInt ≤ 12) (h_m_goShelf : -1 ≤ (m_goShelf).toInt ∧ (m_goShelf).toInt ≤ 3) (h_m_bestMany : 0 ≤ (m_bestMany).toInt ∧ (m_bestMany).toInt ≤ 7) (h_m_bestShelf : 0 ≤ (m_bestShelf).toInt ∧ (m_bestShelf).toInt ≤ 3) (h_p0 : 0 ≤ (p0).toInt ∧ (p0).toInt ≤ 11) (h_p1 : 0 ≤ (p1).toInt ∧ (p1).toInt ≤ 11) (h_m_told : TV m_told) : KK l D (TY cyC cyI cyJ cyZ cyO) yX11_rises cX11_rises 3 (some .int) ({ frames := 1, cells := 0, slots := 0, locals := 22 } : Room) 0 0 [.ref m0, .int p0, .int p1] [(m0, .inr (11, [.int m_thrown, .ref mtape, .int m_taped, .int m_size, .ref msort, .ref mplace, .ref mvalue, .int m_at, .int m_fault, .ref mwords, .ref mtold, .ref mop, .ref marg, .int m_codes, .ref mnames, .ref mhasHabit, .int m_isNew, .ref mfactWords, .ref mfacts, .ref mpile, .ref mstates, .ref misMarked, .int m_inShelf, .int m_inStack, .int m_inPlace, .ref mrow, .int m_rowMany, .ref mthr, .ref mmays, .ref mtall, .ref mweights, .ref mrowOfWare, .ref mneededOf, .int m_goShelf, .int m_goStack, .int m_goLeft, .ref mtried, .ref mbestRow, .int m_bestCost, .int m_bestMany, .int m_bestShelf, .int m_bestSet, .ref mdigits])), (mtold, .inl (cyI, 240, .inl m_told))] (fun u => some (.int (u.2.1 0))) (fun u => (0 ≤ (u.2.1 0).toInt ∧ (u.2.1 0).toInt ≤ 999) ∧ ((u.2.1 0).toInt = rI m_told p0 p1)) (fun u => [(m0, .inr (11, [.int m_thrown, .ref mtape, .int m_taped, .int m_size, .ref msort, .ref mplace, .ref mvalue, .int m_at, .int m_fault, .ref mwords, .ref mtold, .ref mop, .ref marg, .int m_codes, .ref mnames, .ref mhasHabit, .int m_isNew, .ref mfactWords, .ref mfacts, .ref mpile, .ref mstates, .ref misMarked, .int m_inShelf, .int m_inStack, .int m_inPlace, .ref mrow, .int m_rowMany, .ref mthr, .ref mmays, .ref mtall, .ref mweights, .ref mrowOfWare, .ref mneededOf, .int m_goShelf, .int m_goStack, .int m_goLeft, .ref mtried, .ref mbestRow, .int m_bestCost, .int m_bestMany, .int m_bestShelf, .int m_bestSet, .ref mdigits])), (mtold, .inl (cyI, 240, .inl m_told))]) := by
  refine KK.of (lv0 := [(0, .ref m0), (1, .int p0), (2, .int p1)]) (by decide) rfl (Nat.le_of_ble_eq_true rfl) ?_
  intro p e s m args below meth c A C hr hk hin
  refine j_aload_n (pc := 0) C dX11_rises_0 rfl 0 rfl ?_
  refine j_iload_n (pc := 1) C dX11_rises_1 rfl 1 rfl ?_
  refine j_iconst (pc := 2) (v := 0) C dX11_rises_2 (by decide) ?_
  refine j_callV (pc := 3) (As := [.int p0, .int 0]) (rest := []) (wr := []) C (c_X11_wareOf_0 l D cyC cyI cyJ cyZ cyO m0 mtold mtape msort mplace mvalue mwords mop marg mnames mhasHabit mfactWords mfacts mpile mstates misMarked mrow mthr mmays mtall mweights mrowOfWare mneededOf mtried mbestRow mdigits p0 m_thrown m_taped m_size m_at m_fault m_codes m_isNew m_inShelf m_inStack m_inPlace m_rowMany m_goShelf m_goStack m_goLeft m_bestCost m_bestMany m_bestShelf m_bestSet m_told h_m_taped h_m_size h_m_at h_m_fault h_m_codes h_m_isNew h_m_inShelf h_m_inStack h_m_inPlace h_m_rowMany h_m_goShelf h_m_bestMany h_m_bestShelf h_p0 h_m_told) wd_756 wd_624 wd_757 wd_758 wd_759 ⟨by decide, by decide, rfl⟩ rfl ⟨rfl, rfl, by decide, by decide⟩ ⟨by decide, by decide⟩ [0, 1] [] rfl rfl ⟨by decide, by decide, by decide⟩ 0 rfl rfl rfl (Nat.le_of_ble_eq_true rfl) dX11_rises_3 (fun u_1 hw_2 => ?_)
  refine j_eq (ws2 := [(m0, .inr (11, [.int m_thrown, .ref mtape, .int m_taped, .int m_size, .ref msort, .ref mplace, .ref mvalue, .int m_at, .int m_fault, .ref mwords, .ref mtold, .ref mop, .ref marg, .int m_codes, .ref mnames, .ref mhasHabit, .int m_isNew, .ref mfactWords, .ref mfacts, .ref mpile, .ref mstates, .ref misMarked, .int m_inShelf, .int m_inStack, .int m_inPlace, .ref mrow, .int m_rowMany, .ref mthr, .ref mmays, .ref mtall, .ref mweights, .ref mrowOfWare, .ref mneededOf, .int m_goShelf, .int m_goStack, .int m_goLeft, .ref mtried, .ref mbestRow, .int m_bestCost, .int m_bestMany, .int m_bestShelf, .int m_bestSet, .ref mdigits])), (mtold, .inl (cyI, 240, .inl m_told))]) (pc2 := 6) (lv2 := [(0, .ref m0), (1, .int p0), (2, .int p1)]) (st2 := [.int (u_1.2.1 0)]) rfl rfl rfl rfl ?_
  obtain ⟨hw_2_0, hw_2_1⟩ := hw_2
  refine j_aload_n (pc := 6) C dX11_rises_6 rfl 0 rfl ?_
  refine j_iload_n (pc := 7) C dX11_rises_7 rfl 2 rfl ?_
  refine j_iconst (pc := 8) (v := 0) C dX11_rises_8 (by decide) ?_
  refine j_callV (pc := 9) (As := [.int p1, .int 0]) (rest := [.int (u_1.2.1 0)]) (wr := []) C (c_X11_wareOf_0 l D cyC cyI cyJ cyZ cyO m0 mtold mtape msort mplace mvalue mwords mop marg mnames mhasHabit mfactWords mfacts mpile mstates misMarked mrow mthr mmays mtall mweights mrowOfWare mneededOf mtried mbestRow mdigits p1 m_thrown m_taped m_size m_at m_fault m_codes m_isNew m_inShelf m_inStack m_inPlace m_rowMany m_goShelf m_goStack m_goLeft m_bestCost m_bestMany m_bestShelf m_bestSet m_told h_m_taped h_m_size h_m_at h_m_fault h_m_codes h_m_isNew h_m_inShelf h_m_inStack h_m_inPlace h_m_rowMany h_m_goShelf h_m_bestMany h_m_bestShelf h_p1 h_m_told) wd_756 wd_624 wd_757 wd_758 wd_759 ⟨by decide, by decide, rfl⟩ rfl ⟨rfl, rfl, by decide, by decide⟩ ⟨by decide, by decide⟩ [0, 1] [] rfl rfl ⟨by decide, by decide, by decide⟩ 0 rfl rfl rfl (Nat.le_of_ble_eq_true rfl) dX11_rises_9 (fun u_3 hw_4 => ?_)
  refine j_eq (ws2 := [(m0, .inr (11, [.int m_thrown, .ref mtape, .int m_taped, .int m_size, .ref msort, .ref mplace, .ref mvalue, .int m_at, .int m_fault, .ref mwords, .ref mtold, .ref mop, .ref marg, .int m_codes, .ref mnames, .ref mhasHabit, .int m_isNew, .ref mfactWords, .ref mfacts, .ref mpile, .ref mstates, .ref misMarked, .int m_inShelf, .int m_inStack, .int m_inPlace, .ref mrow, .int m_rowMany, .ref mthr, .ref mmays, .ref mtall, .ref mweights, .ref mrowOfWare, .ref mneededOf, .int m_goShelf, .int m_goStack, .int m_goLeft, .ref mtried, .ref mbestRow, .int m_bestCost, .int m_bestMany, .int m_bestShelf, .int m_bestSet, .ref mdigits])), (mtold, .inl (cyI, 240, .inl m_told))]) (pc2 := 12) (lv2 := [(0, .ref m0), (1, .int p0), (2, .int p1)]) (st2 := [.int (u_3.2.1 0), .int (u_1.2.1 0)]) rfl rfl rfl rfl ?_
  obtain ⟨hw_4_0, hw_4_1⟩ := hw_4
  refine j_icmp_ge (pc := 12) (tgt := 29) C dX11_rises_12 (by decide) (fun c_5 => ?_) (fun c_5 => ?_)
  · skip
    rw [i_le] at c_5
    refine j_aload_n (pc := 29) C dX11_rises_29 rfl 0 rfl ?_
    refine j_iload_n (pc := 30) C dX11_rises_30 rfl 2 rfl ?_
    refine j_iconst (pc := 31) (v := 1) C dX11_rises_31 (by decide) ?_
    refine j_callV (pc := 32) (As := [.int p1, .int 1]) (rest := []) (wr := []) C (c_X11_wareOf_1 l D cyC cyI cyJ cyZ cyO m0 mtold mtape msort mplace mvalue mwords mop marg mnames mhasHabit mfactWords mfacts mpile mstates misMarked mrow mthr mmays mtall mweights mrowOfWare mneededOf mtried mbestRow mdigits p1 m_thrown m_taped m_size m_at m_fault m_codes m_isNew m_inShelf m_inStack m_inPlace m_rowMany m_goShelf m_goStack m_goLeft m_bestCost m_bestMany m_bestShelf m_bestSet m_told h_m_taped h_m_size h_m_at h_m_fault h_m_codes h_m_isNew h_m_inShelf h_m_inStack h_m_inPlace h_m_rowMany h_m_goShelf h_m_bestMany h_m_bestShelf h_p1 h_m_told) wd_756 wd_624 wd_757 wd_758 wd_759 ⟨by decide, by decide, rfl⟩ rfl ⟨rfl, rfl, by decide, by decide⟩ ⟨by decide, by decide⟩ [0, 1] [] rfl rfl ⟨by decide, by decide, by decide⟩ 0 rfl rfl rfl (Nat.le_of_ble_eq_true rfl) dX11_rises_32 (fun u_6 hw_7 => ?_)
    refine j_eq (ws2 := [(m0, .inr (11, [.int m_thrown, .ref mtape, .int m_taped, .int m_size, .ref msort, .ref mplace, .ref mvalue, .int m_at, .int m_fault, .ref mwords, .ref mtold, .ref mop, .ref marg, .int m_codes, .ref mnames, .ref mhasHabit, .int m_isNew, .ref mfactWords, .ref mfacts, .ref mpile, .ref mstates, .ref misMarked, .int m_inShelf, .int m_inStack, .int m_inPlace, .ref mrow, .int m_rowMany, .ref mthr, .ref mmays, .ref mtall, .ref mweights, .ref mrowOfWare, .ref mneededOf, .int m_goShelf, .int m_goStack, .int m_goLeft, .ref mtried, .ref mbestRow, .int m_bestCost, .int m_bestMany, .int m_bestShelf, .int m_bestSet, .ref mdigits])), (mtold, .inl (cyI, 240, .inl m_told))]) (pc2 := 35) (lv2 := [(0, .ref m0), (1, .int p0), (2, .int p1)]) (st2 := [.int (u_6.2.1 0)]) rfl rfl rfl rfl ?_
    obtain ⟨hw_7_0, hw_7_1⟩ := hw_7
    exact j_iret (pc := 35) C hr hk (fun i => [].getD i 0, fun i => [(u_6.2.1 0)].getD i 0, fun i => [].getD i (fun _ => 0), fun i => [].getD i (fun _ => 0)) rfl (show (0 ≤ ((u_6.2.1 0)).toInt ∧ ((u_6.2.1 0)).toInt ≤ 999) ∧ ((u_6.2.1 0).toInt = rI m_told p0 p1) from ⟨hw_7_0, by (rw [hw_7_1]; exact (if_neg (fun z => by have z1 := z.1; rw [← hw_2_1, ← hw_4_1] at z1; omega)).symm)⟩) [0, 1] (by decide) rfl (by decide) (by decide) dX11_rises_35
  · skip
    rw [i_le] at c_5
    refine j_aload_n (pc := 15) C dX11_rises_15 rfl 0 rfl ?_
    refine j_iload_n (pc := 16) C dX11_rises_16 rfl 2 rfl ?_
    refine j_bipush (pc := 17) (v := 6) C dX11_rises_17 (by decide) ?_
    refine j_callV (pc := 19) (As := [.int p1, .int 6]) (rest := []) (wr := []) C (c_X11_wareOf_6 l D cyC cyI cyJ cyZ cyO m0 mtold mtape msort mplace mvalue mwords mop marg mnames mhasHabit mfactWords mfacts mpile mstates misMarked mrow mthr mmays mtall mweights mrowOfWare mneededOf mtried mbestRow mdigits p1 m_thrown m_taped m_size m_at m_fault m_codes m_isNew m_inShelf m_inStack m_inPlace m_rowMany m_goShelf m_goStack m_goLeft m_bestCost m_bestMany m_bestShelf m_bestSet m_told h_m_taped h_m_size h_m_at h_m_fault h_m_codes h_m_isNew h_m_inShelf h_m_inStack h_m_inPlace h_m_rowMany h_m_goShelf h_m_bestMany h_m_bestShelf h_p1 h_m_told) wd_756 wd_624 wd_757 wd_758 wd_759 ⟨by decide, by decide, rfl⟩ rfl ⟨rfl, rfl, by decide, by decide⟩ ⟨by decide, by decide⟩ [0, 1] [] rfl rfl ⟨by decide, by decide, by decide⟩ 0 rfl rfl rfl (Nat.le_of_ble_eq_true rfl) dX11_rises_19 (fun u_8 hw_9 => ?_)
    refine j_eq (ws2 := [(m0, .inr (11, [.int m_thrown, .ref mtape, .int m_taped, .int m_size, .ref msort, .ref mplace, .ref mvalue, .int m_at, .int m_fault, .ref mwords, .ref mtold, .ref mop, .ref marg, .int m_codes, .ref mnames, .ref mhasHabit, .int m_isNew, .ref mfactWords, .ref mfacts, .ref mpile, .ref mstates, .ref misMarked, .int m_inShelf, .int m_inStack, .int m_inPlace, .ref mrow, .int m_rowMany, .ref mthr, .ref mmays, .ref mtall, .ref mweights, .ref mrowOfWare, .ref mneededOf, .int m_goShelf, .int m_goStack, .int m_goLeft, .ref mtried, .ref mbestRow, .int m_bestCost, .int m_bestMany, .int m_bestShelf, .int m_bestSet, .ref mdigits])), (mtold, .inl (cyI, 240, .inl m_told))]) (pc2 := 22) (lv2 := [(0, .ref m0), (1, .int p0), (2, .int p1)]) (st2 := [.int (u_8.2.1 0)]) rfl rfl rfl rfl ?_
    obtain ⟨hw_9_0, hw_9_1⟩ := hw_9
    refine j_if_ne (pc := 22) (tgt := 29) C dX11_rises_22 (by decide) (fun c_10 => ?_) (fun c_10 => ?_)
    · skip
      have el_0 : (0 : Int32).toInt = 0 := rfl
      rw [i_eq] at c_10
      refine j_aload_n (pc := 29) C dX11_rises_29 rfl 0 rfl ?_
      refine j_iload_n (pc := 30) C dX11_rises_30 rfl 2 rfl ?_
      refine j_iconst (pc := 31) (v := 1) C dX11_rises_31 (by decide) ?_
      refine j_callV (pc := 32) (As := [.int p1, .int 1]) (rest := []) (wr := []) C (c_X11_wareOf_1 l D cyC cyI cyJ cyZ cyO m0 mtold mtape msort mplace mvalue mwords mop marg mnames mhasHabit mfactWords mfacts mpile mstates misMarked mrow mthr mmays mtall mweights mrowOfWare mneededOf mtried mbestRow mdigits p1 m_thrown m_taped m_size m_at m_fault m_codes m_isNew m_inShelf m_inStack m_inPlace m_rowMany m_goShelf m_goStack m_goLeft m_bestCost m_bestMany m_bestShelf m_bestSet m_told h_m_taped h_m_size h_m_at h_m_fault h_m_codes h_m_isNew h_m_inShelf h_m_inStack h_m_inPlace h_m_rowMany h_m_goShelf h_m_bestMany h_m_bestShelf h_p1 h_m_told) wd_756 wd_624 wd_757 wd_758 wd_759 ⟨by decide, by decide, rfl⟩ rfl ⟨rfl, rfl, by decide, by decide⟩ ⟨by decide, by decide⟩ [0, 1] [] rfl rfl ⟨by decide, by decide, by decide⟩ 0 rfl rfl rfl (Nat.le_of_ble_eq_true rfl) dX11_rises_32 (fun u_11 hw_12 => ?_)
      refine j_eq (ws2 := [(m0, .inr (11, [.int m_thrown, .ref mtape, .int m_taped, .int m_size, .ref msort, .ref mplace, .ref mvalue, .int m_at, .int m_fault, .ref mwords, .ref mtold, .ref mop, .ref marg, .int m_codes, .ref mnames, .ref mhasHabit, .int m_isNew, .ref mfactWords, .ref mfacts, .ref mpile, .ref mstates, .ref misMarked, .int m_inShelf, .int m_inStack, .int m_inPlace, .ref mrow, .int m_rowMany, .ref mthr, .ref mmays, .ref mtall, .ref mweights, .ref mrowOfWare, .ref mneededOf, .int m_goShelf, .int m_goStack, .int m_goLeft, .ref mtried, .ref mbestRow, .int m_bestCost, .int m_bestMany, .int m_bestShelf, .int m_bestSet, .ref mdigits])), (mtold, .inl (cyI, 240, .inl m_told))]) (pc2 := 35) (lv2 := [(0, .ref m0), (1, .int p0), (2, .int p1)]) (st2 := [.int (u_11.2.1 0)]) rfl rfl rfl rfl ?_
      obtain ⟨hw_12_0, hw_12_1⟩ := hw_12
      exact j_iret (pc := 35) C hr hk (fun i => [].getD i 0, fun i => [(u_11.2.1 0)].getD i 0, fun i => [].getD i (fun _ => 0), fun i => [].getD i (fun _ => 0)) rfl (show (0 ≤ ((u_11.2.1 0)).toInt ∧ ((u_11.2.1 0)).toInt ≤ 999) ∧ ((u_11.2.1 0).toInt = rI m_told p0 p1) from ⟨hw_12_0, by (rw [hw_12_1]; exact (if_neg (fun z => by have z2 := z.2; rw [← hw_9_1] at z2; omega)).symm)⟩) [0, 1] (by decide) rfl (by decide) (by decide) dX11_rises_35
    · skip
      have el_0 : (0 : Int32).toInt = 0 := rfl
      rw [i_eq] at c_10
      refine j_iconst (pc := 25) (v := 1) C dX11_rises_25 (by decide) ?_
      refine j_goto (pc := 26) (tgt := 35) C dX11_rises_26 (by decide) ?_
      have el_1 : (1 : Int32).toInt = 1 := rfl
      have el_1 : (1 : Int32).toInt = 1 := rfl
      exact j_iret (pc := 35) C hr hk (fun i => [].getD i 0, fun i => [1].getD i 0, fun i => [].getD i (fun _ => 0), fun i => [].getD i (fun _ => 0)) rfl (show (0 ≤ ((1 : Int32)).toInt ∧ ((1 : Int32)).toInt ≤ 999) ∧ ((1 : Int32).toInt = rI m_told p0 p1) from ⟨by omega, by (have z : rI m_told p0 p1 = 1 := if_pos ⟨by (rw [← hw_2_1, ← hw_4_1]; omega), by (rw [← hw_9_1]; omega)⟩; rw [z]; rfl)⟩) [0, 1] (by decide) rfl (by decide) (by decide) dX11_rises_35
set_option maxHeartbeats 4000000 in
set_option maxRecDepth 100000 in
theorem c_X11_bits (l : Launch) (D : DG) (cyC cyI cyJ cyZ cyO : ClassId) (p0 : Int32) : KK l D (TY cyC cyI cyJ cyZ cyO) yX11_bits cX11_bits 3 (some .int) ({ frames := 0, cells := 0, slots := 0, locals := 0 } : Room) 0 0 [.int p0] [] (fun u => some (.int (u.2.1 0))) (fun u => (0 ≤ (u.2.1 0).toInt ∧ (u.2.1 0).toInt ≤ 12) ∧ ((u.2.1 0).toInt = bN p0 12)) (fun u => []) := by
  refine KK.of (lv0 := [(0, .int p0)]) (by decide) rfl (Nat.le_of_ble_eq_true rfl) ?_
  intro p e s m args below meth c A C hr hk hin
  refine j_iconst (pc := 0) (v := 0) C dX11_bits_0 (by decide) ?_
  refine j_istore_n (pc := 1) (lv' := [(1, .int 0), (0, .int p0)]) C dX11_bits_1 rfl (by decide) rfl ?_
  refine j_iconst (pc := 2) (v := 0) C dX11_bits_2 (by decide) ?_
  refine j_istore_n (pc := 3) (lv' := [(2, .int 0), (1, .int 0), (0, .int p0)]) C dX11_bits_3 rfl (by decide) rfl ?_
  have loop_1 : ∀ (k_1 : Nat) (x1_2 : Int32) (x1_1 : Int32), (0 ≤ (x1_2).toInt ∧ (x1_2).toInt ≤ 12) → (0 ≤ (x1_1).toInt ∧ (x1_1).toInt ≤ 12) → (x1_1.toInt ≤ x1_2.toInt) → (x1_1.toInt = bN p0 (x1_2.toInt).toNat) → (12 - x1_2.toInt).toNat < k_1 → J p l e ({ frames := 0, cells := 0, slots := 0, locals := 0 } : Room) s m args below meth c D A 3 0 0 (QX below D (TY cyC cyI cyJ cyZ cyO) A (fun u => some (.int (u.2.1 0))) (fun u => (0 ≤ (u.2.1 0).toInt ∧ (u.2.1 0).toInt ≤ 12) ∧ ((u.2.1 0).toInt = bN p0 12)) (fun u => []) args s 0 0) [] 4 [(2, .int x1_2), (1, .int x1_1), (0, .int p0)] [] := by
    intro k_1
    induction k_1 with
    | zero =>
      intro x1_2 x1_1 hi_1_0 hi_1_1 hr_1 hq_1_0 hm_1
      exact absurd hm_1 (Nat.not_lt_zero _)
    | succ k_1 ih_1 =>
      intro x1_2 x1_1 hi_1_0 hi_1_1 hr_1 hq_1_0 hm_1
      refine j_iload_n (pc := 4) C dX11_bits_4 rfl 0 rfl ?_
      refine j_bipush (pc := 5) (v := 12) C dX11_bits_5 (by decide) ?_
      refine j_icmp_ge (pc := 7) (tgt := 24) C dX11_bits_7 (by decide) (fun c_2 => ?_) (fun c_2 => ?_)
      · skip
        have el_12 : (12 : Int32).toInt = 12 := rfl
        rw [i_le] at c_2
        have k0c_2 : x1_2.toInt = 12 := by omega
        refine j_iload_n (pc := 24) C dX11_bits_24 rfl 1 rfl ?_
        exact j_iret (pc := 25) C hr hk (fun i => [].getD i 0, fun i => [x1_1].getD i 0, fun i => [].getD i (fun _ => 0), fun i => [].getD i (fun _ => 0)) rfl (show (0 ≤ (x1_1).toInt ∧ (x1_1).toInt ≤ 12) ∧ (x1_1.toInt = bN p0 12) from ⟨hi_1_1, (by have e : (x1_2.toInt).toNat = 12 := (by omega); rw [← e]; exact hq_1_0)⟩) [] (by decide) rfl (by decide) (by decide) dX11_bits_25
      · skip
        have el_12 : (12 : Int32).toInt = 12 := rfl
        rw [i_le] at c_2
        refine j_iload_n (pc := 10) C dX11_bits_10 rfl 1 rfl ?_
        refine j_iload_n (pc := 11) C dX11_bits_11 rfl 2 rfl ?_
        refine j_iload_n (pc := 12) C dX11_bits_12 rfl 0 rfl ?_
        obtain ⟨v_3, ev_3⟩ : ∃ z : Int32, p0 >>> (x1_2 &&& 31) = z := ⟨_, rfl⟩
        refine j_ishr (pc := 13) (v := v_3) C dX11_bits_13 ev_3 ?_
        refine j_iconst (pc := 14) (v := 1) C dX11_bits_14 (by decide) ?_
        obtain ⟨v_4, ev_4⟩ : ∃ z : Int32, v_3 &&& 1 = z := ⟨_, rfl⟩
        have el_1 : (1 : Int32).toInt = 1 := rfl
        have hv_4 : 0 ≤ v_4.toInt ∧ v_4.toInt ≤ 1 := by rw [← ev_4]; exact and1_r _
        refine j_iand (pc := 15) (v := v_4) C dX11_bits_15 ev_4 ?_
        obtain ⟨v_5, ev_5⟩ : ∃ z : Int32, x1_1 + v_4 = z := ⟨_, rfl⟩
        have hv_5 : v_5.toInt = x1_1.toInt + v_4.toInt := by rw [← ev_5]; exact fb_addI (by omega) (by omega)
        refine j_iadd (pc := 16) (v := v_5) C dX11_bits_16 ev_5 ?_
        refine j_istore_n (pc := 17) (lv' := [(1, .int v_5), (2, .int x1_2), (0, .int p0)]) C dX11_bits_17 rfl (by decide) rfl ?_
        obtain ⟨v_6, ev_6⟩ : ∃ z : Int32, x1_2 + 1 = z := ⟨_, rfl⟩
        have el_1 : (1 : Int32).toInt = 1 := rfl
        have hv_6 : v_6.toInt = x1_2.toInt + (1 : Int32).toInt := by rw [← ev_6]; exact fb_addI (by omega) (by omega)
        refine j_iinc (pc := 18) (v := v_6) (lv' := [(2, .int v_6), (1, .int v_5), (0, .int p0)]) C dX11_bits_18 1 rfl ev_6 (by decide) rfl ?_
        refine j_goto (pc := 21) (tgt := 4) C dX11_bits_21 (by decide) ?_
        exact j_lv [0, 1, 2] rfl (ih_1 v_6 v_5 (by omega) (by omega) (by omega) (by rw [show (v_6.toInt).toNat = (x1_2.toInt).toNat + 1 from (by omega)]; show v_5.toInt = bN p0 (x1_2.toInt).toNat + bI p0 (nI (x1_2.toInt).toNat); rw [nI_back (by omega), ← hq_1_0]; unfold bI; rw [ev_3, ev_4]; omega) (by omega))
  have el_0 : (0 : Int32).toInt = 0 := rfl
  have el_0 : (0 : Int32).toInt = 0 := rfl
  exact j_lv [0, 1, 2] rfl (loop_1 4096 0 0 (by decide) (by decide) (by omega) rfl (by omega))
