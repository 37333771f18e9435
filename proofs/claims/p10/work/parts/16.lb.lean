def hasB (i : Nat) (n : Int) (c : Int32) : Prop := ∃ j : Nat, (j : Int) < n ∧ (sB i j).toInt = c.toInt
theorem i2b_all : ∀ n, n < 128 → (nI n).toInt8.toInt32 = nI n := by decide +kernel
theorem i2b_id {x : Int32} (h0 : 0 ≤ x.toInt) (h1 : x.toInt ≤ 127) : x.toInt8.toInt32 = x := by
  obtain ⟨n, e, hn, _⟩ := nI_ofI h0
  rw [e]; exact i2b_all n (by omega)
theorem isS_lit : ∀ c, c < 128 → (isS (nI c) = true ↔ ∃ j : Fin 8, (sB 25 j.val).toInt = (nI c).toInt) := by decide +kernel
set_option maxHeartbeats 4000000 in
set_option maxRecDepth 100000 in
theorem c_J1_indexOfChar_f (l : Launch) (D : DG) (cyC cyI cyJ cyZ cyO : ClassId) (i : Nat) (p0 : Int32) (p1 : Int32) (p2 : Int32) (h_p0 : 0 ≤ (p0).toInt ∧ (p0).toInt ≤ 127) (h_p1 : 0 ≤ (p1).toInt ∧ (p1).toInt ≤ 0) (h_p2 : 0 ≤ (p2).toInt ∧ (p2).toInt ≤ 20) (hi_lit : i < 43) (hls : (p2).toInt ≤ ((sL i : Nat) : Int)) : KK l D (TY cyC cyI cyJ cyZ cyO) yJ1_indexOfChar_4cfef cJ1_indexOfChar_4cfef 6 (some .int) ({ frames := 0, cells := 0, slots := 0, locals := 0 } : Room) 0 0 [.ref (D.2.2.1 i), .int p0, .int p1, .int p2] [] (fun u => some (.int (u.2.1 0))) (fun u => (-1 ≤ (u.2.1 0).toInt ∧ (u.2.1 0).toInt ≤ 20) ∧ (IM ((u.2.1 0).toInt = -1) (¬ hasB i (p2).toInt p0)) ∧ (IM (0 ≤ (u.2.1 0).toInt) (hasB i (p2).toInt p0))) (fun u => []) := by
  refine KK.of (lv0 := [(0, .ref (D.2.2.1 i)), (1, .int p0), (2, .int p1), (3, .int p2)]) (by decide) rfl (Nat.le_of_ble_eq_true rfl) ?_
  intro p e s m args below meth c A C hr hk hin
  have hb9 := congrArg Int32.toInt (i2b_id (x := p0) (by omega) (by omega))
  refine j_iload_n (pc := 0) C dJ1_indexOfChar_4cfef_0 rfl 1 rfl ?_
  refine j_i2b (pc := 1) C dJ1_indexOfChar_4cfef_1 rfl ?_
  refine j_istore (pc := 2) (lv' := [(4, .int ((p0).toInt8.toInt32)), (0, .ref (D.2.2.1 i)), (1, .int p0), (2, .int p1), (3, .int p2)]) C dJ1_indexOfChar_4cfef_2 (by decide) rfl ?_
  refine j_iload_n (pc := 4) C dJ1_indexOfChar_4cfef_4 rfl 3 rfl ?_
  refine j_istore (pc := 5) (lv' := [(5, .int p1), (4, .int ((p0).toInt8.toInt32)), (0, .ref (D.2.2.1 i)), (1, .int p0), (2, .int p1), (3, .int p2)]) C dJ1_indexOfChar_4cfef_5 (by decide) rfl ?_
  have loop_1 : ∀ (k_1 : Nat) (x1_5 : Int32), (0 ≤ (x1_5).toInt ∧ (x1_5).toInt ≤ 20) → (∀ j : Nat, (j : Int) < x1_5.toInt → ¬ (sB i j).toInt = (p0).toInt) → (20 - x1_5.toInt).toNat < k_1 → J p l e ({ frames := 0, cells := 0, slots := 0, locals := 0 } : Room) s m args below meth c D A 6 0 0 (QX below D (TY cyC cyI cyJ cyZ cyO) A (fun u => some (.int (u.2.1 0))) (fun u => (-1 ≤ (u.2.1 0).toInt ∧ (u.2.1 0).toInt ≤ 20) ∧ (IM ((u.2.1 0).toInt = -1) (¬ hasB i (p2).toInt p0)) ∧ (IM (0 ≤ (u.2.1 0).toInt) (hasB i (p2).toInt p0))) (fun u => []) args s 0 0) [] 7 [(5, .int x1_5), (4, .int ((p0).toInt8.toInt32)), (0, .ref (D.2.2.1 i)), (1, .int p0), (2, .int p1), (3, .int p2)] [] := by
    intro k_1
    induction k_1 with
    | zero =>
      intro x1_5 hi_1_0 hq_1_0 hm_1
      exact absurd hm_1 (Nat.not_lt_zero _)
    | succ k_1 ih_1 =>
      intro x1_5 hi_1_0 hq_1_0 hm_1
      refine j_iload (pc := 7) C dJ1_indexOfChar_4cfef_7 0 rfl ?_
      refine j_iload_n (pc := 9) C dJ1_indexOfChar_4cfef_9 rfl 5 rfl ?_
      refine j_icmp_ge (pc := 10) (tgt := 31) C dJ1_indexOfChar_4cfef_10 (by decide) (fun c_2 => ?_) (fun c_2 => ?_)
      · skip
        rw [i_le] at c_2
        refine j_iconst (pc := 31) (v := (-1)) C dJ1_indexOfChar_4cfef_31 (by decide) ?_
        have el_m1 : ((-1) : Int32).toInt = (-1) := rfl
        have el_m1 : ((-1) : Int32).toInt = (-1) := rfl
        have el_m1 : ((-1) : Int32).toInt = (-1) := rfl
        exact j_iret (pc := 32) C hr hk (fun i => [].getD i 0, fun i => [(-1)].getD i 0, fun i => [].getD i (fun _ => 0), fun i => [].getD i (fun _ => 0)) rfl (show (-1 ≤ (((-1) : Int32)).toInt ∧ (((-1) : Int32)).toInt ≤ 20) ∧ (IM (((-1) : Int32).toInt = -1) (¬ hasB i (p2).toInt p0)) ∧ (IM (0 ≤ ((-1) : Int32).toInt) (hasB i (p2).toInt p0)) from ⟨by omega, (fun _ z => by obtain ⟨j, j1, j2⟩ := z; exact hq_1_0 j (by omega) j2), (fun h => absurd h (by decide))⟩) [] (by decide) rfl (by decide) (by decide) dJ1_indexOfChar_4cfef_32
      · skip
        rw [i_le] at c_2
        refine j_aload_n (pc := 13) C dJ1_indexOfChar_4cfef_13 rfl 2 rfl ?_
        refine j_iload (pc := 14) C dJ1_indexOfChar_4cfef_14 0 rfl ?_
        obtain ⟨v_3, ev_3⟩ : ∃ z : Int32, sB i (x1_5).toInt.toNat = z := ⟨_, rfl⟩
        have hv_3 := sB_bd (i := i) (k := (x1_5).toInt.toNat) hi_lit (by omega); rw [ev_3] at hv_3
        refine j_sbld (pc := 16) (v := v_3) (k := (x1_5).toInt.toNat) C hi_lit (i_nn (by omega)) rfl (by omega) ev_3 dJ1_indexOfChar_4cfef_16 ?_
        refine j_iload (pc := 17) C dJ1_indexOfChar_4cfef_17 1 rfl ?_
        refine j_icmp_ne (pc := 19) (tgt := 25) C dJ1_indexOfChar_4cfef_19 (by decide) (fun c_4 => ?_) (fun c_4 => ?_)
        · skip
          rw [i_eq] at c_4
          obtain ⟨v_5, ev_5⟩ : ∃ z : Int32, x1_5 + 1 = z := ⟨_, rfl⟩
          have el_1 : (1 : Int32).toInt = 1 := rfl
          have hv_5 : v_5.toInt = x1_5.toInt + (1 : Int32).toInt := by rw [← ev_5]; exact fb_addI (by omega) (by omega)
          refine j_iinc (pc := 25) (v := v_5) (lv' := [(5, .int v_5), (4, .int ((p0).toInt8.toInt32)), (0, .ref (D.2.2.1 i)), (1, .int p0), (2, .int p1), (3, .int p2)]) C dJ1_indexOfChar_4cfef_25 0 rfl ev_5 (by decide) rfl ?_
          refine j_goto (pc := 28) (tgt := 7) C dJ1_indexOfChar_4cfef_28 (by decide) ?_
          exact j_lv [0, 1, 2, 3, 4, 5] rfl (ih_1 v_5 (by omega) (fun j hj => by rcases Int.lt_or_le (j : Int) (x1_5).toInt with q | q; (exact hq_1_0 j q); (rw [show j = (x1_5).toInt.toNat from (by omega), ev_3]; omega)) (by omega))
        · skip
          rw [i_eq] at c_4
          refine j_iload (pc := 22) C dJ1_indexOfChar_4cfef_22 0 rfl ?_
          exact j_iret (pc := 24) C hr hk (fun i => [].getD i 0, fun i => [x1_5].getD i 0, fun i => [].getD i (fun _ => 0), fun i => [].getD i (fun _ => 0)) rfl (show (-1 ≤ (x1_5).toInt ∧ (x1_5).toInt ≤ 20) ∧ (IM (x1_5.toInt = -1) (¬ hasB i (p2).toInt p0)) ∧ (IM (0 ≤ x1_5.toInt) (hasB i (p2).toInt p0)) from ⟨by omega, (fun h => absurd h (by omega)), (fun _ => ⟨(x1_5).toInt.toNat, by omega, by (rw [ev_3]; omega)⟩)⟩) [] (by decide) rfl (by decide) (by decide) dJ1_indexOfChar_4cfef_24
  exact j_lv [0, 1, 2, 3, 4, 5] rfl (loop_1 4096 p1 (by omega) (fun j h0 => absurd h0 (by omega)) (by omega))
set_option maxHeartbeats 4000000 in
set_option maxRecDepth 100000 in
theorem c_J1_canEncode_f (l : Launch) (D : DG) (cyC cyI cyJ cyZ cyO : ClassId) (p0 : Int32) : KK l D (TY cyC cyI cyJ cyZ cyO) yJ1_canEncode_9a6ad cJ1_canEncode_9a6ad 1 (some .boolean) ({ frames := 0, cells := 0, slots := 0, locals := 0 } : Room) 0 0 [.int p0] [] (fun u => some (.int (u.2.1 0))) (fun u => (0 ≤ (u.2.1 0).toInt ∧ (u.2.1 0).toInt ≤ 1) ∧ ((u.2.1 0).toInt = 1 ∨ (p0).toInt < 0 ∨ 255 < (p0).toInt)) (fun u => []) := by
  refine KK.of (lv0 := [(0, .int p0)]) (by decide) rfl (Nat.le_of_ble_eq_true rfl) ?_
  intro p e s m args below meth c A C hr hk hin
  refine j_iload_n (pc := 0) C dJ1_canEncode_9a6ad_0 rfl 0 rfl ?_
  refine j_if_lt (pc := 1) (tgt := 15) C dJ1_canEncode_9a6ad_1 (by decide) (fun c_1 => ?_) (fun c_1 => ?_)
  · skip
    have el_0 : (0 : Int32).toInt = 0 := rfl
    rw [i_lt] at c_1
    refine j_iconst (pc := 15) (v := 0) C dJ1_canEncode_9a6ad_15 (by decide) ?_
    have el_0 : (0 : Int32).toInt = 0 := rfl
    have el_0 : (0 : Int32).toInt = 0 := rfl
    exact j_zret (pc := 16) C hr rfl hk (fun i => [].getD i 0, fun i => [0].getD i 0, fun i => [].getD i (fun _ => 0), fun i => [].getD i (fun _ => 0)) rfl (show (0 ≤ ((0 : Int32)).toInt ∧ ((0 : Int32)).toInt ≤ 1) ∧ ((0 : Int32).toInt = 1 ∨ (p0).toInt < 0 ∨ 255 < (p0).toInt) from ⟨by omega, by omega⟩) [] (by decide) rfl (by decide) (by decide) dJ1_canEncode_9a6ad_16
  · skip
    have el_0 : (0 : Int32).toInt = 0 := rfl
    rw [i_lt] at c_1
    refine j_iload_n (pc := 4) C dJ1_canEncode_9a6ad_4 rfl 0 rfl ?_
    refine j_sipush (pc := 5) (v := 255) C dJ1_canEncode_9a6ad_5 (by decide) ?_
    refine j_icmp_gt (pc := 8) (tgt := 15) C dJ1_canEncode_9a6ad_8 (by decide) (fun c_2 => ?_) (fun c_2 => ?_)
    · skip
      have el_255 : (255 : Int32).toInt = 255 := rfl
      rw [i_lt] at c_2
      refine j_iconst (pc := 15) (v := 0) C dJ1_canEncode_9a6ad_15 (by decide) ?_
      have el_0 : (0 : Int32).toInt = 0 := rfl
      have el_0 : (0 : Int32).toInt = 0 := rfl
      exact j_zret (pc := 16) C hr rfl hk (fun i => [].getD i 0, fun i => [0].getD i 0, fun i => [].getD i (fun _ => 0), fun i => [].getD i (fun _ => 0)) rfl (show (0 ≤ ((0 : Int32)).toInt ∧ ((0 : Int32)).toInt ≤ 1) ∧ ((0 : Int32).toInt = 1 ∨ (p0).toInt < 0 ∨ 255 < (p0).toInt) from ⟨by omega, by omega⟩) [] (by decide) rfl (by decide) (by decide) dJ1_canEncode_9a6ad_16
    · skip
      have el_255 : (255 : Int32).toInt = 255 := rfl
      rw [i_lt] at c_2
      refine j_iconst (pc := 11) (v := 1) C dJ1_canEncode_9a6ad_11 (by decide) ?_
      refine j_goto (pc := 12) (tgt := 16) C dJ1_canEncode_9a6ad_12 (by decide) ?_
      have el_1 : (1 : Int32).toInt = 1 := rfl
      have el_1 : (1 : Int32).toInt = 1 := rfl
      exact j_zret (pc := 16) C hr rfl hk (fun i => [].getD i 0, fun i => [1].getD i 0, fun i => [].getD i (fun _ => 0), fun i => [].getD i (fun _ => 0)) rfl (show (0 ≤ ((1 : Int32)).toInt ∧ ((1 : Int32)).toInt ≤ 1) ∧ ((1 : Int32).toInt = 1 ∨ (p0).toInt < 0 ∨ 255 < (p0).toInt) from ⟨by omega, by omega⟩) [] (by decide) rfl (by decide) (by decide) dJ1_canEncode_9a6ad_16
set_option maxHeartbeats 4000000 in
set_option maxRecDepth 100000 in
theorem c_J1_indexOf_f (l : Launch) (D : DG) (cyC cyI cyJ cyZ cyO : ClassId) (i : Nat) (p0 : Int32) (p1 : Int32) (p2 : Int32) (h_p0 : 0 ≤ (p0).toInt ∧ (p0).toInt ≤ 127) (h_p1 : 0 ≤ (p1).toInt ∧ (p1).toInt ≤ 0) (h_p2 : 0 ≤ (p2).toInt ∧ (p2).toInt ≤ 20) (hi_lit : i < 43) (hls : (p2).toInt ≤ ((sL i : Nat) : Int)) : KK l D (TY cyC cyI cyJ cyZ cyO) yJ1_indexOf_4cfef cJ1_indexOf_4cfef 4 (some .int) ({ frames := 1, cells := 0, slots := 0, locals := 25 } : Room) 0 0 [.ref (D.2.2.1 i), .int p0, .int p1, .int p2] [] (fun u => some (.int (u.2.1 0))) (fun u => (-1 ≤ (u.2.1 0).toInt ∧ (u.2.1 0).toInt ≤ 20) ∧ (IM ((u.2.1 0).toInt = -1) (¬ hasB i (p2).toInt p0)) ∧ (IM (0 ≤ (u.2.1 0).toInt) (hasB i (p2).toInt p0))) (fun u => []) := by
  refine KK.of (lv0 := [(0, .ref (D.2.2.1 i)), (1, .int p0), (2, .int p1), (3, .int p2)]) (by decide) rfl (Nat.le_of_ble_eq_true rfl) ?_
  intro p e s m args below meth c A C hr hk hin
  refine j_iload_n (pc := 0) C dJ1_indexOf_4cfef_0 rfl 1 rfl ?_
  refine j_callS (pc := 1) (As := [.int p0]) (rest := []) (wr := []) C (c_J1_canEncode_f l D cyC cyI cyJ cyZ cyO p0) wd_235 wd_232 wd_236 wd_237 ⟨by decide, by decide, rfl⟩ rfl ⟨rfl, rfl, by decide, by decide⟩ ⟨by decide, by decide⟩ [] [] rfl rfl ⟨by decide, by decide, by decide⟩ rfl (Nat.le_of_ble_eq_true rfl) dJ1_indexOf_4cfef_1 (fun u_1 hw_2 => ?_)
  refine j_eq (ws2 := []) (pc2 := 4) (lv2 := [(0, .ref (D.2.2.1 i)), (1, .int p0), (2, .int p1), (3, .int p2)]) (st2 := [.int (u_1.2.1 0)]) rfl rfl rfl rfl ?_
  obtain ⟨hw_2_0, hw_2_1⟩ := hw_2
  refine j_if_ne (pc := 4) (tgt := 9) C dJ1_indexOf_4cfef_4 (by decide) (fun c_3 => ?_) (fun c_3 => ?_)
  · skip
    have el_0 : (0 : Int32).toInt = 0 := rfl
    rw [i_eq] at c_3
    have k0c_3 : ((u_1.2.1 0)).toInt = 1 := by omega
    refine j_iload_n (pc := 9) C dJ1_indexOf_4cfef_9 rfl 2 rfl ?_
    refine j_iconst (pc := 10) (v := 0) C dJ1_indexOf_4cfef_10 (by decide) ?_
    have el_0 : (0 : Int32).toInt = 0 := rfl
    obtain ⟨v_4, ev_4⟩ : ∃ z : Int32, (if (p1 : Int32) < 0 then 0 else p1) = z := ⟨_, rfl⟩
    have hv_4 : v_4.toInt = max p1.toInt (0 : Int32).toInt := by rw [← ev_4]; exact mmax_I _ _
    refine j_mmax (pc := 11) (v := v_4) C wd_238 wd_5 wd_6 wd_7 (by decide) (Nat.le_of_ble_eq_true rfl) (by decide) (by decide) ev_4 dJ1_indexOf_4cfef_11 ?_
    refine j_istore_n (pc := 14) (lv' := [(2, .int v_4), (0, .ref (D.2.2.1 i)), (1, .int p0), (3, .int p2)]) C dJ1_indexOf_4cfef_14 rfl (by decide) rfl ?_
    refine j_iload_n (pc := 15) C dJ1_indexOf_4cfef_15 rfl 3 rfl ?_
    refine j_aload_n (pc := 16) C dJ1_indexOf_4cfef_16 rfl 1 rfl ?_
    obtain ⟨v_5, ev_5⟩ : ∃ z : Int32, Int32.ofNat (sL i) = z := ⟨_, rfl⟩
    have hlv_5 := sL_bd (i := i) hi_lit
    have hv_5 : v_5.toInt = (sL i : Nat) := by rw [← ev_5]; exact nI_toInt (by omega)
    refine j_sblen (pc := 17) (v := v_5) C hi_lit ev_5 dJ1_indexOf_4cfef_17 ?_
    obtain ⟨v_6, ev_6⟩ : ∃ z : Int32, (if (v_5 : Int32) < p2 then v_5 else p2) = z := ⟨_, rfl⟩
    have hv_6 : v_6.toInt = min p2.toInt v_5.toInt := by rw [← ev_6]; exact mmin_I _ _
    refine j_mmin (pc := 18) (v := v_6) C wd_239 wd_139 wd_6 wd_140 (by decide) (Nat.le_of_ble_eq_true rfl) (by decide) (by decide) ev_6 dJ1_indexOf_4cfef_18 ?_
    refine j_istore_n (pc := 21) (lv' := [(3, .int v_6), (2, .int v_4), (0, .ref (D.2.2.1 i)), (1, .int p0)]) C dJ1_indexOf_4cfef_21 rfl (by decide) rfl ?_
    refine j_iload_n (pc := 22) C dJ1_indexOf_4cfef_22 rfl 1 rfl ?_
    refine j_iload_n (pc := 23) C dJ1_indexOf_4cfef_23 rfl 0 rfl ?_
    refine j_icmp_lt (pc := 24) (tgt := 29) C dJ1_indexOf_4cfef_24 (by decide) (fun c_7 => ?_) (fun c_7 => ?_)
    · skip
      rw [i_lt] at c_7
      refine j_aload_n (pc := 29) C dJ1_indexOf_4cfef_29 rfl 2 rfl ?_
      refine j_iload_n (pc := 30) C dJ1_indexOf_4cfef_30 rfl 3 rfl ?_
      refine j_iload_n (pc := 31) C dJ1_indexOf_4cfef_31 rfl 1 rfl ?_
      refine j_iload_n (pc := 32) C dJ1_indexOf_4cfef_32 rfl 0 rfl ?_
      refine j_callS (pc := 33) (As := [.ref (D.2.2.1 i), .int p0, .int v_4, .int v_6]) (rest := []) (wr := []) C (c_J1_indexOfChar_f l D cyC cyI cyJ cyZ cyO i p0 v_4 v_6 h_p0 (by omega) (by omega) hi_lit (by omega)) wd_240 wd_232 wd_241 wd_242 ⟨by decide, by decide, rfl⟩ rfl ⟨rfl, rfl, by decide, by decide⟩ ⟨by decide, by decide⟩ [] [] rfl rfl ⟨by decide, by decide, by decide⟩ rfl (Nat.le_of_ble_eq_true rfl) dJ1_indexOf_4cfef_33 (fun u_8 hw_9 => ?_)
      refine j_eq (ws2 := []) (pc2 := 36) (lv2 := [(3, .int v_6), (2, .int v_4), (0, .ref (D.2.2.1 i)), (1, .int p0)]) (st2 := [.int (u_8.2.1 0)]) rfl rfl rfl rfl ?_
      obtain ⟨hw_9_0, hw_9_1, hw_9_2⟩ := hw_9
      exact j_iret (pc := 36) C hr hk (fun i => [].getD i 0, fun i => [(u_8.2.1 0)].getD i 0, fun i => [].getD i (fun _ => 0), fun i => [].getD i (fun _ => 0)) rfl (show (-1 ≤ ((u_8.2.1 0)).toInt ∧ ((u_8.2.1 0)).toInt ≤ 20) ∧ (IM ((u_8.2.1 0).toInt = -1) (¬ hasB i (p2).toInt p0)) ∧ (IM (0 ≤ (u_8.2.1 0).toInt) (hasB i (p2).toInt p0)) from ⟨hw_9_0, (fun h z => hw_9_1 h (by rw [show (v_6).toInt = (p2).toInt from (by omega)]; exact z)), (fun h => by have z := hw_9_2 h; rw [show (v_6).toInt = (p2).toInt from (by omega)] at z; exact z)⟩) [] (by decide) rfl (by decide) (by decide) dJ1_indexOf_4cfef_36
    · skip
      rw [i_lt] at c_7
      have k1c_7 : v_6.toInt = 0 := by omega
      refine j_iconst (pc := 27) (v := (-1)) C dJ1_indexOf_4cfef_27 (by decide) ?_
      have el_m1 : ((-1) : Int32).toInt = (-1) := rfl
      have el_m1 : ((-1) : Int32).toInt = (-1) := rfl
      have el_m1 : ((-1) : Int32).toInt = (-1) := rfl
      exact j_iret (pc := 28) C hr hk (fun i => [].getD i 0, fun i => [(-1)].getD i 0, fun i => [].getD i (fun _ => 0), fun i => [].getD i (fun _ => 0)) rfl (show (-1 ≤ (((-1) : Int32)).toInt ∧ (((-1) : Int32)).toInt ≤ 20) ∧ (IM (((-1) : Int32).toInt = -1) (¬ hasB i (p2).toInt p0)) ∧ (IM (0 ≤ ((-1) : Int32).toInt) (hasB i (p2).toInt p0)) from ⟨by omega, (fun _ z => by obtain ⟨j, j1, j2⟩ := z; omega), (fun h => absurd h (by decide))⟩) [] (by decide) rfl (by decide) (by decide) dJ1_indexOf_4cfef_28
  · skip
    have el_0 : (0 : Int32).toInt = 0 := rfl
    rw [i_eq] at c_3
    refine j_iconst (pc := 7) (v := (-1)) C dJ1_indexOf_4cfef_7 (by decide) ?_
    have el_m1 : ((-1) : Int32).toInt = (-1) := rfl
    have el_m1 : ((-1) : Int32).toInt = (-1) := rfl
    have el_m1 : ((-1) : Int32).toInt = (-1) := rfl
    exact j_iret (pc := 8) C hr hk (fun i => [].getD i 0, fun i => [(-1)].getD i 0, fun i => [].getD i (fun _ => 0), fun i => [].getD i (fun _ => 0)) rfl (show (-1 ≤ (((-1) : Int32)).toInt ∧ (((-1) : Int32)).toInt ≤ 20) ∧ (IM (((-1) : Int32).toInt = -1) (¬ hasB i (p2).toInt p0)) ∧ (IM (0 ≤ ((-1) : Int32).toInt) (hasB i (p2).toInt p0)) from ⟨by omega, (fun _ z => by obtain ⟨j, j1, j2⟩ := z; omega), (fun h => absurd h (by decide))⟩) [] (by decide) rfl (by decide) (by decide) dJ1_indexOf_4cfef_8
set_option maxHeartbeats 4000000 in
set_option maxRecDepth 100000 in
theorem c_J0_indexOf2_f (l : Launch) (D : DG) (cyC cyI cyJ cyZ cyO : ClassId) (i : Nat) (p0 : Int32) (p1 : Int32) (h_p0 : 0 ≤ (p0).toInt ∧ (p0).toInt ≤ 127) (h_p1 : 0 ≤ (p1).toInt ∧ (p1).toInt ≤ 0) (hi_lit : i < 43) : KK l D (TY cyC cyI cyJ cyZ cyO) yJ0_indexOf_7cf53 cJ0_indexOf_7cf53 3 (some .int) ({ frames := 2, cells := 0, slots := 0, locals := 48 } : Room) 0 0 [.ref (D.2.1 i), .int p0, .int p1] [] (fun u => some (.int (u.2.1 0))) (fun u => (-1 ≤ (u.2.1 0).toInt ∧ (u.2.1 0).toInt ≤ 20) ∧ (IM ((u.2.1 0).toInt = -1) (¬ hasB i ((sL i : Nat) : Int) p0)) ∧ (IM (0 ≤ (u.2.1 0).toInt) (hasB i ((sL i : Nat) : Int) p0))) (fun u => []) := by
  refine KK.of (lv0 := [(0, .ref (D.2.1 i)), (1, .int p0), (2, .int p1)]) (by decide) rfl (Nat.le_of_ble_eq_true rfl) ?_
  intro p e s m args below meth c A C hr hk hin
  refine j_aload_n (pc := 0) C dJ0_indexOf_7cf53_0 rfl 0 rfl ?_
  refine j_callT (pc := 1) (As := []) (rest := []) (wr := []) C (c_J0_isLatin1_aae02 l D cyC cyI cyJ cyZ cyO i hi_lit) wd_227 wd_220 wd_228 wd_229 wd_230 ⟨by decide, by decide, rfl⟩ rfl ⟨rfl, rfl, by decide, by decide⟩ ⟨by decide, by decide⟩ [] [] rfl rfl ⟨by decide, by decide, by decide⟩ hi_lit rfl rfl (Nat.le_of_ble_eq_true rfl) dJ0_indexOf_7cf53_1 (fun u_1 hw_2 => ?_)
  refine j_eq (ws2 := []) (pc2 := 4) (lv2 := [(0, .ref (D.2.1 i)), (1, .int p0), (2, .int p1)]) (st2 := [.int 1]) rfl rfl rfl rfl ?_
  refine j_if_eq_f (pc := 4) (tgt := 23) C dJ0_indexOf_7cf53_4 (by decide) (by decide) ?_
  refine j_aload_n (pc := 7) C dJ0_indexOf_7cf53_7 rfl 0 rfl ?_
  refine j_sgetV (pc := 8) C hi_lit wd_218 dJ0_indexOf_7cf53_8 ?_
  refine j_iload_n (pc := 11) C dJ0_indexOf_7cf53_11 rfl 1 rfl ?_
  refine j_iload_n (pc := 12) C dJ0_indexOf_7cf53_12 rfl 2 rfl ?_
  refine j_aload_n (pc := 13) C dJ0_indexOf_7cf53_13 rfl 0 rfl ?_
  refine j_callT (pc := 14) (As := []) (rest := [.int p1, .int p0, .ref (D.2.2.1 i)]) (wr := []) C (c_J0_length_8abf5 l D cyC cyI cyJ cyZ cyO i hi_lit) wd_243 wd_220 wd_244 wd_245 wd_246 ⟨by decide, by decide, rfl⟩ rfl ⟨rfl, rfl, by decide, by decide⟩ ⟨by decide, by decide⟩ [] [] rfl rfl ⟨by decide, by decide, by decide⟩ hi_lit rfl rfl (Nat.le_of_ble_eq_true rfl) dJ0_indexOf_7cf53_14 (fun u_3 hw_4 => ?_)
  refine j_eq (ws2 := []) (pc2 := 17) (lv2 := [(0, .ref (D.2.1 i)), (1, .int p0), (2, .int p1)]) (st2 := [.int (u_3.2.1 0), .int p1, .int p0, .ref (D.2.2.1 i)]) rfl rfl rfl rfl ?_
  obtain ⟨hw_4_0, hw_4_1⟩ := hw_4
  refine j_callS (pc := 17) (As := [.ref (D.2.2.1 i), .int p0, .int p1, .int (u_3.2.1 0)]) (rest := []) (wr := []) C (c_J1_indexOf_f l D cyC cyI cyJ cyZ cyO i p0 p1 (u_3.2.1 0) h_p0 h_p1 hw_4_0 hi_lit (by omega)) wd_247 wd_232 wd_248 wd_249 ⟨by decide, by decide, rfl⟩ rfl ⟨rfl, rfl, by decide, by decide⟩ ⟨by decide, by decide⟩ [] [] rfl rfl ⟨by decide, by decide, by decide⟩ rfl (Nat.le_of_ble_eq_true rfl) dJ0_indexOf_7cf53_17 (fun u_5 hw_6 => ?_)
  refine j_eq (ws2 := []) (pc2 := 20) (lv2 := [(0, .ref (D.2.1 i)), (1, .int p0), (2, .int p1)]) (st2 := [.int (u_5.2.1 0)]) rfl rfl rfl rfl ?_
  obtain ⟨hw_6_0, hw_6_1, hw_6_2⟩ := hw_6
  refine j_goto (pc := 20) (tgt := 36) C dJ0_indexOf_7cf53_20 (by decide) ?_
  exact j_iret (pc := 36) C hr hk (fun i => [].getD i 0, fun i => [(u_5.2.1 0)].getD i 0, fun i => [].getD i (fun _ => 0), fun i => [].getD i (fun _ => 0)) rfl (show (-1 ≤ ((u_5.2.1 0)).toInt ∧ ((u_5.2.1 0)).toInt ≤ 20) ∧ (IM ((u_5.2.1 0).toInt = -1) (¬ hasB i ((sL i : Nat) : Int) p0)) ∧ (IM (0 ≤ (u_5.2.1 0).toInt) (hasB i ((sL i : Nat) : Int) p0)) from ⟨hw_6_0, (fun h z => hw_6_1 h (by rw [hw_4_1]; exact z)), (fun h => by have z := hw_6_2 h; rw [hw_4_1] at z; exact z)⟩) [] (by decide) rfl (by decide) (by decide) dJ0_indexOf_7cf53_36
set_option maxHeartbeats 4000000 in
set_option maxRecDepth 100000 in
theorem c_J0_indexOf_f (l : Launch) (D : DG) (cyC cyI cyJ cyZ cyO : ClassId) (i : Nat) (p0 : Int32) (h_p0 : 0 ≤ (p0).toInt ∧ (p0).toInt ≤ 127) (hi_lit : i < 43) : KK l D (TY cyC cyI cyJ cyZ cyO) yJ0_indexOf_0f7a4 cJ0_indexOf_0f7a4 2 (some .int) ({ frames := 3, cells := 0, slots := 0, locals := 70 } : Room) 0 0 [.ref (D.2.1 i), .int p0] [] (fun u => some (.int (u.2.1 0))) (fun u => (-1 ≤ (u.2.1 0).toInt ∧ (u.2.1 0).toInt ≤ 20) ∧ (IM ((u.2.1 0).toInt = -1) (¬ hasB i ((sL i : Nat) : Int) p0)) ∧ (IM (0 ≤ (u.2.1 0).toInt) (hasB i ((sL i : Nat) : Int) p0))) (fun u => []) := by
  refine KK.of (lv0 := [(0, .ref (D.2.1 i)), (1, .int p0)]) (by decide) rfl (Nat.le_of_ble_eq_true rfl) ?_
  intro p e s m args below meth c A C hr hk hin
  refine j_aload_n (pc := 0) C dJ0_indexOf_0f7a4_0 rfl 0 rfl ?_
  refine j_iload_n (pc := 1) C dJ0_indexOf_0f7a4_1 rfl 1 rfl ?_
  refine j_iconst (pc := 2) (v := 0) C dJ0_indexOf_0f7a4_2 (by decide) ?_
  refine j_callT (pc := 3) (As := [.int p0, .int 0]) (rest := []) (wr := []) C (c_J0_indexOf2_f l D cyC cyI cyJ cyZ cyO i p0 0 h_p0 (by decide) hi_lit) wd_250 wd_220 wd_251 wd_252 wd_253 ⟨by decide, by decide, rfl⟩ rfl ⟨rfl, rfl, by decide, by decide⟩ ⟨by decide, by decide⟩ [] [] rfl rfl ⟨by decide, by decide, by decide⟩ hi_lit rfl rfl (Nat.le_of_ble_eq_true rfl) dJ0_indexOf_0f7a4_3 (fun u_1 hw_2 => ?_)
  refine j_eq (ws2 := []) (pc2 := 6) (lv2 := [(0, .ref (D.2.1 i)), (1, .int p0)]) (st2 := [.int (u_1.2.1 0)]) rfl rfl rfl rfl ?_
  obtain ⟨hw_2_0, hw_2_1, hw_2_2⟩ := hw_2
  exact j_iret (pc := 6) C hr hk (fun i => [].getD i 0, fun i => [(u_1.2.1 0)].getD i 0, fun i => [].getD i (fun _ => 0), fun i => [].getD i (fun _ => 0)) rfl (show (-1 ≤ ((u_1.2.1 0)).toInt ∧ ((u_1.2.1 0)).toInt ≤ 20) ∧ (IM ((u_1.2.1 0).toInt = -1) (¬ hasB i ((sL i : Nat) : Int) p0)) ∧ (IM (0 ≤ (u_1.2.1 0).toInt) (hasB i ((sL i : Nat) : Int) p0)) from ⟨hw_2_0, hw_2_1, hw_2_2⟩) [] (by decide) rfl (by decide) (by decide) dJ0_indexOf_0f7a4_6
theorem mulL {x y : Int32} {c : Int} (hc : x.toInt = c) (h1 : -2147483648 ≤ c * y.toInt) (h2 : c * y.toInt < 2147483648) : (x * y).toInt = c * y.toInt := by
  rw [← hc] at h1 h2 ⊢
  exact fb_mulI h1 h2
theorem mulR {x y : Int32} {c : Int} (hc : y.toInt = c) (h1 : -2147483648 ≤ c * x.toInt) (h2 : c * x.toInt < 2147483648) : (x * y).toInt = c * x.toInt := by
  rw [Int.mul_comm] at h1 h2 ⊢
  rw [← hc] at h1 h2 ⊢
  exact fb_mulI h1 h2
set_option maxHeartbeats 4000000 in
set_option maxRecDepth 100000 in
theorem c_X8_valueOf_f (l : Launch) (D : DG) (cyC cyI cyJ cyZ cyO : ClassId) (t0 : Nat) (t1 : Nat) (p0 : Int32) (p1 : Int32) (t_length : Int32) (t_next : Int32) (t_kind : Int32) (t_place : Int32) (t_number : Int32) (t_text : Nat → Int32) (h_t_length : 0 ≤ (t_length).toInt ∧ (t_length).toInt ≤ 1000) (h_t_next : 0 ≤ (t_next).toInt ∧ (t_next).toInt ≤ 1000) (h_t_kind : 0 ≤ (t_kind).toInt ∧ (t_kind).toInt ≤ 4) (h_t_place : 0 ≤ (t_place).toInt ∧ (t_place).toInt ≤ 1000) (h_p0 : 0 ≤ (p0).toInt ∧ (p0).toInt ≤ 1000) (h_p1 : 0 ≤ (p1).toInt ∧ (p1).toInt ≤ 1000) (h_t_text : Iv 1000 (0) (126) t_text) (hpp : (p0).toInt ≤ (p1).toInt ∧ (p1).toInt ≤ (p0).toInt + 4) (hdig : ∀ j : Nat, (p0).toInt ≤ (j : Int) → (j : Int) < (p1).toInt → isR 48 57 (t_text j) = true) : KK l D (TY cyC cyI cyJ cyZ cyO) yX8_valueOf cX8_valueOf 5 (some .int) ({ frames := 0, cells := 0, slots := 0, locals := 0 } : Room) 0 0 [.ref t0, .int p0, .int p1] [(t0, .inr (8, [.ref t1, .int t_length, .int t_next, .int t_kind, .int t_place, .int t_number])), (t1, .inl (cyC, 1000, .inl t_text))] (fun u => some (.int (u.2.1 0))) (fun u => (0 ≤ (u.2.1 0).toInt ∧ (u.2.1 0).toInt ≤ 9999) ∧ ((u.2.1 0).toInt = nV t_text (p0).toInt.toNat ((p1).toInt - (p0).toInt).toNat)) (fun u => [(t0, .inr (8, [.ref t1, .int t_length, .int t_next, .int t_kind, .int t_place, .int t_number])), (t1, .inl (cyC, 1000, .inl t_text))]) := by
  refine KK.of (lv0 := [(0, .ref t0), (1, .int p0), (2, .int p1)]) (by decide) rfl (Nat.le_of_ble_eq_true rfl) ?_
  intro p e s m args below meth c A C hr hk hin
  refine j_iconst (pc := 0) (v := 0) C dX8_valueOf_0 (by decide) ?_
  refine j_istore_n (pc := 1) (lv' := [(3, .int 0), (0, .ref t0), (1, .int p0), (2, .int p1)]) C dX8_valueOf_1 rfl (by decide) rfl ?_
  refine j_iload_n (pc := 2) C dX8_valueOf_2 rfl 2 rfl ?_
  refine j_istore (pc := 3) (lv' := [(4, .int p0), (3, .int 0), (0, .ref t0), (1, .int p0), (2, .int p1)]) C dX8_valueOf_3 (by decide) rfl ?_
  have loop_1 : ∀ (k_1 : Nat) (x1_4 : Int32) (x1_3 : Int32), (0 ≤ (x1_4).toInt ∧ (x1_4).toInt ≤ 1000) → (0 ≤ (x1_3).toInt ∧ (x1_3).toInt ≤ 9999) → ((p0).toInt ≤ x1_4.toInt ∧ x1_4.toInt ≤ (p1).toInt ∧ (x1_4.toInt = (p0).toInt ∧ x1_3.toInt ≤ 0 ∨ x1_4.toInt = (p0).toInt + 1 ∧ x1_3.toInt ≤ 9 ∨ x1_4.toInt = (p0).toInt + 2 ∧ x1_3.toInt ≤ 99 ∨ x1_4.toInt = (p0).toInt + 3 ∧ x1_3.toInt ≤ 999 ∨ x1_4.toInt = (p0).toInt + 4 ∧ x1_3.toInt ≤ 9999)) → (x1_3.toInt = nV t_text (p0).toInt.toNat (x1_4.toInt - (p0).toInt).toNat) → (1000 - x1_4.toInt).toNat < k_1 → J p l e ({ frames := 0, cells := 0, slots := 0, locals := 0 } : Room) s m args below meth c D A 5 0 0 (QX below D (TY cyC cyI cyJ cyZ cyO) A (fun u => some (.int (u.2.1 0))) (fun u => (0 ≤ (u.2.1 0).toInt ∧ (u.2.1 0).toInt ≤ 9999) ∧ ((u.2.1 0).toInt = nV t_text (p0).toInt.toNat ((p1).toInt - (p0).toInt).toNat)) (fun u => [(t0, .inr (8, [.ref t1, .int t_length, .int t_next, .int t_kind, .int t_place, .int t_number])), (t1, .inl (cyC, 1000, .inl t_text))]) args s 0 0) [(t0, .inr (8, [.ref t1, .int t_length, .int t_next, .int t_kind, .int t_place, .int t_number])), (t1, .inl (cyC, 1000, .inl t_text))] 5 [(4, .int x1_4), (3, .int x1_3), (0, .ref t0), (1, .int p0), (2, .int p1)] [] := by
    intro k_1
    induction k_1 with
    | zero =>
      intro x1_4 x1_3 hi_1_0 hi_1_1 hr_1 hq_1_0 hm_1
      exact absurd hm_1 (Nat.not_lt_zero _)
    | succ k_1 ih_1 =>
      intro x1_4 x1_3 hi_1_0 hi_1_1 hr_1 hq_1_0 hm_1
      refine j_iload (pc := 5) C dX8_valueOf_5 0 rfl ?_
      refine j_iload_n (pc := 7) C dX8_valueOf_7 rfl 4 rfl ?_
      refine j_icmp_ge (pc := 8) (tgt := 33) C dX8_valueOf_8 (by decide) (fun c_2 => ?_) (fun c_2 => ?_)
      · skip
        rw [i_le] at c_2
        refine j_iload_n (pc := 33) C dX8_valueOf_33 rfl 1 rfl ?_
        exact j_iret (pc := 34) C hr hk (fun i => [].getD i 0, fun i => [x1_3].getD i 0, fun i => [].getD i (fun _ => 0), fun i => [].getD i (fun _ => 0)) rfl (show (0 ≤ (x1_3).toInt ∧ (x1_3).toInt ≤ 9999) ∧ (x1_3.toInt = nV t_text (p0).toInt.toNat ((p1).toInt - (p0).toInt).toNat) from ⟨hi_1_1, (by rw [show ((p1).toInt - (p0).toInt).toNat = ((x1_4).toInt - (p0).toInt).toNat from (by omega)]; exact hq_1_0)⟩) [0, 1] (by decide) rfl (by decide) (by decide) dX8_valueOf_34
      · skip
        rw [i_le] at c_2
        refine j_iload_n (pc := 11) C dX8_valueOf_11 rfl 1 rfl ?_
        refine j_bipush (pc := 12) (v := 10) C dX8_valueOf_12 (by decide) ?_
        obtain ⟨v_3, ev_3⟩ : ∃ z : Int32, x1_3 * 10 = z := ⟨_, rfl⟩
        have el_10 : (10 : Int32).toInt = 10 := rfl
        have hv_3 : v_3.toInt = 10 * x1_3.toInt := by rw [← ev_3]; exact mulR (c := 10) rfl (by omega) (by omega)
        refine j_imul (pc := 14) (v := v_3) C dX8_valueOf_14 ev_3 ?_
        refine j_aload_n (pc := 15) C dX8_valueOf_15 rfl 2 rfl ?_
        refine j_get (pc := 16) (ci := 8) (v := .ref t1) C inw_8 0 rfl rfl 0 (by decide) wd_255 rfl rfl dX8_valueOf_16 ?_
        refine j_iload (pc := 19) C dX8_valueOf_19 0 rfl ?_
        obtain ⟨v_4, ev_4⟩ : ∃ z, t_text (x1_4).toInt.toNat = z := ⟨_, rfl⟩
        have env_4 : (t_text (x1_4).toInt.toNat).toInt = v_4.toInt := by rw [ev_4]
        have hv_4 := h_t_text (x1_4).toInt.toNat (i_lt_n hi_1_0.1 (by omega)); rw [ev_4] at hv_4
        refine j_cald (pc := 21) (v := v_4) (k := (x1_4).toInt.toNat) C 1 0 rfl rfl (i_nn hi_1_0.1) rfl (i_lt_n hi_1_0.1 (by omega)) ev_4 dX8_valueOf_21 ?_
        have hd9 := of_decide_eq_true (hdig (x1_4).toInt.toNat (by omega) (by omega))
        rw [ev_4] at hd9
        have el_48 : (48 : Int32).toInt = 48 := rfl
        have el_57 : (57 : Int32).toInt = 57 := rfl
        obtain ⟨v_5, ev_5⟩ : ∃ z : Int32, v_3 + v_4 = z := ⟨_, rfl⟩
        have hv_5 : v_5.toInt = v_3.toInt + v_4.toInt := by rw [← ev_5]; exact fb_addI (by omega) (by omega)
        refine j_iadd (pc := 22) (v := v_5) C dX8_valueOf_22 ev_5 ?_
        refine j_bipush (pc := 23) (v := 48) C dX8_valueOf_23 (by decide) ?_
        obtain ⟨v_6, ev_6⟩ : ∃ z : Int32, v_5 - 48 = z := ⟨_, rfl⟩
        have el_48 : (48 : Int32).toInt = 48 := rfl
        have hv_6 : v_6.toInt = v_5.toInt - (48 : Int32).toInt := by rw [← ev_6]; exact fb_subI (by omega) (by omega)
        refine j_isub (pc := 25) (v := v_6) C dX8_valueOf_25 ev_6 ?_
        refine j_istore_n (pc := 26) (lv' := [(3, .int v_6), (4, .int x1_4), (0, .ref t0), (1, .int p0), (2, .int p1)]) C dX8_valueOf_26 rfl (by decide) rfl ?_
        obtain ⟨v_7, ev_7⟩ : ∃ z : Int32, x1_4 + 1 = z := ⟨_, rfl⟩
        have el_1 : (1 : Int32).toInt = 1 := rfl
        have hv_7 : v_7.toInt = x1_4.toInt + (1 : Int32).toInt := by rw [← ev_7]; exact fb_addI (by omega) (by omega)
        refine j_iinc (pc := 27) (v := v_7) (lv' := [(4, .int v_7), (3, .int v_6), (0, .ref t0), (1, .int p0), (2, .int p1)]) C dX8_valueOf_27 1 rfl ev_7 (by decide) rfl ?_
        refine j_goto (pc := 30) (tgt := 5) C dX8_valueOf_30 (by decide) ?_
        exact j_lv [0, 1, 2, 3, 4] rfl (ih_1 v_7 v_6 (by omega) (by omega) (by omega) (by rw [show ((v_7).toInt - (p0).toInt).toNat = ((x1_4).toInt - (p0).toInt).toNat + 1 from (by omega)]; show (v_6).toInt = 10 * nV t_text (p0).toInt.toNat ((x1_4).toInt - (p0).toInt).toNat + (t_text ((p0).toInt.toNat + ((x1_4).toInt - (p0).toInt).toNat)).toInt - 48; rw [← hq_1_0, show (p0).toInt.toNat + ((x1_4).toInt - (p0).toInt).toNat = (x1_4).toInt.toNat from (by omega), ev_4]; omega) (by omega))
  have el_0 : (0 : Int32).toInt = 0 := rfl
  exact j_lv [0, 1, 2, 3, 4] rfl (loop_1 4096 p0 0 h_p0 (by decide) (by omega) (by rw [show ((p0).toInt - (p0).toInt).toNat = 0 from (by omega)]; rfl) (by omega))
theorem isS_has {c : Int32} (h0 : 0 ≤ c.toInt) (h1 : c.toInt ≤ 127) : isS c = true ↔ hasB 25 ((sL 25 : Nat) : Int) c := by
  obtain ⟨n, e, hn, _⟩ := nI_ofI h0
  rw [e]
  refine (isS_lit n (by omega)).trans ⟨fun ⟨j, hj⟩ => ⟨j.val, ?_, hj⟩, fun ⟨j, h2, h3⟩ => ⟨⟨j, ?_⟩, h3⟩⟩
  · have := j.isLt; show (j.val : Int) < ((8 : Nat) : Int); omega
  · have h4 : ((sL 25 : Nat) : Int) = 8 := rfl
    omega
set_option maxHeartbeats 4000000 in
set_option maxRecDepth 100000 in
theorem c_X8_advance_f (l : Launch) (D : DG) (cyC cyI cyJ cyZ cyO : ClassId) (t0 : Nat) (t1 : Nat) (t_length : Int32) (t_next : Int32) (t_kind : Int32) (t_place : Int32) (t_number : Int32) (t_text : Nat → Int32) (h_t_length : 0 ≤ (t_length).toInt ∧ (t_length).toInt ≤ 1000) (h_t_next : 0 ≤ (t_next).toInt ∧ (t_next).toInt ≤ 1000) (h_t_kind : 0 ≤ (t_kind).toInt ∧ (t_kind).toInt ≤ 4) (h_t_place : 0 ≤ (t_place).toInt ∧ (t_place).toInt ≤ 1000) (h_t_text : Iv 1000 (0) (126) t_text) : KK l D (TY cyC cyI cyJ cyZ cyO) yX8_advance cX8_advance 3 none ({ frames := 4, cells := 0, slots := 0, locals := 91 } : Room) 0 0 [.ref t0] [(t0, .inr (8, [.ref t1, .int t_length, .int t_next, .int t_kind, .int t_place, .int t_number])), (t1, .inl (cyC, 1000, .inl t_text))] (fun u => none) (fun u => (0 ≤ (u.2.1 0).toInt ∧ (u.2.1 0).toInt ≤ 1000) ∧ (0 ≤ (u.2.1 1).toInt ∧ (u.2.1 1).toInt ≤ 4) ∧ (0 ≤ (u.2.1 2).toInt ∧ (u.2.1 2).toInt ≤ 1000) ∧ (¬ ((u.2.1 1)).toInt = 3 ∨ ((u.2.1 2)).toInt ≤ 999) ∧ (TH t_text (t_length).toInt.toNat ((u.2.1 0)).toInt ((u.2.1 1)).toInt ((u.2.1 2)).toInt ((u.2.1 3)).toInt) ∧ (((u.2.1 2)).toInt.toNat = tP t_text (t_length).toInt.toNat (t_next).toInt.toNat)) (fun u => [(t0, .inr (8, [.ref t1, .int t_length, .int (u.2.1 0), .int (u.2.1 1), .int (u.2.1 2), .int (u.2.1 3)])), (t1, .inl (cyC, 1000, .inl t_text))]) := by
  refine KK.of (lv0 := [(0, .ref t0)]) (by decide) rfl (Nat.le_of_ble_eq_true rfl) ?_
  intro p e s m args below meth c A C hr hk hin
  refine j_aload_n (pc := 0) C dX8_advance_0 rfl 0 rfl ?_
  refine j_aload_n (pc := 1) C dX8_advance_1 rfl 0 rfl ?_
  refine j_aload_n (pc := 2) C dX8_advance_2 rfl 0 rfl ?_
  refine j_get (pc := 3) (ci := 8) (v := .int t_next) C inw_8 0 rfl rfl 2 (by decide) wd_256 rfl rfl dX8_advance_3 ?_
  refine j_callV (pc := 6) (As := [.int t_next]) (rest := [.ref t0]) (wr := []) C (c_X8_pastBlanks_f l D cyC cyI cyJ cyZ cyO t0 t1 t_next t_length t_next t_kind t_place t_number t_text h_t_length h_t_next h_t_kind h_t_place h_t_next h_t_text) wd_257 wd_258 wd_259 wd_260 wd_261 ⟨by decide, by decide, rfl⟩ rfl ⟨rfl, rfl, by decide, by decide⟩ ⟨by decide, by decide⟩ [0, 1] [] rfl rfl ⟨by decide, by decide, by decide⟩ 0 rfl rfl rfl (Nat.le_of_ble_eq_true rfl) dX8_advance_6 (fun u_1 hw_2 => ?_)
  refine j_eq (ws2 := [(t0, .inr (8, [.ref t1, .int t_length, .int t_next, .int t_kind, .int t_place, .int t_number])), (t1, .inl (cyC, 1000, .inl t_text))]) (pc2 := 9) (lv2 := [(0, .ref t0)]) (st2 := [.int (u_1.2.1 0), .ref t0]) rfl rfl rfl rfl ?_
  obtain ⟨hw_2_0, hw_2_1, hw_2_2⟩ := hw_2
  refine j_put (pc := 9) (ci := 8) (v := .int (u_1.2.1 0)) (ws' := [(t0, .inr (8, [.ref t1, .int t_length, .int t_next, .int t_kind, .int (u_1.2.1 0), .int t_number])), (t1, .inl (cyC, 1000, .inl t_text))]) C inw_8 0 rfl rfl 4 (by decide) wd_262 rfl tyX8_ok nmX8 rfl (tyX8_ok 4 (by decide)) rfl rfl (Nat.le_of_ble_eq_true rfl) dX8_advance_9 rfl ?_
  refine j_aload_n (pc := 12) C dX8_advance_12 rfl 0 rfl ?_
  refine j_aload_n (pc := 13) C dX8_advance_13 rfl 0 rfl ?_
  refine j_get (pc := 14) (ci := 8) (v := .int (u_1.2.1 0)) C inw_8 0 rfl rfl 4 (by decide) wd_262 rfl rfl dX8_advance_14 ?_
  refine j_bipush (pc := 17) (v := 97) C dX8_advance_17 (by decide) ?_
  refine j_bipush (pc := 19) (v := 122) C dX8_advance_19 (by decide) ?_
  refine j_callV (pc := 21) (As := [.int (u_1.2.1 0), .int 97, .int 122]) (rest := []) (wr := []) C (c_X8_pastRun_f l D cyC cyI cyJ cyZ cyO t0 t1 (u_1.2.1 0) 97 122 t_length t_next t_kind (u_1.2.1 0) t_number t_text h_t_length h_t_next h_t_kind hw_2_0 hw_2_0 h_t_text) wd_263 wd_258 wd_264 wd_265 wd_266 ⟨by decide, by decide, rfl⟩ rfl ⟨rfl, rfl, by decide, by decide⟩ ⟨by decide, by decide⟩ [0, 1] [] rfl rfl ⟨by decide, by decide, by decide⟩ 0 rfl rfl rfl (Nat.le_of_ble_eq_true rfl) dX8_advance_21 (fun u_3 hw_4 => ?_)
  refine j_eq (ws2 := [(t0, .inr (8, [.ref t1, .int t_length, .int t_next, .int t_kind, .int (u_1.2.1 0), .int t_number])), (t1, .inl (cyC, 1000, .inl t_text))]) (pc2 := 24) (lv2 := [(0, .ref t0)]) (st2 := [.int (u_3.2.1 0)]) rfl rfl rfl rfl ?_
  obtain ⟨hw_4_0, hw_4_1, hw_4_2⟩ := hw_4
  refine j_istore_n (pc := 24) (lv' := [(1, .int (u_3.2.1 0)), (0, .ref t0)]) C dX8_advance_24 rfl (by decide) rfl ?_
  refine j_aload_n (pc := 25) C dX8_advance_25 rfl 1 rfl ?_
  refine j_aload_n (pc := 26) C dX8_advance_26 rfl 1 rfl ?_
  refine j_get (pc := 27) (ci := 8) (v := .int (u_1.2.1 0)) C inw_8 0 rfl rfl 4 (by decide) wd_262 rfl rfl dX8_advance_27 ?_
  refine j_bipush (pc := 30) (v := 48) C dX8_advance_30 (by decide) ?_
  refine j_bipush (pc := 32) (v := 57) C dX8_advance_32 (by decide) ?_
  refine j_callV (pc := 34) (As := [.int (u_1.2.1 0), .int 48, .int 57]) (rest := []) (wr := []) C (c_X8_pastRun_f l D cyC cyI cyJ cyZ cyO t0 t1 (u_1.2.1 0) 48 57 t_length t_next t_kind (u_1.2.1 0) t_number t_text h_t_length h_t_next h_t_kind hw_2_0 hw_2_0 h_t_text) wd_263 wd_258 wd_264 wd_265 wd_266 ⟨by decide, by decide, rfl⟩ rfl ⟨rfl, rfl, by decide, by decide⟩ ⟨by decide, by decide⟩ [0, 1] [] rfl rfl ⟨by decide, by decide, by decide⟩ 0 rfl rfl rfl (Nat.le_of_ble_eq_true rfl) dX8_advance_34 (fun u_5 hw_6 => ?_)
  refine j_eq (ws2 := [(t0, .inr (8, [.ref t1, .int t_length, .int t_next, .int t_kind, .int (u_1.2.1 0), .int t_number])), (t1, .inl (cyC, 1000, .inl t_text))]) (pc2 := 37) (lv2 := [(1, .int (u_3.2.1 0)), (0, .ref t0)]) (st2 := [.int (u_5.2.1 0)]) rfl rfl rfl rfl ?_
  obtain ⟨hw_6_0, hw_6_1, hw_6_2⟩ := hw_6
  refine j_istore_n (pc := 37) (lv' := [(2, .int (u_5.2.1 0)), (1, .int (u_3.2.1 0)), (0, .ref t0)]) C dX8_advance_37 rfl (by decide) rfl ?_
  have eP : tP t_text (t_length).toInt.toNat (t_next).toInt.toNat = ((u_1.2.1 0)).toInt.toNat := (hw_2_1).rn.symm
  have eW : tW t_text (t_length).toInt.toNat (t_next).toInt.toNat = ((u_3.2.1 0)).toInt.toNat := by unfold tW; rw [eP]; exact (hw_4_1).rn.symm
  have eD : tD t_text (t_length).toInt.toNat (t_next).toInt.toNat = ((u_5.2.1 0)).toInt.toNat := by unfold tD; rw [eP]; exact (hw_6_1).rn.symm
  refine j_aload_n (pc := 38) C dX8_advance_38 rfl 2 rfl ?_
  refine j_get (pc := 39) (ci := 8) (v := .int (u_1.2.1 0)) C inw_8 0 rfl rfl 4 (by decide) wd_262 rfl rfl dX8_advance_39 ?_
  refine j_aload_n (pc := 42) C dX8_advance_42 rfl 2 rfl ?_
  refine j_get (pc := 43) (ci := 8) (v := .int t_length) C inw_8 0 rfl rfl 1 (by decide) wd_254 rfl rfl dX8_advance_43 ?_
  refine j_icmp_lt (pc := 46) (tgt := 65) C dX8_advance_46 (by decide) (fun c_7 => ?_) (fun c_7 => ?_)
  · skip
    rw [i_lt] at c_7
    refine j_iload_n (pc := 65) C dX8_advance_65 rfl 1 rfl ?_
    refine j_aload_n (pc := 66) C dX8_advance_66 rfl 2 rfl ?_
    refine j_get (pc := 67) (ci := 8) (v := .int (u_1.2.1 0)) C inw_8 0 rfl rfl 4 (by decide) wd_262 rfl rfl dX8_advance_67 ?_
    refine j_icmp_le (pc := 70) (tgt := 104) C dX8_advance_70 (by decide) (fun c_8 => ?_) (fun c_8 => ?_)
    · skip
      rw [i_le] at c_8
      refine j_iload_n (pc := 104) C dX8_advance_104 rfl 0 rfl ?_
      refine j_aload_n (pc := 105) C dX8_advance_105 rfl 2 rfl ?_
      refine j_get (pc := 106) (ci := 8) (v := .int (u_1.2.1 0)) C inw_8 0 rfl rfl 4 (by decide) wd_262 rfl rfl dX8_advance_106 ?_
      refine j_icmp_le (pc := 109) (tgt := 170) C dX8_advance_109 (by decide) (fun c_9 => ?_) (fun c_9 => ?_)
      · skip
        rw [i_le] at c_9
        refine j_aload_n (pc := 170) C dX8_advance_170 rfl 2 rfl ?_
        refine j_aload_n (pc := 171) C dX8_advance_171 rfl 2 rfl ?_
        refine j_get (pc := 172) (ci := 8) (v := .int (u_1.2.1 0)) C inw_8 0 rfl rfl 4 (by decide) wd_262 rfl rfl dX8_advance_172 ?_
        refine j_iconst (pc := 175) (v := 1) C dX8_advance_175 (by decide) ?_
        obtain ⟨v_10, ev_10⟩ : ∃ z : Int32, (u_1.2.1 0) + 1 = z := ⟨_, rfl⟩
        have el_1 : (1 : Int32).toInt = 1 := rfl
        have hv_10 : v_10.toInt = ((u_1.2.1 0)).toInt + (1 : Int32).toInt := by rw [← ev_10]; exact fb_addI (by omega) (by omega)
        refine j_iadd (pc := 176) (v := v_10) C dX8_advance_176 ev_10 ?_
        refine j_put (pc := 177) (ci := 8) (v := .int v_10) (ws' := [(t0, .inr (8, [.ref t1, .int t_length, .int v_10, .int t_kind, .int (u_1.2.1 0), .int t_number])), (t1, .inl (cyC, 1000, .inl t_text))]) C inw_8 0 rfl rfl 2 (by decide) wd_256 rfl tyX8_ok nmX8 rfl (tyX8_ok 2 (by decide)) rfl rfl (Nat.le_of_ble_eq_true rfl) dX8_advance_177 rfl ?_
        refine j_aload_n (pc := 180) C dX8_advance_180 rfl 2 rfl ?_
        refine j_ldcS (pc := 181) (i := 25) C (by decide) rfl dX8_advance_181 ?_
        refine j_aload_n (pc := 183) C dX8_advance_183 rfl 2 rfl ?_
        refine j_get (pc := 184) (ci := 8) (v := .ref t1) C inw_8 0 rfl rfl 0 (by decide) wd_255 rfl rfl dX8_advance_184 ?_
        refine j_aload_n (pc := 187) C dX8_advance_187 rfl 2 rfl ?_
        refine j_get (pc := 188) (ci := 8) (v := .int (u_1.2.1 0)) C inw_8 0 rfl rfl 4 (by decide) wd_262 rfl rfl dX8_advance_188 ?_
        obtain ⟨v_11, ev_11⟩ : ∃ z, t_text ((u_1.2.1 0)).toInt.toNat = z := ⟨_, rfl⟩
        have env_11 : (t_text ((u_1.2.1 0)).toInt.toNat).toInt = v_11.toInt := by rw [ev_11]
        have hv_11 := h_t_text ((u_1.2.1 0)).toInt.toNat (i_lt_n hw_2_0.1 (by omega)); rw [ev_11] at hv_11
        refine j_cald (pc := 191) (v := v_11) (k := ((u_1.2.1 0)).toInt.toNat) C 1 0 rfl rfl (i_nn hw_2_0.1) rfl (i_lt_n hw_2_0.1 (by omega)) ev_11 dX8_advance_191 ?_
        refine j_callT (pc := 192) (As := [.int v_11]) (rest := [.ref t0]) (wr := [(t0, .inr (8, [.ref t1, .int t_length, .int v_10, .int t_kind, .int (u_1.2.1 0), .int t_number])), (t1, .inl (cyC, 1000, .inl t_text))]) C (c_J0_indexOf_f l D cyC cyI cyJ cyZ cyO 25 v_11 (by omega) (by decide)) wd_267 wd_220 wd_268 wd_269 wd_270 ⟨by decide, by decide, rfl⟩ rfl ⟨rfl, rfl, by decide, by decide⟩ ⟨by decide, by decide⟩ [] [0, 1] rfl rfl ⟨by decide, by decide, by decide⟩ (by decide) rfl rfl (Nat.le_of_ble_eq_true rfl) dX8_advance_192 (fun u_12 hw_13 => ?_)
        refine j_eq (ws2 := [(t0, .inr (8, [.ref t1, .int t_length, .int v_10, .int t_kind, .int (u_1.2.1 0), .int t_number])), (t1, .inl (cyC, 1000, .inl t_text))]) (pc2 := 195) (lv2 := [(2, .int (u_5.2.1 0)), (1, .int (u_3.2.1 0)), (0, .ref t0)]) (st2 := [.int (u_12.2.1 0), .ref t0]) rfl rfl rfl rfl ?_
        obtain ⟨hw_13_0, hw_13_1, hw_13_2⟩ := hw_13
        refine j_if_lt (pc := 195) (tgt := 202) C dX8_advance_195 (by decide) (fun c_14 => ?_) (fun c_14 => ?_)
        · skip
          have el_0 : (0 : Int32).toInt = 0 := rfl
          rw [i_lt] at c_14
          have k0c_14 : ((u_12.2.1 0)).toInt = -1 := by omega
          refine j_iconst (pc := 202) (v := 4) C dX8_advance_202 (by decide) ?_
          refine j_put (pc := 203) (ci := 8) (v := .int 4) (ws' := [(t0, .inr (8, [.ref t1, .int t_length, .int v_10, .int 4, .int (u_1.2.1 0), .int t_number])), (t1, .inl (cyC, 1000, .inl t_text))]) C inw_8 0 rfl rfl 3 (by decide) wd_271 rfl tyX8_ok nmX8 rfl (tyX8_ok 3 (by decide)) rfl rfl (Nat.le_of_ble_eq_true rfl) dX8_advance_203 rfl ?_
          have el_4 : (4 : Int32).toInt = 4 := rfl
          have el_4 : (4 : Int32).toInt = 4 := rfl
          have el_4 : (4 : Int32).toInt = 4 := rfl
          have el_4 : (4 : Int32).toInt = 4 := rfl
          exact j_vret (pc := 206) C hr hk (fun i => [].getD i 0, fun i => [v_10, 4, (u_1.2.1 0), t_number].getD i 0, fun i => [].getD i (fun _ => 0), fun i => [].getD i (fun _ => 0)) rfl (show (0 ≤ (v_10).toInt ∧ (v_10).toInt ≤ 1000) ∧ (0 ≤ ((4 : Int32)).toInt ∧ ((4 : Int32)).toInt ≤ 4) ∧ (0 ≤ ((u_1.2.1 0)).toInt ∧ ((u_1.2.1 0)).toInt ≤ 1000) ∧ (¬ ((4 : Int32)).toInt = 3 ∨ ((u_1.2.1 0)).toInt ≤ 999) ∧ (TH t_text (t_length).toInt.toNat (v_10).toInt ((4 : Int32)).toInt ((u_1.2.1 0)).toInt (t_number).toInt) ∧ (((u_1.2.1 0)).toInt.toNat = tP t_text (t_length).toInt.toNat (t_next).toInt.toNat) from ⟨by omega, by omega, hw_2_0, by omega, (by have z1 : (v_10).toInt.toNat = tE t_text (t_length).toInt.toNat (t_next).toInt.toNat := (by unfold tE; rw [eP, eW, eD, if_neg (by omega), if_neg (by omega), if_neg (by omega)]; omega); have z2 : ((4 : Int32)).toInt = tK t_text (t_length).toInt.toNat (t_next).toInt.toNat := (by have hs8 := isS_has (c := v_11) (by omega) (by omega); have hs9 : ¬ isS (t_text ((u_1.2.1 0)).toInt.toNat) = true := (fun z => hw_13_1 (by omega) (hs8.mp (by rw [ev_11] at z; exact z))); unfold tK; rw [eP, eW, eD, if_neg (by omega), if_neg (by omega), if_neg (by omega), if_neg hs9]; first | done | rfl); have z3 : ((4 : Int32)).toInt = 2 → (t_number).toInt = nV t_text (tP t_text (t_length).toInt.toNat (t_next).toInt.toNat) (tE t_text (t_length).toInt.toNat (t_next).toInt.toNat - tP t_text (t_length).toInt.toNat (t_next).toInt.toNat) := (fun h => absurd h (by decide)); exact TH.mk' (i := (t_next).toInt.toNat) eP.symm (by omega) z2 z3), eP.symm⟩) [0, 1] (by decide) rfl (by decide) (by decide) dX8_advance_206
        · skip
          have el_0 : (0 : Int32).toInt = 0 := rfl
          rw [i_lt] at c_14
          refine j_iconst (pc := 198) (v := 3) C dX8_advance_198 (by decide) ?_
          refine j_goto (pc := 199) (tgt := 203) C dX8_advance_199 (by decide) ?_
          refine j_put (pc := 203) (ci := 8) (v := .int 3) (ws' := [(t0, .inr (8, [.ref t1, .int t_length, .int v_10, .int 3, .int (u_1.2.1 0), .int t_number])), (t1, .inl (cyC, 1000, .inl t_text))]) C inw_8 0 rfl rfl 3 (by decide) wd_271 rfl tyX8_ok nmX8 rfl (tyX8_ok 3 (by decide)) rfl rfl (Nat.le_of_ble_eq_true rfl) dX8_advance_203 rfl ?_
          have el_3 : (3 : Int32).toInt = 3 := rfl
          have el_3 : (3 : Int32).toInt = 3 := rfl
          have el_3 : (3 : Int32).toInt = 3 := rfl
          have el_3 : (3 : Int32).toInt = 3 := rfl
          exact j_vret (pc := 206) C hr hk (fun i => [].getD i 0, fun i => [v_10, 3, (u_1.2.1 0), t_number].getD i 0, fun i => [].getD i (fun _ => 0), fun i => [].getD i (fun _ => 0)) rfl (show (0 ≤ (v_10).toInt ∧ (v_10).toInt ≤ 1000) ∧ (0 ≤ ((3 : Int32)).toInt ∧ ((3 : Int32)).toInt ≤ 4) ∧ (0 ≤ ((u_1.2.1 0)).toInt ∧ ((u_1.2.1 0)).toInt ≤ 1000) ∧ (¬ ((3 : Int32)).toInt = 3 ∨ ((u_1.2.1 0)).toInt ≤ 999) ∧ (TH t_text (t_length).toInt.toNat (v_10).toInt ((3 : Int32)).toInt ((u_1.2.1 0)).toInt (t_number).toInt) ∧ (((u_1.2.1 0)).toInt.toNat = tP t_text (t_length).toInt.toNat (t_next).toInt.toNat) from ⟨by omega, by omega, hw_2_0, by omega, (by have z1 : (v_10).toInt.toNat = tE t_text (t_length).toInt.toNat (t_next).toInt.toNat := (by unfold tE; rw [eP, eW, eD, if_neg (by omega), if_neg (by omega), if_neg (by omega)]; omega); have z2 : ((3 : Int32)).toInt = tK t_text (t_length).toInt.toNat (t_next).toInt.toNat := (by have hs8 := isS_has (c := v_11) (by omega) (by omega); have hs9 : isS (t_text ((u_1.2.1 0)).toInt.toNat) = true := (by rw [ev_11]; exact hs8.mpr (hw_13_2 (by omega))); unfold tK; rw [eP, eW, eD, if_neg (by omega), if_neg (by omega), if_neg (by omega), if_pos hs9]; first | done | rfl); have z3 : ((3 : Int32)).toInt = 2 → (t_number).toInt = nV t_text (tP t_text (t_length).toInt.toNat (t_next).toInt.toNat) (tE t_text (t_length).toInt.toNat (t_next).toInt.toNat - tP t_text (t_length).toInt.toNat (t_next).toInt.toNat) := (fun h => absurd h (by decide)); exact TH.mk' (i := (t_next).toInt.toNat) eP.symm (by omega) z2 z3), eP.symm⟩) [0, 1] (by decide) rfl (by decide) (by decide) dX8_advance_206
      · skip
        rw [i_le] at c_9
        refine j_aload_n (pc := 112) C dX8_advance_112 rfl 2 rfl ?_
        refine j_iload_n (pc := 113) C dX8_advance_113 rfl 0 rfl ?_
        refine j_put (pc := 114) (ci := 8) (v := .int (u_5.2.1 0)) (ws' := [(t0, .inr (8, [.ref t1, .int t_length, .int (u_5.2.1 0), .int t_kind, .int (u_1.2.1 0), .int t_number])), (t1, .inl (cyC, 1000, .inl t_text))]) C inw_8 0 rfl rfl 2 (by decide) wd_256 rfl tyX8_ok nmX8 rfl (tyX8_ok 2 (by decide)) rfl rfl (Nat.le_of_ble_eq_true rfl) dX8_advance_114 rfl ?_
        refine j_aload_n (pc := 117) C dX8_advance_117 rfl 2 rfl ?_
        refine j_aload_n (pc := 118) C dX8_advance_118 rfl 2 rfl ?_
        refine j_get (pc := 119) (ci := 8) (v := .int (u_5.2.1 0)) C inw_8 0 rfl rfl 2 (by decide) wd_256 rfl rfl dX8_advance_119 ?_
        refine j_aload_n (pc := 122) C dX8_advance_122 rfl 2 rfl ?_
        refine j_get (pc := 123) (ci := 8) (v := .int (u_1.2.1 0)) C inw_8 0 rfl rfl 4 (by decide) wd_262 rfl rfl dX8_advance_123 ?_
        obtain ⟨v_15, ev_15⟩ : ∃ z : Int32, (u_5.2.1 0) - (u_1.2.1 0) = z := ⟨_, rfl⟩
        have hv_15 : v_15.toInt = ((u_5.2.1 0)).toInt - ((u_1.2.1 0)).toInt := by rw [← ev_15]; exact fb_subI (by omega) (by omega)
        refine j_isub (pc := 126) (v := v_15) C dX8_advance_126 ev_15 ?_
        refine j_iconst (pc := 127) (v := 4) C dX8_advance_127 (by decide) ?_
        refine j_icmp_gt (pc := 128) (tgt := 135) C dX8_advance_128 (by decide) (fun c_16 => ?_) (fun c_16 => ?_)
        · skip
          have el_4 : (4 : Int32).toInt = 4 := rfl
          rw [i_lt] at c_16
          refine j_iconst (pc := 135) (v := 4) C dX8_advance_135 (by decide) ?_
          refine j_put (pc := 136) (ci := 8) (v := .int 4) (ws' := [(t0, .inr (8, [.ref t1, .int t_length, .int (u_5.2.1 0), .int 4, .int (u_1.2.1 0), .int t_number])), (t1, .inl (cyC, 1000, .inl t_text))]) C inw_8 0 rfl rfl 3 (by decide) wd_271 rfl tyX8_ok nmX8 rfl (tyX8_ok 3 (by decide)) rfl rfl (Nat.le_of_ble_eq_true rfl) dX8_advance_136 rfl ?_
          refine j_aload_n (pc := 139) C dX8_advance_139 rfl 2 rfl ?_
          refine j_aload_n (pc := 140) C dX8_advance_140 rfl 2 rfl ?_
          refine j_get (pc := 141) (ci := 8) (v := .int 4) C inw_8 0 rfl rfl 3 (by decide) wd_271 rfl rfl dX8_advance_141 ?_
          refine j_iconst (pc := 144) (v := 2) C dX8_advance_144 (by decide) ?_
          refine j_icmp_ne_t (pc := 145) (tgt := 163) C dX8_advance_145 (by decide) (by decide) ?_
          refine j_iconst (pc := 163) (v := 0) C dX8_advance_163 (by decide) ?_
          refine j_put (pc := 164) (ci := 8) (v := .int 0) (ws' := [(t0, .inr (8, [.ref t1, .int t_length, .int (u_5.2.1 0), .int 4, .int (u_1.2.1 0), .int 0])), (t1, .inl (cyC, 1000, .inl t_text))]) C inw_8 0 rfl rfl 5 (by decide) wd_272 rfl tyX8_ok nmX8 rfl (tyX8_ok 5 (by decide)) rfl rfl (Nat.le_of_ble_eq_true rfl) dX8_advance_164 rfl ?_
          refine j_goto (pc := 167) (tgt := 206) C dX8_advance_167 (by decide) ?_
          have el_4 : (4 : Int32).toInt = 4 := rfl
          have el_4 : (4 : Int32).toInt = 4 := rfl
          have el_0 : (0 : Int32).toInt = 0 := rfl
          have el_4 : (4 : Int32).toInt = 4 := rfl
          have el_0 : (0 : Int32).toInt = 0 := rfl
          have el_4 : (4 : Int32).toInt = 4 := rfl
          have el_0 : (0 : Int32).toInt = 0 := rfl
          exact j_vret (pc := 206) C hr hk (fun i => [].getD i 0, fun i => [(u_5.2.1 0), 4, (u_1.2.1 0), 0].getD i 0, fun i => [].getD i (fun _ => 0), fun i => [].getD i (fun _ => 0)) rfl (show (0 ≤ ((u_5.2.1 0)).toInt ∧ ((u_5.2.1 0)).toInt ≤ 1000) ∧ (0 ≤ ((4 : Int32)).toInt ∧ ((4 : Int32)).toInt ≤ 4) ∧ (0 ≤ ((u_1.2.1 0)).toInt ∧ ((u_1.2.1 0)).toInt ≤ 1000) ∧ (¬ ((4 : Int32)).toInt = 3 ∨ ((u_1.2.1 0)).toInt ≤ 999) ∧ (TH t_text (t_length).toInt.toNat ((u_5.2.1 0)).toInt ((4 : Int32)).toInt ((u_1.2.1 0)).toInt ((0 : Int32)).toInt) ∧ (((u_1.2.1 0)).toInt.toNat = tP t_text (t_length).toInt.toNat (t_next).toInt.toNat) from ⟨hw_6_0, by omega, hw_2_0, by omega, (by have z1 : ((u_5.2.1 0)).toInt.toNat = tE t_text (t_length).toInt.toNat (t_next).toInt.toNat := (by unfold tE; rw [eP, eW, eD, if_neg (by omega), if_neg (by omega), if_pos (by omega)]); have z2 : ((4 : Int32)).toInt = tK t_text (t_length).toInt.toNat (t_next).toInt.toNat := (by unfold tK; rw [eP, eW, eD, if_neg (by omega), if_neg (by omega), if_pos (by omega), if_neg (by omega)]; first | done | rfl); have z3 : ((4 : Int32)).toInt = 2 → ((0 : Int32)).toInt = nV t_text (tP t_text (t_length).toInt.toNat (t_next).toInt.toNat) (tE t_text (t_length).toInt.toNat (t_next).toInt.toNat - tP t_text (t_length).toInt.toNat (t_next).toInt.toNat) := (fun h => absurd h (by decide)); exact TH.mk' (i := (t_next).toInt.toNat) eP.symm (by omega) z2 z3), eP.symm⟩) [0, 1] (by decide) rfl (by decide) (by decide) dX8_advance_206
        · skip
          have el_4 : (4 : Int32).toInt = 4 := rfl
          rw [i_lt] at c_16
          refine j_iconst (pc := 131) (v := 2) C dX8_advance_131 (by decide) ?_
          refine j_goto (pc := 132) (tgt := 136) C dX8_advance_132 (by decide) ?_
          refine j_put (pc := 136) (ci := 8) (v := .int 2) (ws' := [(t0, .inr (8, [.ref t1, .int t_length, .int (u_5.2.1 0), .int 2, .int (u_1.2.1 0), .int t_number])), (t1, .inl (cyC, 1000, .inl t_text))]) C inw_8 0 rfl rfl 3 (by decide) wd_271 rfl tyX8_ok nmX8 rfl (tyX8_ok 3 (by decide)) rfl rfl (Nat.le_of_ble_eq_true rfl) dX8_advance_136 rfl ?_
          refine j_aload_n (pc := 139) C dX8_advance_139 rfl 2 rfl ?_
          refine j_aload_n (pc := 140) C dX8_advance_140 rfl 2 rfl ?_
          refine j_get (pc := 141) (ci := 8) (v := .int 2) C inw_8 0 rfl rfl 3 (by decide) wd_271 rfl rfl dX8_advance_141 ?_
          refine j_iconst (pc := 144) (v := 2) C dX8_advance_144 (by decide) ?_
          refine j_icmp_ne_f (pc := 145) (tgt := 163) C dX8_advance_145 (by decide) (by decide) ?_
          refine j_aload_n (pc := 148) C dX8_advance_148 rfl 2 rfl ?_
          refine j_aload_n (pc := 149) C dX8_advance_149 rfl 2 rfl ?_
          refine j_get (pc := 150) (ci := 8) (v := .int (u_1.2.1 0)) C inw_8 0 rfl rfl 4 (by decide) wd_262 rfl rfl dX8_advance_150 ?_
          refine j_aload_n (pc := 153) C dX8_advance_153 rfl 2 rfl ?_
          refine j_get (pc := 154) (ci := 8) (v := .int (u_5.2.1 0)) C inw_8 0 rfl rfl 2 (by decide) wd_256 rfl rfl dX8_advance_154 ?_
          refine j_callV (pc := 157) (As := [.int (u_1.2.1 0), .int (u_5.2.1 0)]) (rest := [.ref t0]) (wr := []) C (c_X8_valueOf_f l D cyC cyI cyJ cyZ cyO t0 t1 (u_1.2.1 0) (u_5.2.1 0) t_length (u_5.2.1 0) 2 (u_1.2.1 0) t_number t_text h_t_length hw_6_0 (by decide) hw_2_0 hw_2_0 hw_6_0 h_t_text (by omega) (fun j j1 j2 => ((hw_6_1).2.1 j (by omega) (by omega)).2)) wd_273 wd_258 wd_274 wd_275 wd_276 ⟨by decide, by decide, rfl⟩ rfl ⟨rfl, rfl, by decide, by decide⟩ ⟨by decide, by decide⟩ [0, 1] [] rfl rfl ⟨by decide, by decide, by decide⟩ 0 rfl rfl rfl (Nat.le_of_ble_eq_true rfl) dX8_advance_157 (fun u_17 hw_18 => ?_)
          refine j_eq (ws2 := [(t0, .inr (8, [.ref t1, .int t_length, .int (u_5.2.1 0), .int 2, .int (u_1.2.1 0), .int t_number])), (t1, .inl (cyC, 1000, .inl t_text))]) (pc2 := 160) (lv2 := [(2, .int (u_5.2.1 0)), (1, .int (u_3.2.1 0)), (0, .ref t0)]) (st2 := [.int (u_17.2.1 0), .ref t0]) rfl rfl rfl rfl ?_
          obtain ⟨hw_18_0, hw_18_1⟩ := hw_18
          refine j_goto (pc := 160) (tgt := 164) C dX8_advance_160 (by decide) ?_
          refine j_put (pc := 164) (ci := 8) (v := .int (u_17.2.1 0)) (ws' := [(t0, .inr (8, [.ref t1, .int t_length, .int (u_5.2.1 0), .int 2, .int (u_1.2.1 0), .int (u_17.2.1 0)])), (t1, .inl (cyC, 1000, .inl t_text))]) C inw_8 0 rfl rfl 5 (by decide) wd_272 rfl tyX8_ok nmX8 rfl (tyX8_ok 5 (by decide)) rfl rfl (Nat.le_of_ble_eq_true rfl) dX8_advance_164 rfl ?_
          refine j_goto (pc := 167) (tgt := 206) C dX8_advance_167 (by decide) ?_
          have el_2 : (2 : Int32).toInt = 2 := rfl
          have el_2 : (2 : Int32).toInt = 2 := rfl
          have el_2 : (2 : Int32).toInt = 2 := rfl
          have el_2 : (2 : Int32).toInt = 2 := rfl
          exact j_vret (pc := 206) C hr hk (fun i => [].getD i 0, fun i => [(u_5.2.1 0), 2, (u_1.2.1 0), (u_17.2.1 0)].getD i 0, fun i => [].getD i (fun _ => 0), fun i => [].getD i (fun _ => 0)) rfl (show (0 ≤ ((u_5.2.1 0)).toInt ∧ ((u_5.2.1 0)).toInt ≤ 1000) ∧ (0 ≤ ((2 : Int32)).toInt ∧ ((2 : Int32)).toInt ≤ 4) ∧ (0 ≤ ((u_1.2.1 0)).toInt ∧ ((u_1.2.1 0)).toInt ≤ 1000) ∧ (¬ ((2 : Int32)).toInt = 3 ∨ ((u_1.2.1 0)).toInt ≤ 999) ∧ (TH t_text (t_length).toInt.toNat ((u_5.2.1 0)).toInt ((2 : Int32)).toInt ((u_1.2.1 0)).toInt ((u_17.2.1 0)).toInt) ∧ (((u_1.2.1 0)).toInt.toNat = tP t_text (t_length).toInt.toNat (t_next).toInt.toNat) from ⟨hw_6_0, by omega, hw_2_0, by omega, (by have z1 : ((u_5.2.1 0)).toInt.toNat = tE t_text (t_length).toInt.toNat (t_next).toInt.toNat := (by unfold tE; rw [eP, eW, eD, if_neg (by omega), if_neg (by omega), if_pos (by omega)]); have z2 : ((2 : Int32)).toInt = tK t_text (t_length).toInt.toNat (t_next).toInt.toNat := (by unfold tK; rw [eP, eW, eD, if_neg (by omega), if_neg (by omega), if_pos (by omega), if_pos (by omega)]; first | done | rfl); have z3 : ((2 : Int32)).toInt = 2 → ((u_17.2.1 0)).toInt = nV t_text (tP t_text (t_length).toInt.toNat (t_next).toInt.toNat) (tE t_text (t_length).toInt.toNat (t_next).toInt.toNat - tP t_text (t_length).toInt.toNat (t_next).toInt.toNat) := (fun _ => by rw [hw_18_1, eP, show tE t_text (t_length).toInt.toNat (t_next).toInt.toNat = ((u_5.2.1 0)).toInt.toNat from z1.symm, show (((u_5.2.1 0)).toInt - ((u_1.2.1 0)).toInt).toNat = ((u_5.2.1 0)).toInt.toNat - ((u_1.2.1 0)).toInt.toNat from (by omega)]); exact TH.mk' (i := (t_next).toInt.toNat) eP.symm (by omega) z2 z3), eP.symm⟩) [0, 1] (by decide) rfl (by decide) (by decide) dX8_advance_206
    · skip
      rw [i_le] at c_8
      refine j_aload_n (pc := 73) C dX8_advance_73 rfl 2 rfl ?_
      refine j_iload_n (pc := 74) C dX8_advance_74 rfl 1 rfl ?_
      refine j_put (pc := 75) (ci := 8) (v := .int (u_3.2.1 0)) (ws' := [(t0, .inr (8, [.ref t1, .int t_length, .int (u_3.2.1 0), .int t_kind, .int (u_1.2.1 0), .int t_number])), (t1, .inl (cyC, 1000, .inl t_text))]) C inw_8 0 rfl rfl 2 (by decide) wd_256 rfl tyX8_ok nmX8 rfl (tyX8_ok 2 (by decide)) rfl rfl (Nat.le_of_ble_eq_true rfl) dX8_advance_75 rfl ?_
      refine j_aload_n (pc := 78) C dX8_advance_78 rfl 2 rfl ?_
      refine j_aload_n (pc := 79) C dX8_advance_79 rfl 2 rfl ?_
      refine j_get (pc := 80) (ci := 8) (v := .int (u_3.2.1 0)) C inw_8 0 rfl rfl 2 (by decide) wd_256 rfl rfl dX8_advance_80 ?_
      refine j_aload_n (pc := 83) C dX8_advance_83 rfl 2 rfl ?_
      refine j_get (pc := 84) (ci := 8) (v := .int (u_1.2.1 0)) C inw_8 0 rfl rfl 4 (by decide) wd_262 rfl rfl dX8_advance_84 ?_
      obtain ⟨v_19, ev_19⟩ : ∃ z : Int32, (u_3.2.1 0) - (u_1.2.1 0) = z := ⟨_, rfl⟩
      have hv_19 : v_19.toInt = ((u_3.2.1 0)).toInt - ((u_1.2.1 0)).toInt := by rw [← ev_19]; exact fb_subI (by omega) (by omega)
      refine j_isub (pc := 87) (v := v_19) C dX8_advance_87 ev_19 ?_
      refine j_bipush (pc := 88) (v := 8) C dX8_advance_88 (by decide) ?_
      refine j_icmp_gt (pc := 90) (tgt := 97) C dX8_advance_90 (by decide) (fun c_20 => ?_) (fun c_20 => ?_)
      · skip
        have el_8 : (8 : Int32).toInt = 8 := rfl
        rw [i_lt] at c_20
        refine j_iconst (pc := 97) (v := 4) C dX8_advance_97 (by decide) ?_
        refine j_put (pc := 98) (ci := 8) (v := .int 4) (ws' := [(t0, .inr (8, [.ref t1, .int t_length, .int (u_3.2.1 0), .int 4, .int (u_1.2.1 0), .int t_number])), (t1, .inl (cyC, 1000, .inl t_text))]) C inw_8 0 rfl rfl 3 (by decide) wd_271 rfl tyX8_ok nmX8 rfl (tyX8_ok 3 (by decide)) rfl rfl (Nat.le_of_ble_eq_true rfl) dX8_advance_98 rfl ?_
        refine j_goto (pc := 101) (tgt := 206) C dX8_advance_101 (by decide) ?_
        have el_4 : (4 : Int32).toInt = 4 := rfl
        have el_4 : (4 : Int32).toInt = 4 := rfl
        have el_4 : (4 : Int32).toInt = 4 := rfl
        have el_4 : (4 : Int32).toInt = 4 := rfl
        exact j_vret (pc := 206) C hr hk (fun i => [].getD i 0, fun i => [(u_3.2.1 0), 4, (u_1.2.1 0), t_number].getD i 0, fun i => [].getD i (fun _ => 0), fun i => [].getD i (fun _ => 0)) rfl (show (0 ≤ ((u_3.2.1 0)).toInt ∧ ((u_3.2.1 0)).toInt ≤ 1000) ∧ (0 ≤ ((4 : Int32)).toInt ∧ ((4 : Int32)).toInt ≤ 4) ∧ (0 ≤ ((u_1.2.1 0)).toInt ∧ ((u_1.2.1 0)).toInt ≤ 1000) ∧ (¬ ((4 : Int32)).toInt = 3 ∨ ((u_1.2.1 0)).toInt ≤ 999) ∧ (TH t_text (t_length).toInt.toNat ((u_3.2.1 0)).toInt ((4 : Int32)).toInt ((u_1.2.1 0)).toInt (t_number).toInt) ∧ (((u_1.2.1 0)).toInt.toNat = tP t_text (t_length).toInt.toNat (t_next).toInt.toNat) from ⟨hw_4_0, by omega, hw_2_0, by omega, (by have z1 : ((u_3.2.1 0)).toInt.toNat = tE t_text (t_length).toInt.toNat (t_next).toInt.toNat := (by unfold tE; rw [eP, eW, eD, if_neg (by omega), if_pos (by omega)]); have z2 : ((4 : Int32)).toInt = tK t_text (t_length).toInt.toNat (t_next).toInt.toNat := (by unfold tK; rw [eP, eW, eD, if_neg (by omega), if_pos (by omega), if_neg (by omega)]; first | done | rfl); have z3 : ((4 : Int32)).toInt = 2 → (t_number).toInt = nV t_text (tP t_text (t_length).toInt.toNat (t_next).toInt.toNat) (tE t_text (t_length).toInt.toNat (t_next).toInt.toNat - tP t_text (t_length).toInt.toNat (t_next).toInt.toNat) := (fun h => absurd h (by decide)); exact TH.mk' (i := (t_next).toInt.toNat) eP.symm (by omega) z2 z3), eP.symm⟩) [0, 1] (by decide) rfl (by decide) (by decide) dX8_advance_206
      · skip
        have el_8 : (8 : Int32).toInt = 8 := rfl
        rw [i_lt] at c_20
        refine j_iconst (pc := 93) (v := 1) C dX8_advance_93 (by decide) ?_
        refine j_goto (pc := 94) (tgt := 98) C dX8_advance_94 (by decide) ?_
        refine j_put (pc := 98) (ci := 8) (v := .int 1) (ws' := [(t0, .inr (8, [.ref t1, .int t_length, .int (u_3.2.1 0), .int 1, .int (u_1.2.1 0), .int t_number])), (t1, .inl (cyC, 1000, .inl t_text))]) C inw_8 0 rfl rfl 3 (by decide) wd_271 rfl tyX8_ok nmX8 rfl (tyX8_ok 3 (by decide)) rfl rfl (Nat.le_of_ble_eq_true rfl) dX8_advance_98 rfl ?_
        refine j_goto (pc := 101) (tgt := 206) C dX8_advance_101 (by decide) ?_
        have el_1 : (1 : Int32).toInt = 1 := rfl
        have el_1 : (1 : Int32).toInt = 1 := rfl
        have el_1 : (1 : Int32).toInt = 1 := rfl
        have el_1 : (1 : Int32).toInt = 1 := rfl
        exact j_vret (pc := 206) C hr hk (fun i => [].getD i 0, fun i => [(u_3.2.1 0), 1, (u_1.2.1 0), t_number].getD i 0, fun i => [].getD i (fun _ => 0), fun i => [].getD i (fun _ => 0)) rfl (show (0 ≤ ((u_3.2.1 0)).toInt ∧ ((u_3.2.1 0)).toInt ≤ 1000) ∧ (0 ≤ ((1 : Int32)).toInt ∧ ((1 : Int32)).toInt ≤ 4) ∧ (0 ≤ ((u_1.2.1 0)).toInt ∧ ((u_1.2.1 0)).toInt ≤ 1000) ∧ (¬ ((1 : Int32)).toInt = 3 ∨ ((u_1.2.1 0)).toInt ≤ 999) ∧ (TH t_text (t_length).toInt.toNat ((u_3.2.1 0)).toInt ((1 : Int32)).toInt ((u_1.2.1 0)).toInt (t_number).toInt) ∧ (((u_1.2.1 0)).toInt.toNat = tP t_text (t_length).toInt.toNat (t_next).toInt.toNat) from ⟨hw_4_0, by omega, hw_2_0, by omega, (by have z1 : ((u_3.2.1 0)).toInt.toNat = tE t_text (t_length).toInt.toNat (t_next).toInt.toNat := (by unfold tE; rw [eP, eW, eD, if_neg (by omega), if_pos (by omega)]); have z2 : ((1 : Int32)).toInt = tK t_text (t_length).toInt.toNat (t_next).toInt.toNat := (by unfold tK; rw [eP, eW, eD, if_neg (by omega), if_pos (by omega), if_pos (by omega)]; first | done | rfl); have z3 : ((1 : Int32)).toInt = 2 → (t_number).toInt = nV t_text (tP t_text (t_length).toInt.toNat (t_next).toInt.toNat) (tE t_text (t_length).toInt.toNat (t_next).toInt.toNat - tP t_text (t_length).toInt.toNat (t_next).toInt.toNat) := (fun h => absurd h (by decide)); exact TH.mk' (i := (t_next).toInt.toNat) eP.symm (by omega) z2 z3), eP.symm⟩) [0, 1] (by decide) rfl (by decide) (by decide) dX8_advance_206
  · skip
    rw [i_lt] at c_7
    refine j_aload_n (pc := 49) C dX8_advance_49 rfl 2 rfl ?_
    refine j_aload_n (pc := 50) C dX8_advance_50 rfl 2 rfl ?_
    refine j_get (pc := 51) (ci := 8) (v := .int (u_1.2.1 0)) C inw_8 0 rfl rfl 4 (by decide) wd_262 rfl rfl dX8_advance_51 ?_
    refine j_put (pc := 54) (ci := 8) (v := .int (u_1.2.1 0)) (ws' := [(t0, .inr (8, [.ref t1, .int t_length, .int (u_1.2.1 0), .int t_kind, .int (u_1.2.1 0), .int t_number])), (t1, .inl (cyC, 1000, .inl t_text))]) C inw_8 0 rfl rfl 2 (by decide) wd_256 rfl tyX8_ok nmX8 rfl (tyX8_ok 2 (by decide)) rfl rfl (Nat.le_of_ble_eq_true rfl) dX8_advance_54 rfl ?_
    refine j_aload_n (pc := 57) C dX8_advance_57 rfl 2 rfl ?_
    refine j_iconst (pc := 58) (v := 0) C dX8_advance_58 (by decide) ?_
    refine j_put (pc := 59) (ci := 8) (v := .int 0) (ws' := [(t0, .inr (8, [.ref t1, .int t_length, .int (u_1.2.1 0), .int 0, .int (u_1.2.1 0), .int t_number])), (t1, .inl (cyC, 1000, .inl t_text))]) C inw_8 0 rfl rfl 3 (by decide) wd_271 rfl tyX8_ok nmX8 rfl (tyX8_ok 3 (by decide)) rfl rfl (Nat.le_of_ble_eq_true rfl) dX8_advance_59 rfl ?_
    refine j_goto (pc := 62) (tgt := 206) C dX8_advance_62 (by decide) ?_
    have el_0 : (0 : Int32).toInt = 0 := rfl
    have el_0 : (0 : Int32).toInt = 0 := rfl
    have el_0 : (0 : Int32).toInt = 0 := rfl
    have el_0 : (0 : Int32).toInt = 0 := rfl
    exact j_vret (pc := 206) C hr hk (fun i => [].getD i 0, fun i => [(u_1.2.1 0), 0, (u_1.2.1 0), t_number].getD i 0, fun i => [].getD i (fun _ => 0), fun i => [].getD i (fun _ => 0)) rfl (show (0 ≤ ((u_1.2.1 0)).toInt ∧ ((u_1.2.1 0)).toInt ≤ 1000) ∧ (0 ≤ ((0 : Int32)).toInt ∧ ((0 : Int32)).toInt ≤ 4) ∧ (0 ≤ ((u_1.2.1 0)).toInt ∧ ((u_1.2.1 0)).toInt ≤ 1000) ∧ (¬ ((0 : Int32)).toInt = 3 ∨ ((u_1.2.1 0)).toInt ≤ 999) ∧ (TH t_text (t_length).toInt.toNat ((u_1.2.1 0)).toInt ((0 : Int32)).toInt ((u_1.2.1 0)).toInt (t_number).toInt) ∧ (((u_1.2.1 0)).toInt.toNat = tP t_text (t_length).toInt.toNat (t_next).toInt.toNat) from ⟨hw_2_0, by omega, hw_2_0, by omega, (by have z1 : ((u_1.2.1 0)).toInt.toNat = tE t_text (t_length).toInt.toNat (t_next).toInt.toNat := (by unfold tE; rw [eP, eW, eD, if_pos (by omega)]); have z2 : ((0 : Int32)).toInt = tK t_text (t_length).toInt.toNat (t_next).toInt.toNat := (by unfold tK; rw [eP, eW, eD, if_pos (by omega)]; first | done | rfl); have z3 : ((0 : Int32)).toInt = 2 → (t_number).toInt = nV t_text (tP t_text (t_length).toInt.toNat (t_next).toInt.toNat) (tE t_text (t_length).toInt.toNat (t_next).toInt.toNat - tP t_text (t_length).toInt.toNat (t_next).toInt.toNat) := (fun h => absurd h (by decide)); exact TH.mk' (i := (t_next).toInt.toNat) eP.symm (by omega) z2 z3), eP.symm⟩) [0, 1] (by decide) rfl (by decide) (by decide) dX8_advance_206
set_option maxHeartbeats 4000000 in
set_option maxRecDepth 100000 in
theorem c_X8_start_f (l : Launch) (D : DG) (cyC cyI cyJ cyZ cyO : ClassId) (t0 : Nat) (t1 : Nat) (t_length : Int32) (t_next : Int32) (t_kind : Int32) (t_place : Int32) (t_number : Int32) (t_text : Nat → Int32) (h_t_length : 0 ≤ (t_length).toInt ∧ (t_length).toInt ≤ 1000) (h_t_next : 0 ≤ (t_next).toInt ∧ (t_next).toInt ≤ 1000) (h_t_kind : 0 ≤ (t_kind).toInt ∧ (t_kind).toInt ≤ 4) (h_t_place : 0 ≤ (t_place).toInt ∧ (t_place).toInt ≤ 1000) (h_t_text : Iv 1000 (0) (126) t_text) : KK l D (TY cyC cyI cyJ cyZ cyO) yX8_start cX8_start 1 none ({ frames := 5, cells := 0, slots := 0, locals := 113 } : Room) 0 0 [.ref t0] [(t0, .inr (8, [.ref t1, .int t_length, .int t_next, .int t_kind, .int t_place, .int t_number])), (t1, .inl (cyC, 1000, .inl t_text))] (fun u => none) (fun u => (0 ≤ (u.2.1 0).toInt ∧ (u.2.1 0).toInt ≤ 1000) ∧ (0 ≤ (u.2.1 1).toInt ∧ (u.2.1 1).toInt ≤ 4) ∧ (0 ≤ (u.2.1 2).toInt ∧ (u.2.1 2).toInt ≤ 1000) ∧ (¬ ((u.2.1 1)).toInt = 3 ∨ ((u.2.1 2)).toInt ≤ 999) ∧ (TH t_text (t_length).toInt.toNat ((u.2.1 0)).toInt ((u.2.1 1)).toInt ((u.2.1 2)).toInt ((u.2.1 3)).toInt) ∧ (((u.2.1 2)).toInt.toNat = tP t_text (t_length).toInt.toNat 0)) (fun u => [(t0, .inr (8, [.ref t1, .int t_length, .int (u.2.1 0), .int (u.2.1 1), .int (u.2.1 2), .int (u.2.1 3)])), (t1, .inl (cyC, 1000, .inl t_text))]) := by
  refine KK.of (lv0 := [(0, .ref t0)]) (by decide) rfl (Nat.le_of_ble_eq_true rfl) ?_
  intro p e s m args below meth c A C hr hk hin
  refine j_aload_n (pc := 0) C dX8_start_0 rfl 0 rfl ?_
  refine j_iconst (pc := 1) (v := 0) C dX8_start_1 (by decide) ?_
  refine j_put (pc := 2) (ci := 8) (v := .int 0) (ws' := [(t0, .inr (8, [.ref t1, .int t_length, .int 0, .int t_kind, .int t_place, .int t_number])), (t1, .inl (cyC, 1000, .inl t_text))]) C inw_8 0 rfl rfl 2 (by decide) wd_256 rfl tyX8_ok nmX8 rfl (tyX8_ok 2 (by decide)) rfl rfl (Nat.le_of_ble_eq_true rfl) dX8_start_2 rfl ?_
  refine j_aload_n (pc := 5) C dX8_start_5 rfl 0 rfl ?_
  refine j_callV (pc := 6) (As := []) (rest := []) (wr := []) C (c_X8_advance_f l D cyC cyI cyJ cyZ cyO t0 t1 t_length 0 t_kind t_place t_number t_text h_t_length (by decide) h_t_kind h_t_place h_t_text) wd_277 wd_258 wd_278 wd_279 wd_280 ⟨by decide, by decide, rfl⟩ rfl ⟨rfl, rfl, by decide, by decide⟩ ⟨by decide, by decide⟩ [0, 1] [] rfl rfl ⟨by decide, by decide, by decide⟩ 0 rfl rfl rfl (Nat.le_of_ble_eq_true rfl) dX8_start_6 (fun u_1 hw_2 => ?_)
  refine j_eq (ws2 := [(t0, .inr (8, [.ref t1, .int t_length, .int (u_1.2.1 0), .int (u_1.2.1 1), .int (u_1.2.1 2), .int (u_1.2.1 3)])), (t1, .inl (cyC, 1000, .inl t_text))]) (pc2 := 9) (lv2 := [(0, .ref t0)]) (st2 := []) rfl rfl rfl rfl ?_
  obtain ⟨hw_2_0, hw_2_1, hw_2_2, hw_2_3, hw_2_4, hw_2_5⟩ := hw_2
  exact j_vret (pc := 9) C hr hk (fun i => [].getD i 0, fun i => [(u_1.2.1 0), (u_1.2.1 1), (u_1.2.1 2), (u_1.2.1 3)].getD i 0, fun i => [].getD i (fun _ => 0), fun i => [].getD i (fun _ => 0)) rfl (show (0 ≤ ((u_1.2.1 0)).toInt ∧ ((u_1.2.1 0)).toInt ≤ 1000) ∧ (0 ≤ ((u_1.2.1 1)).toInt ∧ ((u_1.2.1 1)).toInt ≤ 4) ∧ (0 ≤ ((u_1.2.1 2)).toInt ∧ ((u_1.2.1 2)).toInt ≤ 1000) ∧ (¬ ((u_1.2.1 1)).toInt = 3 ∨ ((u_1.2.1 2)).toInt ≤ 999) ∧ (TH t_text (t_length).toInt.toNat ((u_1.2.1 0)).toInt ((u_1.2.1 1)).toInt ((u_1.2.1 2)).toInt ((u_1.2.1 3)).toInt) ∧ (((u_1.2.1 2)).toInt.toNat = tP t_text (t_length).toInt.toNat 0) from ⟨hw_2_0, hw_2_1, hw_2_2, by omega, hw_2_4, hw_2_5⟩) [0, 1] (by decide) rfl (by decide) (by decide) dX8_start_9
theorem and255 : ∀ n, n < 256 → nI n &&& 255 = nI n := by decide +kernel
theorem and255_id {x : Int32} (h0 : 0 ≤ x.toInt) (h1 : x.toInt ≤ 255) : x &&& 255 = x := by
  obtain ⟨n, e, hn, _⟩ := nI_ofI h0
  rw [e]; exact and255 n (by omega)
set_option maxHeartbeats 4000000 in
set_option maxRecDepth 100000 in
theorem c_J1_charAt_f (l : Launch) (D : DG) (cyC cyI cyJ cyZ cyO : ClassId) (i : Nat) (p0 : Int32) (h_p0 : 0 ≤ (p0).toInt ∧ (p0).toInt ≤ 19) (hi_lit : i < 43) (hls : (p0).toInt < ((sL i : Nat) : Int)) : KK l D (TY cyC cyI cyJ cyZ cyO) yJ1_charAt_3b067 cJ1_charAt_3b067 2 (some .char) ({ frames := 2, cells := 0, slots := 0, locals := 43 } : Room) 0 0 [.ref (D.2.2.1 i), .int p0] [] (fun u => some (.int (u.2.1 0))) (fun u => (0 ≤ (u.2.1 0).toInt ∧ (u.2.1 0).toInt ≤ 255) ∧ ((u.2.1 0).toInt = (sB i (p0).toInt.toNat).toInt)) (fun u => []) := by
  refine KK.of (lv0 := [(0, .ref (D.2.2.1 i)), (1, .int p0)]) (by decide) rfl (Nat.le_of_ble_eq_true rfl) ?_
  intro p e s m args below meth c A C hr hk hin
  refine j_iload_n (pc := 0) C dJ1_charAt_3b067_0 rfl 1 rfl ?_
  refine j_aload_n (pc := 1) C dJ1_charAt_3b067_1 rfl 0 rfl ?_
  obtain ⟨v_1, ev_1⟩ : ∃ z : Int32, Int32.ofNat (sL i) = z := ⟨_, rfl⟩
  have hlv_1 := sL_bd (i := i) hi_lit
  have hv_1 : v_1.toInt = (sL i : Nat) := by rw [← ev_1]; exact nI_toInt (by omega)
  refine j_sblen (pc := 2) (v := v_1) C hi_lit ev_1 dJ1_charAt_3b067_2 ?_
  refine j_callS (pc := 3) (As := [.int p0, .int v_1]) (rest := []) (wr := []) C (c_J0_checkIndex_df160 l D cyC cyI cyJ cyZ cyO p0 v_1 (by omega) (by omega)) wd_224 wd_220 wd_225 wd_226 ⟨by decide, by decide, rfl⟩ rfl ⟨rfl, rfl, by decide, by decide⟩ ⟨by decide, by decide⟩ [] [] rfl rfl ⟨by decide, by decide, by decide⟩ rfl (Nat.le_of_ble_eq_true rfl) dJ1_charAt_3b067_3 (fun u_2 hw_3 => ?_)
  refine j_eq (ws2 := []) (pc2 := 6) (lv2 := [(0, .ref (D.2.2.1 i)), (1, .int p0)]) (st2 := []) rfl rfl rfl rfl ?_
  refine j_aload_n (pc := 6) C dJ1_charAt_3b067_6 rfl 0 rfl ?_
  refine j_iload_n (pc := 7) C dJ1_charAt_3b067_7 rfl 1 rfl ?_
  obtain ⟨v_4, ev_4⟩ : ∃ z : Int32, sB i (p0).toInt.toNat = z := ⟨_, rfl⟩
  have hv_4 := sB_bd (i := i) (k := (p0).toInt.toNat) hi_lit (by omega); rw [ev_4] at hv_4
  refine j_sbld (pc := 8) (v := v_4) (k := (p0).toInt.toNat) C hi_lit (i_nn (by omega)) rfl (by omega) ev_4 dJ1_charAt_3b067_8 ?_
  refine j_sipush (pc := 9) (v := 255) C dJ1_charAt_3b067_9 (by decide) ?_
  obtain ⟨v_5, ev_5⟩ : ∃ z : Int32, v_4 &&& 255 = z := ⟨_, rfl⟩
  have el_255 : (255 : Int32).toInt = 255 := rfl
  have hv_5 : 0 ≤ v_5.toInt ∧ v_5.toInt ≤ 255 := by rw [← ev_5]; exact andm_r _ 8 (by decide) (by decide)
  refine j_iand (pc := 12) (v := v_5) C dJ1_charAt_3b067_12 ev_5 ?_
  have hc9 : v_5.toInt = v_4.toInt := by rw [← ev_5, and255_id (by omega) (by omega)]
  obtain ⟨v_6, ev_6⟩ : ∃ z : Int32, ((v_5 : Int32).toUInt32 % 65536).toInt32 = z := ⟨_, rfl⟩
  have hv_6 : v_6.toInt = v_5.toInt := by rw [← ev_6, i2c_id (by omega) (by omega)]
  refine j_i2c (pc := 13) (v := v_6) C dJ1_charAt_3b067_13 ev_6 ?_
  exact j_zret (pc := 14) C hr (nc_16 (by omega) (by omega)) hk (fun i => [].getD i 0, fun i => [v_6].getD i 0, fun i => [].getD i (fun _ => 0), fun i => [].getD i (fun _ => 0)) rfl (show (0 ≤ (v_6).toInt ∧ (v_6).toInt ≤ 255) ∧ (v_6.toInt = (sB i (p0).toInt.toNat).toInt) from ⟨by omega, (by have h9 := congrArg Int32.toInt ev_4; omega)⟩) [] (by decide) rfl (by decide) (by decide) dJ1_charAt_3b067_14
set_option maxHeartbeats 4000000 in
set_option maxRecDepth 100000 in
theorem c_J0_charAt_f (l : Launch) (D : DG) (cyC cyI cyJ cyZ cyO : ClassId) (i : Nat) (p0 : Int32) (h_p0 : 0 ≤ (p0).toInt ∧ (p0).toInt ≤ 19) (hi_lit : i < 43) (hls : (p0).toInt < ((sL i : Nat) : Int)) : KK l D (TY cyC cyI cyJ cyZ cyO) yJ0_charAt_5068e cJ0_charAt_5068e 2 (some .char) ({ frames := 3, cells := 0, slots := 0, locals := 64 } : Room) 0 0 [.ref (D.2.1 i), .int p0] [] (fun u => some (.int (u.2.1 0))) (fun u => (0 ≤ (u.2.1 0).toInt ∧ (u.2.1 0).toInt ≤ 255) ∧ ((u.2.1 0).toInt = (sB i (p0).toInt.toNat).toInt)) (fun u => []) := by
  refine KK.of (lv0 := [(0, .ref (D.2.1 i)), (1, .int p0)]) (by decide) rfl (Nat.le_of_ble_eq_true rfl) ?_
  intro p e s m args below meth c A C hr hk hin
  refine j_aload_n (pc := 0) C dJ0_charAt_5068e_0 rfl 0 rfl ?_
  refine j_callT (pc := 1) (As := []) (rest := []) (wr := []) C (c_J0_isLatin1_aae02 l D cyC cyI cyJ cyZ cyO i hi_lit) wd_227 wd_220 wd_228 wd_229 wd_230 ⟨by decide, by decide, rfl⟩ rfl ⟨rfl, rfl, by decide, by decide⟩ ⟨by decide, by decide⟩ [] [] rfl rfl ⟨by decide, by decide, by decide⟩ hi_lit rfl rfl (Nat.le_of_ble_eq_true rfl) dJ0_charAt_5068e_1 (fun u_1 hw_2 => ?_)
  refine j_eq (ws2 := []) (pc2 := 4) (lv2 := [(0, .ref (D.2.1 i)), (1, .int p0)]) (st2 := [.int 1]) rfl rfl rfl rfl ?_
  refine j_if_eq_f (pc := 4) (tgt := 16) C dJ0_charAt_5068e_4 (by decide) (by decide) ?_
  refine j_aload_n (pc := 7) C dJ0_charAt_5068e_7 rfl 0 rfl ?_
  refine j_sgetV (pc := 8) C hi_lit wd_218 dJ0_charAt_5068e_8 ?_
  refine j_iload_n (pc := 11) C dJ0_charAt_5068e_11 rfl 1 rfl ?_
  refine j_callS (pc := 12) (As := [.ref (D.2.2.1 i), .int p0]) (rest := []) (wr := []) C (c_J1_charAt_f l D cyC cyI cyJ cyZ cyO i p0 h_p0 hi_lit hls) wd_231 wd_232 wd_233 wd_234 ⟨by decide, by decide, rfl⟩ rfl ⟨rfl, rfl, by decide, by decide⟩ ⟨by decide, by decide⟩ [] [] rfl rfl ⟨by decide, by decide, by decide⟩ rfl (Nat.le_of_ble_eq_true rfl) dJ0_charAt_5068e_12 (fun u_3 hw_4 => ?_)
  refine j_eq (ws2 := []) (pc2 := 15) (lv2 := [(0, .ref (D.2.1 i)), (1, .int p0)]) (st2 := [.int (u_3.2.1 0)]) rfl rfl rfl rfl ?_
  obtain ⟨hw_4_0, hw_4_1⟩ := hw_4
  exact j_zret (pc := 15) C hr (nc_16 (by omega) (by omega)) hk (fun i => [].getD i 0, fun i => [(u_3.2.1 0)].getD i 0, fun i => [].getD i (fun _ => 0), fun i => [].getD i (fun _ => 0)) rfl (show (0 ≤ ((u_3.2.1 0)).toInt ∧ ((u_3.2.1 0)).toInt ≤ 255) ∧ ((u_3.2.1 0).toInt = (sB i (p0).toInt.toNat).toInt) from ⟨hw_4_0, hw_4_1⟩) [] (by decide) rfl (by decide) (by decide) dJ0_charAt_5068e_15
set_option maxHeartbeats 4000000 in
set_option maxRecDepth 100000 in
theorem c_X8_isWord_f (l : Launch) (D : DG) (cyC cyI cyJ cyZ cyO : ClassId) (t0 : Nat) (t1 : Nat) (i : Nat) (t_length : Int32) (t_next : Int32) (t_kind : Int32) (t_place : Int32) (t_number : Int32) (t_text : Nat → Int32) (h_t_length : 0 ≤ (t_length).toInt ∧ (t_length).toInt ≤ 1000) (h_t_next : 0 ≤ (t_next).toInt ∧ (t_next).toInt ≤ 1000) (h_t_kind : 0 ≤ (t_kind).toInt ∧ (t_kind).toInt ≤ 4) (h_t_place : 0 ≤ (t_place).toInt ∧ (t_place).toInt ≤ 1000) (h_t_text : Iv 1000 (0) (126) t_text) (hi_lit : i < 43) (hwl : wLit i) (hTH : TH t_text (t_length).toInt.toNat (t_next).toInt (t_kind).toInt (t_place).toInt (t_number).toInt) : KK l D (TY cyC cyI cyJ cyZ cyO) yX8_isWord cX8_isWord 3 (some .boolean) ({ frames := 4, cells := 0, slots := 0, locals := 85 } : Room) 0 0 [.ref t0, .ref (D.2.1 i)] [(t0, .inr (8, [.ref t1, .int t_length, .int t_next, .int t_kind, .int t_place, .int t_number])), (t1, .inl (cyC, 1000, .inl t_text))] (fun u => some (.int (u.2.1 0))) (fun u => (0 ≤ (u.2.1 0).toInt ∧ (u.2.1 0).toInt ≤ 1) ∧ ((u.2.1 0).toInt = wI (TKS t_text (t_length).toInt.toNat) (t_place).toInt.toNat (wnL i))) (fun u => [(t0, .inr (8, [.ref t1, .int t_length, .int t_next, .int t_kind, .int t_place, .int t_number])), (t1, .inl (cyC, 1000, .inl t_text))]) := by
  refine KK.of (lv0 := [(0, .ref t0), (1, .ref (D.2.1 i))]) (by decide) rfl (Nat.le_of_ble_eq_true rfl) ?_
  intro p e s m args below meth c A C hr hk hin
  refine j_aload_n (pc := 0) C dX8_isWord_0 rfl 0 rfl ?_
  refine j_get (pc := 1) (ci := 8) (v := .int t_kind) C inw_8 0 rfl rfl 3 (by decide) wd_271 rfl rfl dX8_isWord_1 ?_
  refine j_iconst (pc := 4) (v := 1) C dX8_isWord_4 (by decide) ?_
  refine j_icmp_ne (pc := 5) (tgt := 24) C dX8_isWord_5 (by decide) (fun c_1 => ?_) (fun c_1 => ?_)
  · skip
    have el_1 : (1 : Int32).toInt = 1 := rfl
    rw [i_eq] at c_1
    refine j_iconst (pc := 24) (v := 0) C dX8_isWord_24 (by decide) ?_
    have el_0 : (0 : Int32).toInt = 0 := rfl
    have el_0 : (0 : Int32).toInt = 0 := rfl
    exact j_zret (pc := 25) C hr rfl hk (fun i => [].getD i 0, fun i => [0].getD i 0, fun i => [].getD i (fun _ => 0), fun i => [].getD i (fun _ => 0)) rfl (show (0 ≤ ((0 : Int32)).toInt ∧ ((0 : Int32)).toInt ≤ 1) ∧ ((0 : Int32).toInt = wI (TKS t_text (t_length).toInt.toNat) (t_place).toInt.toNat (wnL i)) from ⟨by omega, (by have z9 : wI (TKS t_text (t_length).toInt.toNat) (t_place).toInt.toNat (wnL i) = 0 := wI_0.mpr (fun z => by have z0 := (hTH.word hwl).mpr z; have z1 := z0.1; have z2 := z0.2.1; omega); omega)⟩) [0, 1] (by decide) rfl (by decide) (by decide) dX8_isWord_25
  · skip
    have el_1 : (1 : Int32).toInt = 1 := rfl
    rw [i_eq] at c_1
    refine j_aload_n (pc := 8) C dX8_isWord_8 rfl 0 rfl ?_
    refine j_get (pc := 9) (ci := 8) (v := .int t_next) C inw_8 0 rfl rfl 2 (by decide) wd_256 rfl rfl dX8_isWord_9 ?_
    refine j_aload_n (pc := 12) C dX8_isWord_12 rfl 0 rfl ?_
    refine j_get (pc := 13) (ci := 8) (v := .int t_place) C inw_8 0 rfl rfl 4 (by decide) wd_262 rfl rfl dX8_isWord_13 ?_
    obtain ⟨v_2, ev_2⟩ : ∃ z : Int32, t_next - t_place = z := ⟨_, rfl⟩
    have hv_2 : v_2.toInt = t_next.toInt - t_place.toInt := by rw [← ev_2]; exact fb_subI (by omega) (by omega)
    refine j_isub (pc := 16) (v := v_2) C dX8_isWord_16 ev_2 ?_
    refine j_aload_n (pc := 17) C dX8_isWord_17 rfl 1 rfl ?_
    refine j_callT (pc := 18) (As := []) (rest := [.int v_2]) (wr := [(t0, .inr (8, [.ref t1, .int t_length, .int t_next, .int t_kind, .int t_place, .int t_number])), (t1, .inl (cyC, 1000, .inl t_text))]) C (c_J0_length_8abf5 l D cyC cyI cyJ cyZ cyO i hi_lit) wd_243 wd_220 wd_281 wd_245 wd_246 ⟨by decide, by decide, rfl⟩ rfl ⟨rfl, rfl, by decide, by decide⟩ ⟨by decide, by decide⟩ [] [0, 1] rfl rfl ⟨by decide, by decide, by decide⟩ hi_lit rfl rfl (Nat.le_of_ble_eq_true rfl) dX8_isWord_18 (fun u_3 hw_4 => ?_)
    refine j_eq (ws2 := [(t0, .inr (8, [.ref t1, .int t_length, .int t_next, .int t_kind, .int t_place, .int t_number])), (t1, .inl (cyC, 1000, .inl t_text))]) (pc2 := 21) (lv2 := [(0, .ref t0), (1, .ref (D.2.1 i))]) (st2 := [.int (u_3.2.1 0), .int v_2]) rfl rfl rfl rfl ?_
    obtain ⟨hw_4_0, hw_4_1⟩ := hw_4
    refine j_icmp_eq (pc := 21) (tgt := 26) C dX8_isWord_21 (by decide) (fun c_5 => ?_) (fun c_5 => ?_)
    · skip
      rw [i_eq] at c_5
      refine j_iconst (pc := 26) (v := 0) C dX8_isWord_26 (by decide) ?_
      refine j_istore_n (pc := 27) (lv' := [(2, .int 0), (0, .ref t0), (1, .ref (D.2.1 i))]) C dX8_isWord_27 rfl (by decide) rfl ?_
      have loop_6 : ∀ (k_6 : Nat) (x6_2 : Int32), (0 ≤ (x6_2).toInt ∧ (x6_2).toInt ≤ 20) → (x6_2.toInt ≤ ((sL i : Nat) : Int)) → (∀ j : Nat, (j : Int) < x6_2.toInt → (t_text ((t_place).toInt.toNat + j)).toInt = (sB i j).toInt) → (20 - x6_2.toInt).toNat < k_6 → J p l e ({ frames := 4, cells := 0, slots := 0, locals := 85 } : Room) s m args below meth c D A 3 0 0 (QX below D (TY cyC cyI cyJ cyZ cyO) A (fun u => some (.int (u.2.1 0))) (fun u => (0 ≤ (u.2.1 0).toInt ∧ (u.2.1 0).toInt ≤ 1) ∧ ((u.2.1 0).toInt = wI (TKS t_text (t_length).toInt.toNat) (t_place).toInt.toNat (wnL i))) (fun u => [(t0, .inr (8, [.ref t1, .int t_length, .int t_next, .int t_kind, .int t_place, .int t_number])), (t1, .inl (cyC, 1000, .inl t_text))]) args s 0 0) [(t0, .inr (8, [.ref t1, .int t_length, .int t_next, .int t_kind, .int t_place, .int t_number])), (t1, .inl (cyC, 1000, .inl t_text))] 28 [(2, .int x6_2), (0, .ref t0), (1, .ref (D.2.1 i))] [] := by
        intro k_6
        induction k_6 with
        | zero =>
          intro x6_2 hi_6_0 hr_6 hq_6_0 hm_6
          exact absurd hm_6 (Nat.not_lt_zero _)
        | succ k_6 ih_6 =>
          intro x6_2 hi_6_0 hr_6 hq_6_0 hm_6
          refine j_iload_n (pc := 28) C dX8_isWord_28 rfl 0 rfl ?_
          refine j_aload_n (pc := 29) C dX8_isWord_29 rfl 2 rfl ?_
          refine j_callT (pc := 30) (As := []) (rest := [.int x6_2]) (wr := [(t0, .inr (8, [.ref t1, .int t_length, .int t_next, .int t_kind, .int t_place, .int t_number])), (t1, .inl (cyC, 1000, .inl t_text))]) C (c_J0_length_8abf5 l D cyC cyI cyJ cyZ cyO i hi_lit) wd_243 wd_220 wd_281 wd_245 wd_246 ⟨by decide, by decide, rfl⟩ rfl ⟨rfl, rfl, by decide, by decide⟩ ⟨by decide, by decide⟩ [] [0, 1] rfl rfl ⟨by decide, by decide, by decide⟩ hi_lit rfl rfl (Nat.le_of_ble_eq_true rfl) dX8_isWord_30 (fun u_7 hw_8 => ?_)
          refine j_eq (ws2 := [(t0, .inr (8, [.ref t1, .int t_length, .int t_next, .int t_kind, .int t_place, .int t_number])), (t1, .inl (cyC, 1000, .inl t_text))]) (pc2 := 33) (lv2 := [(2, .int x6_2), (0, .ref t0), (1, .ref (D.2.1 i))]) (st2 := [.int (u_7.2.1 0), .int x6_2]) rfl rfl rfl rfl ?_
          obtain ⟨hw_8_0, hw_8_1⟩ := hw_8
          refine j_icmp_ge (pc := 33) (tgt := 63) C dX8_isWord_33 (by decide) (fun c_9 => ?_) (fun c_9 => ?_)
          · skip
            rw [i_le] at c_9
            refine j_iconst (pc := 63) (v := 1) C dX8_isWord_63 (by decide) ?_
            have el_1 : (1 : Int32).toInt = 1 := rfl
            have el_1 : (1 : Int32).toInt = 1 := rfl
            exact j_zret (pc := 64) C hr rfl hk (fun i => [].getD i 0, fun i => [1].getD i 0, fun i => [].getD i (fun _ => 0), fun i => [].getD i (fun _ => 0)) rfl (show (0 ≤ ((1 : Int32)).toInt ∧ ((1 : Int32)).toInt ≤ 1) ∧ ((1 : Int32).toInt = wI (TKS t_text (t_length).toInt.toNat) (t_place).toInt.toNat (wnL i)) from ⟨by omega, (by have z9 : wI (TKS t_text (t_length).toInt.toNat) (t_place).toInt.toNat (wnL i) = 1 := wI_1.mpr ((hTH.word hwl).mp ⟨by omega, by omega, fun j hj => hq_6_0 j (by omega)⟩); omega)⟩) [0, 1] (by decide) rfl (by decide) (by decide) dX8_isWord_64
          · skip
            rw [i_le] at c_9
            refine j_aload_n (pc := 36) C dX8_isWord_36 rfl 1 rfl ?_
            refine j_get (pc := 37) (ci := 8) (v := .ref t1) C inw_8 0 rfl rfl 0 (by decide) wd_255 rfl rfl dX8_isWord_37 ?_
            refine j_aload_n (pc := 40) C dX8_isWord_40 rfl 1 rfl ?_
            refine j_get (pc := 41) (ci := 8) (v := .int t_place) C inw_8 0 rfl rfl 4 (by decide) wd_262 rfl rfl dX8_isWord_41 ?_
            refine j_iload_n (pc := 44) C dX8_isWord_44 rfl 0 rfl ?_
            obtain ⟨v_10, ev_10⟩ : ∃ z : Int32, t_place + x6_2 = z := ⟨_, rfl⟩
            have hv_10 : v_10.toInt = t_place.toInt + x6_2.toInt := by rw [← ev_10]; exact fb_addI (by omega) (by omega)
            refine j_iadd (pc := 45) (v := v_10) C dX8_isWord_45 ev_10 ?_
            obtain ⟨v_11, ev_11⟩ : ∃ z, t_text (v_10).toInt.toNat = z := ⟨_, rfl⟩
            have env_11 : (t_text (v_10).toInt.toNat).toInt = v_11.toInt := by rw [ev_11]
            have hv_11 := h_t_text (v_10).toInt.toNat (i_lt_n (by omega) (by omega)); rw [ev_11] at hv_11
            refine j_cald (pc := 46) (v := v_11) (k := (v_10).toInt.toNat) C 1 0 rfl rfl (i_nn (by omega)) rfl (i_lt_n (by omega) (by omega)) ev_11 dX8_isWord_46 ?_
            refine j_aload_n (pc := 47) C dX8_isWord_47 rfl 2 rfl ?_
            refine j_iload_n (pc := 48) C dX8_isWord_48 rfl 0 rfl ?_
            refine j_callT (pc := 49) (As := [.int x6_2]) (rest := [.int v_11]) (wr := [(t0, .inr (8, [.ref t1, .int t_length, .int t_next, .int t_kind, .int t_place, .int t_number])), (t1, .inl (cyC, 1000, .inl t_text))]) C (c_J0_charAt_f l D cyC cyI cyJ cyZ cyO i x6_2 (by omega) hi_lit (by omega)) wd_282 wd_220 wd_283 wd_284 wd_285 ⟨by decide, by decide, rfl⟩ rfl ⟨rfl, rfl, by decide, by decide⟩ ⟨by decide, by decide⟩ [] [0, 1] rfl rfl ⟨by decide, by decide, by decide⟩ hi_lit rfl rfl (Nat.le_of_ble_eq_true rfl) dX8_isWord_49 (fun u_12 hw_13 => ?_)
            refine j_eq (ws2 := [(t0, .inr (8, [.ref t1, .int t_length, .int t_next, .int t_kind, .int t_place, .int t_number])), (t1, .inl (cyC, 1000, .inl t_text))]) (pc2 := 52) (lv2 := [(2, .int x6_2), (0, .ref t0), (1, .ref (D.2.1 i))]) (st2 := [.int (u_12.2.1 0), .int v_11]) rfl rfl rfl rfl ?_
            obtain ⟨hw_13_0, hw_13_1⟩ := hw_13
            refine j_icmp_eq (pc := 52) (tgt := 57) C dX8_isWord_52 (by decide) (fun c_14 => ?_) (fun c_14 => ?_)
            · skip
              rw [i_eq] at c_14
              obtain ⟨v_15, ev_15⟩ : ∃ z : Int32, x6_2 + 1 = z := ⟨_, rfl⟩
              have el_1 : (1 : Int32).toInt = 1 := rfl
              have hv_15 : v_15.toInt = x6_2.toInt + (1 : Int32).toInt := by rw [← ev_15]; exact fb_addI (by omega) (by omega)
              refine j_iinc (pc := 57) (v := v_15) (lv' := [(2, .int v_15), (0, .ref t0), (1, .ref (D.2.1 i))]) C dX8_isWord_57 0 rfl ev_15 (by decide) rfl ?_
              refine j_goto (pc := 60) (tgt := 28) C dX8_isWord_60 (by decide) ?_
              exact j_lv [0, 1, 2] rfl (ih_6 v_15 (by omega) (by omega) (fun j hj => by rcases Int.lt_or_le (j : Int) (x6_2).toInt with q | q; (exact hq_6_0 j q); (rw [show j = (x6_2).toInt.toNat from (by omega), show (t_place).toInt.toNat + (x6_2).toInt.toNat = (v_10).toInt.toNat from (by omega), ev_11, ← hw_13_1]; omega)) (by omega))
            · skip
              rw [i_eq] at c_14
              refine j_iconst (pc := 55) (v := 0) C dX8_isWord_55 (by decide) ?_
              have el_0 : (0 : Int32).toInt = 0 := rfl
              have el_0 : (0 : Int32).toInt = 0 := rfl
              exact j_zret (pc := 56) C hr rfl hk (fun i => [].getD i 0, fun i => [0].getD i 0, fun i => [].getD i (fun _ => 0), fun i => [].getD i (fun _ => 0)) rfl (show (0 ≤ ((0 : Int32)).toInt ∧ ((0 : Int32)).toInt ≤ 1) ∧ ((0 : Int32).toInt = wI (TKS t_text (t_length).toInt.toNat) (t_place).toInt.toNat (wnL i)) from ⟨by omega, (by have z9 : wI (TKS t_text (t_length).toInt.toNat) (t_place).toInt.toNat (wnL i) = 0 := wI_0.mpr (fun z => by have z3 := ((hTH.word hwl).mpr z).2.2 (x6_2).toInt.toNat (by omega); rw [show (t_place).toInt.toNat + (x6_2).toInt.toNat = (v_10).toInt.toNat from (by omega), ev_11, ← hw_13_1] at z3; omega); omega)⟩) [0, 1] (by decide) rfl (by decide) (by decide) dX8_isWord_56
      have el_0 : (0 : Int32).toInt = 0 := rfl
      exact j_lv [0, 1, 2] rfl (loop_6 4096 0 (by decide) (by omega) (fun j h0 => absurd h0 (by omega)) (by omega))
    · skip
      rw [i_eq] at c_5
      refine j_iconst (pc := 24) (v := 0) C dX8_isWord_24 (by decide) ?_
      have el_0 : (0 : Int32).toInt = 0 := rfl
      have el_0 : (0 : Int32).toInt = 0 := rfl
      exact j_zret (pc := 25) C hr rfl hk (fun i => [].getD i 0, fun i => [0].getD i 0, fun i => [].getD i (fun _ => 0), fun i => [].getD i (fun _ => 0)) rfl (show (0 ≤ ((0 : Int32)).toInt ∧ ((0 : Int32)).toInt ≤ 1) ∧ ((0 : Int32).toInt = wI (TKS t_text (t_length).toInt.toNat) (t_place).toInt.toNat (wnL i)) from ⟨by omega, (by have z9 : wI (TKS t_text (t_length).toInt.toNat) (t_place).toInt.toNat (wnL i) = 0 := wI_0.mpr (fun z => by have z0 := (hTH.word hwl).mpr z; have z1 := z0.1; have z2 := z0.2.1; omega); omega)⟩) [0, 1] (by decide) rfl (by decide) (by decide) dX8_isWord_25
set_option maxHeartbeats 4000000 in
set_option maxRecDepth 100000 in
theorem c_X8_isSign_f (l : Launch) (D : DG) (cyC cyI cyJ cyZ cyO : ClassId) (t0 : Nat) (t1 : Nat) (p0 : Int32) (t_length : Int32) (t_next : Int32) (t_kind : Int32) (t_place : Int32) (t_number : Int32) (t_text : Nat → Int32) (h_t_length : 0 ≤ (t_length).toInt ∧ (t_length).toInt ≤ 1000) (h_t_next : 0 ≤ (t_next).toInt ∧ (t_next).toInt ≤ 1000) (h_t_kind : 0 ≤ (t_kind).toInt ∧ (t_kind).toInt ≤ 4) (h_t_place : 0 ≤ (t_place).toInt ∧ (t_place).toInt ≤ 1000) (h_t_text : Iv 1000 (0) (126) t_text) (ht3 : ¬ (t_kind).toInt = 3 ∨ (t_place).toInt ≤ 999) (hTH : TH t_text (t_length).toInt.toNat (t_next).toInt (t_kind).toInt (t_place).toInt (t_number).toInt) : KK l D (TY cyC cyI cyJ cyZ cyO) yX8_isSign cX8_isSign 2 (some .boolean) ({ frames := 0, cells := 0, slots := 0, locals := 0 } : Room) 0 0 [.ref t0, .int p0] [(t0, .inr (8, [.ref t1, .int t_length, .int t_next, .int t_kind, .int t_place, .int t_number])), (t1, .inl (cyC, 1000, .inl t_text))] (fun u => some (.int (u.2.1 0))) (fun u => (0 ≤ (u.2.1 0).toInt ∧ (u.2.1 0).toInt ≤ 1) ∧ ((u.2.1 0).toInt = gI (TKS t_text (t_length).toInt.toNat) (t_place).toInt.toNat p0)) (fun u => [(t0, .inr (8, [.ref t1, .int t_length, .int t_next, .int t_kind, .int t_place, .int t_number])), (t1, .inl (cyC, 1000, .inl t_text))]) := by
  refine KK.of (lv0 := [(0, .ref t0), (1, .int p0)]) (by decide) rfl (Nat.le_of_ble_eq_true rfl) ?_
  intro p e s m args below meth c A C hr hk hin
  refine j_aload_n (pc := 0) C dX8_isSign_0 rfl 0 rfl ?_
  refine j_get (pc := 1) (ci := 8) (v := .int t_kind) C inw_8 0 rfl rfl 3 (by decide) wd_271 rfl rfl dX8_isSign_1 ?_
  refine j_iconst (pc := 4) (v := 3) C dX8_isSign_4 (by decide) ?_
  refine j_icmp_ne (pc := 5) (tgt := 25) C dX8_isSign_5 (by decide) (fun c_1 => ?_) (fun c_1 => ?_)
  · skip
    have el_3 : (3 : Int32).toInt = 3 := rfl
    rw [i_eq] at c_1
    refine j_iconst (pc := 25) (v := 0) C dX8_isSign_25 (by decide) ?_
    have el_0 : (0 : Int32).toInt = 0 := rfl
    have el_0 : (0 : Int32).toInt = 0 := rfl
    exact j_zret (pc := 26) C hr rfl hk (fun i => [].getD i 0, fun i => [0].getD i 0, fun i => [].getD i (fun _ => 0), fun i => [].getD i (fun _ => 0)) rfl (show (0 ≤ ((0 : Int32)).toInt ∧ ((0 : Int32)).toInt ≤ 1) ∧ ((0 : Int32).toInt = gI (TKS t_text (t_length).toInt.toNat) (t_place).toInt.toNat p0) from ⟨by omega, (by have z9 : gI (TKS t_text (t_length).toInt.toNat) (t_place).toInt.toNat p0 = 0 := gI_0.mpr (fun z => by have z0 := (hTH.sign.mpr z).1; omega); omega)⟩) [0, 1] (by decide) rfl (by decide) (by decide) dX8_isSign_26
  · skip
    have el_3 : (3 : Int32).toInt = 3 := rfl
    rw [i_eq] at c_1
    refine j_aload_n (pc := 8) C dX8_isSign_8 rfl 0 rfl ?_
    refine j_get (pc := 9) (ci := 8) (v := .ref t1) C inw_8 0 rfl rfl 0 (by decide) wd_255 rfl rfl dX8_isSign_9 ?_
    refine j_aload_n (pc := 12) C dX8_isSign_12 rfl 0 rfl ?_
    refine j_get (pc := 13) (ci := 8) (v := .int t_place) C inw_8 0 rfl rfl 4 (by decide) wd_262 rfl rfl dX8_isSign_13 ?_
    obtain ⟨v_2, ev_2⟩ : ∃ z, t_text (t_place).toInt.toNat = z := ⟨_, rfl⟩
    have env_2 : (t_text (t_place).toInt.toNat).toInt = v_2.toInt := by rw [ev_2]
    have hv_2 := h_t_text (t_place).toInt.toNat (i_lt_n h_t_place.1 (by omega)); rw [ev_2] at hv_2
    refine j_cald (pc := 16) (v := v_2) (k := (t_place).toInt.toNat) C 1 0 rfl rfl (i_nn h_t_place.1) rfl (i_lt_n h_t_place.1 (by omega)) ev_2 dX8_isSign_16 ?_
    refine j_iload_n (pc := 17) C dX8_isSign_17 rfl 1 rfl ?_
    refine j_icmp_ne (pc := 18) (tgt := 25) C dX8_isSign_18 (by decide) (fun c_3 => ?_) (fun c_3 => ?_)
    · skip
      rw [i_eq] at c_3
      refine j_iconst (pc := 25) (v := 0) C dX8_isSign_25 (by decide) ?_
      have el_0 : (0 : Int32).toInt = 0 := rfl
      have el_0 : (0 : Int32).toInt = 0 := rfl
      exact j_zret (pc := 26) C hr rfl hk (fun i => [].getD i 0, fun i => [0].getD i 0, fun i => [].getD i (fun _ => 0), fun i => [].getD i (fun _ => 0)) rfl (show (0 ≤ ((0 : Int32)).toInt ∧ ((0 : Int32)).toInt ≤ 1) ∧ ((0 : Int32).toInt = gI (TKS t_text (t_length).toInt.toNat) (t_place).toInt.toNat p0) from ⟨by omega, (by have z9 : gI (TKS t_text (t_length).toInt.toNat) (t_place).toInt.toNat p0 = 0 := gI_0.mpr (fun z => by have z0 := (i_eq _ _).mp (ev_2.symm.trans (hTH.sign.mpr z).2); omega); omega)⟩) [0, 1] (by decide) rfl (by decide) (by decide) dX8_isSign_26
    · skip
      rw [i_eq] at c_3
      refine j_iconst (pc := 21) (v := 1) C dX8_isSign_21 (by decide) ?_
      refine j_goto (pc := 22) (tgt := 26) C dX8_isSign_22 (by decide) ?_
      have el_1 : (1 : Int32).toInt = 1 := rfl
      have el_1 : (1 : Int32).toInt = 1 := rfl
      exact j_zret (pc := 26) C hr rfl hk (fun i => [].getD i 0, fun i => [1].getD i 0, fun i => [].getD i (fun _ => 0), fun i => [].getD i (fun _ => 0)) rfl (show (0 ≤ ((1 : Int32)).toInt ∧ ((1 : Int32)).toInt ≤ 1) ∧ ((1 : Int32).toInt = gI (TKS t_text (t_length).toInt.toNat) (t_place).toInt.toNat p0) from ⟨by omega, (by have z9 : gI (TKS t_text (t_length).toInt.toNat) (t_place).toInt.toNat p0 = 1 := gI_1.mpr (hTH.sign.mp ⟨by omega, ev_2.trans ((i_eq _ _).mpr (by omega))⟩); omega)⟩) [0, 1] (by decide) rfl (by decide) (by decide) dX8_isSign_26
set_option maxHeartbeats 4000000 in
set_option maxRecDepth 100000 in
theorem c_X8_code_f (l : Launch) (D : DG) (cyC cyI cyJ cyZ cyO : ClassId) (t0 : Nat) (t1 : Nat) (t_length : Int32) (t_next : Int32) (t_kind : Int32) (t_place : Int32) (t_number : Int32) (t_text : Nat → Int32) (h_t_length : 0 ≤ (t_length).toInt ∧ (t_length).toInt ≤ 1000) (h_t_next : 0 ≤ (t_next).toInt ∧ (t_next).toInt ≤ 1000) (h_t_kind : 0 ≤ (t_kind).toInt ∧ (t_kind).toInt ≤ 4) (h_t_place : 0 ≤ (t_place).toInt ∧ (t_place).toInt ≤ 1000) (h_t_text : Iv 1000 (0) (126) t_text) (hk1 : (t_kind).toInt = 1) (hTH : TH t_text (t_length).toInt.toNat (t_next).toInt (t_kind).toInt (t_place).toInt (t_number).toInt) : KK l D (TY cyC cyI cyJ cyZ cyO) yX8_code cX8_code 4 (some .long) ({ frames := 0, cells := 0, slots := 0, locals := 0 } : Room) 0 0 [.ref t0] [(t0, .inr (8, [.ref t1, .int t_length, .int t_next, .int t_kind, .int t_place, .int t_number])), (t1, .inl (cyC, 1000, .inl t_text))] (fun u => some (.long (u.2.2.2 0 0))) (fun u => (NMR (u.2.2.2 0 0) ((TKS t_text (t_length).toInt.toNat) (t_place).toInt.toNat).2.1)) (fun u => [(t0, .inr (8, [.ref t1, .int t_length, .int t_next, .int t_kind, .int t_place, .int t_number])), (t1, .inl (cyC, 1000, .inl t_text))]) := by
  refine KK.of (lv0 := [(0, .ref t0)]) (by decide) rfl (Nat.le_of_ble_eq_true rfl) ?_
  intro p e s m args below meth c A C hr hk hin
  have hpn := (hTH.wval hk1).2.2
  refine j_lconst (pc := 0) (v := 0) C dX8_code_0 rfl ?_
  refine j_lstore_n (pc := 1) (lv' := [(1, .long 0), (0, .ref t0)]) C dX8_code_1 rfl (by decide) rfl ?_
  refine j_aload_n (pc := 2) C dX8_code_2 rfl 1 rfl ?_
  refine j_get (pc := 3) (ci := 8) (v := .int t_place) C inw_8 0 rfl rfl 4 (by decide) wd_262 rfl rfl dX8_code_3 ?_
  refine j_istore_n (pc := 6) (lv' := [(3, .int t_place), (1, .long 0), (0, .ref t0)]) C dX8_code_6 rfl (by decide) rfl ?_
  have loop_1 : ∀ (k_1 : Nat) (x1_3 : Int32) (x1_1 : Int64), (0 ≤ (x1_3).toInt ∧ (x1_3).toInt ≤ 1000) → ((t_place).toInt ≤ x1_3.toInt ∧ x1_3.toInt ≤ (t_next).toInt) → (x1_1 = e32 t_text (t_place).toInt.toNat (x1_3.toInt - (t_place).toInt).toNat) → (1000 - x1_3.toInt).toNat < k_1 → J p l e ({ frames := 0, cells := 0, slots := 0, locals := 0 } : Room) s m args below meth c D A 4 0 0 (QX below D (TY cyC cyI cyJ cyZ cyO) A (fun u => some (.long (u.2.2.2 0 0))) (fun u => (NMR (u.2.2.2 0 0) ((TKS t_text (t_length).toInt.toNat) (t_place).toInt.toNat).2.1)) (fun u => [(t0, .inr (8, [.ref t1, .int t_length, .int t_next, .int t_kind, .int t_place, .int t_number])), (t1, .inl (cyC, 1000, .inl t_text))]) args s 0 0) [(t0, .inr (8, [.ref t1, .int t_length, .int t_next, .int t_kind, .int t_place, .int t_number])), (t1, .inl (cyC, 1000, .inl t_text))] 7 [(3, .int x1_3), (1, .long x1_1), (0, .ref t0)] [] := by
    intro k_1
    induction k_1 with
    | zero =>
      intro x1_3 x1_1 hi_1_0 hr_1 hq_1_0 hm_1
      exact absurd hm_1 (Nat.not_lt_zero _)
    | succ k_1 ih_1 =>
      intro x1_3 x1_1 hi_1_0 hr_1 hq_1_0 hm_1
      refine j_iload_n (pc := 7) C dX8_code_7 rfl 0 rfl ?_
      refine j_aload_n (pc := 8) C dX8_code_8 rfl 2 rfl ?_
      refine j_get (pc := 9) (ci := 8) (v := .int t_next) C inw_8 0 rfl rfl 2 (by decide) wd_256 rfl rfl dX8_code_9 ?_
      refine j_icmp_ge (pc := 12) (tgt := 41) C dX8_code_12 (by decide) (fun c_2 => ?_) (fun c_2 => ?_)
      · skip
        rw [i_le] at c_2
        refine j_lload_n (pc := 41) C dX8_code_41 rfl 1 rfl ?_
        exact j_lret (pc := 42) C hr hk (fun i => [].getD i 0, fun i => [].getD i 0, fun i => [].getD i (fun _ => 0), fun i => [(fun _ => x1_1)].getD i (fun _ => 0)) rfl (show (NMR x1_1 ((TKS t_text (t_length).toInt.toNat) (t_place).toInt.toNat).2.1) from ((by have z8 := hTH.name hk1; rw [show (t_next).toInt.toNat - (t_place).toInt.toNat = ((x1_3).toInt - (t_place).toInt).toNat from (by omega), ← hq_1_0] at z8; exact z8))) [0, 1] (by decide) rfl (by decide) (by decide) dX8_code_42
      · skip
        rw [i_le] at c_2
        refine j_lload_n (pc := 15) C dX8_code_15 rfl 1 rfl ?_
        refine j_ldc2 (pc := 16) C wd_286 dX8_code_16 ?_
        refine j_lmul (pc := 19) C dX8_code_19 rfl ?_
        refine j_aload_n (pc := 20) C dX8_code_20 rfl 2 rfl ?_
        refine j_get (pc := 21) (ci := 8) (v := .ref t1) C inw_8 0 rfl rfl 0 (by decide) wd_255 rfl rfl dX8_code_21 ?_
        refine j_iload_n (pc := 24) C dX8_code_24 rfl 0 rfl ?_
        obtain ⟨v_3, ev_3⟩ : ∃ z, t_text (x1_3).toInt.toNat = z := ⟨_, rfl⟩
        have env_3 : (t_text (x1_3).toInt.toNat).toInt = v_3.toInt := by rw [ev_3]
        have hv_3 := h_t_text (x1_3).toInt.toNat (i_lt_n hi_1_0.1 (by omega)); rw [ev_3] at hv_3
        refine j_cald (pc := 25) (v := v_3) (k := (x1_3).toInt.toNat) C 1 0 rfl rfl (i_nn hi_1_0.1) rfl (i_lt_n hi_1_0.1 (by omega)) ev_3 dX8_code_25 ?_
        refine j_i2l (pc := 26) C dX8_code_26 rfl ?_
        refine j_ladd (pc := 27) C dX8_code_27 rfl ?_
        refine j_ldc2 (pc := 28) C wd_287 dX8_code_28 ?_
        refine j_lsub (pc := 31) C dX8_code_31 rfl ?_
        refine j_lconst (pc := 32) (v := 1) C dX8_code_32 rfl ?_
        refine j_ladd (pc := 33) C dX8_code_33 rfl ?_
        refine j_lstore_n (pc := 34) (lv' := [(1, .long ((((x1_1 * 32) + (v_3).toInt64) - 97) + 1)), (3, .int x1_3), (0, .ref t0)]) C dX8_code_34 rfl (by decide) rfl ?_
        obtain ⟨v_4, ev_4⟩ : ∃ z : Int32, x1_3 + 1 = z := ⟨_, rfl⟩
        have el_1 : (1 : Int32).toInt = 1 := rfl
        have hv_4 : v_4.toInt = x1_3.toInt + (1 : Int32).toInt := by rw [← ev_4]; exact fb_addI (by omega) (by omega)
        refine j_iinc (pc := 35) (v := v_4) (lv' := [(3, .int v_4), (1, .long ((((x1_1 * 32) + (v_3).toInt64) - 97) + 1)), (0, .ref t0)]) C dX8_code_35 1 rfl ev_4 (by decide) rfl ?_
        refine j_goto (pc := 38) (tgt := 7) C dX8_code_38 (by decide) ?_
        exact j_lv [0, 1, 2] rfl (ih_1 v_4 ((((x1_1 * 32) + (v_3).toInt64) - 97) + 1) (by omega) (by omega) (by rw [show ((v_4).toInt - (t_place).toInt).toNat = ((x1_3).toInt - (t_place).toInt).toNat + 1 from (by omega)]; show ((((x1_1 * 32) + (v_3).toInt64) - 97) + 1) = e32 t_text (t_place).toInt.toNat ((x1_3).toInt - (t_place).toInt).toNat * 32 + (t_text ((t_place).toInt.toNat + ((x1_3).toInt - (t_place).toInt).toNat)).toInt64 - 97 + 1; rw [← hq_1_0, show (t_place).toInt.toNat + ((x1_3).toInt - (t_place).toInt).toNat = (x1_3).toInt.toNat from (by omega), ev_3]) (by omega))
  have el_0 : (0 : Int32).toInt = 0 := rfl
  exact j_lv [0, 1, 2] rfl (loop_1 4096 t_place 0 h_t_place (by omega) (by rw [show ((t_place).toInt - (t_place).toInt).toNat = 0 from (by omega)]; rfl) (by omega))
/-- one of a stretch of words, or none of them -/
def NJ (x : Int) (T : Nat → Int × Int64 × Nat) (p lo hi : Nat) : Prop := (x = 0 → ∀ k, lo ≤ k → k < hi → wI T p (WN k) = 0) ∧ (x = 1 → ∃ k, lo ≤ k ∧ k < hi ∧ wI T p (WN k) = 1)
theorem NJ.yes {x : Int} {T : Nat → Int × Int64 × Nat} {p lo hi : Nat} (k : Nat) (hx : x = 1) (h : wI T p (WN k) = 1) (h1 : lo ≤ k ∧ k < hi) : NJ x T p lo hi := ⟨fun z => absurd (hx.symm.trans z) (by decide), fun _ => ⟨k, h1.1, h1.2, h⟩⟩
theorem nm_j1 {T : Nat → Int × Int64 × Nat} {p : Nat} {x1 x2 x3 : Int} (hk : (T p).1 = 1) (h1 : NJ x1 T p 0 6) (h2 : NJ x2 T p 6 14) (h3 : NJ x3 T p 14 17) (e1 : x1 = 0) (e2 : x2 = 0) (e3 : x3 = 0) : nmI T p = 1 := nmI_1.mpr (isNm_iff.mpr ⟨hk, fun k hk2 e => by
  have h4 : wI T p (WN k) = 1 := wI_1.mpr (decide_eq_true ⟨hk, e⟩)
  rcases Nat.lt_or_ge k 6 with q | q
  · have := h1.1 e1 k (by omega) q; omega
  · rcases Nat.lt_or_ge k 14 with q2 | q2
    · have := h2.1 e2 k q q2; omega
    · have := h3.1 e3 k q2 hk2; omega⟩)
theorem nm_j0 {T : Nat → Int × Int64 × Nat} {p lo hi : Nat} {x : Int} (h : NJ x T p lo hi) (hx : x = 1) (hh : hi ≤ 17) : nmI T p = 0 := by
  obtain ⟨k, _, h2, h3⟩ := h.2 hx
  exact nmI_0.mpr (fun q => (isNm_iff.mp q).2 k (by omega) (of_decide_eq_true (wI_1.mp h3)).2)
theorem nm_k {T : Nat → Int × Int64 × Nat} {p : Nat} (h : ¬ (T p).1 = 1) : nmI T p = 0 := nmI_0.mpr (fun q => h (isNm_iff.mp q).1)
set_option maxHeartbeats 4000000 in
set_option maxRecDepth 100000 in
theorem c_X8_isName_f (l : Launch) (D : DG) (cyC cyI cyJ cyZ cyO : ClassId) (t0 : Nat) (t1 : Nat) (t_length : Int32) (t_next : Int32) (t_kind : Int32) (t_place : Int32) (t_number : Int32) (t_text : Nat → Int32) (h_t_length : 0 ≤ (t_length).toInt ∧ (t_length).toInt ≤ 1000) (h_t_next : 0 ≤ (t_next).toInt ∧ (t_next).toInt ≤ 1000) (h_t_kind : 0 ≤ (t_kind).toInt ∧ (t_kind).toInt ≤ 4) (h_t_place : 0 ≤ (t_place).toInt ∧ (t_place).toInt ≤ 1000) (h_t_text : Iv 1000 (0) (126) t_text) (hTH : TH t_text (t_length).toInt.toNat (t_next).toInt (t_kind).toInt (t_place).toInt (t_number).toInt) : KK l D (TY cyC cyI cyJ cyZ cyO) yX8_isName cX8_isName 4 (some .boolean) ({ frames := 5, cells := 0, slots := 0, locals := 107 } : Room) 0 0 [.ref t0] [(t0, .inr (8, [.ref t1, .int t_length, .int t_next, .int t_kind, .int t_place, .int t_number])), (t1, .inl (cyC, 1000, .inl t_text))] (fun u => some (.int (u.2.1 0))) (fun u => (0 ≤ (u.2.1 0).toInt ∧ (u.2.1 0).toInt ≤ 1) ∧ ((u.2.1 0).toInt = nmI (TKS t_text (t_length).toInt.toNat) (t_place).toInt.toNat) ∧ ((u.2.1 0).toInt = 0 ∨ (t_kind).toInt = 1)) (fun u => [(t0, .inr (8, [.ref t1, .int t_length, .int t_next, .int t_kind, .int t_place, .int t_number])), (t1, .inl (cyC, 1000, .inl t_text))]) := by
  refine KK.of (lv0 := [(0, .ref t0)]) (by decide) rfl (Nat.le_of_ble_eq_true rfl) ?_
  intro p e s m args below meth c A C hr hk hin
  have join_1 : ∀ xj1 : Int32, 0 ≤ (xj1).toInt ∧ (xj1).toInt ≤ 1 → (NJ (xj1).toInt (TKS t_text (t_length).toInt.toNat) (t_place).toInt.toNat 0 6) → J p l e ({ frames := 5, cells := 0, slots := 0, locals := 107 } : Room) s m args below meth c D A 4 0 0 (QX below D (TY cyC cyI cyJ cyZ cyO) A (fun u => some (.int (u.2.1 0))) (fun u => (0 ≤ (u.2.1 0).toInt ∧ (u.2.1 0).toInt ≤ 1) ∧ ((u.2.1 0).toInt = nmI (TKS t_text (t_length).toInt.toNat) (t_place).toInt.toNat) ∧ ((u.2.1 0).toInt = 0 ∨ (t_kind).toInt = 1)) (fun u => [(t0, .inr (8, [.ref t1, .int t_length, .int t_next, .int t_kind, .int t_place, .int t_number])), (t1, .inl (cyC, 1000, .inl t_text))]) args s 0 0) [(t0, .inr (8, [.ref t1, .int t_length, .int t_next, .int t_kind, .int t_place, .int t_number])), (t1, .inl (cyC, 1000, .inl t_text))] 59 [(0, .ref t0)] [.int xj1] := by
    intro xj1 hj1 hjf1
    refine j_istore_n (pc := 59) (lv' := [(1, .int xj1), (0, .ref t0)]) C dX8_isName_59 rfl (by decide) rfl ?_
    have join_2 : ∀ xj2 : Int32, 0 ≤ (xj2).toInt ∧ (xj2).toInt ≤ 1 → (NJ (xj2).toInt (TKS t_text (t_length).toInt.toNat) (t_place).toInt.toNat 6 14) → J p l e ({ frames := 5, cells := 0, slots := 0, locals := 107 } : Room) s m args below meth c D A 4 0 0 (QX below D (TY cyC cyI cyJ cyZ cyO) A (fun u => some (.int (u.2.1 0))) (fun u => (0 ≤ (u.2.1 0).toInt ∧ (u.2.1 0).toInt ≤ 1) ∧ ((u.2.1 0).toInt = nmI (TKS t_text (t_length).toInt.toNat) (t_place).toInt.toNat) ∧ ((u.2.1 0).toInt = 0 ∨ (t_kind).toInt = 1)) (fun u => [(t0, .inr (8, [.ref t1, .int t_length, .int t_next, .int t_kind, .int t_place, .int t_number])), (t1, .inl (cyC, 1000, .inl t_text))]) args s 0 0) [(t0, .inr (8, [.ref t1, .int t_length, .int t_next, .int t_kind, .int t_place, .int t_number])), (t1, .inl (cyC, 1000, .inl t_text))] 137 [(1, .int xj1), (0, .ref t0)] [.int xj2] := by
      intro xj2 hj2 hjf2
      refine j_istore_n (pc := 137) (lv' := [(2, .int xj2), (1, .int xj1), (0, .ref t0)]) C dX8_isName_137 rfl (by decide) rfl ?_
      have join_3 : ∀ xj3 : Int32, 0 ≤ (xj3).toInt ∧ (xj3).toInt ≤ 1 → (NJ (xj3).toInt (TKS t_text (t_length).toInt.toNat) (t_place).toInt.toNat 14 17) → J p l e ({ frames := 5, cells := 0, slots := 0, locals := 107 } : Room) s m args below meth c D A 4 0 0 (QX below D (TY cyC cyI cyJ cyZ cyO) A (fun u => some (.int (u.2.1 0))) (fun u => (0 ≤ (u.2.1 0).toInt ∧ (u.2.1 0).toInt ≤ 1) ∧ ((u.2.1 0).toInt = nmI (TKS t_text (t_length).toInt.toNat) (t_place).toInt.toNat) ∧ ((u.2.1 0).toInt = 0 ∨ (t_kind).toInt = 1)) (fun u => [(t0, .inr (8, [.ref t1, .int t_length, .int t_next, .int t_kind, .int t_place, .int t_number])), (t1, .inl (cyC, 1000, .inl t_text))]) args s 0 0) [(t0, .inr (8, [.ref t1, .int t_length, .int t_next, .int t_kind, .int t_place, .int t_number])), (t1, .inl (cyC, 1000, .inl t_text))] 170 [(2, .int xj2), (1, .int xj1), (0, .ref t0)] [.int xj3] := by
        intro xj3 hj3 hjf3
        refine j_istore_n (pc := 170) (lv' := [(3, .int xj3), (2, .int xj2), (1, .int xj1), (0, .ref t0)]) C dX8_isName_170 rfl (by decide) rfl ?_
        refine j_aload_n (pc := 171) C dX8_isName_171 rfl 3 rfl ?_
        refine j_get (pc := 172) (ci := 8) (v := .int t_kind) C inw_8 0 rfl rfl 3 (by decide) wd_271 rfl rfl dX8_isName_172 ?_
        refine j_iconst (pc := 175) (v := 1) C dX8_isName_175 (by decide) ?_
        refine j_icmp_ne (pc := 176) (tgt := 195) C dX8_isName_176 (by decide) (fun c_4 => ?_) (fun c_4 => ?_)
        · skip
          have el_1 : (1 : Int32).toInt = 1 := rfl
          rw [i_eq] at c_4
          refine j_iconst (pc := 195) (v := 0) C dX8_isName_195 (by decide) ?_
          have el_0 : (0 : Int32).toInt = 0 := rfl
          have el_0 : (0 : Int32).toInt = 0 := rfl
          have el_0 : (0 : Int32).toInt = 0 := rfl
          exact j_zret (pc := 196) C hr rfl hk (fun i => [].getD i 0, fun i => [0].getD i 0, fun i => [].getD i (fun _ => 0), fun i => [].getD i (fun _ => 0)) rfl (show (0 ≤ ((0 : Int32)).toInt ∧ ((0 : Int32)).toInt ≤ 1) ∧ ((0 : Int32).toInt = nmI (TKS t_text (t_length).toInt.toNat) (t_place).toInt.toNat) ∧ ((0 : Int32).toInt = 0 ∨ (t_kind).toInt = 1) from ⟨by omega, (by have z9 := nm_k (T := (TKS t_text (t_length).toInt.toNat)) (p := (t_place).toInt.toNat) (by have hk9 := hTH.kind; omega); omega), by omega⟩) [0, 1] (by decide) rfl (by decide) (by decide) dX8_isName_196
        · skip
          have el_1 : (1 : Int32).toInt = 1 := rfl
          rw [i_eq] at c_4
          refine j_iload_n (pc := 179) C dX8_isName_179 rfl 2 rfl ?_
          refine j_if_ne (pc := 180) (tgt := 195) C dX8_isName_180 (by decide) (fun c_5 => ?_) (fun c_5 => ?_)
          · skip
            have el_0 : (0 : Int32).toInt = 0 := rfl
            rw [i_eq] at c_5
            have k0c_5 : xj1.toInt = 1 := by omega
            refine j_iconst (pc := 195) (v := 0) C dX8_isName_195 (by decide) ?_
            have el_0 : (0 : Int32).toInt = 0 := rfl
            have el_0 : (0 : Int32).toInt = 0 := rfl
            have el_0 : (0 : Int32).toInt = 0 := rfl
            exact j_zret (pc := 196) C hr rfl hk (fun i => [].getD i 0, fun i => [0].getD i 0, fun i => [].getD i (fun _ => 0), fun i => [].getD i (fun _ => 0)) rfl (show (0 ≤ ((0 : Int32)).toInt ∧ ((0 : Int32)).toInt ≤ 1) ∧ ((0 : Int32).toInt = nmI (TKS t_text (t_length).toInt.toNat) (t_place).toInt.toNat) ∧ ((0 : Int32).toInt = 0 ∨ (t_kind).toInt = 1) from ⟨by omega, (by have z9 := nm_j0 hjf1 (by omega) (by decide); omega), by omega⟩) [0, 1] (by decide) rfl (by decide) (by decide) dX8_isName_196
          · skip
            have el_0 : (0 : Int32).toInt = 0 := rfl
            rw [i_eq] at c_5
            refine j_iload_n (pc := 183) C dX8_isName_183 rfl 1 rfl ?_
            refine j_if_ne (pc := 184) (tgt := 195) C dX8_isName_184 (by decide) (fun c_6 => ?_) (fun c_6 => ?_)
            · skip
              have el_0 : (0 : Int32).toInt = 0 := rfl
              rw [i_eq] at c_6
              have k0c_6 : xj2.toInt = 1 := by omega
              refine j_iconst (pc := 195) (v := 0) C dX8_isName_195 (by decide) ?_
              have el_0 : (0 : Int32).toInt = 0 := rfl
              have el_0 : (0 : Int32).toInt = 0 := rfl
              have el_0 : (0 : Int32).toInt = 0 := rfl
              exact j_zret (pc := 196) C hr rfl hk (fun i => [].getD i 0, fun i => [0].getD i 0, fun i => [].getD i (fun _ => 0), fun i => [].getD i (fun _ => 0)) rfl (show (0 ≤ ((0 : Int32)).toInt ∧ ((0 : Int32)).toInt ≤ 1) ∧ ((0 : Int32).toInt = nmI (TKS t_text (t_length).toInt.toNat) (t_place).toInt.toNat) ∧ ((0 : Int32).toInt = 0 ∨ (t_kind).toInt = 1) from ⟨by omega, (by have z9 := nm_j0 hjf2 (by omega) (by decide); omega), by omega⟩) [0, 1] (by decide) rfl (by decide) (by decide) dX8_isName_196
            · skip
              have el_0 : (0 : Int32).toInt = 0 := rfl
              rw [i_eq] at c_6
              refine j_iload_n (pc := 187) C dX8_isName_187 rfl 0 rfl ?_
              refine j_if_ne (pc := 188) (tgt := 195) C dX8_isName_188 (by decide) (fun c_7 => ?_) (fun c_7 => ?_)
              · skip
                have el_0 : (0 : Int32).toInt = 0 := rfl
                rw [i_eq] at c_7
                have k0c_7 : xj3.toInt = 1 := by omega
                refine j_iconst (pc := 195) (v := 0) C dX8_isName_195 (by decide) ?_
                have el_0 : (0 : Int32).toInt = 0 := rfl
                have el_0 : (0 : Int32).toInt = 0 := rfl
                have el_0 : (0 : Int32).toInt = 0 := rfl
                exact j_zret (pc := 196) C hr rfl hk (fun i => [].getD i 0, fun i => [0].getD i 0, fun i => [].getD i (fun _ => 0), fun i => [].getD i (fun _ => 0)) rfl (show (0 ≤ ((0 : Int32)).toInt ∧ ((0 : Int32)).toInt ≤ 1) ∧ ((0 : Int32).toInt = nmI (TKS t_text (t_length).toInt.toNat) (t_place).toInt.toNat) ∧ ((0 : Int32).toInt = 0 ∨ (t_kind).toInt = 1) from ⟨by omega, (by have z9 := nm_j0 hjf3 (by omega) (by decide); omega), by omega⟩) [0, 1] (by decide) rfl (by decide) (by decide) dX8_isName_196
              · skip
                have el_0 : (0 : Int32).toInt = 0 := rfl
                rw [i_eq] at c_7
                refine j_iconst (pc := 191) (v := 1) C dX8_isName_191 (by decide) ?_
                refine j_goto (pc := 192) (tgt := 196) C dX8_isName_192 (by decide) ?_
                have el_1 : (1 : Int32).toInt = 1 := rfl
                have el_1 : (1 : Int32).toInt = 1 := rfl
                have el_1 : (1 : Int32).toInt = 1 := rfl
                exact j_zret (pc := 196) C hr rfl hk (fun i => [].getD i 0, fun i => [1].getD i 0, fun i => [].getD i (fun _ => 0), fun i => [].getD i (fun _ => 0)) rfl (show (0 ≤ ((1 : Int32)).toInt ∧ ((1 : Int32)).toInt ≤ 1) ∧ ((1 : Int32).toInt = nmI (TKS t_text (t_length).toInt.toNat) (t_place).toInt.toNat) ∧ ((1 : Int32).toInt = 0 ∨ (t_kind).toInt = 1) from ⟨by omega, (by have z9 := nm_j1 (hTH.kind.trans (by omega)) hjf1 hjf2 hjf3 (by omega) (by omega) (by omega); omega), by omega⟩) [0, 1] (by decide) rfl (by decide) (by decide) dX8_isName_196
      refine j_aload_n (pc := 138) C dX8_isName_138 rfl 2 rfl ?_
      refine j_ldcS (pc := 139) (i := 40) C (by decide) rfl dX8_isName_139 ?_
      refine j_callV (pc := 141) (As := [.ref (D.2.1 40)]) (rest := []) (wr := []) C (c_X8_isWord_f l D cyC cyI cyJ cyZ cyO t0 t1 40 t_length t_next t_kind t_place t_number t_text h_t_length h_t_next h_t_kind h_t_place h_t_text (by decide) ⟨by decide, by decide, by decide⟩ hTH) wd_288 wd_258 wd_289 wd_290 wd_291 ⟨by decide, by decide, rfl⟩ rfl ⟨rfl, rfl, by decide, by decide⟩ ⟨by decide, by decide⟩ [0, 1] [] rfl rfl ⟨by decide, by decide, by decide⟩ 0 rfl rfl rfl (Nat.le_of_ble_eq_true rfl) dX8_isName_141 (fun u_8 hw_9 => ?_)
      refine j_eq (ws2 := [(t0, .inr (8, [.ref t1, .int t_length, .int t_next, .int t_kind, .int t_place, .int t_number])), (t1, .inl (cyC, 1000, .inl t_text))]) (pc2 := 144) (lv2 := [(2, .int xj2), (1, .int xj1), (0, .ref t0)]) (st2 := [.int (u_8.2.1 0)]) rfl rfl rfl rfl ?_
      obtain ⟨hw_9_0, hw_9_1⟩ := hw_9
      have hW_u_8 : (u_8.2.1 0).toInt = wI (TKS t_text (t_length).toInt.toNat) (t_place).toInt.toNat (WN 14) := by rw [← wnE_40]; exact hw_9_1
      refine j_if_ne (pc := 144) (tgt := 165) C dX8_isName_144 (by decide) (fun c_10 => ?_) (fun c_10 => ?_)
      · skip
        have el_0 : (0 : Int32).toInt = 0 := rfl
        rw [i_eq] at c_10
        have k0c_10 : ((u_8.2.1 0)).toInt = 1 := by omega
        refine j_iconst (pc := 165) (v := 1) C dX8_isName_165 (by decide) ?_
        refine j_goto (pc := 166) (tgt := 170) C dX8_isName_166 (by decide) ?_
        have el_1 : (1 : Int32).toInt = 1 := rfl
        exact j_lv [0, 1, 2] rfl (join_3 (1) (by omega) (NJ.yes 14 (by omega) (by have z9 := hW_u_8; omega) (by decide)))
      · skip
        have el_0 : (0 : Int32).toInt = 0 := rfl
        rw [i_eq] at c_10
        refine j_aload_n (pc := 147) C dX8_isName_147 rfl 2 rfl ?_
        refine j_ldcS (pc := 148) (i := 41) C (by decide) rfl dX8_isName_148 ?_
        refine j_callV (pc := 150) (As := [.ref (D.2.1 41)]) (rest := []) (wr := []) C (c_X8_isWord_f l D cyC cyI cyJ cyZ cyO t0 t1 41 t_length t_next t_kind t_place t_number t_text h_t_length h_t_next h_t_kind h_t_place h_t_text (by decide) ⟨by decide, by decide, by decide⟩ hTH) wd_288 wd_258 wd_289 wd_290 wd_291 ⟨by decide, by decide, rfl⟩ rfl ⟨rfl, rfl, by decide, by decide⟩ ⟨by decide, by decide⟩ [0, 1] [] rfl rfl ⟨by decide, by decide, by decide⟩ 0 rfl rfl rfl (Nat.le_of_ble_eq_true rfl) dX8_isName_150 (fun u_11 hw_12 => ?_)
        refine j_eq (ws2 := [(t0, .inr (8, [.ref t1, .int t_length, .int t_next, .int t_kind, .int t_place, .int t_number])), (t1, .inl (cyC, 1000, .inl t_text))]) (pc2 := 153) (lv2 := [(2, .int xj2), (1, .int xj1), (0, .ref t0)]) (st2 := [.int (u_11.2.1 0)]) rfl rfl rfl rfl ?_
        obtain ⟨hw_12_0, hw_12_1⟩ := hw_12
        have hW_u_11 : (u_11.2.1 0).toInt = wI (TKS t_text (t_length).toInt.toNat) (t_place).toInt.toNat (WN 15) := by rw [← wnE_41]; exact hw_12_1
        refine j_if_ne (pc := 153) (tgt := 165) C dX8_isName_153 (by decide) (fun c_13 => ?_) (fun c_13 => ?_)
        · skip
          have el_0 : (0 : Int32).toInt = 0 := rfl
          rw [i_eq] at c_13
          have k0c_13 : ((u_11.2.1 0)).toInt = 1 := by omega
          refine j_iconst (pc := 165) (v := 1) C dX8_isName_165 (by decide) ?_
          refine j_goto (pc := 166) (tgt := 170) C dX8_isName_166 (by decide) ?_
          have el_1 : (1 : Int32).toInt = 1 := rfl
          exact j_lv [0, 1, 2] rfl (join_3 (1) (by omega) (NJ.yes 15 (by omega) (by have z9 := hW_u_11; omega) (by decide)))
        · skip
          have el_0 : (0 : Int32).toInt = 0 := rfl
          rw [i_eq] at c_13
          refine j_aload_n (pc := 156) C dX8_isName_156 rfl 2 rfl ?_
          refine j_ldcS (pc := 157) (i := 42) C (by decide) rfl dX8_isName_157 ?_
          refine j_callV (pc := 159) (As := [.ref (D.2.1 42)]) (rest := []) (wr := []) C (c_X8_isWord_f l D cyC cyI cyJ cyZ cyO t0 t1 42 t_length t_next t_kind t_place t_number t_text h_t_length h_t_next h_t_kind h_t_place h_t_text (by decide) ⟨by decide, by decide, by decide⟩ hTH) wd_288 wd_258 wd_289 wd_290 wd_291 ⟨by decide, by decide, rfl⟩ rfl ⟨rfl, rfl, by decide, by decide⟩ ⟨by decide, by decide⟩ [0, 1] [] rfl rfl ⟨by decide, by decide, by decide⟩ 0 rfl rfl rfl (Nat.le_of_ble_eq_true rfl) dX8_isName_159 (fun u_14 hw_15 => ?_)
          refine j_eq (ws2 := [(t0, .inr (8, [.ref t1, .int t_length, .int t_next, .int t_kind, .int t_place, .int t_number])), (t1, .inl (cyC, 1000, .inl t_text))]) (pc2 := 162) (lv2 := [(2, .int xj2), (1, .int xj1), (0, .ref t0)]) (st2 := [.int (u_14.2.1 0)]) rfl rfl rfl rfl ?_
          obtain ⟨hw_15_0, hw_15_1⟩ := hw_15
          have hW_u_14 : (u_14.2.1 0).toInt = wI (TKS t_text (t_length).toInt.toNat) (t_place).toInt.toNat (WN 16) := by rw [← wnE_42]; exact hw_15_1
          refine j_if_eq (pc := 162) (tgt := 169) C dX8_isName_162 (by decide) (fun c_16 => ?_) (fun c_16 => ?_)
          · skip
            have el_0 : (0 : Int32).toInt = 0 := rfl
            rw [i_eq] at c_16
            refine j_iconst (pc := 169) (v := 0) C dX8_isName_169 (by decide) ?_
            have el_0 : (0 : Int32).toInt = 0 := rfl
            exact j_lv [0, 1, 2] rfl (join_3 (0) (by omega) ⟨fun _ k h1 h2 => by rcases (by omega : k = 14 ∨ k = 15 ∨ k = 16) with h9 | h9 | h9; (rw [h9]; have z9 := hW_u_8; omega); (rw [h9]; have z9 := hW_u_11; omega); (rw [h9]; have z9 := hW_u_14; omega), fun z => absurd z (by decide)⟩)
          · skip
            have el_0 : (0 : Int32).toInt = 0 := rfl
            rw [i_eq] at c_16
            have k0c_16 : ((u_14.2.1 0)).toInt = 1 := by omega
            refine j_iconst (pc := 165) (v := 1) C dX8_isName_165 (by decide) ?_
            refine j_goto (pc := 166) (tgt := 170) C dX8_isName_166 (by decide) ?_
            have el_1 : (1 : Int32).toInt = 1 := rfl
            exact j_lv [0, 1, 2] rfl (join_3 (1) (by omega) (NJ.yes 16 (by omega) (by have z9 := hW_u_14; omega) (by decide)))
    refine j_aload_n (pc := 60) C dX8_isName_60 rfl 1 rfl ?_
    refine j_ldcS (pc := 61) (i := 32) C (by decide) rfl dX8_isName_61 ?_
    refine j_callV (pc := 63) (As := [.ref (D.2.1 32)]) (rest := []) (wr := []) C (c_X8_isWord_f l D cyC cyI cyJ cyZ cyO t0 t1 32 t_length t_next t_kind t_place t_number t_text h_t_length h_t_next h_t_kind h_t_place h_t_text (by decide) ⟨by decide, by decide, by decide⟩ hTH) wd_288 wd_258 wd_289 wd_290 wd_291 ⟨by decide, by decide, rfl⟩ rfl ⟨rfl, rfl, by decide, by decide⟩ ⟨by decide, by decide⟩ [0, 1] [] rfl rfl ⟨by decide, by decide, by decide⟩ 0 rfl rfl rfl (Nat.le_of_ble_eq_true rfl) dX8_isName_63 (fun u_17 hw_18 => ?_)
    refine j_eq (ws2 := [(t0, .inr (8, [.ref t1, .int t_length, .int t_next, .int t_kind, .int t_place, .int t_number])), (t1, .inl (cyC, 1000, .inl t_text))]) (pc2 := 66) (lv2 := [(1, .int xj1), (0, .ref t0)]) (st2 := [.int (u_17.2.1 0)]) rfl rfl rfl rfl ?_
    obtain ⟨hw_18_0, hw_18_1⟩ := hw_18
    have hW_u_17 : (u_17.2.1 0).toInt = wI (TKS t_text (t_length).toInt.toNat) (t_place).toInt.toNat (WN 6) := by rw [← wnE_32]; exact hw_18_1
    refine j_if_ne (pc := 66) (tgt := 132) C dX8_isName_66 (by decide) (fun c_19 => ?_) (fun c_19 => ?_)
    · skip
      have el_0 : (0 : Int32).toInt = 0 := rfl
      rw [i_eq] at c_19
      have k0c_19 : ((u_17.2.1 0)).toInt = 1 := by omega
      refine j_iconst (pc := 132) (v := 1) C dX8_isName_132 (by decide) ?_
      refine j_goto (pc := 133) (tgt := 137) C dX8_isName_133 (by decide) ?_
      have el_1 : (1 : Int32).toInt = 1 := rfl
      exact j_lv [0, 1] rfl (join_2 (1) (by omega) (NJ.yes 6 (by omega) (by have z9 := hW_u_17; omega) (by decide)))
    · skip
      have el_0 : (0 : Int32).toInt = 0 := rfl
      rw [i_eq] at c_19
      refine j_aload_n (pc := 69) C dX8_isName_69 rfl 1 rfl ?_
      refine j_ldcS (pc := 70) (i := 33) C (by decide) rfl dX8_isName_70 ?_
      refine j_callV (pc := 72) (As := [.ref (D.2.1 33)]) (rest := []) (wr := []) C (c_X8_isWord_f l D cyC cyI cyJ cyZ cyO t0 t1 33 t_length t_next t_kind t_place t_number t_text h_t_length h_t_next h_t_kind h_t_place h_t_text (by decide) ⟨by decide, by decide, by decide⟩ hTH) wd_288 wd_258 wd_289 wd_290 wd_291 ⟨by decide, by decide, rfl⟩ rfl ⟨rfl, rfl, by decide, by decide⟩ ⟨by decide, by decide⟩ [0, 1] [] rfl rfl ⟨by decide, by decide, by decide⟩ 0 rfl rfl rfl (Nat.le_of_ble_eq_true rfl) dX8_isName_72 (fun u_20 hw_21 => ?_)
      refine j_eq (ws2 := [(t0, .inr (8, [.ref t1, .int t_length, .int t_next, .int t_kind, .int t_place, .int t_number])), (t1, .inl (cyC, 1000, .inl t_text))]) (pc2 := 75) (lv2 := [(1, .int xj1), (0, .ref t0)]) (st2 := [.int (u_20.2.1 0)]) rfl rfl rfl rfl ?_
      obtain ⟨hw_21_0, hw_21_1⟩ := hw_21
      have hW_u_20 : (u_20.2.1 0).toInt = wI (TKS t_text (t_length).toInt.toNat) (t_place).toInt.toNat (WN 7) := by rw [← wnE_33]; exact hw_21_1
      refine j_if_ne (pc := 75) (tgt := 132) C dX8_isName_75 (by decide) (fun c_22 => ?_) (fun c_22 => ?_)
      · skip
        have el_0 : (0 : Int32).toInt = 0 := rfl
        rw [i_eq] at c_22
        have k0c_22 : ((u_20.2.1 0)).toInt = 1 := by omega
        refine j_iconst (pc := 132) (v := 1) C dX8_isName_132 (by decide) ?_
        refine j_goto (pc := 133) (tgt := 137) C dX8_isName_133 (by decide) ?_
        have el_1 : (1 : Int32).toInt = 1 := rfl
        exact j_lv [0, 1] rfl (join_2 (1) (by omega) (NJ.yes 7 (by omega) (by have z9 := hW_u_20; omega) (by decide)))
      · skip
        have el_0 : (0 : Int32).toInt = 0 := rfl
        rw [i_eq] at c_22
        refine j_aload_n (pc := 78) C dX8_isName_78 rfl 1 rfl ?_
        refine j_ldcS (pc := 79) (i := 34) C (by decide) rfl dX8_isName_79 ?_
        refine j_callV (pc := 81) (As := [.ref (D.2.1 34)]) (rest := []) (wr := []) C (c_X8_isWord_f l D cyC cyI cyJ cyZ cyO t0 t1 34 t_length t_next t_kind t_place t_number t_text h_t_length h_t_next h_t_kind h_t_place h_t_text (by decide) ⟨by decide, by decide, by decide⟩ hTH) wd_288 wd_258 wd_289 wd_290 wd_291 ⟨by decide, by decide, rfl⟩ rfl ⟨rfl, rfl, by decide, by decide⟩ ⟨by decide, by decide⟩ [0, 1] [] rfl rfl ⟨by decide, by decide, by decide⟩ 0 rfl rfl rfl (Nat.le_of_ble_eq_true rfl) dX8_isName_81 (fun u_23 hw_24 => ?_)
        refine j_eq (ws2 := [(t0, .inr (8, [.ref t1, .int t_length, .int t_next, .int t_kind, .int t_place, .int t_number])), (t1, .inl (cyC, 1000, .inl t_text))]) (pc2 := 84) (lv2 := [(1, .int xj1), (0, .ref t0)]) (st2 := [.int (u_23.2.1 0)]) rfl rfl rfl rfl ?_
        obtain ⟨hw_24_0, hw_24_1⟩ := hw_24
        have hW_u_23 : (u_23.2.1 0).toInt = wI (TKS t_text (t_length).toInt.toNat) (t_place).toInt.toNat (WN 8) := by rw [← wnE_34]; exact hw_24_1
        refine j_if_ne (pc := 84) (tgt := 132) C dX8_isName_84 (by decide) (fun c_25 => ?_) (fun c_25 => ?_)
        · skip
          have el_0 : (0 : Int32).toInt = 0 := rfl
          rw [i_eq] at c_25
          have k0c_25 : ((u_23.2.1 0)).toInt = 1 := by omega
          refine j_iconst (pc := 132) (v := 1) C dX8_isName_132 (by decide) ?_
          refine j_goto (pc := 133) (tgt := 137) C dX8_isName_133 (by decide) ?_
          have el_1 : (1 : Int32).toInt = 1 := rfl
          exact j_lv [0, 1] rfl (join_2 (1) (by omega) (NJ.yes 8 (by omega) (by have z9 := hW_u_23; omega) (by decide)))
        · skip
          have el_0 : (0 : Int32).toInt = 0 := rfl
          rw [i_eq] at c_25
          refine j_aload_n (pc := 87) C dX8_isName_87 rfl 1 rfl ?_
          refine j_ldcS (pc := 88) (i := 35) C (by decide) rfl dX8_isName_88 ?_
          refine j_callV (pc := 90) (As := [.ref (D.2.1 35)]) (rest := []) (wr := []) C (c_X8_isWord_f l D cyC cyI cyJ cyZ cyO t0 t1 35 t_length t_next t_kind t_place t_number t_text h_t_length h_t_next h_t_kind h_t_place h_t_text (by decide) ⟨by decide, by decide, by decide⟩ hTH) wd_288 wd_258 wd_289 wd_290 wd_291 ⟨by decide, by decide, rfl⟩ rfl ⟨rfl, rfl, by decide, by decide⟩ ⟨by decide, by decide⟩ [0, 1] [] rfl rfl ⟨by decide, by decide, by decide⟩ 0 rfl rfl rfl (Nat.le_of_ble_eq_true rfl) dX8_isName_90 (fun u_26 hw_27 => ?_)
          refine j_eq (ws2 := [(t0, .inr (8, [.ref t1, .int t_length, .int t_next, .int t_kind, .int t_place, .int t_number])), (t1, .inl (cyC, 1000, .inl t_text))]) (pc2 := 93) (lv2 := [(1, .int xj1), (0, .ref t0)]) (st2 := [.int (u_26.2.1 0)]) rfl rfl rfl rfl ?_
          obtain ⟨hw_27_0, hw_27_1⟩ := hw_27
          have hW_u_26 : (u_26.2.1 0).toInt = wI (TKS t_text (t_length).toInt.toNat) (t_place).toInt.toNat (WN 9) := by rw [← wnE_35]; exact hw_27_1
          refine j_if_ne (pc := 93) (tgt := 132) C dX8_isName_93 (by decide) (fun c_28 => ?_) (fun c_28 => ?_)
          · skip
            have el_0 : (0 : Int32).toInt = 0 := rfl
            rw [i_eq] at c_28
            have k0c_28 : ((u_26.2.1 0)).toInt = 1 := by omega
            refine j_iconst (pc := 132) (v := 1) C dX8_isName_132 (by decide) ?_
            refine j_goto (pc := 133) (tgt := 137) C dX8_isName_133 (by decide) ?_
            have el_1 : (1 : Int32).toInt = 1 := rfl
            exact j_lv [0, 1] rfl (join_2 (1) (by omega) (NJ.yes 9 (by omega) (by have z9 := hW_u_26; omega) (by decide)))
          · skip
            have el_0 : (0 : Int32).toInt = 0 := rfl
            rw [i_eq] at c_28
            refine j_aload_n (pc := 96) C dX8_isName_96 rfl 1 rfl ?_
            refine j_ldcS (pc := 97) (i := 36) C (by decide) rfl dX8_isName_97 ?_
            refine j_callV (pc := 99) (As := [.ref (D.2.1 36)]) (rest := []) (wr := []) C (c_X8_isWord_f l D cyC cyI cyJ cyZ cyO t0 t1 36 t_length t_next t_kind t_place t_number t_text h_t_length h_t_next h_t_kind h_t_place h_t_text (by decide) ⟨by decide, by decide, by decide⟩ hTH) wd_288 wd_258 wd_289 wd_290 wd_291 ⟨by decide, by decide, rfl⟩ rfl ⟨rfl, rfl, by decide, by decide⟩ ⟨by decide, by decide⟩ [0, 1] [] rfl rfl ⟨by decide, by decide, by decide⟩ 0 rfl rfl rfl (Nat.le_of_ble_eq_true rfl) dX8_isName_99 (fun u_29 hw_30 => ?_)
            refine j_eq (ws2 := [(t0, .inr (8, [.ref t1, .int t_length, .int t_next, .int t_kind, .int t_place, .int t_number])), (t1, .inl (cyC, 1000, .inl t_text))]) (pc2 := 102) (lv2 := [(1, .int xj1), (0, .ref t0)]) (st2 := [.int (u_29.2.1 0)]) rfl rfl rfl rfl ?_
            obtain ⟨hw_30_0, hw_30_1⟩ := hw_30
            have hW_u_29 : (u_29.2.1 0).toInt = wI (TKS t_text (t_length).toInt.toNat) (t_place).toInt.toNat (WN 10) := by rw [← wnE_36]; exact hw_30_1
            refine j_if_ne (pc := 102) (tgt := 132) C dX8_isName_102 (by decide) (fun c_31 => ?_) (fun c_31 => ?_)
            · skip
              have el_0 : (0 : Int32).toInt = 0 := rfl
              rw [i_eq] at c_31
              have k0c_31 : ((u_29.2.1 0)).toInt = 1 := by omega
              refine j_iconst (pc := 132) (v := 1) C dX8_isName_132 (by decide) ?_
              refine j_goto (pc := 133) (tgt := 137) C dX8_isName_133 (by decide) ?_
              have el_1 : (1 : Int32).toInt = 1 := rfl
              exact j_lv [0, 1] rfl (join_2 (1) (by omega) (NJ.yes 10 (by omega) (by have z9 := hW_u_29; omega) (by decide)))
            · skip
              have el_0 : (0 : Int32).toInt = 0 := rfl
              rw [i_eq] at c_31
              refine j_aload_n (pc := 105) C dX8_isName_105 rfl 1 rfl ?_
              refine j_ldcS (pc := 106) (i := 37) C (by decide) rfl dX8_isName_106 ?_
              refine j_callV (pc := 108) (As := [.ref (D.2.1 37)]) (rest := []) (wr := []) C (c_X8_isWord_f l D cyC cyI cyJ cyZ cyO t0 t1 37 t_length t_next t_kind t_place t_number t_text h_t_length h_t_next h_t_kind h_t_place h_t_text (by decide) ⟨by decide, by decide, by decide⟩ hTH) wd_288 wd_258 wd_289 wd_290 wd_291 ⟨by decide, by decide, rfl⟩ rfl ⟨rfl, rfl, by decide, by decide⟩ ⟨by decide, by decide⟩ [0, 1] [] rfl rfl ⟨by decide, by decide, by decide⟩ 0 rfl rfl rfl (Nat.le_of_ble_eq_true rfl) dX8_isName_108 (fun u_32 hw_33 => ?_)
              refine j_eq (ws2 := [(t0, .inr (8, [.ref t1, .int t_length, .int t_next, .int t_kind, .int t_place, .int t_number])), (t1, .inl (cyC, 1000, .inl t_text))]) (pc2 := 111) (lv2 := [(1, .int xj1), (0, .ref t0)]) (st2 := [.int (u_32.2.1 0)]) rfl rfl rfl rfl ?_
              obtain ⟨hw_33_0, hw_33_1⟩ := hw_33
              have hW_u_32 : (u_32.2.1 0).toInt = wI (TKS t_text (t_length).toInt.toNat) (t_place).toInt.toNat (WN 11) := by rw [← wnE_37]; exact hw_33_1
              refine j_if_ne (pc := 111) (tgt := 132) C dX8_isName_111 (by decide) (fun c_34 => ?_) (fun c_34 => ?_)
              · skip
                have el_0 : (0 : Int32).toInt = 0 := rfl
                rw [i_eq] at c_34
                have k0c_34 : ((u_32.2.1 0)).toInt = 1 := by omega
                refine j_iconst (pc := 132) (v := 1) C dX8_isName_132 (by decide) ?_
                refine j_goto (pc := 133) (tgt := 137) C dX8_isName_133 (by decide) ?_
                have el_1 : (1 : Int32).toInt = 1 := rfl
                exact j_lv [0, 1] rfl (join_2 (1) (by omega) (NJ.yes 11 (by omega) (by have z9 := hW_u_32; omega) (by decide)))
              · skip
                have el_0 : (0 : Int32).toInt = 0 := rfl
                rw [i_eq] at c_34
                refine j_aload_n (pc := 114) C dX8_isName_114 rfl 1 rfl ?_
                refine j_ldcS (pc := 115) (i := 38) C (by decide) rfl dX8_isName_115 ?_
                refine j_callV (pc := 117) (As := [.ref (D.2.1 38)]) (rest := []) (wr := []) C (c_X8_isWord_f l D cyC cyI cyJ cyZ cyO t0 t1 38 t_length t_next t_kind t_place t_number t_text h_t_length h_t_next h_t_kind h_t_place h_t_text (by decide) ⟨by decide, by decide, by decide⟩ hTH) wd_288 wd_258 wd_289 wd_290 wd_291 ⟨by decide, by decide, rfl⟩ rfl ⟨rfl, rfl, by decide, by decide⟩ ⟨by decide, by decide⟩ [0, 1] [] rfl rfl ⟨by decide, by decide, by decide⟩ 0 rfl rfl rfl (Nat.le_of_ble_eq_true rfl) dX8_isName_117 (fun u_35 hw_36 => ?_)
                refine j_eq (ws2 := [(t0, .inr (8, [.ref t1, .int t_length, .int t_next, .int t_kind, .int t_place, .int t_number])), (t1, .inl (cyC, 1000, .inl t_text))]) (pc2 := 120) (lv2 := [(1, .int xj1), (0, .ref t0)]) (st2 := [.int (u_35.2.1 0)]) rfl rfl rfl rfl ?_
                obtain ⟨hw_36_0, hw_36_1⟩ := hw_36
                have hW_u_35 : (u_35.2.1 0).toInt = wI (TKS t_text (t_length).toInt.toNat) (t_place).toInt.toNat (WN 12) := by rw [← wnE_38]; exact hw_36_1
                refine j_if_ne (pc := 120) (tgt := 132) C dX8_isName_120 (by decide) (fun c_37 => ?_) (fun c_37 => ?_)
                · skip
                  have el_0 : (0 : Int32).toInt = 0 := rfl
                  rw [i_eq] at c_37
                  have k0c_37 : ((u_35.2.1 0)).toInt = 1 := by omega
                  refine j_iconst (pc := 132) (v := 1) C dX8_isName_132 (by decide) ?_
                  refine j_goto (pc := 133) (tgt := 137) C dX8_isName_133 (by decide) ?_
                  have el_1 : (1 : Int32).toInt = 1 := rfl
                  exact j_lv [0, 1] rfl (join_2 (1) (by omega) (NJ.yes 12 (by omega) (by have z9 := hW_u_35; omega) (by decide)))
                · skip
                  have el_0 : (0 : Int32).toInt = 0 := rfl
                  rw [i_eq] at c_37
                  refine j_aload_n (pc := 123) C dX8_isName_123 rfl 1 rfl ?_
                  refine j_ldcS (pc := 124) (i := 39) C (by decide) rfl dX8_isName_124 ?_
                  refine j_callV (pc := 126) (As := [.ref (D.2.1 39)]) (rest := []) (wr := []) C (c_X8_isWord_f l D cyC cyI cyJ cyZ cyO t0 t1 39 t_length t_next t_kind t_place t_number t_text h_t_length h_t_next h_t_kind h_t_place h_t_text (by decide) ⟨by decide, by decide, by decide⟩ hTH) wd_288 wd_258 wd_289 wd_290 wd_291 ⟨by decide, by decide, rfl⟩ rfl ⟨rfl, rfl, by decide, by decide⟩ ⟨by decide, by decide⟩ [0, 1] [] rfl rfl ⟨by decide, by decide, by decide⟩ 0 rfl rfl rfl (Nat.le_of_ble_eq_true rfl) dX8_isName_126 (fun u_38 hw_39 => ?_)
                  refine j_eq (ws2 := [(t0, .inr (8, [.ref t1, .int t_length, .int t_next, .int t_kind, .int t_place, .int t_number])), (t1, .inl (cyC, 1000, .inl t_text))]) (pc2 := 129) (lv2 := [(1, .int xj1), (0, .ref t0)]) (st2 := [.int (u_38.2.1 0)]) rfl rfl rfl rfl ?_
                  obtain ⟨hw_39_0, hw_39_1⟩ := hw_39
                  have hW_u_38 : (u_38.2.1 0).toInt = wI (TKS t_text (t_length).toInt.toNat) (t_place).toInt.toNat (WN 13) := by rw [← wnE_39]; exact hw_39_1
                  refine j_if_eq (pc := 129) (tgt := 136) C dX8_isName_129 (by decide) (fun c_40 => ?_) (fun c_40 => ?_)
                  · skip
                    have el_0 : (0 : Int32).toInt = 0 := rfl
                    rw [i_eq] at c_40
                    refine j_iconst (pc := 136) (v := 0) C dX8_isName_136 (by decide) ?_
                    have el_0 : (0 : Int32).toInt = 0 := rfl
                    exact j_lv [0, 1] rfl (join_2 (0) (by omega) ⟨fun _ k h1 h2 => by rcases (by omega : k = 6 ∨ k = 7 ∨ k = 8 ∨ k = 9 ∨ k = 10 ∨ k = 11 ∨ k = 12 ∨ k = 13) with h9 | h9 | h9 | h9 | h9 | h9 | h9 | h9; (rw [h9]; have z9 := hW_u_17; omega); (rw [h9]; have z9 := hW_u_20; omega); (rw [h9]; have z9 := hW_u_23; omega); (rw [h9]; have z9 := hW_u_26; omega); (rw [h9]; have z9 := hW_u_29; omega); (rw [h9]; have z9 := hW_u_32; omega); (rw [h9]; have z9 := hW_u_35; omega); (rw [h9]; have z9 := hW_u_38; omega), fun z => absurd z (by decide)⟩)
                  · skip
                    have el_0 : (0 : Int32).toInt = 0 := rfl
                    rw [i_eq] at c_40
                    have k0c_40 : ((u_38.2.1 0)).toInt = 1 := by omega
                    refine j_iconst (pc := 132) (v := 1) C dX8_isName_132 (by decide) ?_
                    refine j_goto (pc := 133) (tgt := 137) C dX8_isName_133 (by decide) ?_
                    have el_1 : (1 : Int32).toInt = 1 := rfl
                    exact j_lv [0, 1] rfl (join_2 (1) (by omega) (NJ.yes 13 (by omega) (by have z9 := hW_u_38; omega) (by decide)))
  refine j_aload_n (pc := 0) C dX8_isName_0 rfl 0 rfl ?_
  refine j_ldcS (pc := 1) (i := 26) C (by decide) rfl dX8_isName_1 ?_
  refine j_callV (pc := 3) (As := [.ref (D.2.1 26)]) (rest := []) (wr := []) C (c_X8_isWord_f l D cyC cyI cyJ cyZ cyO t0 t1 26 t_length t_next t_kind t_place t_number t_text h_t_length h_t_next h_t_kind h_t_place h_t_text (by decide) ⟨by decide, by decide, by decide⟩ hTH) wd_288 wd_258 wd_289 wd_290 wd_291 ⟨by decide, by decide, rfl⟩ rfl ⟨rfl, rfl, by decide, by decide⟩ ⟨by decide, by decide⟩ [0, 1] [] rfl rfl ⟨by decide, by decide, by decide⟩ 0 rfl rfl rfl (Nat.le_of_ble_eq_true rfl) dX8_isName_3 (fun u_41 hw_42 => ?_)
  refine j_eq (ws2 := [(t0, .inr (8, [.ref t1, .int t_length, .int t_next, .int t_kind, .int t_place, .int t_number])), (t1, .inl (cyC, 1000, .inl t_text))]) (pc2 := 6) (lv2 := [(0, .ref t0)]) (st2 := [.int (u_41.2.1 0)]) rfl rfl rfl rfl ?_
  obtain ⟨hw_42_0, hw_42_1⟩ := hw_42
  have hW_u_41 : (u_41.2.1 0).toInt = wI (TKS t_text (t_length).toInt.toNat) (t_place).toInt.toNat (WN 0) := by rw [← wnE_26]; exact hw_42_1
  refine j_if_ne (pc := 6) (tgt := 54) C dX8_isName_6 (by decide) (fun c_43 => ?_) (fun c_43 => ?_)
  · skip
    have el_0 : (0 : Int32).toInt = 0 := rfl
    rw [i_eq] at c_43
    have k0c_43 : ((u_41.2.1 0)).toInt = 1 := by omega
    refine j_iconst (pc := 54) (v := 1) C dX8_isName_54 (by decide) ?_
    refine j_goto (pc := 55) (tgt := 59) C dX8_isName_55 (by decide) ?_
    have el_1 : (1 : Int32).toInt = 1 := rfl
    exact j_lv [0] rfl (join_1 (1) (by omega) (NJ.yes 0 (by omega) (by have z9 := hW_u_41; omega) (by decide)))
  · skip
    have el_0 : (0 : Int32).toInt = 0 := rfl
    rw [i_eq] at c_43
    refine j_aload_n (pc := 9) C dX8_isName_9 rfl 0 rfl ?_
    refine j_ldcS (pc := 10) (i := 27) C (by decide) rfl dX8_isName_10 ?_
    refine j_callV (pc := 12) (As := [.ref (D.2.1 27)]) (rest := []) (wr := []) C (c_X8_isWord_f l D cyC cyI cyJ cyZ cyO t0 t1 27 t_length t_next t_kind t_place t_number t_text h_t_length h_t_next h_t_kind h_t_place h_t_text (by decide) ⟨by decide, by decide, by decide⟩ hTH) wd_288 wd_258 wd_289 wd_290 wd_291 ⟨by decide, by decide, rfl⟩ rfl ⟨rfl, rfl, by decide, by decide⟩ ⟨by decide, by decide⟩ [0, 1] [] rfl rfl ⟨by decide, by decide, by decide⟩ 0 rfl rfl rfl (Nat.le_of_ble_eq_true rfl) dX8_isName_12 (fun u_44 hw_45 => ?_)
    refine j_eq (ws2 := [(t0, .inr (8, [.ref t1, .int t_length, .int t_next, .int t_kind, .int t_place, .int t_number])), (t1, .inl (cyC, 1000, .inl t_text))]) (pc2 := 15) (lv2 := [(0, .ref t0)]) (st2 := [.int (u_44.2.1 0)]) rfl rfl rfl rfl ?_
    obtain ⟨hw_45_0, hw_45_1⟩ := hw_45
    have hW_u_44 : (u_44.2.1 0).toInt = wI (TKS t_text (t_length).toInt.toNat) (t_place).toInt.toNat (WN 1) := by rw [← wnE_27]; exact hw_45_1
    refine j_if_ne (pc := 15) (tgt := 54) C dX8_isName_15 (by decide) (fun c_46 => ?_) (fun c_46 => ?_)
    · skip
      have el_0 : (0 : Int32).toInt = 0 := rfl
      rw [i_eq] at c_46
      have k0c_46 : ((u_44.2.1 0)).toInt = 1 := by omega
      refine j_iconst (pc := 54) (v := 1) C dX8_isName_54 (by decide) ?_
      refine j_goto (pc := 55) (tgt := 59) C dX8_isName_55 (by decide) ?_
      have el_1 : (1 : Int32).toInt = 1 := rfl
      exact j_lv [0] rfl (join_1 (1) (by omega) (NJ.yes 1 (by omega) (by have z9 := hW_u_44; omega) (by decide)))
    · skip
      have el_0 : (0 : Int32).toInt = 0 := rfl
      rw [i_eq] at c_46
      refine j_aload_n (pc := 18) C dX8_isName_18 rfl 0 rfl ?_
      refine j_ldcS (pc := 19) (i := 28) C (by decide) rfl dX8_isName_19 ?_
      refine j_callV (pc := 21) (As := [.ref (D.2.1 28)]) (rest := []) (wr := []) C (c_X8_isWord_f l D cyC cyI cyJ cyZ cyO t0 t1 28 t_length t_next t_kind t_place t_number t_text h_t_length h_t_next h_t_kind h_t_place h_t_text (by decide) ⟨by decide, by decide, by decide⟩ hTH) wd_288 wd_258 wd_289 wd_290 wd_291 ⟨by decide, by decide, rfl⟩ rfl ⟨rfl, rfl, by decide, by decide⟩ ⟨by decide, by decide⟩ [0, 1] [] rfl rfl ⟨by decide, by decide, by decide⟩ 0 rfl rfl rfl (Nat.le_of_ble_eq_true rfl) dX8_isName_21 (fun u_47 hw_48 => ?_)
      refine j_eq (ws2 := [(t0, .inr (8, [.ref t1, .int t_length, .int t_next, .int t_kind, .int t_place, .int t_number])), (t1, .inl (cyC, 1000, .inl t_text))]) (pc2 := 24) (lv2 := [(0, .ref t0)]) (st2 := [.int (u_47.2.1 0)]) rfl rfl rfl rfl ?_
      obtain ⟨hw_48_0, hw_48_1⟩ := hw_48
      have hW_u_47 : (u_47.2.1 0).toInt = wI (TKS t_text (t_length).toInt.toNat) (t_place).toInt.toNat (WN 2) := by rw [← wnE_28]; exact hw_48_1
      refine j_if_ne (pc := 24) (tgt := 54) C dX8_isName_24 (by decide) (fun c_49 => ?_) (fun c_49 => ?_)
      · skip
        have el_0 : (0 : Int32).toInt = 0 := rfl
        rw [i_eq] at c_49
        have k0c_49 : ((u_47.2.1 0)).toInt = 1 := by omega
        refine j_iconst (pc := 54) (v := 1) C dX8_isName_54 (by decide) ?_
        refine j_goto (pc := 55) (tgt := 59) C dX8_isName_55 (by decide) ?_
        have el_1 : (1 : Int32).toInt = 1 := rfl
        exact j_lv [0] rfl (join_1 (1) (by omega) (NJ.yes 2 (by omega) (by have z9 := hW_u_47; omega) (by decide)))
      · skip
        have el_0 : (0 : Int32).toInt = 0 := rfl
        rw [i_eq] at c_49
        refine j_aload_n (pc := 27) C dX8_isName_27 rfl 0 rfl ?_
        refine j_ldcS (pc := 28) (i := 29) C (by decide) rfl dX8_isName_28 ?_
        refine j_callV (pc := 30) (As := [.ref (D.2.1 29)]) (rest := []) (wr := []) C (c_X8_isWord_f l D cyC cyI cyJ cyZ cyO t0 t1 29 t_length t_next t_kind t_place t_number t_text h_t_length h_t_next h_t_kind h_t_place h_t_text (by decide) ⟨by decide, by decide, by decide⟩ hTH) wd_288 wd_258 wd_289 wd_290 wd_291 ⟨by decide, by decide, rfl⟩ rfl ⟨rfl, rfl, by decide, by decide⟩ ⟨by decide, by decide⟩ [0, 1] [] rfl rfl ⟨by decide, by decide, by decide⟩ 0 rfl rfl rfl (Nat.le_of_ble_eq_true rfl) dX8_isName_30 (fun u_50 hw_51 => ?_)
        refine j_eq (ws2 := [(t0, .inr (8, [.ref t1, .int t_length, .int t_next, .int t_kind, .int t_place, .int t_number])), (t1, .inl (cyC, 1000, .inl t_text))]) (pc2 := 33) (lv2 := [(0, .ref t0)]) (st2 := [.int (u_50.2.1 0)]) rfl rfl rfl rfl ?_
        obtain ⟨hw_51_0, hw_51_1⟩ := hw_51
        have hW_u_50 : (u_50.2.1 0).toInt = wI (TKS t_text (t_length).toInt.toNat) (t_place).toInt.toNat (WN 3) := by rw [← wnE_29]; exact hw_51_1
        refine j_if_ne (pc := 33) (tgt := 54) C dX8_isName_33 (by decide) (fun c_52 => ?_) (fun c_52 => ?_)
        · skip
          have el_0 : (0 : Int32).toInt = 0 := rfl
          rw [i_eq] at c_52
          have k0c_52 : ((u_50.2.1 0)).toInt = 1 := by omega
          refine j_iconst (pc := 54) (v := 1) C dX8_isName_54 (by decide) ?_
          refine j_goto (pc := 55) (tgt := 59) C dX8_isName_55 (by decide) ?_
          have el_1 : (1 : Int32).toInt = 1 := rfl
          exact j_lv [0] rfl (join_1 (1) (by omega) (NJ.yes 3 (by omega) (by have z9 := hW_u_50; omega) (by decide)))
        · skip
          have el_0 : (0 : Int32).toInt = 0 := rfl
          rw [i_eq] at c_52
          refine j_aload_n (pc := 36) C dX8_isName_36 rfl 0 rfl ?_
          refine j_ldcS (pc := 37) (i := 30) C (by decide) rfl dX8_isName_37 ?_
          refine j_callV (pc := 39) (As := [.ref (D.2.1 30)]) (rest := []) (wr := []) C (c_X8_isWord_f l D cyC cyI cyJ cyZ cyO t0 t1 30 t_length t_next t_kind t_place t_number t_text h_t_length h_t_next h_t_kind h_t_place h_t_text (by decide) ⟨by decide, by decide, by decide⟩ hTH) wd_288 wd_258 wd_289 wd_290 wd_291 ⟨by decide, by decide, rfl⟩ rfl ⟨rfl, rfl, by decide, by decide⟩ ⟨by decide, by decide⟩ [0, 1] [] rfl rfl ⟨by decide, by decide, by decide⟩ 0 rfl rfl rfl (Nat.le_of_ble_eq_true rfl) dX8_isName_39 (fun u_53 hw_54 => ?_)
          refine j_eq (ws2 := [(t0, .inr (8, [.ref t1, .int t_length, .int t_next, .int t_kind, .int t_place, .int t_number])), (t1, .inl (cyC, 1000, .inl t_text))]) (pc2 := 42) (lv2 := [(0, .ref t0)]) (st2 := [.int (u_53.2.1 0)]) rfl rfl rfl rfl ?_
          obtain ⟨hw_54_0, hw_54_1⟩ := hw_54
          have hW_u_53 : (u_53.2.1 0).toInt = wI (TKS t_text (t_length).toInt.toNat) (t_place).toInt.toNat (WN 4) := by rw [← wnE_30]; exact hw_54_1
          refine j_if_ne (pc := 42) (tgt := 54) C dX8_isName_42 (by decide) (fun c_55 => ?_) (fun c_55 => ?_)
          · skip
            have el_0 : (0 : Int32).toInt = 0 := rfl
            rw [i_eq] at c_55
            have k0c_55 : ((u_53.2.1 0)).toInt = 1 := by omega
            refine j_iconst (pc := 54) (v := 1) C dX8_isName_54 (by decide) ?_
            refine j_goto (pc := 55) (tgt := 59) C dX8_isName_55 (by decide) ?_
            have el_1 : (1 : Int32).toInt = 1 := rfl
            exact j_lv [0] rfl (join_1 (1) (by omega) (NJ.yes 4 (by omega) (by have z9 := hW_u_53; omega) (by decide)))
          · skip
            have el_0 : (0 : Int32).toInt = 0 := rfl
            rw [i_eq] at c_55
            refine j_aload_n (pc := 45) C dX8_isName_45 rfl 0 rfl ?_
            refine j_ldcS (pc := 46) (i := 31) C (by decide) rfl dX8_isName_46 ?_
            refine j_callV (pc := 48) (As := [.ref (D.2.1 31)]) (rest := []) (wr := []) C (c_X8_isWord_f l D cyC cyI cyJ cyZ cyO t0 t1 31 t_length t_next t_kind t_place t_number t_text h_t_length h_t_next h_t_kind h_t_place h_t_text (by decide) ⟨by decide, by decide, by decide⟩ hTH) wd_288 wd_258 wd_289 wd_290 wd_291 ⟨by decide, by decide, rfl⟩ rfl ⟨rfl, rfl, by decide, by decide⟩ ⟨by decide, by decide⟩ [0, 1] [] rfl rfl ⟨by decide, by decide, by decide⟩ 0 rfl rfl rfl (Nat.le_of_ble_eq_true rfl) dX8_isName_48 (fun u_56 hw_57 => ?_)
            refine j_eq (ws2 := [(t0, .inr (8, [.ref t1, .int t_length, .int t_next, .int t_kind, .int t_place, .int t_number])), (t1, .inl (cyC, 1000, .inl t_text))]) (pc2 := 51) (lv2 := [(0, .ref t0)]) (st2 := [.int (u_56.2.1 0)]) rfl rfl rfl rfl ?_
            obtain ⟨hw_57_0, hw_57_1⟩ := hw_57
            have hW_u_56 : (u_56.2.1 0).toInt = wI (TKS t_text (t_length).toInt.toNat) (t_place).toInt.toNat (WN 5) := by rw [← wnE_31]; exact hw_57_1
            refine j_if_eq (pc := 51) (tgt := 58) C dX8_isName_51 (by decide) (fun c_58 => ?_) (fun c_58 => ?_)
            · skip
              have el_0 : (0 : Int32).toInt = 0 := rfl
              rw [i_eq] at c_58
              refine j_iconst (pc := 58) (v := 0) C dX8_isName_58 (by decide) ?_
              have el_0 : (0 : Int32).toInt = 0 := rfl
              exact j_lv [0] rfl (join_1 (0) (by omega) ⟨fun _ k h1 h2 => by rcases (by omega : k = 0 ∨ k = 1 ∨ k = 2 ∨ k = 3 ∨ k = 4 ∨ k = 5) with h9 | h9 | h9 | h9 | h9 | h9; (rw [h9]; have z9 := hW_u_41; omega); (rw [h9]; have z9 := hW_u_44; omega); (rw [h9]; have z9 := hW_u_47; omega); (rw [h9]; have z9 := hW_u_50; omega); (rw [h9]; have z9 := hW_u_53; omega); (rw [h9]; have z9 := hW_u_56; omega), fun z => absurd z (by decide)⟩)
            · skip
              have el_0 : (0 : Int32).toInt = 0 := rfl
              rw [i_eq] at c_58
              have k0c_58 : ((u_56.2.1 0)).toInt = 1 := by omega
              refine j_iconst (pc := 54) (v := 1) C dX8_isName_54 (by decide) ?_
              refine j_goto (pc := 55) (tgt := 59) C dX8_isName_55 (by decide) ?_
              have el_1 : (1 : Int32).toInt = 1 := rfl
              exact j_lv [0] rfl (join_1 (1) (by omega) (NJ.yes 5 (by omega) (by have z9 := hW_u_56; omega) (by decide)))
