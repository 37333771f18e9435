def hasB (i : Nat) (n : Int) (c : Int32) : Prop := ∃ j : Nat, (j : Int) < n ∧ (sB i j).toInt = c.toInt
theorem i2b_all : ∀ n, n < 128 → (nI n).toInt8.toInt32 = nI n := by decide +kernel
theorem i2b_id {x : Int32} (h0 : 0 ≤ x.toInt) (h1 : x.toInt ≤ 127) : x.toInt8.toInt32 = x := by
  obtain ⟨n, e, hn, _⟩ := nI_ofI h0
  rw [e]; exact i2b_all n (by omega)
theorem isS_lit : ∀ c, c < 128 → (isS (nI c) = true ↔ ∃ j : Fin 8, (sB 25 j.val).toInt = (nI c).toInt) := by decide +kernel
set_option maxHeartbeats 4000000 in
set_option maxRecDepth 100000 in
theorem c_J1_indexOfChar_f (l : Launch) (D : DG) (cyC cyI cyJ cyZ cyO : ClassId) (i : Nat) (p0 : Int32) (p1 : Int32) (p2 : Int32) (h_p0 : 0 ≤ (p0).toInt ∧ (p0).toInt ≤ 127) (h_p1 : 0 ≤ (p1).toInt ∧ (p1).toInt ≤ 0) (h_p2 : 0 ≤ (p2).toInt ∧ (p2).toInt ≤ 20) (hi_lit : i < 43) (hls : (p2).toInt ≤ ((sL i : Nat) : Int)) : KK l D (TY cyC cyI cyJ cyZ cyO) yJ1_indexOfChar_4cfef cJ1_indexOfChar_4cfef 6 (some .int) ({ frames := 0, cells := 0, slots := 0, locals := 0 } : Room) 0 0 [.ref (D.2.2.1 i), .int p0, .int p1, .int p2] [] (fun u => some (.int (u.2.1 0))) (fun u => (-1 ≤ (u.2.1 0).toInt ∧ (u.2.1 0).toInt ≤ 20) ∧ (IM ((u.2.1 0).toInt = -1) (¬ hasB i (p2).toInt p0)) ∧ (IM (0 ≤ (u.2.1 0).toInt) (hasB i (p2).toInt p0))) (fun u => []) := by
  refine KK.of (lv0 := [(0, .ref (D.2.2.1 i)), (1, .int p0), (2, .int p1), (3, .int p2)]) (by decide) rfl (Nat.le_of_ble_eq_true rfl) ?_
  intro p e s m args below meth c A C hr hk hin
  have hb9 := congrArg Int32.toInt (i2b_id (x := p0) (by omega) (by omega))
  refine j_iload_n (pc := 0) C dJ1_indexOfChar_4cfef_0 rfl 1 rfl ?_
  refine j_i2b (pc := 1) C dJ1_indexOfChar_4cfef_1 rfl ?_
  refine j_istore (pc := 2) (lv' := [(4, .int ((p0).toInt8.toInt32)), (0, .ref (D.2.2.1 i)), (1, .int p0), (2, .int p1), (3, .int p2)]) C dJ1_indexOfChar_4cfef_2 (by decide) rfl ?_
  refine j_iload_n (pc := 4) C dJ1_indexOfChar_4cfef_4 rfl 3 rfl ?_
  refine j_istore (pc := 5) (lv' := [(5, .int p1), (4, .int ((p0).toInt8.toInt32)), (0, .ref (D.2.2.1 i)), (1, .int p0), (2, .int p1), (3, .int p2)]) C dJ1_indexOfChar_4cfef_5 (by decide) rfl ?_
  have loop_1 : ∀ (k_1 : Nat) (x1_5 : Int32), (0 ≤ (x1_5).toInt ∧ (x1_5).toInt ≤ 20) → (∀ j : Nat, (j : Int) < x1_5.toInt → ¬ (sB i j).toInt = (p0).toInt) → (20 - x1_5.toInt).toNat < k_1 → J p l e ({ frames := 0, cells := 0, slots := 0, locals := 0 } : Room) s m args below meth c D A 6 0 0 (QX below D (TY cyC cyI cyJ cyZ cyO) A (fun u => some (.int (u.2.1 0))) (fun u => (-1 ≤ (u.2.1 0).toInt ∧ (u.2.1 0).toInt ≤ 20) ∧ (IM ((u.2.1 0).toInt = -1) (¬ hasB i (p2).toInt p0)) ∧ (IM (0 ≤ (u.2.1 0).toInt) (hasB i (p2).toInt p0))) (fun u => []) args s 0 0) [] 7 [(5, .int x1_5), (4, .int ((p0).toInt8.toInt32)), (0, .ref (D.2.2.1 i)), (1, .int p0), (2, .int p1), (3, .int p2)] [] := by
    intro k_1
    induction k_1 with
    | zero =>
      intro x1_5 hi_1_0 hq_1_0 hm_1
      exact absurd hm_1 (Nat.not_lt_zero _)
    | succ k_1 ih_1 =>
      intro x1_5 hi_1_0 hq_1_0 hm_1
      refine j_iload (pc := 7) C dJ1_indexOfChar_4cfef_7 0 rfl ?_
      refine j_iload_n (pc := 9) C dJ1_indexOfChar_4cfef_9 rfl 5 rfl ?_
      refine j_icmp_ge (pc := 10) (tgt := 31) C dJ1_indexOfChar_4cfef_10 (by decide) (fun c_2 => ?_) (fun c_2 => ?_)
      · skip
        rw [i_le] at c_2
        refine j_iconst (pc := 31) (v := (-1)) C dJ1_indexOfChar_4cfef_31 (by decide) ?_
        have el_m1 : ((-1) : Int32).toInt = (-1) := rfl
        have el_m1 : ((-1) : Int32).toInt = (-1) := rfl
        have el_m1 : ((-1) : Int32).toInt = (-1) := rfl
        exact j_iret (pc := 32) C hr hk (fun i => [].getD i 0, fun i => [(-1)].getD i 0, fun i => [].getD i (fun _ => 0), fun i => [].getD i (fun _ => 0)) rfl (show (-1 ≤ (((-1) : Int32)).toInt ∧ (((-1) : Int32)).toInt ≤ 20) ∧ (IM (((-1) : Int32).toInt = -1) (¬ hasB i (p2).toInt p0)) ∧ (IM (0 ≤ ((-1) : Int32).toInt) (hasB i (p2).toInt p0)) from ⟨by omega, (fun _ z => by obtain ⟨j, j1, j2⟩ := z; exact hq_1_0 j (by omega) j2), (fun h => absurd h (by decide))⟩) [] (by decide) rfl (by decide) (by decide) dJ1_indexOfChar_4cfef_32
      · skip
        rw [i_le] at c_2
        refine j_aload_n (pc := 13) C dJ1_indexOfChar_4cfef_13 rfl 2 rfl ?_
        refine j_iload (pc := 14) C dJ1_indexOfChar_4cfef_14 0 rfl ?_
        obtain ⟨v_3, ev_3⟩ : ∃ z : Int32, sB i (x1_5).toInt.toNat = z := ⟨_, rfl⟩
        have hv_3 := sB_bd (i := i) (k := (x1_5).toInt.toNat) hi_lit (by omega); rw [ev_3] at hv_3
        refine j_sbld (pc := 16) (v := v_3) (k := (x1_5).toInt.toNat) C hi_lit (i_nn (by omega)) rfl (by omega) ev_3 dJ1_indexOfChar_4cfef_16 ?_
        refine j_iload (pc := 17) C dJ1_indexOfChar_4cfef_17 1 rfl ?_
        refine j_icmp_ne (pc := 19) (tgt := 25) C dJ1_indexOfChar_4cfef_19 (by decide) (fun c_4 => ?_) (fun c_4 => ?_)
        · skip
          rw [i_eq] at c_4
          obtain ⟨v_5, ev_5⟩ : ∃ z : Int32, x1_5 + 1 = z := ⟨_, rfl⟩
          have el_1 : (1 : Int32).toInt = 1 := rfl
          have hv_5 : v_5.toInt = x1_5.toInt + (1 : Int32).toInt := by rw [← ev_5]; exact fb_addI (by omega) (by omega)
          refine j_iinc (pc := 25) (v := v_5) (lv' := [(5, .int v_5), (4, .int ((p0).toInt8.toInt32)), (0, .ref (D.2.2.1 i)), (1, .int p0), (2, .int p1), (3, .int p2)]) C dJ1_indexOfChar_4cfef_25 0 rfl ev_5 (by decide) rfl ?_
          refine j_goto (pc := 28) (tgt := 7) C dJ1_indexOfChar_4cfef_28 (by decide) ?_
          exact j_lv [0, 1, 2, 3, 4, 5] rfl (ih_1 v_5 (by omega) (fun j hj => by rcases Int.lt_or_le (j : Int) (x1_5).toInt with q | q; (exact hq_1_0 j q); (rw [show j = (x1_5).toInt.toNat from (by omega), ev_3]; omega)) (by omega))
        · skip
          rw [i_eq] at c_4
          refine j_iload (pc := 22) C dJ1_indexOfChar_4cfef_22 0 rfl ?_
          exact j_iret (pc := 24) C hr hk (fun i => [].getD i 0, fun i => [x1_5].getD i 0, fun i => [].getD i (fun _ => 0), fun i => [].getD i (fun _ => 0)) rfl (show (-1 ≤ (x1_5).toInt ∧ (x1_5).toInt ≤ 20) ∧ (IM (x1_5.toInt = -1) (¬ hasB i (p2).toInt p0)) ∧ (IM (0 ≤ x1_5.toInt) (hasB i (p2).toInt p0)) from ⟨by omega, (fun h => absurd h (by omega)), (fun _ => ⟨(x1_5).toInt.toNat, by omega, by (rw [ev_3]; omega)⟩)⟩) [] (by decide) rfl (by decide) (by decide) dJ1_indexOfChar_4cfef_24
  exact j_lv [0, 1, 2, 3, 4, 5] rfl (loop_1 4096 p1 (by omega) (fun j h0 => absurd h0 (by omega)) (by omega))
set_option maxHeartbeats 4000000 in
set_option maxRecDepth 100000 in
theorem c_J1_canEncode_f (l : Launch) (D : DG) (cyC cyI cyJ cyZ cyO : ClassId) (p0 : Int32) : KK l D (TY cyC cyI cyJ cyZ cyO) yJ1_canEncode_9a6ad cJ1_canEncode_9a6ad 1 (some .boolean) ({ frames := 0, cells := 0, slots := 0, locals := 0 } : Room) 0 0 [.int p0] [] (fun u => some (.int (u.2.1 0))) (fun u => (0 ≤ (u.2.1 0).toInt ∧ (u.2.1 0).toInt ≤ 1) ∧ ((u.2.1 0).toInt = 1 ∨ (p0).toInt < 0 ∨ 255 < (p0).toInt)) (fun u => []) := by
  refine KK.of (lv0 := [(0, .int p0)]) (by decide) rfl (Nat.le_of_ble_eq_true rfl) ?_
  intro p e s m args below meth c A C hr hk hin
  refine j_iload_n (pc := 0) C dJ1_canEncode_9a6ad_0 rfl 0 rfl ?_
  refine j_if_lt (pc := 1) (tgt := 15) C dJ1_canEncode_9a6ad_1 (by decide) (fun c_1 => ?_) (fun c_1 => ?_)
  · skip
    have el_0 : (0 : Int32).toInt = 0 := rfl
    rw [i_lt] at c_1
    refine j_iconst (pc := 15) (v := 0) C dJ1_canEncode_9a6ad_15 (by decide) ?_
    have el_0 : (0 : Int32).toInt = 0 := rfl
    have el_0 : (0 : Int32).toInt = 0 := rfl
    exact j_zret (pc := 16) C hr rfl hk (fun i => [].getD i 0, fun i => [0].getD i 0, fun i => [].getD i (fun _ => 0), fun i => [].getD i (fun _ => 0)) rfl (show (0 ≤ ((0 : Int32)).toInt ∧ ((0 : Int32)).toInt ≤ 1) ∧ ((0 : Int32).toInt = 1 ∨ (p0).toInt < 0 ∨ 255 < (p0).toInt) from ⟨by omega, by omega⟩) [] (by decide) rfl (by decide) (by decide) dJ1_canEncode_9a6ad_16
  · skip
    have el_0 : (0 : Int32).toInt = 0 := rfl
    rw [i_lt] at c_1
    refine j_iload_n (pc := 4) C dJ1_canEncode_9a6ad_4 rfl 0 rfl ?_
    refine j_sipush (pc := 5) (v := 255) C dJ1_canEncode_9a6ad_5 (by decide) ?_
    refine j_icmp_gt (pc := 8) (tgt := 15) C dJ1_canEncode_9a6ad_8 (by decide) (fun c_2 => ?_) (fun c_2 => ?_)
    · skip
      have el_255 : (255 : Int32).toInt = 255 := rfl
      rw [i_lt] at c_2
      refine j_iconst (pc := 15) (v := 0) C dJ1_canEncode_9a6ad_15 (by decide) ?_
      have el_0 : (0 : Int32).toInt = 0 := rfl
      have el_0 : (0 : Int32).toInt = 0 := rfl
      exact j_zret (pc := 16) C hr rfl hk (fun i => [].getD i 0, fun i => [0].getD i 0, fun i => [].getD i (fun _ => 0), fun i => [].getD i (fun _ => 0)) rfl (show (0 ≤ ((0 : Int32)).toInt ∧ ((0 : Int32)).toInt ≤ 1) ∧ ((0 : Int32).toInt = 1 ∨ (p0).toInt < 0 ∨ 255 < (p0).toInt) from ⟨by omega, by omega⟩) [] (by decide) rfl (by decide) (by decide) dJ1_canEncode_9a6ad_16
    · skip
      have el_255 : (255 : Int32).toInt = 255 := rfl
      rw [i_lt] at c_2
      refine j_iconst (pc := 11) (v := 1) C dJ1_canEncode_9a6ad_11 (by decide) ?_
      refine j_goto (pc := 12) (tgt := 16) C dJ1_canEncode_9a6ad_12 (by decide) ?_
      have el_1 : (1 : Int32).toInt = 1 := rfl
      have el_1 : (1 : Int32).toInt = 1 := rfl
      exact j_zret (pc := 16) C hr rfl hk (fun i => [].getD i 0, fun i => [1].getD i 0, fun i => [].getD i (fun _ => 0), fun i => [].getD i (fun _ => 0)) rfl (show (0 ≤ ((1 : Int32)).toInt ∧ ((1 : Int32)).toInt ≤ 1) ∧ ((1 : Int32).toInt = 1 ∨ (p0).toInt < 0 ∨ 255 < (p0).toInt) from ⟨by omega, by omega⟩) [] (by decide) rfl (by decide) (by decide) dJ1_canEncode_9a6ad_16
set_option maxHeartbeats 4000000 in
set_option maxRecDepth 100000 in
theorem c_J1_indexOf_f (l : Launch) (D : DG) (cyC cyI cyJ cyZ cyO : ClassId) (i : Nat) (p0 : Int32) (p1 : Int32) (p2 : Int32) (h_p0 : 0 ≤ (p0).toInt ∧ (p0).toInt ≤ 127) (h_p1 : 0 ≤ (p1).toInt ∧ (p1).toInt ≤ 0) (h_p2 : 0 ≤ (p2).toInt ∧ (p2).toInt ≤ 20) (hi_lit : i < 43) (hls : (p2).toInt ≤ ((sL i : Nat) : Int)) : KK l D (TY cyC cyI cyJ cyZ cyO) yJ1_indexOf_4cfef cJ1_indexOf_4cfef 4 (some .int) ({ frames := 1, cells := 0, slots := 0, locals := 25 } : Room) 0 0 [.ref (D.2.2.1 i), .int p0, .int p1, .int p2] [] (fun u => some (.int (u.2.1 0))) (fun u => (-1 ≤ (u.2.1 0).toInt ∧ (u.2.1 0).toInt ≤ 20) ∧ (IM ((u.2.1 0).toInt = -1) (¬ hasB i (p2).toInt p0)) ∧ (IM (0 ≤ (u.2.1 0).toInt) (hasB i (p2).toInt p0))) (fun u => []) := by
  refine KK.of (lv0 := [(0, .ref (D.2.2.1 i)), (1, .int p0), (2, .int p1), (3, .int p2)]) (by decide) rfl (Nat.le_of_ble_eq_true rfl) ?_
  intro p e s m args below meth c A C hr hk hin
  refine j_iload_n (pc := 0) C dJ1_indexOf_4cfef_0 rfl 1 rfl ?_
  refine j_callS (pc := 1) (As := [.int p0]) (rest := []) (wr := []) C (c_J1_canEncode_f l D cyC cyI cyJ cyZ cyO p0) wd_235 wd_232 wd_236 wd_237 ⟨by decide, by decide, rfl⟩ rfl ⟨rfl, rfl, by decide, by decide⟩ ⟨by decide, by decide⟩ [] [] rfl rfl ⟨by decide, by decide, by decide⟩ rfl (Nat.le_of_ble_eq_true rfl) dJ1_indexOf_4cfef_1 (fun u_1 hw_2 => ?_)
  refine j_eq (ws2 := []) (pc2 := 4) (lv2 := [(0, .ref (D.2.2.1 i)), (1, .int p0), (2, .int p1), (3, .int p2)]) (st2 := [.int (u_1.2.1 0)]) rfl rfl rfl rfl ?_
  obtain ⟨hw_2_0, hw_2_1⟩ := hw_2
  refine j_if_ne (pc := 4) (tgt := 9) C dJ1_indexOf_4cfef_4 (by decide) (fun c_3 => ?_) (fun c_3 => ?_)
  · skip
    have el_0 : (0 : Int32).toInt = 0 := rfl
    rw [i_eq] at c_3
    have k0c_3 : ((u_1.2.1 0)).toInt = 1 := by omega
    refine j_iload_n (pc := 9) C dJ1_indexOf_4cfef_9 rfl 2 rfl ?_
    refine j_iconst (pc := 10) (v := 0) C dJ1_indexOf_4cfef_10 (by decide) ?_
    have el_0 : (0 : Int32).toInt = 0 := rfl
    obtain ⟨v_4, ev_4⟩ : ∃ z : Int32, (if (p1 : Int32) < 0 then 0 else p1) = z := ⟨_, rfl⟩
    have hv_4 : v_4.toInt = max p1.toInt (0 : Int32).toInt := by rw [← ev_4]; exact mmax_I _ _
    refine j_mmax (pc := 11) (v := v_4) C wd_238 wd_5 wd_6 wd_7 (by decide) (Nat.le_of_ble_eq_true rfl) (by decide) (by decide) ev_4 dJ1_indexOf_4cfef_11 ?_
    refine j_istore_n (pc := 14) (lv' := [(2, .int v_4), (0, .ref (D.2.2.1 i)), (1, .int p0), (3, .int p2)]) C dJ1_indexOf_4cfef_14 rfl (by decide) rfl ?_
    refine j_iload_n (pc := 15) C dJ1_indexOf_4cfef_15 rfl 3 rfl ?_
    refine j_aload_n (pc := 16) C dJ1_indexOf_4cfef_16 rfl 1 rfl ?_
    obtain ⟨v_5, ev_5⟩ : ∃ z : Int32, Int32.ofNat (sL i) = z := ⟨_, rfl⟩
    have hlv_5 := sL_bd (i := i) hi_lit
    have hv_5 : v_5.toInt = (sL i : Nat) := by rw [← ev_5]; exact nI_toInt (by omega)
    refine j_sblen (pc := 17) (v := v_5) C hi_lit ev_5 dJ1_indexOf_4cfef_17 ?_
    obtain ⟨v_6, ev_6⟩ : ∃ z : Int32, (if (v_5 : Int32) < p2 then v_5 else p2) = z := ⟨_, rfl⟩
    have hv_6 : v_6.toInt = min p2.toInt v_5.toInt := by rw [← ev_6]; exact mmin_I _ _
    refine j_mmin (pc := 18) (v := v_6) C wd_239 wd_139 wd_6 wd_140 (by decide) (Nat.le_of_ble_eq_true rfl) (by decide) (by decide) ev_6 dJ1_indexOf_4cfef_18 ?_
    refine j_istore_n (pc := 21) (lv' := [(3, .int v_6), (2, .int v_4), (0, .ref (D.2.2.1 i)), (1, .int p0)]) C dJ1_indexOf_4cfef_21 rfl (by decide) rfl ?_
    refine j_iload_n (pc := 22) C dJ1_indexOf_4cfef_22 rfl 1 rfl ?_
    refine j_iload_n (pc := 23) C dJ1_indexOf_4cfef_23 rfl 0 rfl ?_
    refine j_icmp_lt (pc := 24) (tgt := 29) C dJ1_indexOf_4cfef_24 (by decide) (fun c_7 => ?_) (fun c_7 => ?_)
    · skip
      rw [i_lt] at c_7
      refine j_aload_n (pc := 29) C dJ1_indexOf_4cfef_29 rfl 2 rfl ?_
      refine j_iload_n (pc := 30) C dJ1_indexOf_4cfef_30 rfl 3 rfl ?_
      refine j_iload_n (pc := 31) C dJ1_indexOf_4cfef_31 rfl 1 rfl ?_
      refine j_iload_n (pc := 32) C dJ1_indexOf_4cfef_32 rfl 0 rfl ?_
      refine j_callS (pc := 33) (As := [.ref (D.2.2.1 i), .int p0, .int v_4, .int v_6]) (rest := []) (wr := []) C (c_J1_indexOfChar_f l D cyC cyI cyJ cyZ cyO i p0 v_4 v_6 h_p0 (by omega) (by omega) hi_lit (by omega)) wd_240 wd_232 wd_241 wd_242 ⟨by decide, by decide, rfl⟩ rfl ⟨rfl, rfl, by decide, by decide⟩ ⟨by decide, by decide⟩ [] [] rfl rfl ⟨by decide, by decide, by decide⟩ rfl (Nat.le_of_ble_eq_true rfl) dJ1_indexOf_4cfef_33 (fun u_8 hw_9 => ?_)
      refine j_eq (ws2 := []) (pc2 := 36) (lv2 := [(3, .int v_6), (2, .int v_4), (0, .ref (D.2.2.1 i)), (1, .int p0)]) (st2 := [.int (u_8.2.1 0)]) rfl rfl rfl rfl ?_
      obtain ⟨hw_9_0, hw_9_1, hw_9_2⟩ := hw_9
      exact j_iret (pc := 36) C hr hk (fun i => [].getD i 0, fun i => [(u_8.2.1 0)].getD i 0, fun i => [].getD i (fun _ => 0), fun i => [].getD i (fun _ => 0)) rfl (show (-1 ≤ ((u_8.2.1 0)).toInt ∧ ((u_8.2.1 0)).toInt ≤ 20) ∧ (IM ((u_8.2.1 0).toInt = -1) (¬ hasB i (p2).toInt p0)) ∧ (IM (0 ≤ (u_8.2.1 0).toInt) (hasB i (p2).toInt p0)) from ⟨hw_9_0, (fun h z => hw_9_1 h (by rw [show (v_6).toInt = (p2).toInt from (by omega)]; exact z)), (fun h => by have z := hw_9_2 h; rw [show (v_6).toInt = (p2).toInt from (by omega)] at z; exact z)⟩) [] (by decide) rfl (by decide) (by decide) dJ1_indexOf_4cfef_36
    · skip
      rw [i_lt] at c_7
      have k1c_7 : v_6.toInt = 0 := by omega
      refine j_iconst (pc := 27) (v := (-1)) C dJ1_indexOf_4cfef_27 (by decide) ?_
      have el_m1 : ((-1) : Int32).toInt = (-1) := rfl
      have el_m1 : ((-1) : Int32).toInt = (-1) := rfl
      have el_m1 : ((-1) : Int32).toInt = (-1) := rfl
      exact j_iret (pc := 28) C hr hk (fun i => [].getD i 0, fun i => [(-1)].getD i 0, fun i => [].getD i (fun _ => 0), fun i => [].getD i (fun _ => 0)) rfl (show (-1 ≤ (((-1) : Int32)).toInt ∧ (((-1) : Int32)).toInt ≤ 20) ∧ (IM (((-1) : Int32).toInt = -1) (¬ hasB i (p2).toInt p0)) ∧ (IM (0 ≤ ((-1) : Int32).toInt) (hasB i (p2).toInt p0)) from ⟨by omega, (fun _ z => by obtain ⟨j, j1, j2⟩ := z; omega), (fun h => absurd h (by decide))⟩) [] (by decide) rfl (by decide) (by decide) dJ1_indexOf_4cfef_28
  · skip
    have el_0 : (0 : Int32).toInt = 0 := rfl
    rw [i_eq] at c_3
    refine j_iconst (pc := 7) (v := (-1)) C dJ1_indexOf_4cfef_7 (by decide) ?_
    have el_m1 : ((-1) : Int32).toInt = (-1) := rfl
    have el_m1 : ((-1) : Int32).toInt = (-1) := rfl
    have el_m1 : ((-1) : Int32).toInt = (-1) := rfl
    exact j_iret (pc := 8) C hr hk (fun i => [].getD i 0, fun i => [(-1)].getD i 0, fun i => [].getD i (fun _ => 0), fun i => [].getD i (fun _ => 0)) rfl (show (-1 ≤ (((-1) : Int32)).toInt ∧ (((-1) : Int32)).toInt ≤ 20) ∧ (IM (((-1) : Int32).toInt = -1) (¬ hasB i (p2).toInt p0)) ∧ (IM (0 ≤ ((-1) : Int32).toInt) (hasB i (p2).toInt p0)) from ⟨by omega, (fun _ z => by obtain ⟨j, j1, j2⟩ := z; omega), (fun h => absurd h (by decide))⟩) [] (by decide) rfl (by decide) (by decide) dJ1_indexOf_4cfef_8
set_option maxHeartbeats 4000000 in
set_option maxRecDepth 100000 in
theorem c_J0_indexOf2_f (l : Launch) (D : DG) (cyC cyI cyJ cyZ cyO : ClassId) (i : Nat) (p0 : Int32) (p1 : Int32) (h_p0 : 0 ≤ (p0).toInt ∧ (p0).toInt ≤ 127) (h_p1 : 0 ≤ (p1).toInt ∧ (p1).toInt ≤ 0) (hi_lit : i < 43) : KK l D (TY cyC cyI cyJ cyZ cyO) yJ0_indexOf_7cf53 cJ0_indexOf_7cf53 3 (some .int) ({ frames := 2, cells := 0, slots := 0, locals := 48 } : Room) 0 0 [.ref (D.2.1 i), .int p0, .int p1] [] (fun u => some (.int (u.2.1 0))) (fun u => (-1 ≤ (u.2.1 0).toInt ∧ (u.2.1 0).toInt ≤ 20) ∧ (IM ((u.2.1 0).toInt = -1) (¬ hasB i ((sL i : Nat) : Int) p0)) ∧ (IM (0 ≤ (u.2.1 0).toInt) (hasB i ((sL i : Nat) : Int) p0))) (fun u => []) := by
  refine KK.of (lv0 := [(0, .ref (D.2.1 i)), (1, .int p0), (2, .int p1)]) (by decide) rfl (Nat.le_of_ble_eq_true rfl) ?_
  intro p e s m args below meth c A C hr hk hin
  refine j_aload_n (pc := 0) C dJ0_indexOf_7cf53_0 rfl 0 rfl ?_
  refine j_callT (pc := 1) (As := []) (rest := []) (wr := []) C (c_J0_isLatin1_aae02 l D cyC cyI cyJ cyZ cyO i hi_lit) wd_227 wd_220 wd_228 wd_229 wd_230 ⟨by decide, by decide, rfl⟩ rfl ⟨rfl, rfl, by decide, by decide⟩ ⟨by decide, by decide⟩ [] [] rfl rfl ⟨by decide, by decide, by decide⟩ hi_lit rfl rfl (Nat.le_of_ble_eq_true rfl) dJ0_indexOf_7cf53_1 (fun u_1 hw_2 => ?_)
  refine j_eq (ws2 := []) (pc2 := 4) (lv2 := [(0, .ref (D.2.1 i)), (1, .int p0), (2, .int p1)]) (st2 := [.int 1]) rfl rfl rfl rfl ?_
  refine j_if_eq_f (pc := 4) (tgt := 23) C dJ0_indexOf_7cf53_4 (by decide) (by decide) ?_
  refine j_aload_n (pc := 7) C dJ0_indexOf_7cf53_7 rfl 0 rfl ?_
  refine j_sgetV (pc := 8) C hi_lit wd_218 dJ0_indexOf_7cf53_8 ?_
  refine j_iload_n (pc := 11) C dJ0_indexOf_7cf53_11 rfl 1 rfl ?_
  refine j_iload_n (pc := 12) C dJ0_indexOf_7cf53_12 rfl 2 rfl ?_
  refine j_aload_n (pc := 13) C dJ0_indexOf_7cf53_13 rfl 0 rfl ?_
  refine j_callT (pc := 14) (As := []) (rest := [.int p1, .int p0, .ref (D.2.2.1 i)]) (wr := []) C (c_J0_length_8abf5 l D cyC cyI cyJ cyZ cyO i hi_lit) wd_243 wd_220 wd_244 wd_245 wd_246 ⟨by decide, by decide, rfl⟩ rfl ⟨rfl, rfl, by decide, by decide⟩ ⟨by decide, by decide⟩ [] [] rfl rfl ⟨by decide, by decide, by decide⟩ hi_lit rfl rfl (Nat.le_of_ble_eq_true rfl) dJ0_indexOf_7cf53_14 (fun u_3 hw_4 => ?_)
  refine j_eq (ws2 := []) (pc2 := 17) (lv2 := [(0, .ref (D.2.1 i)), (1, .int p0), (2, .int p1)]) (st2 := [.int (u_3.2.1 0), .int p1, .int p0, .ref (D.2.2.1 i)]) rfl rfl rfl rfl ?_
  obtain ⟨hw_4_0, hw_4_1⟩ := hw_4
  refine j_callS (pc := 17) (As := [.ref (D.2.2.1 i), .int p0, .int p1, .int (u_3.2.1 0)]) (rest := []) (wr := []) C (c_J1_indexOf_f l D cyC cyI cyJ cyZ cyO i p0 p1 (u_3.2.1 0) h_p0 h_p1 hw_4_0 hi_lit (by omega)) wd_247 wd_232 wd_248 wd_249 ⟨by decide, by decide, rfl⟩ rfl ⟨rfl, rfl, by decide, by decide⟩ ⟨by decide, by decide⟩ [] [] rfl rfl ⟨by decide, by decide, by decide⟩ rfl (Nat.le_of_ble_eq_true rfl) dJ0_indexOf_7cf53_17 (fun u_5 hw_6 => ?_)
  refine j_eq (ws2 := []) (pc2 := 20) (lv2 := [(0, .ref (D.2.1 i)), (1, .int p0), (2, .int p1)]) (st2 := [.int (u_5.2.1 0)]) rfl rfl rfl rfl ?_
  obtain ⟨hw_6_0, hw_6_1, hw_6_2⟩ := hw_6
  refine j_goto (pc := 20) (tgt := 36) C dJ0_indexOf_7cf53_20 (by decide) ?_
  exact j_iret (pc := 36) C hr hk (fun i => [].getD i 0, fun i => [(u_5.2.1 0)].getD i 0, fun i => [].getD i (fun _ => 0), fun i => [].getD i (fun _ => 0)) rfl (show (-1 ≤ ((u_5.2.1 0)).toInt ∧ ((u_5.2.1 0)).toInt ≤ 20) ∧ (IM ((u_5.2.1 0).toInt = -1) (¬ hasB i ((sL i : Nat) : Int) p0)) ∧ (IM (0 ≤ (u_5.2.1 0).toInt) (hasB i ((sL i : Nat) : Int) p0)) from ⟨hw_6_0, (fun h z => hw_6_1 h (by rw [hw_4_1]; exact z)), (fun h => by have z := hw_6_2 h; rw [hw_4_1] at z; exact z)⟩) [] (by decide) rfl (by decide) (by decide) dJ0_indexOf_7cf53_36
set_option maxHeartbeats 4000000 in
set_option maxRecDepth 100000 in
theorem c_J0_indexOf_f (l : Launch) (D : DG) (cyC cyI cyJ cyZ cyO : ClassId) (i : Nat) (p0 : Int32) (h_p0 : 0 ≤ (p0).toInt ∧ (p0).toInt ≤ 127) (hi_lit : i < 43) : KK l D (TY cyC cyI cyJ cyZ cyO) yJ0_indexOf_0f7a4 cJ0_indexOf_0f7a4 2 (some .int) ({ frames := 3, cells := 0, slots := 0, locals := 70 } : Room) 0 0 [.ref (D.2.1 i), .int p0] [] (fun u => some (.int (u.2.1 0))) (fun u => (-1 ≤ (u.2.1 0).toInt ∧ (u.2.1 0).toInt ≤ 20) ∧ (IM ((u.2.1 0).toInt = -1) (¬ hasB i ((sL i : Nat) : Int) p0)) ∧ (IM (0 ≤ (u.2.1 0).toInt) (hasB i ((sL i : Nat) : Int) p0))) (fun u => []) := by
  refine KK.of (lv0 := [(0, .ref (D.2.1 i)), (1, .int p0)]) (by decide) rfl (Nat.le_of_ble_eq_true rfl) ?_
  intro p e s m args below meth c A C hr hk hin
  refine j_aload_n (pc := 0) C dJ0_indexOf_0f7a4_0 rfl 0 rfl ?_
  refine j_iload_n (pc := 1) C dJ0_indexOf_0f7a4_1 rfl 1 rfl ?_
  refine j_iconst (pc := 2) (v := 0) C dJ0_indexOf_0f7a4_2 (by decide) ?_
  refine j_callT (pc := 3) (As := [.int p0, .int 0]) (rest := []) (wr := []) C (c_J0_indexOf2_f l D cyC cyI cyJ cyZ cyO i p0 0 h_p0 (by decide) hi_lit) wd_250 wd_220 wd_251 wd_252 wd_253 ⟨by decide, by decide, rfl⟩ rfl ⟨rfl, rfl, by decide, by decide⟩ ⟨by decide, by decide⟩ [] [] rfl rfl ⟨by decide, by decide, by decide⟩ hi_lit rfl rfl (Nat.le_of_ble_eq_true rfl) dJ0_indexOf_0f7a4_3 (fun u_1 hw_2 => ?_)
  refine j_eq (ws2 := []) (pc2 := 6) (lv2 := [(0, .ref (D.2.1 i)), (1, .int p0)]) (st2 := [.int (u_1.2.1 0)]) rfl rfl rfl rfl ?_
  obtain ⟨hw_2_0, hw_2_1, hw_2_2⟩ := hw_2
  exact j_iret (pc := 6) C hr hk (fun i => [].getD i 0, fun i => [(u_1.2.1 0)].getD i 0, fun i => [].getD i (fun _ => 0), fun i => [].getD i (fun _ => 0)) rfl (show (-1 ≤ ((u_1.2.1 0)).toInt ∧ ((u_1.2.1 0)).toInt ≤ 20) ∧ (IM ((u_1.2.1 0).toInt = -1) (¬ hasB i ((sL i : Nat) : Int) p0)) ∧ (IM (0 ≤ (u_1.2.1 0).toInt) (hasB i ((sL i : Nat) : Int) p0)) from ⟨hw_2_0, hw_2_1, hw_2_2⟩) [] (by decide) rfl (by decide) (by decide) dJ0_indexOf_0f7a4_6
