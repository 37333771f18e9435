set_option maxHeartbeats 4000000 in
set_option maxRecDepth 100000 in
theorem c_X8_pastBlanks_f (l : Launch) (D : DG) (cyC cyI cyJ cyZ cyO : ClassId) (t0 : Nat) (t1 : Nat) (p0 : Int32) (t_length : Int32) (t_next : Int32) (t_kind : Int32) (t_place : Int32) (t_number : Int32) (t_text : Nat → Int32) (h_t_length : 0 ≤ (t_length).toInt ∧ (t_length).toInt ≤ 1000) (h_t_next : 0 ≤ (t_next).toInt ∧ (t_next).toInt ≤ 1000) (h_t_kind : 0 ≤ (t_kind).toInt ∧ (t_kind).toInt ≤ 4) (h_t_place : 0 ≤ (t_place).toInt ∧ (t_place).toInt ≤ 1000) (h_p0 : 0 ≤ (p0).toInt ∧ (p0).toInt ≤ 1000) (h_t_text : Iv 1000 (0) (126) t_text) : KK l D (TY cyC cyI cyJ cyZ cyO) yX8_pastBlanks cX8_pastBlanks 3 (some .int) ({ frames := 0, cells := 0, slots := 0, locals := 0 } : Room) 0 0 [.ref t0, .int p0] [(t0, .inr (8, [.ref t1, .int t_length, .int t_next, .int t_kind, .int t_place, .int t_number])), (t1, .inl (cyC, 1000, .inl t_text))] (fun u => some (.int (u.2.1 0))) (fun u => (0 ≤ (u.2.1 0).toInt ∧ (u.2.1 0).toInt ≤ 1000) ∧ (RE isB t_text (t_length).toInt.toNat (p0).toInt.toNat (u.2.1 0).toInt.toNat) ∧ ((p0).toInt ≤ (u.2.1 0).toInt)) (fun u => [(t0, .inr (8, [.ref t1, .int t_length, .int t_next, .int t_kind, .int t_place, .int t_number])), (t1, .inl (cyC, 1000, .inl t_text))]) := by
  refine KK.of (lv0 := [(0, .ref t0), (1, .int p0)]) (by decide) rfl (Nat.le_of_ble_eq_true rfl) ?_
  intro p e s m args below meth c A C hr hk hin
  refine j_iload_n (pc := 0) C dX8_pastBlanks_0 rfl 1 rfl ?_
  refine j_istore_n (pc := 1) (lv' := [(2, .int p0), (0, .ref t0), (1, .int p0)]) C dX8_pastBlanks_1 rfl (by decide) rfl ?_
  have loop_1 : ∀ (k_1 : Nat) (x1_2 : Int32), (0 ≤ (x1_2).toInt ∧ (x1_2).toInt ≤ 1000) → ((p0).toInt ≤ x1_2.toInt) → (∀ j : Nat, (p0).toInt ≤ (j : Int) → (j : Int) < x1_2.toInt → j < (t_length).toInt.toNat ∧ isB (t_text j) = true) → (1000 - x1_2.toInt).toNat < k_1 → J p l e ({ frames := 0, cells := 0, slots := 0, locals := 0 } : Room) s m args below meth c D A 3 0 0 (QX below D (TY cyC cyI cyJ cyZ cyO) A (fun u => some (.int (u.2.1 0))) (fun u => (0 ≤ (u.2.1 0).toInt ∧ (u.2.1 0).toInt ≤ 1000) ∧ (RE isB t_text (t_length).toInt.toNat (p0).toInt.toNat (u.2.1 0).toInt.toNat) ∧ ((p0).toInt ≤ (u.2.1 0).toInt)) (fun u => [(t0, .inr (8, [.ref t1, .int t_length, .int t_next, .int t_kind, .int t_place, .int t_number])), (t1, .inl (cyC, 1000, .inl t_text))]) args s 0 0) [(t0, .inr (8, [.ref t1, .int t_length, .int t_next, .int t_kind, .int t_place, .int t_number])), (t1, .inl (cyC, 1000, .inl t_text))] 2 [(2, .int x1_2), (0, .ref t0), (1, .int p0)] [] := by
    intro k_1
    induction k_1 with
    | zero =>
      intro x1_2 hi_1_0 hr_1 hq_1_0 hm_1
      exact absurd hm_1 (Nat.not_lt_zero _)
    | succ k_1 ih_1 =>
      intro x1_2 hi_1_0 hr_1 hq_1_0 hm_1
      refine j_iload_n (pc := 2) C dX8_pastBlanks_2 rfl 0 rfl ?_
      refine j_aload_n (pc := 3) C dX8_pastBlanks_3 rfl 1 rfl ?_
      refine j_get (pc := 4) (ci := 8) (v := .int t_length) C inw_8 0 rfl rfl 1 (by decide) wd_254 rfl rfl dX8_pastBlanks_4 ?_
      refine j_icmp_ge (pc := 7) (tgt := 38) C dX8_pastBlanks_7 (by decide) (fun c_2 => ?_) (fun c_2 => ?_)
      · skip
        rw [i_le] at c_2
        refine j_iload_n (pc := 38) C dX8_pastBlanks_38 rfl 0 rfl ?_
        exact j_iret (pc := 39) C hr hk (fun i => [].getD i 0, fun i => [x1_2].getD i 0, fun i => [].getD i (fun _ => 0), fun i => [].getD i (fun _ => 0)) rfl (show (0 ≤ (x1_2).toInt ∧ (x1_2).toInt ≤ 1000) ∧ (RE isB t_text (t_length).toInt.toNat (p0).toInt.toNat x1_2.toInt.toNat) ∧ ((p0).toInt ≤ x1_2.toInt) from ⟨hi_1_0, ⟨by omega, fun j j1 j2 => hq_1_0 j (by omega) (by omega), fun z => absurd z.1 (by omega)⟩, by omega⟩) [0, 1] (by decide) rfl (by decide) (by decide) dX8_pastBlanks_39
      · skip
        rw [i_le] at c_2
        refine j_aload_n (pc := 10) C dX8_pastBlanks_10 rfl 1 rfl ?_
        refine j_get (pc := 11) (ci := 8) (v := .ref t1) C inw_8 0 rfl rfl 0 (by decide) wd_255 rfl rfl dX8_pastBlanks_11 ?_
        refine j_iload_n (pc := 14) C dX8_pastBlanks_14 rfl 0 rfl ?_
        obtain ⟨v_3, ev_3⟩ : ∃ z, t_text (x1_2).toInt.toNat = z := ⟨_, rfl⟩
        have env_3 : (t_text (x1_2).toInt.toNat).toInt = v_3.toInt := by rw [ev_3]
        have hv_3 := h_t_text (x1_2).toInt.toNat (i_lt_n hi_1_0.1 (by omega)); rw [ev_3] at hv_3
        refine j_cald (pc := 15) (v := v_3) (k := (x1_2).toInt.toNat) C 1 0 rfl rfl (i_nn hi_1_0.1) rfl (i_lt_n hi_1_0.1 (by omega)) ev_3 dX8_pastBlanks_15 ?_
        refine j_bipush (pc := 16) (v := 10) C dX8_pastBlanks_16 (by decide) ?_
        refine j_icmp_eq (pc := 18) (tgt := 32) C dX8_pastBlanks_18 (by decide) (fun c_4 => ?_) (fun c_4 => ?_)
        · skip
          have el_10 : (10 : Int32).toInt = 10 := rfl
          rw [i_eq] at c_4
          obtain ⟨v_5, ev_5⟩ : ∃ z : Int32, x1_2 + 1 = z := ⟨_, rfl⟩
          have el_1 : (1 : Int32).toInt = 1 := rfl
          have hv_5 : v_5.toInt = x1_2.toInt + (1 : Int32).toInt := by rw [← ev_5]; exact fb_addI (by omega) (by omega)
          refine j_iinc (pc := 32) (v := v_5) (lv' := [(2, .int v_5), (0, .ref t0), (1, .int p0)]) C dX8_pastBlanks_32 0 rfl ev_5 (by decide) rfl ?_
          refine j_goto (pc := 35) (tgt := 2) C dX8_pastBlanks_35 (by decide) ?_
          exact j_lv [0, 1, 2] rfl (ih_1 v_5 (by omega) (by omega) (fun j j1 j2 => by rcases Int.lt_or_le (j : Int) (x1_2).toInt with q | q; (exact hq_1_0 j j1 q); (have ej : j = (x1_2).toInt.toNat := (by omega); rw [ej]; exact ⟨by omega, by (rw [ev_3]; exact decide_eq_true (by omega))⟩)) (by omega))
        · skip
          have el_10 : (10 : Int32).toInt = 10 := rfl
          rw [i_eq] at c_4
          refine j_aload_n (pc := 21) C dX8_pastBlanks_21 rfl 1 rfl ?_
          refine j_get (pc := 22) (ci := 8) (v := .ref t1) C inw_8 0 rfl rfl 0 (by decide) wd_255 rfl rfl dX8_pastBlanks_22 ?_
          refine j_iload_n (pc := 25) C dX8_pastBlanks_25 rfl 0 rfl ?_
          refine j_cald (pc := 26) (v := v_3) (k := (x1_2).toInt.toNat) C 1 0 rfl rfl (i_nn hi_1_0.1) rfl (i_lt_n hi_1_0.1 (by omega)) ev_3 dX8_pastBlanks_26 ?_
          refine j_bipush (pc := 27) (v := 32) C dX8_pastBlanks_27 (by decide) ?_
          refine j_icmp_ne (pc := 29) (tgt := 38) C dX8_pastBlanks_29 (by decide) (fun c_6 => ?_) (fun c_6 => ?_)
          · skip
            have el_32 : (32 : Int32).toInt = 32 := rfl
            rw [i_eq] at c_6
            refine j_iload_n (pc := 38) C dX8_pastBlanks_38 rfl 0 rfl ?_
            exact j_iret (pc := 39) C hr hk (fun i => [].getD i 0, fun i => [x1_2].getD i 0, fun i => [].getD i (fun _ => 0), fun i => [].getD i (fun _ => 0)) rfl (show (0 ≤ (x1_2).toInt ∧ (x1_2).toInt ≤ 1000) ∧ (RE isB t_text (t_length).toInt.toNat (p0).toInt.toNat x1_2.toInt.toNat) ∧ ((p0).toInt ≤ x1_2.toInt) from ⟨hi_1_0, ⟨by omega, fun j j1 j2 => hq_1_0 j (by omega) (by omega), fun z => by (have z2 := of_decide_eq_true z.2; rw [ev_3] at z2; omega)⟩, by omega⟩) [0, 1] (by decide) rfl (by decide) (by decide) dX8_pastBlanks_39
          · skip
            have el_32 : (32 : Int32).toInt = 32 := rfl
            rw [i_eq] at c_6
            obtain ⟨v_7, ev_7⟩ : ∃ z : Int32, x1_2 + 1 = z := ⟨_, rfl⟩
            have el_1 : (1 : Int32).toInt = 1 := rfl
            have hv_7 : v_7.toInt = x1_2.toInt + (1 : Int32).toInt := by rw [← ev_7]; exact fb_addI (by omega) (by omega)
            refine j_iinc (pc := 32) (v := v_7) (lv' := [(2, .int v_7), (0, .ref t0), (1, .int p0)]) C dX8_pastBlanks_32 0 rfl ev_7 (by decide) rfl ?_
            refine j_goto (pc := 35) (tgt := 2) C dX8_pastBlanks_35 (by decide) ?_
            exact j_lv [0, 1, 2] rfl (ih_1 v_7 (by omega) (by omega) (fun j j1 j2 => by rcases Int.lt_or_le (j : Int) (x1_2).toInt with q | q; (exact hq_1_0 j j1 q); (have ej : j = (x1_2).toInt.toNat := (by omega); rw [ej]; exact ⟨by omega, by (rw [ev_3]; exact decide_eq_true (by omega))⟩)) (by omega))
  exact j_lv [0, 1, 2] rfl (loop_1 4096 p0 h_p0 (by omega) (fun j j1 j2 => absurd j2 (by omega)) (by omega))
set_option maxHeartbeats 4000000 in
set_option maxRecDepth 100000 in
theorem c_X8_pastRun_f (l : Launch) (D : DG) (cyC cyI cyJ cyZ cyO : ClassId) (t0 : Nat) (t1 : Nat) (p0 : Int32) (p1 : Int32) (p2 : Int32) (t_length : Int32) (t_next : Int32) (t_kind : Int32) (t_place : Int32) (t_number : Int32) (t_text : Nat → Int32) (h_t_length : 0 ≤ (t_length).toInt ∧ (t_length).toInt ≤ 1000) (h_t_next : 0 ≤ (t_next).toInt ∧ (t_next).toInt ≤ 1000) (h_t_kind : 0 ≤ (t_kind).toInt ∧ (t_kind).toInt ≤ 4) (h_t_place : 0 ≤ (t_place).toInt ∧ (t_place).toInt ≤ 1000) (h_p0 : 0 ≤ (p0).toInt ∧ (p0).toInt ≤ 1000) (h_t_text : Iv 1000 (0) (126) t_text) : KK l D (TY cyC cyI cyJ cyZ cyO) yX8_pastRun cX8_pastRun 5 (some .int) ({ frames := 0, cells := 0, slots := 0, locals := 0 } : Room) 0 0 [.ref t0, .int p0, .int p1, .int p2] [(t0, .inr (8, [.ref t1, .int t_length, .int t_next, .int t_kind, .int t_place, .int t_number])), (t1, .inl (cyC, 1000, .inl t_text))] (fun u => some (.int (u.2.1 0))) (fun u => (0 ≤ (u.2.1 0).toInt ∧ (u.2.1 0).toInt ≤ 1000) ∧ (RE (isR p1 p2) t_text (t_length).toInt.toNat (p0).toInt.toNat (u.2.1 0).toInt.toNat) ∧ ((p0).toInt ≤ (u.2.1 0).toInt)) (fun u => [(t0, .inr (8, [.ref t1, .int t_length, .int t_next, .int t_kind, .int t_place, .int t_number])), (t1, .inl (cyC, 1000, .inl t_text))]) := by
  refine KK.of (lv0 := [(0, .ref t0), (1, .int p0), (2, .int p1), (3, .int p2)]) (by decide) rfl (Nat.le_of_ble_eq_true rfl) ?_
  intro p e s m args below meth c A C hr hk hin
  refine j_iload_n (pc := 0) C dX8_pastRun_0 rfl 1 rfl ?_
  refine j_istore (pc := 1) (lv' := [(4, .int p0), (0, .ref t0), (1, .int p0), (2, .int p1), (3, .int p2)]) C dX8_pastRun_1 (by decide) rfl ?_
  have loop_1 : ∀ (k_1 : Nat) (x1_4 : Int32), (0 ≤ (x1_4).toInt ∧ (x1_4).toInt ≤ 1000) → ((p0).toInt ≤ x1_4.toInt) → (∀ j : Nat, (p0).toInt ≤ (j : Int) → (j : Int) < x1_4.toInt → j < (t_length).toInt.toNat ∧ isR p1 p2 (t_text j) = true) → (1000 - x1_4.toInt).toNat < k_1 → J p l e ({ frames := 0, cells := 0, slots := 0, locals := 0 } : Room) s m args below meth c D A 5 0 0 (QX below D (TY cyC cyI cyJ cyZ cyO) A (fun u => some (.int (u.2.1 0))) (fun u => (0 ≤ (u.2.1 0).toInt ∧ (u.2.1 0).toInt ≤ 1000) ∧ (RE (isR p1 p2) t_text (t_length).toInt.toNat (p0).toInt.toNat (u.2.1 0).toInt.toNat) ∧ ((p0).toInt ≤ (u.2.1 0).toInt)) (fun u => [(t0, .inr (8, [.ref t1, .int t_length, .int t_next, .int t_kind, .int t_place, .int t_number])), (t1, .inl (cyC, 1000, .inl t_text))]) args s 0 0) [(t0, .inr (8, [.ref t1, .int t_length, .int t_next, .int t_kind, .int t_place, .int t_number])), (t1, .inl (cyC, 1000, .inl t_text))] 3 [(4, .int x1_4), (0, .ref t0), (1, .int p0), (2, .int p1), (3, .int p2)] [] := by
    intro k_1
    induction k_1 with
    | zero =>
      intro x1_4 hi_1_0 hr_1 hq_1_0 hm_1
      exact absurd hm_1 (Nat.not_lt_zero _)
    | succ k_1 ih_1 =>
      intro x1_4 hi_1_0 hr_1 hq_1_0 hm_1
      refine j_iload (pc := 3) C dX8_pastRun_3 0 rfl ?_
      refine j_aload_n (pc := 5) C dX8_pastRun_5 rfl 1 rfl ?_
      refine j_get (pc := 6) (ci := 8) (v := .int t_length) C inw_8 0 rfl rfl 1 (by decide) wd_254 rfl rfl dX8_pastRun_6 ?_
      refine j_icmp_ge (pc := 9) (tgt := 40) C dX8_pastRun_9 (by decide) (fun c_2 => ?_) (fun c_2 => ?_)
      · skip
        rw [i_le] at c_2
        refine j_iload (pc := 40) C dX8_pastRun_40 0 rfl ?_
        exact j_iret (pc := 42) C hr hk (fun i => [].getD i 0, fun i => [x1_4].getD i 0, fun i => [].getD i (fun _ => 0), fun i => [].getD i (fun _ => 0)) rfl (show (0 ≤ (x1_4).toInt ∧ (x1_4).toInt ≤ 1000) ∧ (RE (isR p1 p2) t_text (t_length).toInt.toNat (p0).toInt.toNat x1_4.toInt.toNat) ∧ ((p0).toInt ≤ x1_4.toInt) from ⟨hi_1_0, ⟨by omega, fun j j1 j2 => hq_1_0 j (by omega) (by omega), fun z => absurd z.1 (by omega)⟩, by omega⟩) [0, 1] (by decide) rfl (by decide) (by decide) dX8_pastRun_42
      · skip
        rw [i_le] at c_2
        refine j_aload_n (pc := 12) C dX8_pastRun_12 rfl 1 rfl ?_
        refine j_get (pc := 13) (ci := 8) (v := .ref t1) C inw_8 0 rfl rfl 0 (by decide) wd_255 rfl rfl dX8_pastRun_13 ?_
        refine j_iload (pc := 16) C dX8_pastRun_16 0 rfl ?_
        obtain ⟨v_3, ev_3⟩ : ∃ z, t_text (x1_4).toInt.toNat = z := ⟨_, rfl⟩
        have env_3 : (t_text (x1_4).toInt.toNat).toInt = v_3.toInt := by rw [ev_3]
        have hv_3 := h_t_text (x1_4).toInt.toNat (i_lt_n hi_1_0.1 (by omega)); rw [ev_3] at hv_3
        refine j_cald (pc := 18) (v := v_3) (k := (x1_4).toInt.toNat) C 1 0 rfl rfl (i_nn hi_1_0.1) rfl (i_lt_n hi_1_0.1 (by omega)) ev_3 dX8_pastRun_18 ?_
        refine j_iload_n (pc := 19) C dX8_pastRun_19 rfl 3 rfl ?_
        refine j_icmp_lt (pc := 20) (tgt := 40) C dX8_pastRun_20 (by decide) (fun c_4 => ?_) (fun c_4 => ?_)
        · skip
          rw [i_lt] at c_4
          refine j_iload (pc := 40) C dX8_pastRun_40 0 rfl ?_
          exact j_iret (pc := 42) C hr hk (fun i => [].getD i 0, fun i => [x1_4].getD i 0, fun i => [].getD i (fun _ => 0), fun i => [].getD i (fun _ => 0)) rfl (show (0 ≤ (x1_4).toInt ∧ (x1_4).toInt ≤ 1000) ∧ (RE (isR p1 p2) t_text (t_length).toInt.toNat (p0).toInt.toNat x1_4.toInt.toNat) ∧ ((p0).toInt ≤ x1_4.toInt) from ⟨hi_1_0, ⟨by omega, fun j j1 j2 => hq_1_0 j (by omega) (by omega), fun z => by (have z2 := of_decide_eq_true z.2; rw [ev_3] at z2; omega)⟩, by omega⟩) [0, 1] (by decide) rfl (by decide) (by decide) dX8_pastRun_42
        · skip
          rw [i_lt] at c_4
          refine j_aload_n (pc := 23) C dX8_pastRun_23 rfl 1 rfl ?_
          refine j_get (pc := 24) (ci := 8) (v := .ref t1) C inw_8 0 rfl rfl 0 (by decide) wd_255 rfl rfl dX8_pastRun_24 ?_
          refine j_iload (pc := 27) C dX8_pastRun_27 0 rfl ?_
          refine j_cald (pc := 29) (v := v_3) (k := (x1_4).toInt.toNat) C 1 0 rfl rfl (i_nn hi_1_0.1) rfl (i_lt_n hi_1_0.1 (by omega)) ev_3 dX8_pastRun_29 ?_
          refine j_iload_n (pc := 30) C dX8_pastRun_30 rfl 4 rfl ?_
          refine j_icmp_gt (pc := 31) (tgt := 40) C dX8_pastRun_31 (by decide) (fun c_5 => ?_) (fun c_5 => ?_)
          · skip
            rw [i_lt] at c_5
            refine j_iload (pc := 40) C dX8_pastRun_40 0 rfl ?_
            exact j_iret (pc := 42) C hr hk (fun i => [].getD i 0, fun i => [x1_4].getD i 0, fun i => [].getD i (fun _ => 0), fun i => [].getD i (fun _ => 0)) rfl (show (0 ≤ (x1_4).toInt ∧ (x1_4).toInt ≤ 1000) ∧ (RE (isR p1 p2) t_text (t_length).toInt.toNat (p0).toInt.toNat x1_4.toInt.toNat) ∧ ((p0).toInt ≤ x1_4.toInt) from ⟨hi_1_0, ⟨by omega, fun j j1 j2 => hq_1_0 j (by omega) (by omega), fun z => by (have z2 := of_decide_eq_true z.2; rw [ev_3] at z2; omega)⟩, by omega⟩) [0, 1] (by decide) rfl (by decide) (by decide) dX8_pastRun_42
          · skip
            rw [i_lt] at c_5
            obtain ⟨v_6, ev_6⟩ : ∃ z : Int32, x1_4 + 1 = z := ⟨_, rfl⟩
            have el_1 : (1 : Int32).toInt = 1 := rfl
            have hv_6 : v_6.toInt = x1_4.toInt + (1 : Int32).toInt := by rw [← ev_6]; exact fb_addI (by omega) (by omega)
            refine j_iinc (pc := 34) (v := v_6) (lv' := [(4, .int v_6), (0, .ref t0), (1, .int p0), (2, .int p1), (3, .int p2)]) C dX8_pastRun_34 0 rfl ev_6 (by decide) rfl ?_
            refine j_goto (pc := 37) (tgt := 3) C dX8_pastRun_37 (by decide) ?_
            exact j_lv [0, 1, 2, 3, 4] rfl (ih_1 v_6 (by omega) (by omega) (fun j j1 j2 => by rcases Int.lt_or_le (j : Int) (x1_4).toInt with q | q; (exact hq_1_0 j j1 q); (have ej : j = (x1_4).toInt.toNat := (by omega); rw [ej]; exact ⟨by omega, by (rw [ev_3]; exact decide_eq_true (by omega))⟩)) (by omega))
  exact j_lv [0, 1, 2, 3, 4] rfl (loop_1 4096 p0 h_p0 (by omega) (fun j j1 j2 => absurd j2 (by omega)) (by omega))
