theorem wd_596 : Cond.code yX8_add cX8_add 3 none ∈ WALL := wl_in (by decide +kernel) (by decide +kernel)
theorem wd_597 : Cond.methodLink RX10 86 yX8_add ∈ WALL := wl_in (by decide +kernel) (by decide +kernel)
theorem wd_598 : Cond.instanceMethod yX8_add ∈ WALL := wl_in (by decide +kernel) (by decide +kernel)
theorem wd_599 : Cond.selects RX8 yX8_add yX8_add ∈ WALL := wl_in (by decide +kernel) (by decide +kernel)
theorem wd_600 : Cond.code yX10_feedBytes cX10_feedBytes 4 none ∈ WALL := wl_in (by decide +kernel) (by decide +kernel)
theorem wd_601 : Cond.methodLink RX10 72 yX10_feedBytes ∈ WALL := wl_in (by decide +kernel) (by decide +kernel)
theorem wd_602 : Cond.instanceMethod yX10_feedBytes ∈ WALL := wl_in (by decide +kernel) (by decide +kernel)
theorem wd_603 : Cond.selects RX10 yX10_feedBytes yX10_feedBytes ∈ WALL := wl_in (by decide +kernel) (by decide +kernel)
theorem dX10_feedBytes_0 : decode cX10_feedBytes 0 = .ok (.bipush 56, 2) := by decide +kernel
theorem dX10_feedBytes_2 : decode cX10_feedBytes 2 = .ok (.istore_n 3, 1) := by decide +kernel
theorem dX10_feedBytes_3 : decode cX10_feedBytes 3 = .ok (.iload_n 3, 1) := by decide +kernel
theorem dX10_feedBytes_4 : decode cX10_feedBytes 4 = .ok (.ifCond .lt 27, 3) := by decide +kernel
theorem dX10_feedBytes_7 : decode cX10_feedBytes 7 = .ok (.aload_n 0, 1) := by decide +kernel
theorem dX10_feedBytes_8 : decode cX10_feedBytes 8 = .ok (.getfield 10, 3) := by decide +kernel
theorem dX10_feedBytes_11 : decode cX10_feedBytes 11 = .ok (.getfield 76, 3) := by decide +kernel
theorem dX10_feedBytes_14 : decode cX10_feedBytes 14 = .ok (.lload_n 1, 1) := by decide +kernel
theorem dX10_feedBytes_15 : decode cX10_feedBytes 15 = .ok (.iload_n 3, 1) := by decide +kernel
theorem dX10_feedBytes_16 : decode cX10_feedBytes 16 = .ok (.lushr, 1) := by decide +kernel
theorem dX10_feedBytes_17 : decode cX10_feedBytes 17 = .ok (.l2i, 1) := by decide +kernel
theorem dX10_feedBytes_18 : decode cX10_feedBytes 18 = .ok (.sipush 255, 3) := by decide +kernel
theorem dX10_feedBytes_21 : decode cX10_feedBytes 21 = .ok (.iand, 1) := by decide +kernel
theorem dX10_feedBytes_22 : decode cX10_feedBytes 22 = .ok (.invokevirtual 86, 3) := by decide +kernel
theorem dX10_feedBytes_25 : decode cX10_feedBytes 25 = .ok (.iinc 3 (-8), 3) := by decide +kernel
theorem dX10_feedBytes_28 : decode cX10_feedBytes 28 = .ok (.goto (-25), 3) := by decide +kernel
theorem dX10_feedBytes_31 : decode cX10_feedBytes 31 = .ok (.return_, 1) := by decide +kernel
theorem dX10_feed_0 : decode cX10_feed 0 = .ok (.aload_n 0, 1) := by decide +kernel
theorem dX10_feed_1 : decode cX10_feed 1 = .ok (.lload_n 1, 1) := by decide +kernel
theorem dX10_feed_2 : decode cX10_feed 2 = .ok (.invokevirtual 72, 3) := by decide +kernel
theorem dX10_feed_5 : decode cX10_feed 5 = .ok (.aload_n 0, 1) := by decide +kernel
theorem dX10_feed_6 : decode cX10_feed 6 = .ok (.lload_n 3, 1) := by decide +kernel
theorem dX10_feed_7 : decode cX10_feed 7 = .ok (.invokevirtual 72, 3) := by decide +kernel
theorem dX10_feed_10 : decode cX10_feed 10 = .ok (.aload_n 0, 1) := by decide +kernel
theorem dX10_feed_11 : decode cX10_feed 11 = .ok (.lload 5, 2) := by decide +kernel
theorem dX10_feed_13 : decode cX10_feed 13 = .ok (.invokevirtual 72, 3) := by decide +kernel
theorem dX10_feed_16 : decode cX10_feed 16 = .ok (.aload_n 0, 1) := by decide +kernel
theorem dX10_feed_17 : decode cX10_feed 17 = .ok (.getfield 10, 3) := by decide +kernel
theorem dX10_feed_20 : decode cX10_feed 20 = .ok (.getfield 76, 3) := by decide +kernel
theorem dX10_feed_23 : decode cX10_feed 23 = .ok (.getfield 80, 3) := by decide +kernel
theorem dX10_feed_26 : decode cX10_feed 26 = .ok (.ireturn, 1) := by decide +kernel
set_option maxHeartbeats 4000000 in
set_option maxRecDepth 100000 in
theorem c_X8_add_f (l : Launch) (D : DG) (cyC cyI cyJ cyZ cyO : ClassId) (t0 : Nat) (t1 : Nat) (p0 : Int32) (t_length : Int32) (t_next : Int32) (t_kind : Int32) (t_place : Int32) (t_number : Int32) (t_text : Nat → Int32) (h_t_length : 0 ≤ (t_length).toInt ∧ (t_length).toInt ≤ 1000) (h_t_next : 0 ≤ (t_next).toInt ∧ (t_next).toInt ≤ 1000) (h_t_kind : 0 ≤ (t_kind).toInt ∧ (t_kind).toInt ≤ 4) (h_t_place : 0 ≤ (t_place).toInt ∧ (t_place).toInt ≤ 1000) (h_t_text : Iv 1000 (0) (126) t_text) (ht3 : ¬ (t_kind).toInt = 3 ∨ (t_place).toInt ≤ 999) : KK l D (TY cyC cyI cyJ cyZ cyO) yX8_add cX8_add 3 none ({ frames := 0, cells := 0, slots := 0, locals := 0 } : Room) 0 0 [.ref t0, .int p0] [(t0, .inr (8, [.ref t1, .int t_length, .int t_next, .int t_kind, .int t_place, .int t_number])), (t1, .inl (cyC, 1000, .inl t_text))] (fun u => none) (fun u => (0 ≤ (u.2.1 0).toInt ∧ (u.2.1 0).toInt ≤ 1000) ∧ (Iv 1000 (0) (126) (u.2.2.1 0)) ∧ (((u.2.1 0)).toInt = ladd (t_length).toInt p0) ∧ ((u.2.2.1 0) = lrow t_text (t_length).toInt p0) ∧ (¬ (t_kind).toInt = 3 ∨ (t_place).toInt ≤ 999)) (fun u => [(t0, .inr (8, [.ref t1, .int (u.2.1 0), .int t_next, .int t_kind, .int t_place, .int t_number])), (t1, .inl (cyC, 1000, .inl (u.2.2.1 0)))]) := by
  refine KK.of (lv0 := [(0, .ref t0), (1, .int p0)]) (by decide) rfl (Nat.le_of_ble_eq_true rfl) ?_
  intro p e s m args below meth c A C hr hk hin
  refine j_iload_n (pc := 0) C dX8_add_0 rfl 1 rfl ?_
  refine j_bipush (pc := 1) (v := 10) C dX8_add_1 (by decide) ?_
  refine j_icmp_eq (pc := 3) (tgt := 18) C dX8_add_3 (by decide) (fun c_1 => ?_) (fun c_1 => ?_)
  · skip
    have el_10 : (10 : Int32).toInt = 10 := rfl
    rw [i_eq] at c_1
    refine j_iconst (pc := 18) (v := 1) C dX8_add_18 (by decide) ?_
    refine j_goto (pc := 19) (tgt := 23) C dX8_add_19 (by decide) ?_
    refine j_istore_n (pc := 23) (lv' := [(2, .int 1), (0, .ref t0), (1, .int p0)]) C dX8_add_23 rfl (by decide) rfl ?_
    refine j_iload_n (pc := 24) C dX8_add_24 rfl 0 rfl ?_
    refine j_if_eq_f (pc := 25) (tgt := 59) C dX8_add_25 (by decide) (by decide) ?_
    refine j_aload_n (pc := 28) C dX8_add_28 rfl 1 rfl ?_
    refine j_get (pc := 29) (ci := 8) (v := .int t_length) C inw_8 0 rfl rfl 1 (by decide) wd_254 rfl rfl dX8_add_29 ?_
    refine j_sipush (pc := 32) (v := 1000) C dX8_add_32 (by decide) ?_
    refine j_icmp_ge (pc := 35) (tgt := 59) C dX8_add_35 (by decide) (fun c_2 => ?_) (fun c_2 => ?_)
    · skip
      have el_1000 : (1000 : Int32).toInt = 1000 := rfl
      rw [i_le] at c_2
      exact j_vret (pc := 59) C hr hk (fun i => [].getD i 0, fun i => [t_length].getD i 0, fun i => [t_text].getD i (fun _ => 0), fun i => [].getD i (fun _ => 0)) rfl (show (0 ≤ (t_length).toInt ∧ (t_length).toInt ≤ 1000) ∧ (Iv 1000 (0) (126) t_text) ∧ ((t_length).toInt = ladd (t_length).toInt p0) ∧ (t_text = lrow t_text (t_length).toInt p0) ∧ (¬ (t_kind).toInt = 3 ∨ (t_place).toInt ≤ 999) from ⟨by omega, h_t_text, (by unfold ladd; rw [if_neg (by omega)]), (by unfold lrow; rw [if_neg (by omega)]), by omega⟩) [0, 1] (by decide) rfl (by decide) (by decide) dX8_add_59
    · skip
      have el_1000 : (1000 : Int32).toInt = 1000 := rfl
      rw [i_le] at c_2
      refine j_aload_n (pc := 38) C dX8_add_38 rfl 1 rfl ?_
      refine j_get (pc := 39) (ci := 8) (v := .ref t1) C inw_8 0 rfl rfl 0 (by decide) wd_255 rfl rfl dX8_add_39 ?_
      refine j_aload_n (pc := 42) C dX8_add_42 rfl 1 rfl ?_
      refine j_get (pc := 43) (ci := 8) (v := .int t_length) C inw_8 0 rfl rfl 1 (by decide) wd_254 rfl rfl dX8_add_43 ?_
      refine j_iload_n (pc := 46) C dX8_add_46 rfl 2 rfl ?_
      obtain ⟨v_3, ev_3⟩ : ∃ z : Int32, ((p0 : Int32).toUInt32 % 65536).toInt32 = z := ⟨_, rfl⟩
      have hv_3 : v_3.toInt = p0.toInt := by rw [← ev_3, i2c_id (by omega) (by omega)]
      refine j_i2c (pc := 47) (v := v_3) C dX8_add_47 ev_3 ?_
      obtain ⟨f_4, ef_4⟩ : ∃ z, z = upd t_text (t_length).toInt.toNat (vp_nar .char v_3) := ⟨_, rfl⟩
      have hnf_4 : vp_nar .char v_3 = v_3 := vp_nar_c (by omega) (by omega)
      have hf_4 : Iv 1000 (0) (126) f_4 := by rw [ef_4, hnf_4]; exact Iv.upd h_t_text (by omega) (by omega)
      refine j_cast (pc := 48) (k := (t_length).toInt.toNat) (ws' := [(t0, .inr (8, [.ref t1, .int t_length, .int t_next, .int t_kind, .int t_place, .int t_number])), (t1, .inl (cyC, 1000, .inl f_4))]) C 1 0 rfl rfl (i_nn (by omega)) rfl (i_lt_n (by omega) (by omega)) dX8_add_48 (by rw [ef_4]; rfl) ?_
      refine j_aload_n (pc := 49) C dX8_add_49 rfl 1 rfl ?_
      refine j_dup (pc := 50) C dX8_add_50 rfl ?_
      refine j_get (pc := 51) (ci := 8) (v := .int t_length) C inw_8 0 rfl rfl 1 (by decide) wd_254 rfl rfl dX8_add_51 ?_
      refine j_iconst (pc := 54) (v := 1) C dX8_add_54 (by decide) ?_
      obtain ⟨v_5, ev_5⟩ : ∃ z : Int32, t_length + 1 = z := ⟨_, rfl⟩
      have el_1 : (1 : Int32).toInt = 1 := rfl
      have hv_5 : v_5.toInt = t_length.toInt + (1 : Int32).toInt := by rw [← ev_5]; exact fb_addI (by omega) (by omega)
      refine j_iadd (pc := 55) (v := v_5) C dX8_add_55 ev_5 ?_
      refine j_put (pc := 56) (ci := 8) (v := .int v_5) (ws' := [(t0, .inr (8, [.ref t1, .int v_5, .int t_next, .int t_kind, .int t_place, .int t_number])), (t1, .inl (cyC, 1000, .inl f_4))]) C inw_8 0 rfl rfl 1 (by decide) wd_254 rfl tyX8_ok nmX8 rfl (tyX8_ok 1 (by decide)) rfl rfl (Nat.le_of_ble_eq_true rfl) dX8_add_56 rfl ?_
      exact j_vret (pc := 59) C hr hk (fun i => [].getD i 0, fun i => [v_5].getD i 0, fun i => [f_4].getD i (fun _ => 0), fun i => [].getD i (fun _ => 0)) rfl (show (0 ≤ (v_5).toInt ∧ (v_5).toInt ≤ 1000) ∧ (Iv 1000 (0) (126) f_4) ∧ ((v_5).toInt = ladd (t_length).toInt p0) ∧ (f_4 = lrow t_text (t_length).toInt p0) ∧ (¬ (t_kind).toInt = 3 ∨ (t_place).toInt ≤ 999) from ⟨by omega, hf_4, (by unfold ladd; rw [if_pos (by omega)]; omega), (by unfold lrow; rw [if_pos (by omega), ef_4, hnf_4, show v_3 = p0 from (i_eq _ _).mpr (by omega)]), by omega⟩) [0, 1] (by decide) rfl (by decide) (by decide) dX8_add_59
  · skip
    have el_10 : (10 : Int32).toInt = 10 := rfl
    rw [i_eq] at c_1
    refine j_iload_n (pc := 6) C dX8_add_6 rfl 1 rfl ?_
    refine j_bipush (pc := 7) (v := 32) C dX8_add_7 (by decide) ?_
    refine j_icmp_lt (pc := 9) (tgt := 22) C dX8_add_9 (by decide) (fun c_6 => ?_) (fun c_6 => ?_)
    · skip
      have el_32 : (32 : Int32).toInt = 32 := rfl
      rw [i_lt] at c_6
      refine j_iconst (pc := 22) (v := 0) C dX8_add_22 (by decide) ?_
      refine j_istore_n (pc := 23) (lv' := [(2, .int 0), (0, .ref t0), (1, .int p0)]) C dX8_add_23 rfl (by decide) rfl ?_
      refine j_iload_n (pc := 24) C dX8_add_24 rfl 0 rfl ?_
      refine j_if_eq_t (pc := 25) (tgt := 59) C dX8_add_25 (by decide) (by decide) ?_
      exact j_vret (pc := 59) C hr hk (fun i => [].getD i 0, fun i => [t_length].getD i 0, fun i => [t_text].getD i (fun _ => 0), fun i => [].getD i (fun _ => 0)) rfl (show (0 ≤ (t_length).toInt ∧ (t_length).toInt ≤ 1000) ∧ (Iv 1000 (0) (126) t_text) ∧ ((t_length).toInt = ladd (t_length).toInt p0) ∧ (t_text = lrow t_text (t_length).toInt p0) ∧ (¬ (t_kind).toInt = 3 ∨ (t_place).toInt ≤ 999) from ⟨by omega, h_t_text, (by unfold ladd; rw [if_neg (by omega)]), (by unfold lrow; rw [if_neg (by omega)]), by omega⟩) [0, 1] (by decide) rfl (by decide) (by decide) dX8_add_59
    · skip
      have el_32 : (32 : Int32).toInt = 32 := rfl
      rw [i_lt] at c_6
      refine j_iload_n (pc := 12) C dX8_add_12 rfl 1 rfl ?_
      refine j_bipush (pc := 13) (v := 126) C dX8_add_13 (by decide) ?_
      refine j_icmp_gt (pc := 15) (tgt := 22) C dX8_add_15 (by decide) (fun c_7 => ?_) (fun c_7 => ?_)
      · skip
        have el_126 : (126 : Int32).toInt = 126 := rfl
        rw [i_lt] at c_7
        refine j_iconst (pc := 22) (v := 0) C dX8_add_22 (by decide) ?_
        refine j_istore_n (pc := 23) (lv' := [(2, .int 0), (0, .ref t0), (1, .int p0)]) C dX8_add_23 rfl (by decide) rfl ?_
        refine j_iload_n (pc := 24) C dX8_add_24 rfl 0 rfl ?_
        refine j_if_eq_t (pc := 25) (tgt := 59) C dX8_add_25 (by decide) (by decide) ?_
        exact j_vret (pc := 59) C hr hk (fun i => [].getD i 0, fun i => [t_length].getD i 0, fun i => [t_text].getD i (fun _ => 0), fun i => [].getD i (fun _ => 0)) rfl (show (0 ≤ (t_length).toInt ∧ (t_length).toInt ≤ 1000) ∧ (Iv 1000 (0) (126) t_text) ∧ ((t_length).toInt = ladd (t_length).toInt p0) ∧ (t_text = lrow t_text (t_length).toInt p0) ∧ (¬ (t_kind).toInt = 3 ∨ (t_place).toInt ≤ 999) from ⟨by omega, h_t_text, (by unfold ladd; rw [if_neg (by omega)]), (by unfold lrow; rw [if_neg (by omega)]), by omega⟩) [0, 1] (by decide) rfl (by decide) (by decide) dX8_add_59
      · skip
        have el_126 : (126 : Int32).toInt = 126 := rfl
        rw [i_lt] at c_7
        refine j_iconst (pc := 18) (v := 1) C dX8_add_18 (by decide) ?_
        refine j_goto (pc := 19) (tgt := 23) C dX8_add_19 (by decide) ?_
        refine j_istore_n (pc := 23) (lv' := [(2, .int 1), (0, .ref t0), (1, .int p0)]) C dX8_add_23 rfl (by decide) rfl ?_
        refine j_iload_n (pc := 24) C dX8_add_24 rfl 0 rfl ?_
        refine j_if_eq_f (pc := 25) (tgt := 59) C dX8_add_25 (by decide) (by decide) ?_
        refine j_aload_n (pc := 28) C dX8_add_28 rfl 1 rfl ?_
        refine j_get (pc := 29) (ci := 8) (v := .int t_length) C inw_8 0 rfl rfl 1 (by decide) wd_254 rfl rfl dX8_add_29 ?_
        refine j_sipush (pc := 32) (v := 1000) C dX8_add_32 (by decide) ?_
        refine j_icmp_ge (pc := 35) (tgt := 59) C dX8_add_35 (by decide) (fun c_8 => ?_) (fun c_8 => ?_)
        · skip
          have el_1000 : (1000 : Int32).toInt = 1000 := rfl
          rw [i_le] at c_8
          exact j_vret (pc := 59) C hr hk (fun i => [].getD i 0, fun i => [t_length].getD i 0, fun i => [t_text].getD i (fun _ => 0), fun i => [].getD i (fun _ => 0)) rfl (show (0 ≤ (t_length).toInt ∧ (t_length).toInt ≤ 1000) ∧ (Iv 1000 (0) (126) t_text) ∧ ((t_length).toInt = ladd (t_length).toInt p0) ∧ (t_text = lrow t_text (t_length).toInt p0) ∧ (¬ (t_kind).toInt = 3 ∨ (t_place).toInt ≤ 999) from ⟨by omega, h_t_text, (by unfold ladd; rw [if_neg (by omega)]), (by unfold lrow; rw [if_neg (by omega)]), by omega⟩) [0, 1] (by decide) rfl (by decide) (by decide) dX8_add_59
        · skip
          have el_1000 : (1000 : Int32).toInt = 1000 := rfl
          rw [i_le] at c_8
          refine j_aload_n (pc := 38) C dX8_add_38 rfl 1 rfl ?_
          refine j_get (pc := 39) (ci := 8) (v := .ref t1) C inw_8 0 rfl rfl 0 (by decide) wd_255 rfl rfl dX8_add_39 ?_
          refine j_aload_n (pc := 42) C dX8_add_42 rfl 1 rfl ?_
          refine j_get (pc := 43) (ci := 8) (v := .int t_length) C inw_8 0 rfl rfl 1 (by decide) wd_254 rfl rfl dX8_add_43 ?_
          refine j_iload_n (pc := 46) C dX8_add_46 rfl 2 rfl ?_
          obtain ⟨v_9, ev_9⟩ : ∃ z : Int32, ((p0 : Int32).toUInt32 % 65536).toInt32 = z := ⟨_, rfl⟩
          have hv_9 : v_9.toInt = p0.toInt := by rw [← ev_9, i2c_id (by omega) (by omega)]
          refine j_i2c (pc := 47) (v := v_9) C dX8_add_47 ev_9 ?_
          obtain ⟨f_10, ef_10⟩ : ∃ z, z = upd t_text (t_length).toInt.toNat (vp_nar .char v_9) := ⟨_, rfl⟩
          have hnf_10 : vp_nar .char v_9 = v_9 := vp_nar_c (by omega) (by omega)
          have hf_10 : Iv 1000 (0) (126) f_10 := by rw [ef_10, hnf_10]; exact Iv.upd h_t_text (by omega) (by omega)
          refine j_cast (pc := 48) (k := (t_length).toInt.toNat) (ws' := [(t0, .inr (8, [.ref t1, .int t_length, .int t_next, .int t_kind, .int t_place, .int t_number])), (t1, .inl (cyC, 1000, .inl f_10))]) C 1 0 rfl rfl (i_nn (by omega)) rfl (i_lt_n (by omega) (by omega)) dX8_add_48 (by rw [ef_10]; rfl) ?_
          refine j_aload_n (pc := 49) C dX8_add_49 rfl 1 rfl ?_
          refine j_dup (pc := 50) C dX8_add_50 rfl ?_
          refine j_get (pc := 51) (ci := 8) (v := .int t_length) C inw_8 0 rfl rfl 1 (by decide) wd_254 rfl rfl dX8_add_51 ?_
          refine j_iconst (pc := 54) (v := 1) C dX8_add_54 (by decide) ?_
          obtain ⟨v_11, ev_11⟩ : ∃ z : Int32, t_length + 1 = z := ⟨_, rfl⟩
          have el_1 : (1 : Int32).toInt = 1 := rfl
          have hv_11 : v_11.toInt = t_length.toInt + (1 : Int32).toInt := by rw [← ev_11]; exact fb_addI (by omega) (by omega)
          refine j_iadd (pc := 55) (v := v_11) C dX8_add_55 ev_11 ?_
          refine j_put (pc := 56) (ci := 8) (v := .int v_11) (ws' := [(t0, .inr (8, [.ref t1, .int v_11, .int t_next, .int t_kind, .int t_place, .int t_number])), (t1, .inl (cyC, 1000, .inl f_10))]) C inw_8 0 rfl rfl 1 (by decide) wd_254 rfl tyX8_ok nmX8 rfl (tyX8_ok 1 (by decide)) rfl rfl (Nat.le_of_ble_eq_true rfl) dX8_add_56 rfl ?_
          exact j_vret (pc := 59) C hr hk (fun i => [].getD i 0, fun i => [v_11].getD i 0, fun i => [f_10].getD i (fun _ => 0), fun i => [].getD i (fun _ => 0)) rfl (show (0 ≤ (v_11).toInt ∧ (v_11).toInt ≤ 1000) ∧ (Iv 1000 (0) (126) f_10) ∧ ((v_11).toInt = ladd (t_length).toInt p0) ∧ (f_10 = lrow t_text (t_length).toInt p0) ∧ (¬ (t_kind).toInt = 3 ∨ (t_place).toInt ≤ 999) from ⟨by omega, hf_10, (by unfold ladd; rw [if_pos (by omega)]; omega), (by unfold lrow; rw [if_pos (by omega), ef_10, hnf_10, show v_9 = p0 from (i_eq _ _).mpr (by omega)]), by omega⟩) [0, 1] (by decide) rfl (by decide) (by decide) dX8_add_59
set_option maxHeartbeats 4000000 in
set_option maxRecDepth 100000 in
theorem c_X10_feedBytes_f (l : Launch) (D : DG) (cyC cyI cyJ cyZ cyO : ClassId) (x0 : Nat) (r0 : Nat) (t0 : Nat) (t1 : Nat) (a0 : Nat) (n0 : Nat) (k0 : Nat) (x1 : Nat) (q0 : Nat) (o0 : Nat) (h0 : Nat) (s0 : Nat) (d0 : Nat) (e0 : Nat) (r1 : Nat) (r2 : Nat) (b0 : Nat) (r_habits : Int32) (r_fault : Int32) (t_length : Int32) (t_next : Int32) (t_kind : Int32) (t_place : Int32) (t_number : Int32) (p0 : Int64) (t_text : Nat → Int32) (h_t_length : 0 ≤ (t_length).toInt ∧ (t_length).toInt ≤ 1000) (h_t_next : 0 ≤ (t_next).toInt ∧ (t_next).toInt ≤ 1000) (h_t_kind : 0 ≤ (t_kind).toInt ∧ (t_kind).toInt ≤ 4) (h_t_place : 0 ≤ (t_place).toInt ∧ (t_place).toInt ≤ 1000) (h_t_text : Iv 1000 (0) (126) t_text) (ht3 : ¬ (t_kind).toInt = 3 ∨ (t_place).toInt ≤ 999) : KK l D (TY cyC cyI cyJ cyZ cyO) yX10_feedBytes cX10_feedBytes 4 none ({ frames := 1, cells := 0, slots := 0, locals := 22 } : Room) 0 0 [.ref x0, .long p0] [(x0, .inr (10, [.ref r0, .ref a0, .ref n0, .ref k0, .ref x1, .ref q0, .ref o0, .ref h0, .ref s0, .ref d0])), (r0, .inr (5, [.ref t0, .ref e0, .ref r1, .ref r2, .ref b0, .int r_habits, .int r_fault])), (t0, .inr (8, [.ref t1, .int t_length, .int t_next, .int t_kind, .int t_place, .int t_number])), (t1, .inl (cyC, 1000, .inl t_text))] (fun u => none) (fun u => (0 ≤ (u.2.1 0).toInt ∧ (u.2.1 0).toInt ≤ 1000) ∧ (Iv 1000 (0) (126) (u.2.2.1 0)) ∧ (¬ (t_kind).toInt = 3 ∨ (t_place).toInt ≤ 999) ∧ (((u.2.1 0)).toInt = layN (t_length).toInt p0 8) ∧ ((u.2.2.1 0) = layF t_text (t_length).toInt p0 8)) (fun u => [(x0, .inr (10, [.ref r0, .ref a0, .ref n0, .ref k0, .ref x1, .ref q0, .ref o0, .ref h0, .ref s0, .ref d0])), (r0, .inr (5, [.ref t0, .ref e0, .ref r1, .ref r2, .ref b0, .int r_habits, .int r_fault])), (t0, .inr (8, [.ref t1, .int (u.2.1 0), .int t_next, .int t_kind, .int t_place, .int t_number])), (t1, .inl (cyC, 1000, .inl (u.2.2.1 0)))]) := by
  refine KK.of (lv0 := [(0, .ref x0), (1, .long p0)]) (by decide) rfl (Nat.le_of_ble_eq_true rfl) ?_
  intro p e s m args below meth c A C hr hk hin
  refine j_bipush (pc := 0) (v := 56) C dX10_feedBytes_0 (by decide) ?_
  refine j_istore_n (pc := 2) (lv' := [(3, .int 56), (0, .ref x0), (1, .long p0)]) C dX10_feedBytes_2 rfl (by decide) rfl ?_
  have loop_1 : ∀ (k_1 : Nat) (x1_3 : Int32) (y1_t0_1 : Int32) (g1_t1 : Nat → Int32), (-8 ≤ (x1_3).toInt ∧ (x1_3).toInt ≤ 56) → (0 ≤ (y1_t0_1).toInt ∧ (y1_t0_1).toInt ≤ 1000) → (Iv 1000 (0) (126) g1_t1) → (x1_3.toInt % 8 = 0 ∧ (¬ t_kind.toInt = 3 ∨ t_place.toInt ≤ 999)) → (y1_t0_1.toInt = layN (t_length).toInt p0 ((56 - x1_3.toInt) / 8).toNat) → (g1_t1 = layF t_text (t_length).toInt p0 ((56 - x1_3.toInt) / 8).toNat) → (x1_3.toInt + 9).toNat < k_1 → J p l e ({ frames := 1, cells := 0, slots := 0, locals := 22 } : Room) s m args below meth c D A 4 0 0 (QX below D (TY cyC cyI cyJ cyZ cyO) A (fun u => none) (fun u => (0 ≤ (u.2.1 0).toInt ∧ (u.2.1 0).toInt ≤ 1000) ∧ (Iv 1000 (0) (126) (u.2.2.1 0)) ∧ (¬ (t_kind).toInt = 3 ∨ (t_place).toInt ≤ 999) ∧ (((u.2.1 0)).toInt = layN (t_length).toInt p0 8) ∧ ((u.2.2.1 0) = layF t_text (t_length).toInt p0 8)) (fun u => [(x0, .inr (10, [.ref r0, .ref a0, .ref n0, .ref k0, .ref x1, .ref q0, .ref o0, .ref h0, .ref s0, .ref d0])), (r0, .inr (5, [.ref t0, .ref e0, .ref r1, .ref r2, .ref b0, .int r_habits, .int r_fault])), (t0, .inr (8, [.ref t1, .int (u.2.1 0), .int t_next, .int t_kind, .int t_place, .int t_number])), (t1, .inl (cyC, 1000, .inl (u.2.2.1 0)))]) args s 0 0) [(x0, .inr (10, [.ref r0, .ref a0, .ref n0, .ref k0, .ref x1, .ref q0, .ref o0, .ref h0, .ref s0, .ref d0])), (r0, .inr (5, [.ref t0, .ref e0, .ref r1, .ref r2, .ref b0, .int r_habits, .int r_fault])), (t0, .inr (8, [.ref t1, .int y1_t0_1, .int t_next, .int t_kind, .int t_place, .int t_number])), (t1, .inl (cyC, 1000, .inl g1_t1))] 3 [(3, .int x1_3), (0, .ref x0), (1, .long p0)] [] := by
    intro k_1
    induction k_1 with
    | zero =>
      intro x1_3 y1_t0_1 g1_t1 hi_1_0 hi_1_1 hi_1_2 hr_1 hq_1_0 hq_1_1 hm_1
      exact absurd hm_1 (Nat.not_lt_zero _)
    | succ k_1 ih_1 =>
      intro x1_3 y1_t0_1 g1_t1 hi_1_0 hi_1_1 hi_1_2 hr_1 hq_1_0 hq_1_1 hm_1
      refine j_iload_n (pc := 3) C dX10_feedBytes_3 rfl 0 rfl ?_
      refine j_if_lt (pc := 4) (tgt := 31) C dX10_feedBytes_4 (by decide) (fun c_2 => ?_) (fun c_2 => ?_)
      · skip
        have el_0 : (0 : Int32).toInt = 0 := rfl
        rw [i_lt] at c_2
        exact j_vret (pc := 31) C hr hk (fun i => [].getD i 0, fun i => [y1_t0_1].getD i 0, fun i => [g1_t1].getD i (fun _ => 0), fun i => [].getD i (fun _ => 0)) rfl (show (0 ≤ (y1_t0_1).toInt ∧ (y1_t0_1).toInt ≤ 1000) ∧ (Iv 1000 (0) (126) g1_t1) ∧ (¬ (t_kind).toInt = 3 ∨ (t_place).toInt ≤ 999) ∧ ((y1_t0_1).toInt = layN (t_length).toInt p0 8) ∧ (g1_t1 = layF t_text (t_length).toInt p0 8) from ⟨by omega, hi_1_2, by omega, (by have e8 : ((56 - (x1_3).toInt) / 8).toNat = 8 := (by omega); rw [← e8]; exact hq_1_0), (by have e8 : ((56 - (x1_3).toInt) / 8).toNat = 8 := (by omega); rw [← e8]; exact hq_1_1)⟩) [0, 1, 2, 3] (by decide) rfl (by decide) (by decide) dX10_feedBytes_31
      · skip
        have el_0 : (0 : Int32).toInt = 0 := rfl
        rw [i_lt] at c_2
        refine j_aload_n (pc := 7) C dX10_feedBytes_7 rfl 1 rfl ?_
        refine j_get (pc := 8) (ci := 10) (v := .ref r0) C inw_10 0 rfl rfl 0 (by decide) wd_541 rfl rfl dX10_feedBytes_8 ?_
        refine j_get (pc := 11) (ci := 5) (v := .ref t0) C inw_5 1 rfl rfl 0 (by decide) wd_542 rfl rfl dX10_feedBytes_11 ?_
        refine j_lload_n (pc := 14) C dX10_feedBytes_14 rfl 2 rfl ?_
        refine j_iload_n (pc := 15) C dX10_feedBytes_15 rfl 0 rfl ?_
        refine j_lushr (pc := 16) C dX10_feedBytes_16 rfl ?_
        refine j_l2i (pc := 17) C dX10_feedBytes_17 rfl ?_
        refine j_sipush (pc := 18) (v := 255) C dX10_feedBytes_18 (by decide) ?_
        obtain ⟨v_3, ev_3⟩ : ∃ z : Int32, (((p0).toUInt64 >>> ((x1_3 : Int32).toInt64.toUInt64 &&& Int64.toUInt64 63)).toInt64).toInt32 &&& 255 = z := ⟨_, rfl⟩
        have el_255 : (255 : Int32).toInt = 255 := rfl
        have hv_3 : 0 ≤ v_3.toInt ∧ v_3.toInt ≤ 255 := by rw [← ev_3]; exact andm_r _ 8 (by decide) (by decide)
        refine j_iand (pc := 21) (v := v_3) C dX10_feedBytes_21 ev_3 ?_
        refine j_callV (pc := 22) (As := [.int v_3]) (rest := []) (wr := [(x0, .inr (10, [.ref r0, .ref a0, .ref n0, .ref k0, .ref x1, .ref q0, .ref o0, .ref h0, .ref s0, .ref d0])), (r0, .inr (5, [.ref t0, .ref e0, .ref r1, .ref r2, .ref b0, .int r_habits, .int r_fault]))]) C (c_X8_add_f l D cyC cyI cyJ cyZ cyO t0 t1 v_3 y1_t0_1 t_next t_kind t_place t_number g1_t1 (by omega) (by omega) (by omega) (by omega) hi_1_2 (by omega)) wd_596 wd_258 wd_597 wd_598 wd_599 ⟨by decide, by decide, rfl⟩ rfl ⟨rfl, rfl, by decide, by decide⟩ ⟨by decide, by decide⟩ [2, 3] [0, 1] rfl rfl ⟨by decide, by decide, by decide⟩ 2 rfl rfl rfl (Nat.le_of_ble_eq_true rfl) dX10_feedBytes_22 (fun u_4 hw_5 => ?_)
        refine j_eq (ws2 := [(x0, .inr (10, [.ref r0, .ref a0, .ref n0, .ref k0, .ref x1, .ref q0, .ref o0, .ref h0, .ref s0, .ref d0])), (r0, .inr (5, [.ref t0, .ref e0, .ref r1, .ref r2, .ref b0, .int r_habits, .int r_fault])), (t0, .inr (8, [.ref t1, .int (u_4.2.1 0), .int t_next, .int t_kind, .int t_place, .int t_number])), (t1, .inl (cyC, 1000, .inl (u_4.2.2.1 0)))]) (pc2 := 25) (lv2 := [(3, .int x1_3), (0, .ref x0), (1, .long p0)]) (st2 := []) rfl rfl rfl rfl ?_
        obtain ⟨hw_5_0, hw_5_1, hw_5_2, hw_5_3, hw_5_4⟩ := hw_5
        obtain ⟨v_6, ev_6⟩ : ∃ z : Int32, x1_3 + (-8) = z := ⟨_, rfl⟩
        have el_m8 : ((-8) : Int32).toInt = (-8) := rfl
        have hv_6 : v_6.toInt = x1_3.toInt + ((-8) : Int32).toInt := by rw [← ev_6]; exact fb_addI (by omega) (by omega)
        refine j_iinc (pc := 25) (v := v_6) (lv' := [(3, .int v_6), (0, .ref x0), (1, .long p0)]) C dX10_feedBytes_25 0 rfl ev_6 (by decide) rfl ?_
        refine j_goto (pc := 28) (tgt := 3) C dX10_feedBytes_28 (by decide) ?_
        exact j_lv [0, 1, 2] rfl (ih_1 v_6 (u_4.2.1 0) (u_4.2.2.1 0) (by omega) (by omega) hw_5_1 (by omega) (by rw [show ((56 - (v_6).toInt) / 8).toNat = ((56 - (x1_3).toInt) / 8).toNat + 1 from (by omega)]; show _ = ladd (layN (t_length).toInt p0 ((56 - (x1_3).toInt) / 8).toNat) (bytS p0 (nI (56 - 8 * ((56 - (x1_3).toInt) / 8).toNat))); rw [← hq_1_0, show nI (56 - 8 * ((56 - (x1_3).toInt) / 8).toNat) = x1_3 from (by (rw [show 56 - 8 * ((56 - (x1_3).toInt) / 8).toNat = (x1_3).toInt.toNat from (by omega)]; exact nI_bk (by omega))), ← byt_eq (by omega) (by omega), show bytU p0 x1_3 = v_3 from ev_3]; exact hw_5_2) (by rw [show ((56 - (v_6).toInt) / 8).toNat = ((56 - (x1_3).toInt) / 8).toNat + 1 from (by omega)]; show _ = lrow (layF t_text (t_length).toInt p0 ((56 - (x1_3).toInt) / 8).toNat) (layN (t_length).toInt p0 ((56 - (x1_3).toInt) / 8).toNat) (bytS p0 (nI (56 - 8 * ((56 - (x1_3).toInt) / 8).toNat))); rw [← hq_1_1, ← hq_1_0, show nI (56 - 8 * ((56 - (x1_3).toInt) / 8).toNat) = x1_3 from (by (rw [show 56 - 8 * ((56 - (x1_3).toInt) / 8).toNat = (x1_3).toInt.toNat from (by omega)]; exact nI_bk (by omega))), ← byt_eq (by omega) (by omega), show bytU p0 x1_3 = v_3 from ev_3]; exact hw_5_3) (by omega))
  have el_56 : (56 : Int32).toInt = 56 := rfl
  exact j_lv [0, 1, 2] rfl (loop_1 4096 56 t_length t_text (by decide) (by omega) h_t_text (by omega) (by rw [show ((56 - (56 : Int32).toInt) / 8).toNat = 0 from rfl]; rfl) (by rw [show ((56 - (56 : Int32).toInt) / 8).toNat = 0 from rfl]; rfl) (by omega))
set_option maxHeartbeats 4000000 in
set_option maxRecDepth 100000 in
theorem c_X10_feed_f (l : Launch) (D : DG) (cyC cyI cyJ cyZ cyO : ClassId) (x0 : Nat) (r0 : Nat) (t0 : Nat) (t1 : Nat) (a0 : Nat) (n0 : Nat) (k0 : Nat) (x1 : Nat) (q0 : Nat) (o0 : Nat) (h0 : Nat) (s0 : Nat) (d0 : Nat) (e0 : Nat) (r1 : Nat) (r2 : Nat) (b0 : Nat) (r_habits : Int32) (r_fault : Int32) (t_length : Int32) (t_next : Int32) (t_kind : Int32) (t_place : Int32) (t_number : Int32) (p0 : Int64) (p1 : Int64) (p2 : Int64) (t_text : Nat → Int32) (h_t_length : 0 ≤ (t_length).toInt ∧ (t_length).toInt ≤ 1000) (h_t_next : 0 ≤ (t_next).toInt ∧ (t_next).toInt ≤ 1000) (h_t_kind : 0 ≤ (t_kind).toInt ∧ (t_kind).toInt ≤ 4) (h_t_place : 0 ≤ (t_place).toInt ∧ (t_place).toInt ≤ 1000) (h_t_text : Iv 1000 (0) (126) t_text) (ht3 : ¬ (t_kind).toInt = 3 ∨ (t_place).toInt ≤ 999) : KK l D (TY cyC cyI cyJ cyZ cyO) yX10_feed cX10_feed 7 (some .int) ({ frames := 2, cells := 0, slots := 0, locals := 45 } : Room) 0 0 [.ref x0, .long p0, .long p1, .long p2] [(x0, .inr (10, [.ref r0, .ref a0, .ref n0, .ref k0, .ref x1, .ref q0, .ref o0, .ref h0, .ref s0, .ref d0])), (r0, .inr (5, [.ref t0, .ref e0, .ref r1, .ref r2, .ref b0, .int r_habits, .int r_fault])), (t0, .inr (8, [.ref t1, .int t_length, .int t_next, .int t_kind, .int t_place, .int t_number])), (t1, .inl (cyC, 1000, .inl t_text))] (fun u => some (.int (u.2.1 0))) (fun u => (0 ≤ (u.2.1 0).toInt ∧ (u.2.1 0).toInt ≤ 1000) ∧ (0 ≤ (u.2.1 1).toInt ∧ (u.2.1 1).toInt ≤ 1000) ∧ (Iv 1000 (0) (126) (u.2.2.1 0)) ∧ (¬ (t_kind).toInt = 3 ∨ (t_place).toInt ≤ 999) ∧ ((u.2.1 0).toInt = layN (layN (layN (t_length).toInt p0 8) p1 8) p2 8) ∧ (((u.2.1 1)).toInt = (u.2.1 0).toInt) ∧ ((u.2.2.1 0) = layF (layF (layF t_text (t_length).toInt p0 8) (layN (t_length).toInt p0 8) p1 8) (layN (layN (t_length).toInt p0 8) p1 8) p2 8)) (fun u => [(x0, .inr (10, [.ref r0, .ref a0, .ref n0, .ref k0, .ref x1, .ref q0, .ref o0, .ref h0, .ref s0, .ref d0])), (r0, .inr (5, [.ref t0, .ref e0, .ref r1, .ref r2, .ref b0, .int r_habits, .int r_fault])), (t0, .inr (8, [.ref t1, .int (u.2.1 1), .int t_next, .int t_kind, .int t_place, .int t_number])), (t1, .inl (cyC, 1000, .inl (u.2.2.1 0)))]) := by
  refine KK.of (lv0 := [(0, .ref x0), (1, .long p0), (3, .long p1), (5, .long p2)]) (by decide) rfl (Nat.le_of_ble_eq_true rfl) ?_
  intro p e s m args below meth c A C hr hk hin
  refine j_aload_n (pc := 0) C dX10_feed_0 rfl 0 rfl ?_
  refine j_lload_n (pc := 1) C dX10_feed_1 rfl 1 rfl ?_
  refine j_callV (pc := 2) (As := [.long p0]) (rest := []) (wr := []) C (c_X10_feedBytes_f l D cyC cyI cyJ cyZ cyO x0 r0 t0 t1 a0 n0 k0 x1 q0 o0 h0 s0 d0 e0 r1 r2 b0 r_habits r_fault t_length t_next t_kind t_place t_number p0 t_text (by omega) (by omega) (by omega) (by omega) h_t_text (by omega)) wd_600 wd_482 wd_601 wd_602 wd_603 ⟨by decide, by decide, rfl⟩ rfl ⟨rfl, rfl, by decide, by decide⟩ ⟨by decide, by decide⟩ [0, 1, 2, 3] [] rfl rfl ⟨by decide, by decide, by decide⟩ 0 rfl rfl rfl (Nat.le_of_ble_eq_true rfl) dX10_feed_2 (fun u_1 hw_2 => ?_)
  refine j_eq (ws2 := [(x0, .inr (10, [.ref r0, .ref a0, .ref n0, .ref k0, .ref x1, .ref q0, .ref o0, .ref h0, .ref s0, .ref d0])), (r0, .inr (5, [.ref t0, .ref e0, .ref r1, .ref r2, .ref b0, .int r_habits, .int r_fault])), (t0, .inr (8, [.ref t1, .int (u_1.2.1 0), .int t_next, .int t_kind, .int t_place, .int t_number])), (t1, .inl (cyC, 1000, .inl (u_1.2.2.1 0)))]) (pc2 := 5) (lv2 := [(0, .ref x0), (1, .long p0), (3, .long p1), (5, .long p2)]) (st2 := []) rfl rfl rfl rfl ?_
  obtain ⟨hw_2_0, hw_2_1, hw_2_2, hw_2_3, hw_2_4⟩ := hw_2
  refine j_aload_n (pc := 5) C dX10_feed_5 rfl 0 rfl ?_
  refine j_lload_n (pc := 6) C dX10_feed_6 rfl 2 rfl ?_
  refine j_callV (pc := 7) (As := [.long p1]) (rest := []) (wr := []) C (c_X10_feedBytes_f l D cyC cyI cyJ cyZ cyO x0 r0 t0 t1 a0 n0 k0 x1 q0 o0 h0 s0 d0 e0 r1 r2 b0 r_habits r_fault (u_1.2.1 0) t_next t_kind t_place t_number p1 (u_1.2.2.1 0) (by omega) (by omega) (by omega) (by omega) hw_2_1 (by omega)) wd_600 wd_482 wd_601 wd_602 wd_603 ⟨by decide, by decide, rfl⟩ rfl ⟨rfl, rfl, by decide, by decide⟩ ⟨by decide, by decide⟩ [0, 1, 2, 3] [] rfl rfl ⟨by decide, by decide, by decide⟩ 0 rfl rfl rfl (Nat.le_of_ble_eq_true rfl) dX10_feed_7 (fun u_3 hw_4 => ?_)
  refine j_eq (ws2 := [(x0, .inr (10, [.ref r0, .ref a0, .ref n0, .ref k0, .ref x1, .ref q0, .ref o0, .ref h0, .ref s0, .ref d0])), (r0, .inr (5, [.ref t0, .ref e0, .ref r1, .ref r2, .ref b0, .int r_habits, .int r_fault])), (t0, .inr (8, [.ref t1, .int (u_3.2.1 0), .int t_next, .int t_kind, .int t_place, .int t_number])), (t1, .inl (cyC, 1000, .inl (u_3.2.2.1 0)))]) (pc2 := 10) (lv2 := [(0, .ref x0), (1, .long p0), (3, .long p1), (5, .long p2)]) (st2 := []) rfl rfl rfl rfl ?_
  obtain ⟨hw_4_0, hw_4_1, hw_4_2, hw_4_3, hw_4_4⟩ := hw_4
  refine j_aload_n (pc := 10) C dX10_feed_10 rfl 0 rfl ?_
  refine j_lload (pc := 11) C dX10_feed_11 3 rfl ?_
  refine j_callV (pc := 13) (As := [.long p2]) (rest := []) (wr := []) C (c_X10_feedBytes_f l D cyC cyI cyJ cyZ cyO x0 r0 t0 t1 a0 n0 k0 x1 q0 o0 h0 s0 d0 e0 r1 r2 b0 r_habits r_fault (u_3.2.1 0) t_next t_kind t_place t_number p2 (u_3.2.2.1 0) (by omega) (by omega) (by omega) (by omega) hw_4_1 (by omega)) wd_600 wd_482 wd_601 wd_602 wd_603 ⟨by decide, by decide, rfl⟩ rfl ⟨rfl, rfl, by decide, by decide⟩ ⟨by decide, by decide⟩ [0, 1, 2, 3] [] rfl rfl ⟨by decide, by decide, by decide⟩ 0 rfl rfl rfl (Nat.le_of_ble_eq_true rfl) dX10_feed_13 (fun u_5 hw_6 => ?_)
  refine j_eq (ws2 := [(x0, .inr (10, [.ref r0, .ref a0, .ref n0, .ref k0, .ref x1, .ref q0, .ref o0, .ref h0, .ref s0, .ref d0])), (r0, .inr (5, [.ref t0, .ref e0, .ref r1, .ref r2, .ref b0, .int r_habits, .int r_fault])), (t0, .inr (8, [.ref t1, .int (u_5.2.1 0), .int t_next, .int t_kind, .int t_place, .int t_number])), (t1, .inl (cyC, 1000, .inl (u_5.2.2.1 0)))]) (pc2 := 16) (lv2 := [(0, .ref x0), (1, .long p0), (3, .long p1), (5, .long p2)]) (st2 := []) rfl rfl rfl rfl ?_
  obtain ⟨hw_6_0, hw_6_1, hw_6_2, hw_6_3, hw_6_4⟩ := hw_6
  refine j_aload_n (pc := 16) C dX10_feed_16 rfl 0 rfl ?_
  refine j_get (pc := 17) (ci := 10) (v := .ref r0) C inw_10 0 rfl rfl 0 (by decide) wd_541 rfl rfl dX10_feed_17 ?_
  refine j_get (pc := 20) (ci := 5) (v := .ref t0) C inw_5 1 rfl rfl 0 (by decide) wd_542 rfl rfl dX10_feed_20 ?_
  refine j_get (pc := 23) (ci := 8) (v := .int (u_5.2.1 0)) C inw_8 2 rfl rfl 1 (by decide) wd_543 rfl rfl dX10_feed_23 ?_
  exact j_iret (pc := 26) C hr hk (fun i => [].getD i 0, fun i => [(u_5.2.1 0), (u_5.2.1 0)].getD i 0, fun i => [(u_5.2.2.1 0)].getD i (fun _ => 0), fun i => [].getD i (fun _ => 0)) rfl (show (0 ≤ ((u_5.2.1 0)).toInt ∧ ((u_5.2.1 0)).toInt ≤ 1000) ∧ (0 ≤ ((u_5.2.1 0)).toInt ∧ ((u_5.2.1 0)).toInt ≤ 1000) ∧ (Iv 1000 (0) (126) (u_5.2.2.1 0)) ∧ (¬ (t_kind).toInt = 3 ∨ (t_place).toInt ≤ 999) ∧ ((u_5.2.1 0).toInt = layN (layN (layN (t_length).toInt p0 8) p1 8) p2 8) ∧ (((u_5.2.1 0)).toInt = (u_5.2.1 0).toInt) ∧ ((u_5.2.2.1 0) = layF (layF (layF t_text (t_length).toInt p0 8) (layN (t_length).toInt p0 8) p1 8) (layN (layN (t_length).toInt p0 8) p1 8) p2 8) from ⟨by omega, by omega, hw_6_1, by omega, (by rw [hw_6_3, hw_4_3, hw_2_3]), by omega, (by rw [hw_6_4, hw_4_4, hw_2_4, hw_4_3, hw_2_3])⟩) [0, 1, 2, 3] (by decide) rfl (by decide) (by decide) dX10_feed_26
