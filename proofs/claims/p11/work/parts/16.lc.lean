theorem mulL {x y : Int32} {c : Int} (hc : x.toInt = c) (h1 : -2147483648 ≤ c * y.toInt) (h2 : c * y.toInt < 2147483648) : (x * y).toInt = c * y.toInt := by
  rw [← hc] at h1 h2 ⊢
  exact fb_mulI h1 h2
theorem mulR {x y : Int32} {c : Int} (hc : y.toInt = c) (h1 : -2147483648 ≤ c * x.toInt) (h2 : c * x.toInt < 2147483648) : (x * y).toInt = c * x.toInt := by
  rw [Int.mul_comm] at h1 h2 ⊢
  rw [← hc] at h1 h2 ⊢
  exact fb_mulI h1 h2
set_option maxHeartbeats 4000000 in
set_option maxRecDepth 100000 in
theorem c_X8_valueOf_f (l : Launch) (D : DG) (cyC cyI cyJ cyZ cyO : ClassId) (t0 : Nat) (t1 : Nat) (p0 : Int32) (p1 : Int32) (t_length : Int32) (t_next : Int32) (t_kind : Int32) (t_place : Int32) (t_number : Int32) (t_text : Nat → Int32) (h_t_length : 0 ≤ (t_length).toInt ∧ (t_length).toInt ≤ 1000) (h_t_next : 0 ≤ (t_next).toInt ∧ (t_next).toInt ≤ 1000) (h_t_kind : 0 ≤ (t_kind).toInt ∧ (t_kind).toInt ≤ 4) (h_t_place : 0 ≤ (t_place).toInt ∧ (t_place).toInt ≤ 1000) (h_p0 : 0 ≤ (p0).toInt ∧ (p0).toInt ≤ 1000) (h_p1 : 0 ≤ (p1).toInt ∧ (p1).toInt ≤ 1000) (h_t_text : Iv 1000 (0) (126) t_text) (hpp : (p0).toInt ≤ (p1).toInt ∧ (p1).toInt ≤ (p0).toInt + 4) (hdig : ∀ j : Nat, (p0).toInt ≤ (j : Int) → (j : Int) < (p1).toInt → isR 48 57 (t_text j) = true) : KK l D (TY cyC cyI cyJ cyZ cyO) yX8_valueOf cX8_valueOf 5 (some .int) ({ frames := 0, cells := 0, slots := 0, locals := 0 } : Room) 0 0 [.ref t0, .int p0, .int p1] [(t0, .inr (8, [.ref t1, .int t_length, .int t_next, .int t_kind, .int t_place, .int t_number])), (t1, .inl (cyC, 1000, .inl t_text))] (fun u => some (.int (u.2.1 0))) (fun u => (0 ≤ (u.2.1 0).toInt ∧ (u.2.1 0).toInt ≤ 9999) ∧ ((u.2.1 0).toInt = nV t_text (p0).toInt.toNat ((p1).toInt - (p0).toInt).toNat)) (fun u => [(t0, .inr (8, [.ref t1, .int t_length, .int t_next, .int t_kind, .int t_place, .int t_number])), (t1, .inl (cyC, 1000, .inl t_text))]) := by
  refine KK.of (lv0 := [(0, .ref t0), (1, .int p0), (2, .int p1)]) (by decide) rfl (Nat.le_of_ble_eq_true rfl) ?_
  intro p e s m args below meth c A C hr hk hin
  refine j_iconst (pc := 0) (v := 0) C dX8_valueOf_0 (by decide) ?_
  refine j_istore_n (pc := 1) (lv' := [(3, .int 0), (0, .ref t0), (1, .int p0), (2, .int p1)]) C dX8_valueOf_1 rfl (by decide) rfl ?_
  refine j_iload_n (pc := 2) C dX8_valueOf_2 rfl 2 rfl ?_
  refine j_istore (pc := 3) (lv' := [(4, .int p0), (3, .int 0), (0, .ref t0), (1, .int p0), (2, .int p1)]) C dX8_valueOf_3 (by decide) rfl ?_
  have loop_1 : ∀ (k_1 : Nat) (x1_4 : Int32) (x1_3 : Int32), (0 ≤ (x1_4).toInt ∧ (x1_4).toInt ≤ 1000) → (0 ≤ (x1_3).toInt ∧ (x1_3).toInt ≤ 9999) → ((p0).toInt ≤ x1_4.toInt ∧ x1_4.toInt ≤ (p1).toInt ∧ (x1_4.toInt = (p0).toInt ∧ x1_3.toInt ≤ 0 ∨ x1_4.toInt = (p0).toInt + 1 ∧ x1_3.toInt ≤ 9 ∨ x1_4.toInt = (p0).toInt + 2 ∧ x1_3.toInt ≤ 99 ∨ x1_4.toInt = (p0).toInt + 3 ∧ x1_3.toInt ≤ 999 ∨ x1_4.toInt = (p0).toInt + 4 ∧ x1_3.toInt ≤ 9999)) → (x1_3.toInt = nV t_text (p0).toInt.toNat (x1_4.toInt - (p0).toInt).toNat) → (1000 - x1_4.toInt).toNat < k_1 → J p l e ({ frames := 0, cells := 0, slots := 0, locals := 0 } : Room) s m args below meth c D A 5 0 0 (QX below D (TY cyC cyI cyJ cyZ cyO) A (fun u => some (.int (u.2.1 0))) (fun u => (0 ≤ (u.2.1 0).toInt ∧ (u.2.1 0).toInt ≤ 9999) ∧ ((u.2.1 0).toInt = nV t_text (p0).toInt.toNat ((p1).toInt - (p0).toInt).toNat)) (fun u => [(t0, .inr (8, [.ref t1, .int t_length, .int t_next, .int t_kind, .int t_place, .int t_number])), (t1, .inl (cyC, 1000, .inl t_text))]) args s 0 0) [(t0, .inr (8, [.ref t1, .int t_length, .int t_next, .int t_kind, .int t_place, .int t_number])), (t1, .inl (cyC, 1000, .inl t_text))] 5 [(4, .int x1_4), (3, .int x1_3), (0, .ref t0), (1, .int p0), (2, .int p1)] [] := by
    intro k_1
    induction k_1 with
    | zero =>
      intro x1_4 x1_3 hi_1_0 hi_1_1 hr_1 hq_1_0 hm_1
      exact absurd hm_1 (Nat.not_lt_zero _)
    | succ k_1 ih_1 =>
      intro x1_4 x1_3 hi_1_0 hi_1_1 hr_1 hq_1_0 hm_1
      refine j_iload (pc := 5) C dX8_valueOf_5 0 rfl ?_
      refine j_iload_n (pc := 7) C dX8_valueOf_7 rfl 4 rfl ?_
      refine j_icmp_ge (pc := 8) (tgt := 33) C dX8_valueOf_8 (by decide) (fun c_2 => ?_) (fun c_2 => ?_)
      · skip
        rw [i_le] at c_2
        refine j_iload_n (pc := 33) C dX8_valueOf_33 rfl 1 rfl ?_
        exact j_iret (pc := 34) C hr hk (fun i => [].getD i 0, fun i => [x1_3].getD i 0, fun i => [].getD i (fun _ => 0), fun i => [].getD i (fun _ => 0)) rfl (show (0 ≤ (x1_3).toInt ∧ (x1_3).toInt ≤ 9999) ∧ (x1_3.toInt = nV t_text (p0).toInt.toNat ((p1).toInt - (p0).toInt).toNat) from ⟨hi_1_1, (by rw [show ((p1).toInt - (p0).toInt).toNat = ((x1_4).toInt - (p0).toInt).toNat from (by omega)]; exact hq_1_0)⟩) [0, 1] (by decide) rfl (by decide) (by decide) dX8_valueOf_34
      · skip
        rw [i_le] at c_2
        refine j_iload_n (pc := 11) C dX8_valueOf_11 rfl 1 rfl ?_
        refine j_bipush (pc := 12) (v := 10) C dX8_valueOf_12 (by decide) ?_
        obtain ⟨v_3, ev_3⟩ : ∃ z : Int32, x1_3 * 10 = z := ⟨_, rfl⟩
        have el_10 : (10 : Int32).toInt = 10 := rfl
        have hv_3 : v_3.toInt = 10 * x1_3.toInt := by rw [← ev_3]; exact mulR (c := 10) rfl (by omega) (by omega)
        refine j_imul (pc := 14) (v := v_3) C dX8_valueOf_14 ev_3 ?_
        refine j_aload_n (pc := 15) C dX8_valueOf_15 rfl 2 rfl ?_
        refine j_get (pc := 16) (ci := 8) (v := .ref t1) C inw_8 0 rfl rfl 0 (by decide) wd_255 rfl rfl dX8_valueOf_16 ?_
        refine j_iload (pc := 19) C dX8_valueOf_19 0 rfl ?_
        obtain ⟨v_4, ev_4⟩ : ∃ z, t_text (x1_4).toInt.toNat = z := ⟨_, rfl⟩
        have env_4 : (t_text (x1_4).toInt.toNat).toInt = v_4.toInt := by rw [ev_4]
        have hv_4 := h_t_text (x1_4).toInt.toNat (i_lt_n hi_1_0.1 (by omega)); rw [ev_4] at hv_4
        refine j_cald (pc := 21) (v := v_4) (k := (x1_4).toInt.toNat) C 1 0 rfl rfl (i_nn hi_1_0.1) rfl (i_lt_n hi_1_0.1 (by omega)) ev_4 dX8_valueOf_21 ?_
        have hd9 := of_decide_eq_true (hdig (x1_4).toInt.toNat (by omega) (by omega))
        rw [ev_4] at hd9
        have el_48 : (48 : Int32).toInt = 48 := rfl
        have el_57 : (57 : Int32).toInt = 57 := rfl
        obtain ⟨v_5, ev_5⟩ : ∃ z : Int32, v_3 + v_4 = z := ⟨_, rfl⟩
        have hv_5 : v_5.toInt = v_3.toInt + v_4.toInt := by rw [← ev_5]; exact fb_addI (by omega) (by omega)
        refine j_iadd (pc := 22) (v := v_5) C dX8_valueOf_22 ev_5 ?_
        refine j_bipush (pc := 23) (v := 48) C dX8_valueOf_23 (by decide) ?_
        obtain ⟨v_6, ev_6⟩ : ∃ z : Int32, v_5 - 48 = z := ⟨_, rfl⟩
        have el_48 : (48 : Int32).toInt = 48 := rfl
        have hv_6 : v_6.toInt = v_5.toInt - (48 : Int32).toInt := by rw [← ev_6]; exact fb_subI (by omega) (by omega)
        refine j_isub (pc := 25) (v := v_6) C dX8_valueOf_25 ev_6 ?_
        refine j_istore_n (pc := 26) (lv' := [(3, .int v_6), (4, .int x1_4), (0, .ref t0), (1, .int p0), (2, .int p1)]) C dX8_valueOf_26 rfl (by decide) rfl ?_
        obtain ⟨v_7, ev_7⟩ : ∃ z : Int32, x1_4 + 1 = z := ⟨_, rfl⟩
        have el_1 : (1 : Int32).toInt = 1 := rfl
        have hv_7 : v_7.toInt = x1_4.toInt + (1 : Int32).toInt := by rw [← ev_7]; exact fb_addI (by omega) (by omega)
        refine j_iinc (pc := 27) (v := v_7) (lv' := [(4, .int v_7), (3, .int v_6), (0, .ref t0), (1, .int p0), (2, .int p1)]) C dX8_valueOf_27 1 rfl ev_7 (by decide) rfl ?_
        refine j_goto (pc := 30) (tgt := 5) C dX8_valueOf_30 (by decide) ?_
        exact j_lv [0, 1, 2, 3, 4] rfl (ih_1 v_7 v_6 (by omega) (by omega) (by omega) (by rw [show ((v_7).toInt - (p0).toInt).toNat = ((x1_4).toInt - (p0).toInt).toNat + 1 from (by omega)]; show (v_6).toInt = 10 * nV t_text (p0).toInt.toNat ((x1_4).toInt - (p0).toInt).toNat + (t_text ((p0).toInt.toNat + ((x1_4).toInt - (p0).toInt).toNat)).toInt - 48; rw [← hq_1_0, show (p0).toInt.toNat + ((x1_4).toInt - (p0).toInt).toNat = (x1_4).toInt.toNat from (by omega), ev_4]; omega) (by omega))
  have el_0 : (0 : Int32).toInt = 0 := rfl
  exact j_lv [0, 1, 2, 3, 4] rfl (loop_1 4096 p0 0 h_p0 (by decide) (by omega) (by rw [show ((p0).toInt - (p0).toInt).toNat = 0 from (by omega)]; rfl) (by omega))
