theorem wd_4 : Cond.methodLink RX7 47 Lib.Math.max.name ∈ WALL := wl_in (by decide +kernel) (by decide +kernel)
theorem wd_5 : Cond.static Lib.Math.max.name ∈ WALL := wl_in (by decide +kernel) (by decide +kernel)
theorem wd_6 : Cond.initialized "java/lang/Math" ∈ WALL := wl_in (by decide +kernel) (by decide +kernel)
theorem wd_7 : Cond.code Lib.Math.max.name Lib.Math.max.code 2 (some .int) ∈ WALL := wl_in (by decide +kernel) (by decide +kernel)
theorem wd_8 : Cond.code yX7_stands cX7_stands 4 (some .boolean) ∈ WALL := wl_in (by decide +kernel) (by decide +kernel)
theorem wd_9 : Cond.initialized RX7 ∈ WALL := wl_in (by decide +kernel) (by decide +kernel)
theorem wd_10 : Cond.methodLink RX7 53 yX7_stands ∈ WALL := wl_in (by decide +kernel) (by decide +kernel)
theorem wd_11 : Cond.instanceMethod yX7_stands ∈ WALL := wl_in (by decide +kernel) (by decide +kernel)
theorem wd_12 : Cond.selects RX7 yX7_stands yX7_stands ∈ WALL := wl_in (by decide +kernel) (by decide +kernel)
theorem dX7_stacks_0 : decode cX7_stacks 0 = .ok (.iconst 0, 1) := by decide +kernel
theorem dX7_stacks_1 : decode cX7_stacks 1 = .ok (.istore_n 2, 1) := by decide +kernel
theorem dX7_stacks_2 : decode cX7_stacks 2 = .ok (.iconst 0, 1) := by decide +kernel
theorem dX7_stacks_3 : decode cX7_stacks 3 = .ok (.istore_n 3, 1) := by decide +kernel
theorem dX7_stacks_4 : decode cX7_stacks 4 = .ok (.iload_n 3, 1) := by decide +kernel
theorem dX7_stacks_5 : decode cX7_stacks 5 = .ok (.bipush 12, 2) := by decide +kernel
theorem dX7_stacks_7 : decode cX7_stacks 7 = .ok (.if_icmp .ge 32, 3) := by decide +kernel
theorem dX7_stacks_10 : decode cX7_stacks 10 = .ok (.aload_n 0, 1) := by decide +kernel
theorem dX7_stacks_11 : decode cX7_stacks 11 = .ok (.getfield 9, 3) := by decide +kernel
theorem dX7_stacks_14 : decode cX7_stacks 14 = .ok (.iload_n 3, 1) := by decide +kernel
theorem dX7_stacks_15 : decode cX7_stacks 15 = .ok (.iaload, 1) := by decide +kernel
theorem dX7_stacks_16 : decode cX7_stacks 16 = .ok (.iload_n 1, 1) := by decide +kernel
theorem dX7_stacks_17 : decode cX7_stacks 17 = .ok (.if_icmp .ne 16, 3) := by decide +kernel
theorem dX7_stacks_20 : decode cX7_stacks 20 = .ok (.iload_n 2, 1) := by decide +kernel
theorem dX7_stacks_21 : decode cX7_stacks 21 = .ok (.aload_n 0, 1) := by decide +kernel
theorem dX7_stacks_22 : decode cX7_stacks 22 = .ok (.getfield 15, 3) := by decide +kernel
theorem dX7_stacks_25 : decode cX7_stacks 25 = .ok (.iload_n 3, 1) := by decide +kernel
theorem dX7_stacks_26 : decode cX7_stacks 26 = .ok (.iaload, 1) := by decide +kernel
theorem dX7_stacks_27 : decode cX7_stacks 27 = .ok (.iconst 1, 1) := by decide +kernel
theorem dX7_stacks_28 : decode cX7_stacks 28 = .ok (.iadd, 1) := by decide +kernel
theorem dX7_stacks_29 : decode cX7_stacks 29 = .ok (.invokestatic 47, 3) := by decide +kernel
theorem dX7_stacks_32 : decode cX7_stacks 32 = .ok (.istore_n 2, 1) := by decide +kernel
theorem dX7_stacks_33 : decode cX7_stacks 33 = .ok (.iinc 3 1, 3) := by decide +kernel
theorem dX7_stacks_36 : decode cX7_stacks 36 = .ok (.goto (-32), 3) := by decide +kernel
theorem dX7_stacks_39 : decode cX7_stacks 39 = .ok (.iload_n 2, 1) := by decide +kernel
theorem dX7_stacks_40 : decode cX7_stacks 40 = .ok (.ireturn, 1) := by decide +kernel
theorem dX7_size_0 : decode cX7_size 0 = .ok (.iconst 0, 1) := by decide +kernel
theorem dX7_size_1 : decode cX7_size 1 = .ok (.istore_n 3, 1) := by decide +kernel
theorem dX7_size_2 : decode cX7_size 2 = .ok (.iconst 0, 1) := by decide +kernel
theorem dX7_size_3 : decode cX7_size 3 = .ok (.istore 4, 2) := by decide +kernel
theorem dX7_size_5 : decode cX7_size 5 = .ok (.iload 4, 2) := by decide +kernel
theorem dX7_size_7 : decode cX7_size 7 = .ok (.bipush 12, 2) := by decide +kernel
theorem dX7_size_9 : decode cX7_size 9 = .ok (.if_icmp .ge 28, 3) := by decide +kernel
theorem dX7_size_12 : decode cX7_size 12 = .ok (.iload_n 3, 1) := by decide +kernel
theorem dX7_size_13 : decode cX7_size 13 = .ok (.aload_n 0, 1) := by decide +kernel
theorem dX7_size_14 : decode cX7_size 14 = .ok (.iload 4, 2) := by decide +kernel
theorem dX7_size_16 : decode cX7_size 16 = .ok (.iload_n 1, 1) := by decide +kernel
theorem dX7_size_17 : decode cX7_size 17 = .ok (.iload_n 2, 1) := by decide +kernel
theorem dX7_size_18 : decode cX7_size 18 = .ok (.invokevirtual 53, 3) := by decide +kernel
theorem dX7_size_21 : decode cX7_size 21 = .ok (.ifCond .eq 7, 3) := by decide +kernel
theorem dX7_size_24 : decode cX7_size 24 = .ok (.iconst 1, 1) := by decide +kernel
theorem dX7_size_25 : decode cX7_size 25 = .ok (.goto 4, 3) := by decide +kernel
theorem dX7_size_28 : decode cX7_size 28 = .ok (.iconst 0, 1) := by decide +kernel
theorem dX7_size_29 : decode cX7_size 29 = .ok (.iadd, 1) := by decide +kernel
theorem dX7_size_30 : decode cX7_size 30 = .ok (.istore_n 3, 1) := by decide +kernel
theorem dX7_size_31 : decode cX7_size 31 = .ok (.iinc 4 1, 3) := by decide +kernel
theorem dX7_size_34 : decode cX7_size 34 = .ok (.goto (-29), 3) := by decide +kernel
theorem dX7_size_37 : decode cX7_size 37 = .ok (.iload_n 3, 1) := by decide +kernel
theorem dX7_size_38 : decode cX7_size 38 = .ok (.ireturn, 1) := by decide +kernel
set_option maxHeartbeats 4000000 in
set_option maxRecDepth 100000 in
theorem c_X7_stacks (l : Launch) (D : va_G) (cyC cyI cyJ cyZ cyO : ClassId) (n0 : Nat) (n1 : Nat) (n2 : Nat) (n3 : Nat) (n4 : Nat) (p0 : Int32) (n_askings : Int32) (n_cost : Int32) (n_laid : Int32) (n_shelf : Nat → Int32) (n_stack : Nat → Int32) (h_n_askings : 0 ≤ (n_askings).toInt ∧ (n_askings).toInt ≤ 30) (h_n_laid : 0 ≤ (n_laid).toInt ∧ (n_laid).toInt ≤ 1) (h_n_shelf : Iv 12 (-1) (3) n_shelf) : KK l D (TY cyC cyI cyJ cyZ cyO) yX7_stacks cX7_stacks 4 (some .int) ({ frames := 1, cells := 0, slots := 0, locals := 13 } : Room) 0 0 [.ref n0, .int p0] [(n0, .inr (7, [.ref n1, .ref n2, .ref n3, .ref n4, .int n_askings, .int n_cost, .int n_laid])), (n1, .inl (cyI, 12, .inl n_shelf)), (n2, .inl (cyI, 12, .inl n_stack))] (fun u => some (.int (u.2.1 0))) (fun u => True) (fun u => [(n0, .inr (7, [.ref n1, .ref n2, .ref n3, .ref n4, .int n_askings, .int n_cost, .int n_laid])), (n1, .inl (cyI, 12, .inl n_shelf)), (n2, .inl (cyI, 12, .inl n_stack))]) := by
  refine KK.of (lv0 := [(0, .ref n0), (1, .int p0)]) (by decide) rfl (Nat.le_of_ble_eq_true rfl) ?_
  intro p e s m args below meth c A C hr hk hin
  refine j_iconst (pc := 0) (v := 0) C dX7_stacks_0 (by decide) ?_
  refine j_istore_n (pc := 1) (lv' := [(2, .int 0), (0, .ref n0), (1, .int p0)]) C dX7_stacks_1 rfl (by decide) rfl ?_
  refine j_iconst (pc := 2) (v := 0) C dX7_stacks_2 (by decide) ?_
  refine j_istore_n (pc := 3) (lv' := [(3, .int 0), (2, .int 0), (0, .ref n0), (1, .int p0)]) C dX7_stacks_3 rfl (by decide) rfl ?_
  have loop_1 : ∀ (k_1 : Nat) (x1_3 : Int32) (x1_2 : Int32), (0 ≤ (x1_3).toInt ∧ (x1_3).toInt ≤ 12) → (12 - x1_3.toInt).toNat < k_1 → J p l e ({ frames := 1, cells := 0, slots := 0, locals := 13 } : Room) s m args below meth c D A 4 0 0 (QX below D (TY cyC cyI cyJ cyZ cyO) A (fun u => some (.int (u.2.1 0))) (fun u => True) (fun u => [(n0, .inr (7, [.ref n1, .ref n2, .ref n3, .ref n4, .int n_askings, .int n_cost, .int n_laid])), (n1, .inl (cyI, 12, .inl n_shelf)), (n2, .inl (cyI, 12, .inl n_stack))]) args s 0 0) [(n0, .inr (7, [.ref n1, .ref n2, .ref n3, .ref n4, .int n_askings, .int n_cost, .int n_laid])), (n1, .inl (cyI, 12, .inl n_shelf)), (n2, .inl (cyI, 12, .inl n_stack))] 4 [(3, .int x1_3), (2, .int x1_2), (0, .ref n0), (1, .int p0)] [] := by
    intro k_1
    induction k_1 with
    | zero =>
      intro x1_3 x1_2 hi_1_0 hm_1
      exact absurd hm_1 (Nat.not_lt_zero _)
    | succ k_1 ih_1 =>
      intro x1_3 x1_2 hi_1_0 hm_1
      refine j_iload_n (pc := 4) C dX7_stacks_4 rfl 0 rfl ?_
      refine j_bipush (pc := 5) (v := 12) C dX7_stacks_5 (by decide) ?_
      refine j_icmp_ge (pc := 7) (tgt := 39) C dX7_stacks_7 (by decide) (fun c_2 => ?_) (fun c_2 => ?_)
      · skip
        have el_12 : (12 : Int32).toInt = 12 := rfl
        rw [i_le] at c_2
        refine j_iload_n (pc := 39) C dX7_stacks_39 rfl 1 rfl ?_
        exact j_iret (pc := 40) C hr hk (fun _ => 0, fun i => [x1_2].getD i 0, fun i => [].getD i (fun _ => 0), fun i => [].getD i (fun _ => 0)) rfl trivial [0, 1, 2] (by decide) rfl (by decide) (by decide) dX7_stacks_40
      · skip
        have el_12 : (12 : Int32).toInt = 12 := rfl
        rw [i_le] at c_2
        refine j_aload_n (pc := 10) C dX7_stacks_10 rfl 2 rfl ?_
        refine j_get (pc := 11) (ci := 7) (v := .ref n1) C inw_7 0 rfl rfl 0 (by decide) wd_2 rfl rfl dX7_stacks_11 ?_
        refine j_iload_n (pc := 14) C dX7_stacks_14 rfl 0 rfl ?_
        obtain ⟨v_3, ev_3⟩ : ∃ z, n_shelf (x1_3).toInt.toNat = z := ⟨_, rfl⟩
        have hv_3 := h_n_shelf (x1_3).toInt.toNat (i_lt_n (by omega) (by omega)); rw [ev_3] at hv_3
        refine j_iald (pc := 15) (v := v_3) (k := (x1_3).toInt.toNat) C 1 1 rfl rfl (i_nn (by omega)) rfl (i_lt_n (by omega) (by omega)) ev_3 dX7_stacks_15 ?_
        refine j_iload_n (pc := 16) C dX7_stacks_16 rfl 3 rfl ?_
        refine j_icmp_ne (pc := 17) (tgt := 33) C dX7_stacks_17 (by decide) (fun c_4 => ?_) (fun c_4 => ?_)
        · skip
          rw [i_eq] at c_4
          obtain ⟨v_5, ev_5⟩ : ∃ z : Int32, x1_3 + 1 = z := ⟨_, rfl⟩
          have el_1 : (1 : Int32).toInt = 1 := rfl
          have hv_5 : v_5.toInt = x1_3.toInt + (1 : Int32).toInt := by rw [← ev_5]; exact fb_addI (by omega) (by omega)
          refine j_iinc (pc := 33) (v := v_5) (lv' := [(3, .int v_5), (2, .int x1_2), (0, .ref n0), (1, .int p0)]) C dX7_stacks_33 0 rfl ev_5 (by decide) rfl ?_
          refine j_goto (pc := 36) (tgt := 4) C dX7_stacks_36 (by decide) ?_
          exact j_lv [0, 1, 2, 3] rfl (ih_1 v_5 x1_2 (by omega) (by omega))
        · skip
          rw [i_eq] at c_4
          refine j_iload_n (pc := 20) C dX7_stacks_20 rfl 1 rfl ?_
          refine j_aload_n (pc := 21) C dX7_stacks_21 rfl 2 rfl ?_
          refine j_get (pc := 22) (ci := 7) (v := .ref n2) C inw_7 0 rfl rfl 1 (by decide) wd_3 rfl rfl dX7_stacks_22 ?_
          refine j_iload_n (pc := 25) C dX7_stacks_25 rfl 0 rfl ?_
          obtain ⟨v_6, ev_6⟩ : ∃ z, n_stack (x1_3).toInt.toNat = z := ⟨_, rfl⟩
          refine j_iald (pc := 26) (v := v_6) (k := (x1_3).toInt.toNat) C 2 1 rfl rfl (i_nn (by omega)) rfl (i_lt_n (by omega) (by omega)) ev_6 dX7_stacks_26 ?_
          refine j_iconst (pc := 27) (v := 1) C dX7_stacks_27 (by decide) ?_
          obtain ⟨v_7, ev_7⟩ : ∃ z : Int32, v_6 + 1 = z := ⟨_, rfl⟩
          have el_1 : (1 : Int32).toInt = 1 := rfl
          refine j_iadd (pc := 28) (v := v_7) C dX7_stacks_28 ev_7 ?_
          obtain ⟨v_8, ev_8⟩ : ∃ z : Int32, (if (x1_2 : Int32) < v_7 then v_7 else x1_2) = z := ⟨_, rfl⟩
          refine j_mmax (pc := 29) (v := v_8) C wd_4 wd_5 wd_6 wd_7 (by decide) (Nat.le_of_ble_eq_true rfl) (by decide) (by decide) ev_8 dX7_stacks_29 ?_
          refine j_istore_n (pc := 32) (lv' := [(2, .int v_8), (3, .int x1_3), (0, .ref n0), (1, .int p0)]) C dX7_stacks_32 rfl (by decide) rfl ?_
          obtain ⟨v_9, ev_9⟩ : ∃ z : Int32, x1_3 + 1 = z := ⟨_, rfl⟩
          have el_1 : (1 : Int32).toInt = 1 := rfl
          have hv_9 : v_9.toInt = x1_3.toInt + (1 : Int32).toInt := by rw [← ev_9]; exact fb_addI (by omega) (by omega)
          refine j_iinc (pc := 33) (v := v_9) (lv' := [(3, .int v_9), (2, .int v_8), (0, .ref n0), (1, .int p0)]) C dX7_stacks_33 1 rfl ev_9 (by decide) rfl ?_
          refine j_goto (pc := 36) (tgt := 4) C dX7_stacks_36 (by decide) ?_
          exact j_lv [0, 1, 2, 3] rfl (ih_1 v_9 v_8 (by omega) (by omega))
  have el_0 : (0 : Int32).toInt = 0 := rfl
  have el_0 : (0 : Int32).toInt = 0 := rfl
  exact j_lv [0, 1, 2, 3] rfl (loop_1 4096 0 0 (by decide) (by omega))
set_option maxHeartbeats 4000000 in
set_option maxRecDepth 100000 in
theorem c_X7_size (l : Launch) (D : va_G) (cyC cyI cyJ cyZ cyO : ClassId) (n0 : Nat) (n1 : Nat) (n2 : Nat) (n3 : Nat) (n4 : Nat) (p0 : Int32) (p1 : Int32) (n_askings : Int32) (n_cost : Int32) (n_laid : Int32) (n_shelf : Nat → Int32) (n_stack : Nat → Int32) (h_n_askings : 0 ≤ (n_askings).toInt ∧ (n_askings).toInt ≤ 30) (h_n_laid : 0 ≤ (n_laid).toInt ∧ (n_laid).toInt ≤ 1) (h_n_shelf : Iv 12 (-1) (3) n_shelf) : KK l D (TY cyC cyI cyJ cyZ cyO) yX7_size cX7_size 5 (some .int) ({ frames := 1, cells := 0, slots := 0, locals := 23 } : Room) 0 0 [.ref n0, .int p0, .int p1] [(n0, .inr (7, [.ref n1, .ref n2, .ref n3, .ref n4, .int n_askings, .int n_cost, .int n_laid])), (n1, .inl (cyI, 12, .inl n_shelf)), (n2, .inl (cyI, 12, .inl n_stack))] (fun u => some (.int (u.2.1 0))) (fun u => True) (fun u => [(n0, .inr (7, [.ref n1, .ref n2, .ref n3, .ref n4, .int n_askings, .int n_cost, .int n_laid])), (n1, .inl (cyI, 12, .inl n_shelf)), (n2, .inl (cyI, 12, .inl n_stack))]) := by
  refine KK.of (lv0 := [(0, .ref n0), (1, .int p0), (2, .int p1)]) (by decide) rfl (Nat.le_of_ble_eq_true rfl) ?_
  intro p e s m args below meth c A C hr hk hin
  refine j_iconst (pc := 0) (v := 0) C dX7_size_0 (by decide) ?_
  refine j_istore_n (pc := 1) (lv' := [(3, .int 0), (0, .ref n0), (1, .int p0), (2, .int p1)]) C dX7_size_1 rfl (by decide) rfl ?_
  refine j_iconst (pc := 2) (v := 0) C dX7_size_2 (by decide) ?_
  refine j_istore (pc := 3) (lv' := [(4, .int 0), (3, .int 0), (0, .ref n0), (1, .int p0), (2, .int p1)]) C dX7_size_3 (by decide) rfl ?_
  have loop_1 : ∀ (k_1 : Nat) (x1_4 : Int32) (x1_3 : Int32), (0 ≤ (x1_4).toInt ∧ (x1_4).toInt ≤ 12) → (12 - x1_4.toInt).toNat < k_1 → J p l e ({ frames := 1, cells := 0, slots := 0, locals := 23 } : Room) s m args below meth c D A 5 0 0 (QX below D (TY cyC cyI cyJ cyZ cyO) A (fun u => some (.int (u.2.1 0))) (fun u => True) (fun u => [(n0, .inr (7, [.ref n1, .ref n2, .ref n3, .ref n4, .int n_askings, .int n_cost, .int n_laid])), (n1, .inl (cyI, 12, .inl n_shelf)), (n2, .inl (cyI, 12, .inl n_stack))]) args s 0 0) [(n0, .inr (7, [.ref n1, .ref n2, .ref n3, .ref n4, .int n_askings, .int n_cost, .int n_laid])), (n1, .inl (cyI, 12, .inl n_shelf)), (n2, .inl (cyI, 12, .inl n_stack))] 5 [(4, .int x1_4), (3, .int x1_3), (0, .ref n0), (1, .int p0), (2, .int p1)] [] := by
    intro k_1
    induction k_1 with
    | zero =>
      intro x1_4 x1_3 hi_1_0 hm_1
      exact absurd hm_1 (Nat.not_lt_zero _)
    | succ k_1 ih_1 =>
      intro x1_4 x1_3 hi_1_0 hm_1
      refine j_iload (pc := 5) C dX7_size_5 0 rfl ?_
      refine j_bipush (pc := 7) (v := 12) C dX7_size_7 (by decide) ?_
      refine j_icmp_ge (pc := 9) (tgt := 37) C dX7_size_9 (by decide) (fun c_2 => ?_) (fun c_2 => ?_)
      · skip
        have el_12 : (12 : Int32).toInt = 12 := rfl
        rw [i_le] at c_2
        refine j_iload_n (pc := 37) C dX7_size_37 rfl 1 rfl ?_
        exact j_iret (pc := 38) C hr hk (fun _ => 0, fun i => [x1_3].getD i 0, fun i => [].getD i (fun _ => 0), fun i => [].getD i (fun _ => 0)) rfl trivial [0, 1, 2] (by decide) rfl (by decide) (by decide) dX7_size_38
      · skip
        have el_12 : (12 : Int32).toInt = 12 := rfl
        rw [i_le] at c_2
        refine j_iload_n (pc := 12) C dX7_size_12 rfl 1 rfl ?_
        refine j_aload_n (pc := 13) C dX7_size_13 rfl 2 rfl ?_
        refine j_iload (pc := 14) C dX7_size_14 0 rfl ?_
        refine j_iload_n (pc := 16) C dX7_size_16 rfl 3 rfl ?_
        refine j_iload_n (pc := 17) C dX7_size_17 rfl 4 rfl ?_
        refine j_callV (pc := 18) (As := [.int x1_4, .int p0, .int p1]) (rest := [.int x1_3]) (wr := []) C (c_X7_stands l D cyC cyI cyJ cyZ cyO n0 n1 n2 n3 n4 x1_4 p0 p1 n_askings n_cost n_laid n_shelf n_stack (by omega) (by omega) (by omega) h_n_shelf) wd_8 wd_9 wd_10 wd_11 wd_12 ⟨by decide, by decide, rfl⟩ rfl ⟨rfl, rfl, by decide, by decide⟩ ⟨by decide, by decide⟩ [0, 1, 2] [] rfl rfl ⟨by decide, by decide, by decide⟩ 0 rfl rfl rfl (Nat.le_of_ble_eq_true rfl) dX7_size_18 (fun u_3 hw_4 => ?_)
        refine j_eq (ws2 := [(n0, .inr (7, [.ref n1, .ref n2, .ref n3, .ref n4, .int n_askings, .int n_cost, .int n_laid])), (n1, .inl (cyI, 12, .inl n_shelf)), (n2, .inl (cyI, 12, .inl n_stack))]) (pc2 := 21) (lv2 := [(4, .int x1_4), (3, .int x1_3), (0, .ref n0), (1, .int p0), (2, .int p1)]) (st2 := [.int (u_3.2.1 0), .int x1_3]) rfl rfl rfl rfl ?_
        have hw_4_0 : 0 ≤ (u_3.2.1 0).toInt ∧ (u_3.2.1 0).toInt ≤ 1 := hw_4
        refine j_if_eq (pc := 21) (tgt := 28) C dX7_size_21 (by decide) (fun c_5 => ?_) (fun c_5 => ?_)
        · skip
          have el_0 : (0 : Int32).toInt = 0 := rfl
          rw [i_eq] at c_5
          refine j_iconst (pc := 28) (v := 0) C dX7_size_28 (by decide) ?_
          obtain ⟨v_6, ev_6⟩ : ∃ z : Int32, x1_3 + 0 = z := ⟨_, rfl⟩
          have el_0 : (0 : Int32).toInt = 0 := rfl
          refine j_iadd (pc := 29) (v := v_6) C dX7_size_29 ev_6 ?_
          refine j_istore_n (pc := 30) (lv' := [(3, .int v_6), (4, .int x1_4), (0, .ref n0), (1, .int p0), (2, .int p1)]) C dX7_size_30 rfl (by decide) rfl ?_
          obtain ⟨v_7, ev_7⟩ : ∃ z : Int32, x1_4 + 1 = z := ⟨_, rfl⟩
          have el_1 : (1 : Int32).toInt = 1 := rfl
          have hv_7 : v_7.toInt = x1_4.toInt + (1 : Int32).toInt := by rw [← ev_7]; exact fb_addI (by omega) (by omega)
          refine j_iinc (pc := 31) (v := v_7) (lv' := [(4, .int v_7), (3, .int v_6), (0, .ref n0), (1, .int p0), (2, .int p1)]) C dX7_size_31 1 rfl ev_7 (by decide) rfl ?_
          refine j_goto (pc := 34) (tgt := 5) C dX7_size_34 (by decide) ?_
          exact j_lv [0, 1, 2, 3, 4] rfl (ih_1 v_7 v_6 (by omega) (by omega))
        · skip
          have el_0 : (0 : Int32).toInt = 0 := rfl
          rw [i_eq] at c_5
          refine j_iconst (pc := 24) (v := 1) C dX7_size_24 (by decide) ?_
          refine j_goto (pc := 25) (tgt := 29) C dX7_size_25 (by decide) ?_
          obtain ⟨v_8, ev_8⟩ : ∃ z : Int32, x1_3 + 1 = z := ⟨_, rfl⟩
          have el_1 : (1 : Int32).toInt = 1 := rfl
          refine j_iadd (pc := 29) (v := v_8) C dX7_size_29 ev_8 ?_
          refine j_istore_n (pc := 30) (lv' := [(3, .int v_8), (4, .int x1_4), (0, .ref n0), (1, .int p0), (2, .int p1)]) C dX7_size_30 rfl (by decide) rfl ?_
          obtain ⟨v_9, ev_9⟩ : ∃ z : Int32, x1_4 + 1 = z := ⟨_, rfl⟩
          have el_1 : (1 : Int32).toInt = 1 := rfl
          have hv_9 : v_9.toInt = x1_4.toInt + (1 : Int32).toInt := by rw [← ev_9]; exact fb_addI (by omega) (by omega)
          refine j_iinc (pc := 31) (v := v_9) (lv' := [(4, .int v_9), (3, .int v_8), (0, .ref n0), (1, .int p0), (2, .int p1)]) C dX7_size_31 1 rfl ev_9 (by decide) rfl ?_
          refine j_goto (pc := 34) (tgt := 5) C dX7_size_34 (by decide) ?_
          exact j_lv [0, 1, 2, 3, 4] rfl (ih_1 v_9 v_8 (by omega) (by omega))
  have el_0 : (0 : Int32).toInt = 0 := rfl
  have el_0 : (0 : Int32).toInt = 0 := rfl
  exact j_lv [0, 1, 2, 3, 4] rfl (loop_1 4096 0 0 (by decide) (by omega))
