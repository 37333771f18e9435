theorem wd_579 : Cond.code yX10_isHeight cX10_isHeight 1 (some .boolean) ∈ WALL := wl_in (by decide +kernel) (by decide +kernel)
theorem wd_580 : Cond.methodLink RX10 243 yX10_isHeight ∈ WALL := wl_in (by decide +kernel) (by decide +kernel)
theorem wd_581 : Cond.static yX10_isHeight ∈ WALL := wl_in (by decide +kernel) (by decide +kernel)
theorem wd_582 : Cond.fieldLink RX10 54 "BowlShelf" "heights" "LBowlShelf$Heights;" ∈ WALL := wl_in (by decide +kernel) (by decide +kernel)
theorem wd_583 : Cond.code yX0_settle cX0_settle 4 none ∈ WALL := wl_in (by decide +kernel) (by decide +kernel)
theorem wd_584 : Cond.methodLink RX10 249 yX0_settle ∈ WALL := wl_in (by decide +kernel) (by decide +kernel)
theorem wd_585 : Cond.instanceMethod yX0_settle ∈ WALL := wl_in (by decide +kernel) (by decide +kernel)
theorem wd_586 : Cond.selects RX0 yX0_settle yX0_settle ∈ WALL := wl_in (by decide +kernel) (by decide +kernel)
theorem wd_587 : Cond.code yX0_fewestStacks cX0_fewestStacks 4 (some .int) ∈ WALL := wl_in (by decide +kernel) (by decide +kernel)
theorem wd_588 : Cond.methodLink RX10 251 yX0_fewestStacks ∈ WALL := wl_in (by decide +kernel) (by decide +kernel)
theorem wd_589 : Cond.instanceMethod yX0_fewestStacks ∈ WALL := wl_in (by decide +kernel) (by decide +kernel)
theorem wd_590 : Cond.selects RX0 yX0_fewestStacks yX0_fewestStacks ∈ WALL := wl_in (by decide +kernel) (by decide +kernel)
theorem wd_591 : Cond.methodLink RX10 254 yJ6_bitCount_0f7a4 ∈ WALL := wl_in (by decide +kernel) (by decide +kernel)
theorem wd_592 : Cond.code yX0_inOrder cX0_inOrder 10 (some .int) ∈ WALL := wl_in (by decide +kernel) (by decide +kernel)
theorem wd_593 : Cond.methodLink RX10 259 yX0_inOrder ∈ WALL := wl_in (by decide +kernel) (by decide +kernel)
theorem wd_594 : Cond.instanceMethod yX0_inOrder ∈ WALL := wl_in (by decide +kernel) (by decide +kernel)
theorem wd_595 : Cond.selects RX0 yX0_inOrder yX0_inOrder ∈ WALL := wl_in (by decide +kernel) (by decide +kernel)
theorem dX10_isHeight_0 : decode cX10_isHeight 0 = .ok (.iload_n 0, 1) := by decide +kernel
theorem dX10_isHeight_1 : decode cX10_isHeight 1 = .ok (.iconst 1, 1) := by decide +kernel
theorem dX10_isHeight_2 : decode cX10_isHeight 2 = .ok (.if_icmp .lt 14, 3) := by decide +kernel
theorem dX10_isHeight_5 : decode cX10_isHeight 5 = .ok (.iload_n 0, 1) := by decide +kernel
theorem dX10_isHeight_6 : decode cX10_isHeight 6 = .ok (.sipush 999, 3) := by decide +kernel
theorem dX10_isHeight_9 : decode cX10_isHeight 9 = .ok (.if_icmp .gt 7, 3) := by decide +kernel
theorem dX10_isHeight_12 : decode cX10_isHeight 12 = .ok (.iconst 1, 1) := by decide +kernel
theorem dX10_isHeight_13 : decode cX10_isHeight 13 = .ok (.goto 4, 3) := by decide +kernel
theorem dX10_isHeight_16 : decode cX10_isHeight 16 = .ok (.iconst 0, 1) := by decide +kernel
theorem dX10_isHeight_17 : decode cX10_isHeight 17 = .ok (.ireturn, 1) := by decide +kernel
theorem dX10_needed_0 : decode cX10_needed 0 = .ok (.iload_n 1, 1) := by decide +kernel
theorem dX10_needed_1 : decode cX10_needed 1 = .ok (.invokestatic 243, 3) := by decide +kernel
theorem dX10_needed_4 : decode cX10_needed 4 = .ok (.ifCond .ne 5, 3) := by decide +kernel
theorem dX10_needed_7 : decode cX10_needed 7 = .ok (.iconst (-1), 1) := by decide +kernel
theorem dX10_needed_8 : decode cX10_needed 8 = .ok (.ireturn, 1) := by decide +kernel
theorem dX10_needed_9 : decode cX10_needed 9 = .ok (.iconst 0, 1) := by decide +kernel
theorem dX10_needed_10 : decode cX10_needed 10 = .ok (.istore_n 2, 1) := by decide +kernel
theorem dX10_needed_11 : decode cX10_needed 11 = .ok (.iload_n 2, 1) := by decide +kernel
theorem dX10_needed_12 : decode cX10_needed 12 = .ok (.aload_n 0, 1) := by decide +kernel
theorem dX10_needed_13 : decode cX10_needed 13 = .ok (.getfield 19, 3) := by decide +kernel
theorem dX10_needed_16 : decode cX10_needed 16 = .ok (.getfield 246, 3) := by decide +kernel
theorem dX10_needed_19 : decode cX10_needed 19 = .ok (.if_icmp .ge 24, 3) := by decide +kernel
theorem dX10_needed_22 : decode cX10_needed 22 = .ok (.aload_n 0, 1) := by decide +kernel
theorem dX10_needed_23 : decode cX10_needed 23 = .ok (.getfield 19, 3) := by decide +kernel
theorem dX10_needed_26 : decode cX10_needed 26 = .ok (.getfield 120, 3) := by decide +kernel
theorem dX10_needed_29 : decode cX10_needed 29 = .ok (.iload_n 2, 1) := by decide +kernel
theorem dX10_needed_30 : decode cX10_needed 30 = .ok (.iaload, 1) := by decide +kernel
theorem dX10_needed_31 : decode cX10_needed 31 = .ok (.iload_n 1, 1) := by decide +kernel
theorem dX10_needed_32 : decode cX10_needed 32 = .ok (.if_icmp .le 5, 3) := by decide +kernel
theorem dX10_needed_35 : decode cX10_needed 35 = .ok (.iconst (-1), 1) := by decide +kernel
theorem dX10_needed_36 : decode cX10_needed 36 = .ok (.ireturn, 1) := by decide +kernel
theorem dX10_needed_37 : decode cX10_needed 37 = .ok (.iinc 2 1, 3) := by decide +kernel
theorem dX10_needed_40 : decode cX10_needed 40 = .ok (.goto (-29), 3) := by decide +kernel
theorem dX10_needed_43 : decode cX10_needed 43 = .ok (.aload_n 0, 1) := by decide +kernel
theorem dX10_needed_44 : decode cX10_needed 44 = .ok (.getfield 54, 3) := by decide +kernel
theorem dX10_needed_47 : decode cX10_needed 47 = .ok (.aload_n 0, 1) := by decide +kernel
theorem dX10_needed_48 : decode cX10_needed 48 = .ok (.getfield 19, 3) := by decide +kernel
theorem dX10_needed_51 : decode cX10_needed 51 = .ok (.invokevirtual 249, 3) := by decide +kernel
theorem dX10_needed_54 : decode cX10_needed 54 = .ok (.aload_n 0, 1) := by decide +kernel
theorem dX10_needed_55 : decode cX10_needed 55 = .ok (.getfield 54, 3) := by decide +kernel
theorem dX10_needed_58 : decode cX10_needed 58 = .ok (.iload_n 1, 1) := by decide +kernel
theorem dX10_needed_59 : decode cX10_needed 59 = .ok (.invokevirtual 251, 3) := by decide +kernel
theorem dX10_needed_62 : decode cX10_needed 62 = .ok (.ireturn, 1) := by decide +kernel
theorem dX10_sorted_0 : decode cX10_sorted 0 = .ok (.iload_n 2, 1) := by decide +kernel
theorem dX10_sorted_1 : decode cX10_sorted 1 = .ok (.invokestatic 243, 3) := by decide +kernel
theorem dX10_sorted_4 : decode cX10_sorted 4 = .ok (.ifCond .eq 33, 3) := by decide +kernel
theorem dX10_sorted_7 : decode cX10_sorted 7 = .ok (.iload_n 1, 1) := by decide +kernel
theorem dX10_sorted_8 : decode cX10_sorted 8 = .ok (.iconst 1, 1) := by decide +kernel
theorem dX10_sorted_9 : decode cX10_sorted 9 = .ok (.if_icmp .lt 28, 3) := by decide +kernel
theorem dX10_sorted_12 : decode cX10_sorted 12 = .ok (.iload_n 1, 1) := by decide +kernel
theorem dX10_sorted_13 : decode cX10_sorted 13 = .ok (.iconst 1, 1) := by decide +kernel
theorem dX10_sorted_14 : decode cX10_sorted 14 = .ok (.aload_n 0, 1) := by decide +kernel
theorem dX10_sorted_15 : decode cX10_sorted 15 = .ok (.getfield 19, 3) := by decide +kernel
theorem dX10_sorted_18 : decode cX10_sorted 18 = .ok (.getfield 246, 3) := by decide +kernel
theorem dX10_sorted_21 : decode cX10_sorted 21 = .ok (.ishl, 1) := by decide +kernel
theorem dX10_sorted_22 : decode cX10_sorted 22 = .ok (.if_icmp .ge 15, 3) := by decide +kernel
theorem dX10_sorted_25 : decode cX10_sorted 25 = .ok (.iload_n 3, 1) := by decide +kernel
theorem dX10_sorted_26 : decode cX10_sorted 26 = .ok (.ifCond .lt 11, 3) := by decide +kernel
theorem dX10_sorted_29 : decode cX10_sorted 29 = .ok (.iload_n 3, 1) := by decide +kernel
theorem dX10_sorted_30 : decode cX10_sorted 30 = .ok (.iload_n 1, 1) := by decide +kernel
theorem dX10_sorted_31 : decode cX10_sorted 31 = .ok (.invokestatic 254, 3) := by decide +kernel
theorem dX10_sorted_34 : decode cX10_sorted 34 = .ok (.if_icmp .lt 5, 3) := by decide +kernel
theorem dX10_sorted_37 : decode cX10_sorted 37 = .ok (.iconst (-1), 1) := by decide +kernel
theorem dX10_sorted_38 : decode cX10_sorted 38 = .ok (.ireturn, 1) := by decide +kernel
theorem dX10_sorted_39 : decode cX10_sorted 39 = .ok (.aload_n 0, 1) := by decide +kernel
theorem dX10_sorted_40 : decode cX10_sorted 40 = .ok (.getfield 54, 3) := by decide +kernel
theorem dX10_sorted_43 : decode cX10_sorted 43 = .ok (.aload_n 0, 1) := by decide +kernel
theorem dX10_sorted_44 : decode cX10_sorted 44 = .ok (.getfield 19, 3) := by decide +kernel
theorem dX10_sorted_47 : decode cX10_sorted 47 = .ok (.invokevirtual 249, 3) := by decide +kernel
theorem dX10_sorted_50 : decode cX10_sorted 50 = .ok (.aload_n 0, 1) := by decide +kernel
theorem dX10_sorted_51 : decode cX10_sorted 51 = .ok (.getfield 54, 3) := by decide +kernel
theorem dX10_sorted_54 : decode cX10_sorted 54 = .ok (.aload_n 0, 1) := by decide +kernel
theorem dX10_sorted_55 : decode cX10_sorted 55 = .ok (.getfield 19, 3) := by decide +kernel
theorem dX10_sorted_58 : decode cX10_sorted 58 = .ok (.iload_n 1, 1) := by decide +kernel
theorem dX10_sorted_59 : decode cX10_sorted 59 = .ok (.iload_n 2, 1) := by decide +kernel
theorem dX10_sorted_60 : decode cX10_sorted 60 = .ok (.iload_n 3, 1) := by decide +kernel
theorem dX10_sorted_61 : decode cX10_sorted 61 = .ok (.invokevirtual 259, 3) := by decide +kernel
theorem dX10_sorted_64 : decode cX10_sorted 64 = .ok (.ireturn, 1) := by decide +kernel
set_option maxHeartbeats 4000000 in
set_option maxRecDepth 100000 in
theorem c_X10_isHeight (l : Launch) (D : DG) (cyC cyI cyJ cyZ cyO : ClassId) (p0 : Int32) : KK l D (TY cyC cyI cyJ cyZ cyO) yX10_isHeight cX10_isHeight 1 (some .boolean) ({ frames := 0, cells := 0, slots := 0, locals := 0 } : Room) 0 0 [.int p0] [] (fun u => some (.int (u.2.1 0))) (fun u => (0 ≤ (u.2.1 0).toInt ∧ (u.2.1 0).toInt ≤ 1)) (fun u => []) := by
  refine KK.of (lv0 := [(0, .int p0)]) (by decide) rfl (Nat.le_of_ble_eq_true rfl) ?_
  intro p e s m args below meth c A C hr hk hin
  refine j_iload_n (pc := 0) C dX10_isHeight_0 rfl 0 rfl ?_
  refine j_iconst (pc := 1) (v := 1) C dX10_isHeight_1 (by decide) ?_
  refine j_icmp_lt (pc := 2) (tgt := 16) C dX10_isHeight_2 (by decide) (fun c_1 => ?_) (fun c_1 => ?_)
  · skip
    have el_1 : (1 : Int32).toInt = 1 := rfl
    rw [i_lt] at c_1
    refine j_iconst (pc := 16) (v := 0) C dX10_isHeight_16 (by decide) ?_
    have el_0 : (0 : Int32).toInt = 0 := rfl
    exact j_zret (pc := 17) C hr rfl hk (fun i => [].getD i 0, fun i => [0].getD i 0, fun i => [].getD i (fun _ => 0), fun i => [].getD i (fun _ => 0)) rfl (show (0 ≤ ((0 : Int32)).toInt ∧ ((0 : Int32)).toInt ≤ 1) from (by omega)) [] (by decide) rfl (by decide) (by decide) dX10_isHeight_17
  · skip
    have el_1 : (1 : Int32).toInt = 1 := rfl
    rw [i_lt] at c_1
    refine j_iload_n (pc := 5) C dX10_isHeight_5 rfl 0 rfl ?_
    refine j_sipush (pc := 6) (v := 999) C dX10_isHeight_6 (by decide) ?_
    refine j_icmp_gt (pc := 9) (tgt := 16) C dX10_isHeight_9 (by decide) (fun c_2 => ?_) (fun c_2 => ?_)
    · skip
      have el_999 : (999 : Int32).toInt = 999 := rfl
      rw [i_lt] at c_2
      refine j_iconst (pc := 16) (v := 0) C dX10_isHeight_16 (by decide) ?_
      have el_0 : (0 : Int32).toInt = 0 := rfl
      exact j_zret (pc := 17) C hr rfl hk (fun i => [].getD i 0, fun i => [0].getD i 0, fun i => [].getD i (fun _ => 0), fun i => [].getD i (fun _ => 0)) rfl (show (0 ≤ ((0 : Int32)).toInt ∧ ((0 : Int32)).toInt ≤ 1) from (by omega)) [] (by decide) rfl (by decide) (by decide) dX10_isHeight_17
    · skip
      have el_999 : (999 : Int32).toInt = 999 := rfl
      rw [i_lt] at c_2
      refine j_iconst (pc := 12) (v := 1) C dX10_isHeight_12 (by decide) ?_
      refine j_goto (pc := 13) (tgt := 17) C dX10_isHeight_13 (by decide) ?_
      have el_1 : (1 : Int32).toInt = 1 := rfl
      exact j_zret (pc := 17) C hr rfl hk (fun i => [].getD i 0, fun i => [1].getD i 0, fun i => [].getD i (fun _ => 0), fun i => [].getD i (fun _ => 0)) rfl (show (0 ≤ ((1 : Int32)).toInt ∧ ((1 : Int32)).toInt ≤ 1) from (by omega)) [] (by decide) rfl (by decide) (by decide) dX10_isHeight_17
set_option maxHeartbeats 4000000 in
set_option maxRecDepth 100000 in
theorem c_X10_needed (l : Launch) (D : DG) (cyC cyI cyJ cyZ cyO : ClassId) (x0 : Nat) (a0 : Nat) (a1 : Nat) (a2 : Nat) (a3 : Nat) (a4 : Nat) (a7 : Nat) (h0 : Nat) (h1 : Nat) (h2 : Nat) (h3 : Nat) (r0 : Nat) (n0 : Nat) (k0 : Nat) (x1 : Nat) (q0 : Nat) (o0 : Nat) (s0 : Nat) (d0 : Nat) (a5 : Nat) (a6 : Nat) (a8 : Nat) (a9 : Nat) (a10 : Nat) (h_r : Nat) (h_n : Nat) (p0 : Int32) (a_wares : Int32) (a_shelves : Int32) (a_nests : Int32) (a_lids : Int32) (a_tops : Int32) (h_known : Int32) (h_wares : Int32) (a_wide : Nat → Int32) (a_deep : Nat → Int32) (a_weight : Nat → Int32) (a_bears : Nat → Int32) (a_mayOn : Nat → Int32) (h_leastRim : Nat → Int32) (h_least : Nat → Int32) (h_stacks : Nat → Int32) (h_a_wares : 0 ≤ (a_wares).toInt ∧ (a_wares).toInt ≤ 12) (h_a_shelves : 0 ≤ (a_shelves).toInt ∧ (a_shelves).toInt ≤ 4) (h_a_nests : 0 ≤ (a_nests).toInt ∧ (a_nests).toInt ≤ 4) (h_h_known : 0 ≤ (h_known).toInt ∧ (h_known).toInt ≤ 1) (h_h_wares : 0 ≤ (h_wares).toInt ∧ (h_wares).toInt ≤ 12) (hH : HL h_n h_r) (hk9 : (h_known).toInt = 0 ∨ h_wares = a_wares ∧ (2 : Int) ^ (h_wares).toInt.toNat ≤ (h_n : Int)) : KK l D (TY cyC cyI cyJ cyZ cyO) yX10_needed cX10_needed 3 (some .int) ({ frames := 4, cells := 3, slots := 57344, locals := 100 } : Room) 3 57344 [.ref x0, .int p0] [(x0, .inr (10, [.ref r0, .ref a0, .ref n0, .ref k0, .ref x1, .ref q0, .ref o0, .ref h0, .ref s0, .ref d0])), (a0, .inr (9, [.int a_wares, .int a_shelves, .int a_nests, .ref a1, .ref a2, .ref a3, .ref a4, .ref a5, .ref a6, .int a_lids, .int a_tops, .ref a7, .ref a8, .ref a9, .ref a10])), (a1, .inl (cyI, 12, .inl a_wide)), (a2, .inl (cyI, 12, .inl a_deep)), (a3, .inl (cyI, 12, .inl a_weight)), (a4, .inl (cyI, 12, .inl a_bears)), (a7, .inl (cyI, 12, .inl a_mayOn)), (h0, .inr (0, [.int h_known, .int h_wares, .ref h1, .ref h2, .ref h3])), (h1, .inl (cyI, h_r, .inl h_leastRim)), (h2, .inl (cyI, h_n, .inl h_least)), (h3, .inl (cyI, h_n, .inl h_stacks))] (fun u => some (.int (u.2.1 0))) (fun u => (0 ≤ (u.2.1 1).toInt ∧ (u.2.1 1).toInt ≤ 1) ∧ (0 ≤ (u.2.1 2).toInt ∧ (u.2.1 2).toInt ≤ 12) ∧ (HL (u.1 3) (u.1 1)) ∧ (((u.2.1 1)).toInt = 0 ∨ (u.2.1 2) = a_wares ∧ (2 : Int) ^ ((u.2.1 2)).toInt.toNat ≤ (((u.1 3) : Nat) : Int))) (fun u => [(x0, .inr (10, [.ref r0, .ref a0, .ref n0, .ref k0, .ref x1, .ref q0, .ref o0, .ref h0, .ref s0, .ref d0])), (a0, .inr (9, [.int a_wares, .int a_shelves, .int a_nests, .ref a1, .ref a2, .ref a3, .ref a4, .ref a5, .ref a6, .int a_lids, .int a_tops, .ref a7, .ref a8, .ref a9, .ref a10])), (a1, .inl (cyI, 12, .inl a_wide)), (a2, .inl (cyI, 12, .inl a_deep)), (a3, .inl (cyI, 12, .inl a_weight)), (a4, .inl (cyI, 12, .inl a_bears)), (a7, .inl (cyI, 12, .inl a_mayOn)), (h0, .inr (0, [.int (u.2.1 1), .int (u.2.1 2), .ref (u.1 0), .ref (u.1 2), .ref (u.1 4)])), ((u.1 0), .inl (cyI, (u.1 1), .inl (u.2.2.1 0))), ((u.1 2), .inl (cyI, (u.1 3), .inl (u.2.2.1 1))), ((u.1 4), .inl (cyI, (u.1 3), .inl (u.2.2.1 2)))]) := by
  refine KK.of (lv0 := [(0, .ref x0), (1, .int p0)]) (by decide) rfl (Nat.le_of_ble_eq_true rfl) ?_
  intro p e s m args below meth c A C hr hk hin
  have hpw1 := pw1 (a_wares).toInt.toNat
  refine j_iload_n (pc := 0) C dX10_needed_0 rfl 1 rfl ?_
  refine j_callS (pc := 1) (As := [.int p0]) (rest := []) (wr := [(x0, .inr (10, [.ref r0, .ref a0, .ref n0, .ref k0, .ref x1, .ref q0, .ref o0, .ref h0, .ref s0, .ref d0])), (a0, .inr (9, [.int a_wares, .int a_shelves, .int a_nests, .ref a1, .ref a2, .ref a3, .ref a4, .ref a5, .ref a6, .int a_lids, .int a_tops, .ref a7, .ref a8, .ref a9, .ref a10])), (a1, .inl (cyI, 12, .inl a_wide)), (a2, .inl (cyI, 12, .inl a_deep)), (a3, .inl (cyI, 12, .inl a_weight)), (a4, .inl (cyI, 12, .inl a_bears)), (a7, .inl (cyI, 12, .inl a_mayOn)), (h0, .inr (0, [.int h_known, .int h_wares, .ref h1, .ref h2, .ref h3])), (h1, .inl (cyI, h_r, .inl h_leastRim)), (h2, .inl (cyI, h_n, .inl h_least)), (h3, .inl (cyI, h_n, .inl h_stacks))]) C (c_X10_isHeight l D cyC cyI cyJ cyZ cyO p0) wd_579 wd_482 wd_580 wd_581 ⟨by decide, by decide, rfl⟩ rfl ⟨rfl, rfl, by decide, by decide⟩ ⟨by decide, by decide⟩ [] [0, 1, 2, 3, 4, 5, 6, 7, 8, 9, 10] rfl rfl ⟨by decide, by decide, by decide⟩ rfl (Nat.le_of_ble_eq_true rfl) dX10_needed_1 (fun u_1 hw_2 => ?_)
  refine j_eq (ws2 := [(x0, .inr (10, [.ref r0, .ref a0, .ref n0, .ref k0, .ref x1, .ref q0, .ref o0, .ref h0, .ref s0, .ref d0])), (a0, .inr (9, [.int a_wares, .int a_shelves, .int a_nests, .ref a1, .ref a2, .ref a3, .ref a4, .ref a5, .ref a6, .int a_lids, .int a_tops, .ref a7, .ref a8, .ref a9, .ref a10])), (a1, .inl (cyI, 12, .inl a_wide)), (a2, .inl (cyI, 12, .inl a_deep)), (a3, .inl (cyI, 12, .inl a_weight)), (a4, .inl (cyI, 12, .inl a_bears)), (a7, .inl (cyI, 12, .inl a_mayOn)), (h0, .inr (0, [.int h_known, .int h_wares, .ref h1, .ref h2, .ref h3])), (h1, .inl (cyI, h_r, .inl h_leastRim)), (h2, .inl (cyI, h_n, .inl h_least)), (h3, .inl (cyI, h_n, .inl h_stacks))]) (pc2 := 4) (lv2 := [(0, .ref x0), (1, .int p0)]) (st2 := [.int (u_1.2.1 0)]) rfl rfl rfl rfl ?_
  have hw_2_0 : 0 ≤ (u_1.2.1 0).toInt ∧ (u_1.2.1 0).toInt ≤ 1 := hw_2
  refine j_if_ne (pc := 4) (tgt := 9) C dX10_needed_4 (by decide) (fun c_3 => ?_) (fun c_3 => ?_)
  · skip
    have el_0 : (0 : Int32).toInt = 0 := rfl
    rw [i_eq] at c_3
    refine j_iconst (pc := 9) (v := 0) C dX10_needed_9 (by decide) ?_
    refine j_istore_n (pc := 10) (lv' := [(2, .int 0), (0, .ref x0), (1, .int p0)]) C dX10_needed_10 rfl (by decide) rfl ?_
    have loop_4 : ∀ (k_4 : Nat) (x4_2 : Int32), (0 ≤ (x4_2).toInt ∧ (x4_2).toInt ≤ 12) → (12 - x4_2.toInt).toNat < k_4 → J p l e ({ frames := 4, cells := 3, slots := 57344, locals := 100 } : Room) s m args below meth c D A 3 0 0 (QX below D (TY cyC cyI cyJ cyZ cyO) A (fun u => some (.int (u.2.1 0))) (fun u => (0 ≤ (u.2.1 1).toInt ∧ (u.2.1 1).toInt ≤ 1) ∧ (0 ≤ (u.2.1 2).toInt ∧ (u.2.1 2).toInt ≤ 12) ∧ (HL (u.1 3) (u.1 1)) ∧ (((u.2.1 1)).toInt = 0 ∨ (u.2.1 2) = a_wares ∧ (2 : Int) ^ ((u.2.1 2)).toInt.toNat ≤ (((u.1 3) : Nat) : Int))) (fun u => [(x0, .inr (10, [.ref r0, .ref a0, .ref n0, .ref k0, .ref x1, .ref q0, .ref o0, .ref h0, .ref s0, .ref d0])), (a0, .inr (9, [.int a_wares, .int a_shelves, .int a_nests, .ref a1, .ref a2, .ref a3, .ref a4, .ref a5, .ref a6, .int a_lids, .int a_tops, .ref a7, .ref a8, .ref a9, .ref a10])), (a1, .inl (cyI, 12, .inl a_wide)), (a2, .inl (cyI, 12, .inl a_deep)), (a3, .inl (cyI, 12, .inl a_weight)), (a4, .inl (cyI, 12, .inl a_bears)), (a7, .inl (cyI, 12, .inl a_mayOn)), (h0, .inr (0, [.int (u.2.1 1), .int (u.2.1 2), .ref (u.1 0), .ref (u.1 2), .ref (u.1 4)])), ((u.1 0), .inl (cyI, (u.1 1), .inl (u.2.2.1 0))), ((u.1 2), .inl (cyI, (u.1 3), .inl (u.2.2.1 1))), ((u.1 4), .inl (cyI, (u.1 3), .inl (u.2.2.1 2)))]) args s 3 57344) [(x0, .inr (10, [.ref r0, .ref a0, .ref n0, .ref k0, .ref x1, .ref q0, .ref o0, .ref h0, .ref s0, .ref d0])), (a0, .inr (9, [.int a_wares, .int a_shelves, .int a_nests, .ref a1, .ref a2, .ref a3, .ref a4, .ref a5, .ref a6, .int a_lids, .int a_tops, .ref a7, .ref a8, .ref a9, .ref a10])), (a1, .inl (cyI, 12, .inl a_wide)), (a2, .inl (cyI, 12, .inl a_deep)), (a3, .inl (cyI, 12, .inl a_weight)), (a4, .inl (cyI, 12, .inl a_bears)), (a7, .inl (cyI, 12, .inl a_mayOn)), (h0, .inr (0, [.int h_known, .int h_wares, .ref h1, .ref h2, .ref h3])), (h1, .inl (cyI, h_r, .inl h_leastRim)), (h2, .inl (cyI, h_n, .inl h_least)), (h3, .inl (cyI, h_n, .inl h_stacks))] 11 [(2, .int x4_2), (0, .ref x0), (1, .int p0)] [] := by
      intro k_4
      induction k_4 with
      | zero =>
        intro x4_2 hi_4_0 hm_4
        exact absurd hm_4 (Nat.not_lt_zero _)
      | succ k_4 ih_4 =>
        intro x4_2 hi_4_0 hm_4
        refine j_iload_n (pc := 11) C dX10_needed_11 rfl 0 rfl ?_
        refine j_aload_n (pc := 12) C dX10_needed_12 rfl 1 rfl ?_
        refine j_get (pc := 13) (ci := 10) (v := .ref a0) C inw_10 0 rfl rfl 1 (by decide) wd_447 rfl rfl dX10_needed_13 ?_
        refine j_get (pc := 16) (ci := 9) (v := .int a_wares) C inw_9 1 rfl rfl 0 (by decide) wd_534 rfl rfl dX10_needed_16 ?_
        refine j_icmp_ge (pc := 19) (tgt := 43) C dX10_needed_19 (by decide) (fun c_5 => ?_) (fun c_5 => ?_)
        · skip
          rw [i_le] at c_5
          refine j_aload_n (pc := 43) C dX10_needed_43 rfl 1 rfl ?_
          refine j_get (pc := 44) (ci := 10) (v := .ref h0) C inw_10 0 rfl rfl 7 (by decide) wd_582 rfl rfl dX10_needed_44 ?_
          refine j_aload_n (pc := 47) C dX10_needed_47 rfl 1 rfl ?_
          refine j_get (pc := 48) (ci := 10) (v := .ref a0) C inw_10 0 rfl rfl 1 (by decide) wd_447 rfl rfl dX10_needed_48 ?_
          refine j_callV (pc := 51) (As := [.ref a0]) (rest := []) (wr := [(x0, .inr (10, [.ref r0, .ref a0, .ref n0, .ref k0, .ref x1, .ref q0, .ref o0, .ref h0, .ref s0, .ref d0]))]) C (c_X0_settle l D cyC cyI cyJ cyZ cyO h0 h1 h2 h3 a0 a1 a2 a3 a4 a7 a5 a6 a8 a9 a10 h_r h_n h_known h_wares a_wares a_shelves a_nests a_lids a_tops h_leastRim h_least h_stacks a_wide a_deep a_weight a_bears a_mayOn (by omega) (by omega) (by omega) (by omega) (by omega) hH hk9) wd_583 wd_166 wd_584 wd_585 wd_586 ⟨by decide, by decide, rfl⟩ rfl ⟨rfl, rfl, by decide, by decide⟩ ⟨by decide, by decide⟩ [7, 8, 9, 10, 1, 2, 3, 4, 5, 6] [0] rfl rfl ⟨by decide, by decide, by decide⟩ 7 rfl rfl rfl (Nat.le_of_ble_eq_true rfl) dX10_needed_51 (fun u_6 hw_7 => ?_)
          refine j_eq (ws2 := [(x0, .inr (10, [.ref r0, .ref a0, .ref n0, .ref k0, .ref x1, .ref q0, .ref o0, .ref h0, .ref s0, .ref d0])), (h0, .inr (0, [.int (u_6.2.1 0), .int (u_6.2.1 1), .ref (u_6.1 0), .ref (u_6.1 2), .ref (u_6.1 4)])), ((u_6.1 0), .inl (cyI, (u_6.1 1), .inl (u_6.2.2.1 0))), ((u_6.1 2), .inl (cyI, (u_6.1 3), .inl (u_6.2.2.1 1))), ((u_6.1 4), .inl (cyI, (u_6.1 3), .inl (u_6.2.2.1 2))), (a0, .inr (9, [.int a_wares, .int a_shelves, .int a_nests, .ref a1, .ref a2, .ref a3, .ref a4, .ref a5, .ref a6, .int a_lids, .int a_tops, .ref a7, .ref a8, .ref a9, .ref a10])), (a1, .inl (cyI, 12, .inl a_wide)), (a2, .inl (cyI, 12, .inl a_deep)), (a3, .inl (cyI, 12, .inl a_weight)), (a4, .inl (cyI, 12, .inl a_bears)), (a7, .inl (cyI, 12, .inl a_mayOn))]) (pc2 := 54) (lv2 := [(2, .int x4_2), (0, .ref x0), (1, .int p0)]) (st2 := []) rfl rfl rfl rfl ?_
          refine j_widen (k := 3) (n := 57344) (by decide) (by decide) ?_
          obtain ⟨hw_7_0, hw_7_1, hw_7_2, hw_7_3, hw_7_4, hw_7_5, hw_7_6, hw_7_7, hw_7_8⟩ := hw_7
          refine j_aload_n (pc := 54) C dX10_needed_54 rfl 1 rfl ?_
          refine j_get (pc := 55) (ci := 10) (v := .ref h0) C inw_10 0 rfl rfl 7 (by decide) wd_582 rfl rfl dX10_needed_55 ?_
          refine j_iload_n (pc := 58) C dX10_needed_58 rfl 2 rfl ?_
          refine j_callV (pc := 59) (As := [.int p0]) (rest := []) (wr := [(x0, .inr (10, [.ref r0, .ref a0, .ref n0, .ref k0, .ref x1, .ref q0, .ref o0, .ref h0, .ref s0, .ref d0])), ((u_6.1 0), .inl (cyI, (u_6.1 1), .inl (u_6.2.2.1 0))), (a0, .inr (9, [.int a_wares, .int a_shelves, .int a_nests, .ref a1, .ref a2, .ref a3, .ref a4, .ref a5, .ref a6, .int a_lids, .int a_tops, .ref a7, .ref a8, .ref a9, .ref a10])), (a1, .inl (cyI, 12, .inl a_wide)), (a2, .inl (cyI, 12, .inl a_deep)), (a3, .inl (cyI, 12, .inl a_weight)), (a4, .inl (cyI, 12, .inl a_bears)), (a7, .inl (cyI, 12, .inl a_mayOn))]) C (c_X0_fewestStacks l D cyC cyI cyJ cyZ cyO h0 (u_6.1 2) (u_6.1 4) (u_6.1 0) (u_6.1 3) p0 (u_6.2.1 0) (u_6.2.1 1) (u_6.2.2.1 1) (u_6.2.2.1 2) (by omega) (by omega) (by omega) (by omega)) wd_587 wd_166 wd_588 wd_589 wd_590 ⟨by decide, by decide, rfl⟩ rfl ⟨rfl, rfl, by decide, by decide⟩ ⟨by decide, by decide⟩ [1, 3, 4] [0, 2, 5, 6, 7, 8, 9, 10] rfl rfl ⟨by decide, by decide, by decide⟩ 1 rfl rfl rfl (Nat.le_of_ble_eq_true rfl) dX10_needed_59 (fun u_8 hw_9 => ?_)
          refine j_eq (ws2 := [(x0, .inr (10, [.ref r0, .ref a0, .ref n0, .ref k0, .ref x1, .ref q0, .ref o0, .ref h0, .ref s0, .ref d0])), ((u_6.1 0), .inl (cyI, (u_6.1 1), .inl (u_6.2.2.1 0))), (a0, .inr (9, [.int a_wares, .int a_shelves, .int a_nests, .ref a1, .ref a2, .ref a3, .ref a4, .ref a5, .ref a6, .int a_lids, .int a_tops, .ref a7, .ref a8, .ref a9, .ref a10])), (a1, .inl (cyI, 12, .inl a_wide)), (a2, .inl (cyI, 12, .inl a_deep)), (a3, .inl (cyI, 12, .inl a_weight)), (a4, .inl (cyI, 12, .inl a_bears)), (a7, .inl (cyI, 12, .inl a_mayOn)), (h0, .inr (0, [.int (u_6.2.1 0), .int (u_6.2.1 1), .ref (u_6.1 0), .ref (u_6.1 2), .ref (u_6.1 4)])), ((u_6.1 2), .inl (cyI, (u_6.1 3), .inl (u_6.2.2.1 1))), ((u_6.1 4), .inl (cyI, (u_6.1 3), .inl (u_8.2.2.1 0)))]) (pc2 := 62) (lv2 := [(2, .int x4_2), (0, .ref x0), (1, .int p0)]) (st2 := [.int (u_8.2.1 0)]) rfl rfl rfl rfl ?_
          exact j_iret (pc := 62) C hr hk (fun i => [(u_6.1 0), (u_6.1 1), (u_6.1 2), (u_6.1 3), (u_6.1 4)].getD i 0, fun i => [(u_8.2.1 0), (u_6.2.1 0), (u_6.2.1 1)].getD i 0, fun i => [(u_6.2.2.1 0), (u_6.2.2.1 1), (u_8.2.2.1 0)].getD i (fun _ => 0), fun i => [].getD i (fun _ => 0)) rfl (show (0 ≤ ((u_6.2.1 0)).toInt ∧ ((u_6.2.1 0)).toInt ≤ 1) ∧ (0 ≤ ((u_6.2.1 1)).toInt ∧ ((u_6.2.1 1)).toInt ≤ 12) ∧ (HL (u_6.1 3) (u_6.1 1)) ∧ (((u_6.2.1 0)).toInt = 0 ∨ (u_6.2.1 1) = a_wares ∧ (2 : Int) ^ ((u_6.2.1 1)).toInt.toNat ≤ (((u_6.1 3) : Nat) : Int)) from ⟨by omega, by omega, hw_7_2, (Or.inr ⟨hw_7_3, hw_7_5⟩)⟩) [0, 2, 3, 4, 5, 6, 7, 8, 1, 9, 10] (by decide) rfl (by decide) (by decide) dX10_needed_62
        · skip
          rw [i_le] at c_5
          refine j_aload_n (pc := 22) C dX10_needed_22 rfl 1 rfl ?_
          refine j_get (pc := 23) (ci := 10) (v := .ref a0) C inw_10 0 rfl rfl 1 (by decide) wd_447 rfl rfl dX10_needed_23 ?_
          refine j_get (pc := 26) (ci := 9) (v := .ref a2) C inw_9 1 rfl rfl 4 (by decide) wd_472 rfl rfl dX10_needed_26 ?_
          refine j_iload_n (pc := 29) C dX10_needed_29 rfl 0 rfl ?_
          obtain ⟨v_10, ev_10⟩ : ∃ z, a_deep (x4_2).toInt.toNat = z := ⟨_, rfl⟩
          have env_10 : (a_deep (x4_2).toInt.toNat).toInt = v_10.toInt := by rw [ev_10]
          refine j_iald (pc := 30) (v := v_10) (k := (x4_2).toInt.toNat) C 3 1 rfl rfl (i_nn (by omega)) rfl (i_lt_n (by omega) (by omega)) ev_10 dX10_needed_30 ?_
          refine j_iload_n (pc := 31) C dX10_needed_31 rfl 2 rfl ?_
          refine j_icmp_le (pc := 32) (tgt := 37) C dX10_needed_32 (by decide) (fun c_11 => ?_) (fun c_11 => ?_)
          · skip
            rw [i_le] at c_11
            obtain ⟨v_12, ev_12⟩ : ∃ z : Int32, x4_2 + 1 = z := ⟨_, rfl⟩
            have el_1 : (1 : Int32).toInt = 1 := rfl
            have hv_12 : v_12.toInt = x4_2.toInt + (1 : Int32).toInt := by rw [← ev_12]; exact fb_addI (by omega) (by omega)
            refine j_iinc (pc := 37) (v := v_12) (lv' := [(2, .int v_12), (0, .ref x0), (1, .int p0)]) C dX10_needed_37 0 rfl ev_12 (by decide) rfl ?_
            refine j_goto (pc := 40) (tgt := 11) C dX10_needed_40 (by decide) ?_
            exact j_lv [0, 1, 2] rfl (ih_4 v_12 (by omega) (by omega))
          · skip
            rw [i_le] at c_11
            refine j_iconst (pc := 35) (v := (-1)) C dX10_needed_35 (by decide) ?_
            have el_m1 : ((-1) : Int32).toInt = (-1) := rfl
            have el_m1 : ((-1) : Int32).toInt = (-1) := rfl
            exact j_iret (pc := 36) C hr hk (fun i => [h1, h_r, h2, h_n, h3].getD i 0, fun i => [(-1), h_known, h_wares].getD i 0, fun i => [h_leastRim, h_least, h_stacks].getD i (fun _ => 0), fun i => [].getD i (fun _ => 0)) rfl (show (0 ≤ (h_known).toInt ∧ (h_known).toInt ≤ 1) ∧ (0 ≤ (h_wares).toInt ∧ (h_wares).toInt ≤ 12) ∧ (HL h_n h_r) ∧ ((h_known).toInt = 0 ∨ h_wares = a_wares ∧ (2 : Int) ^ (h_wares).toInt.toNat ≤ ((h_n : Nat) : Int)) from ⟨by omega, by omega, hH, hk9⟩) [0, 1, 2, 3, 4, 5, 6, 7, 8, 9, 10] (by decide) rfl (by decide) (by decide) dX10_needed_36
    have el_0 : (0 : Int32).toInt = 0 := rfl
    exact j_lv [0, 1, 2] rfl (loop_4 4096 0 (by decide) (by omega))
  · skip
    have el_0 : (0 : Int32).toInt = 0 := rfl
    rw [i_eq] at c_3
    refine j_iconst (pc := 7) (v := (-1)) C dX10_needed_7 (by decide) ?_
    have el_m1 : ((-1) : Int32).toInt = (-1) := rfl
    have el_m1 : ((-1) : Int32).toInt = (-1) := rfl
    exact j_iret (pc := 8) C hr hk (fun i => [h1, h_r, h2, h_n, h3].getD i 0, fun i => [(-1), h_known, h_wares].getD i 0, fun i => [h_leastRim, h_least, h_stacks].getD i (fun _ => 0), fun i => [].getD i (fun _ => 0)) rfl (show (0 ≤ (h_known).toInt ∧ (h_known).toInt ≤ 1) ∧ (0 ≤ (h_wares).toInt ∧ (h_wares).toInt ≤ 12) ∧ (HL h_n h_r) ∧ ((h_known).toInt = 0 ∨ h_wares = a_wares ∧ (2 : Int) ^ (h_wares).toInt.toNat ≤ ((h_n : Nat) : Int)) from ⟨by omega, by omega, hH, hk9⟩) [0, 1, 2, 3, 4, 5, 6, 7, 8, 9, 10] (by decide) rfl (by decide) (by decide) dX10_needed_8
set_option maxHeartbeats 4000000 in
set_option maxRecDepth 100000 in
theorem c_X10_sorted (l : Launch) (D : DG) (cyC cyI cyJ cyZ cyO : ClassId) (x0 : Nat) (a0 : Nat) (a1 : Nat) (a2 : Nat) (a3 : Nat) (a4 : Nat) (a7 : Nat) (h0 : Nat) (h1 : Nat) (h2 : Nat) (h3 : Nat) (r0 : Nat) (n0 : Nat) (k0 : Nat) (x1 : Nat) (q0 : Nat) (o0 : Nat) (s0 : Nat) (d0 : Nat) (a5 : Nat) (a6 : Nat) (a8 : Nat) (a9 : Nat) (a10 : Nat) (h_r : Nat) (h_n : Nat) (p0 : Int32) (p1 : Int32) (p2 : Int32) (a_wares : Int32) (a_shelves : Int32) (a_nests : Int32) (a_lids : Int32) (a_tops : Int32) (h_known : Int32) (h_wares : Int32) (a_wide : Nat → Int32) (a_deep : Nat → Int32) (a_weight : Nat → Int32) (a_bears : Nat → Int32) (a_mayOn : Nat → Int32) (h_leastRim : Nat → Int32) (h_least : Nat → Int32) (h_stacks : Nat → Int32) (h_a_wares : 0 ≤ (a_wares).toInt ∧ (a_wares).toInt ≤ 12) (h_a_shelves : 0 ≤ (a_shelves).toInt ∧ (a_shelves).toInt ≤ 4) (h_a_nests : 0 ≤ (a_nests).toInt ∧ (a_nests).toInt ≤ 4) (h_h_known : 0 ≤ (h_known).toInt ∧ (h_known).toInt ≤ 1) (h_h_wares : 0 ≤ (h_wares).toInt ∧ (h_wares).toInt ≤ 12) (hH : HL h_n h_r) (hk9 : (h_known).toInt = 0 ∨ h_wares = a_wares ∧ (2 : Int) ^ (h_wares).toInt.toNat ≤ (h_n : Int)) : KK l D (TY cyC cyI cyJ cyZ cyO) yX10_sorted cX10_sorted 4 (some .int) ({ frames := 4, cells := 3, slots := 57344, locals := 100 } : Room) 3 57344 [.ref x0, .int p0, .int p1, .int p2] [(x0, .inr (10, [.ref r0, .ref a0, .ref n0, .ref k0, .ref x1, .ref q0, .ref o0, .ref h0, .ref s0, .ref d0])), (a0, .inr (9, [.int a_wares, .int a_shelves, .int a_nests, .ref a1, .ref a2, .ref a3, .ref a4, .ref a5, .ref a6, .int a_lids, .int a_tops, .ref a7, .ref a8, .ref a9, .ref a10])), (a1, .inl (cyI, 12, .inl a_wide)), (a2, .inl (cyI, 12, .inl a_deep)), (a3, .inl (cyI, 12, .inl a_weight)), (a4, .inl (cyI, 12, .inl a_bears)), (a7, .inl (cyI, 12, .inl a_mayOn)), (h0, .inr (0, [.int h_known, .int h_wares, .ref h1, .ref h2, .ref h3])), (h1, .inl (cyI, h_r, .inl h_leastRim)), (h2, .inl (cyI, h_n, .inl h_least)), (h3, .inl (cyI, h_n, .inl h_stacks))] (fun u => some (.int (u.2.1 0))) (fun u => (0 ≤ (u.2.1 1).toInt ∧ (u.2.1 1).toInt ≤ 1) ∧ (0 ≤ (u.2.1 2).toInt ∧ (u.2.1 2).toInt ≤ 12) ∧ (HL (u.1 3) (u.1 1)) ∧ (((u.2.1 1)).toInt = 0 ∨ (u.2.1 2) = a_wares ∧ (2 : Int) ^ ((u.2.1 2)).toInt.toNat ≤ (((u.1 3) : Nat) : Int))) (fun u => [(x0, .inr (10, [.ref r0, .ref a0, .ref n0, .ref k0, .ref x1, .ref q0, .ref o0, .ref h0, .ref s0, .ref d0])), (a0, .inr (9, [.int a_wares, .int a_shelves, .int a_nests, .ref a1, .ref a2, .ref a3, .ref a4, .ref a5, .ref a6, .int a_lids, .int a_tops, .ref a7, .ref a8, .ref a9, .ref a10])), (a1, .inl (cyI, 12, .inl a_wide)), (a2, .inl (cyI, 12, .inl a_deep)), (a3, .inl (cyI, 12, .inl a_weight)), (a4, .inl (cyI, 12, .inl a_bears)), (a7, .inl (cyI, 12, .inl a_mayOn)), (h0, .inr (0, [.int (u.2.1 1), .int (u.2.1 2), .ref (u.1 0), .ref (u.1 2), .ref (u.1 4)])), ((u.1 0), .inl (cyI, (u.1 1), .inl (u.2.2.1 0))), ((u.1 2), .inl (cyI, (u.1 3), .inl (u.2.2.1 1))), ((u.1 4), .inl (cyI, (u.1 3), .inl (u.2.2.1 2)))]) := by
  refine KK.of (lv0 := [(0, .ref x0), (1, .int p0), (2, .int p1), (3, .int p2)]) (by decide) rfl (Nat.le_of_ble_eq_true rfl) ?_
  intro p e s m args below meth c A C hr hk hin
  have hpw1 := pw1 (a_wares).toInt.toNat
  refine j_iload_n (pc := 0) C dX10_sorted_0 rfl 2 rfl ?_
  refine j_callS (pc := 1) (As := [.int p1]) (rest := []) (wr := [(x0, .inr (10, [.ref r0, .ref a0, .ref n0, .ref k0, .ref x1, .ref q0, .ref o0, .ref h0, .ref s0, .ref d0])), (a0, .inr (9, [.int a_wares, .int a_shelves, .int a_nests, .ref a1, .ref a2, .ref a3, .ref a4, .ref a5, .ref a6, .int a_lids, .int a_tops, .ref a7, .ref a8, .ref a9, .ref a10])), (a1, .inl (cyI, 12, .inl a_wide)), (a2, .inl (cyI, 12, .inl a_deep)), (a3, .inl (cyI, 12, .inl a_weight)), (a4, .inl (cyI, 12, .inl a_bears)), (a7, .inl (cyI, 12, .inl a_mayOn)), (h0, .inr (0, [.int h_known, .int h_wares, .ref h1, .ref h2, .ref h3])), (h1, .inl (cyI, h_r, .inl h_leastRim)), (h2, .inl (cyI, h_n, .inl h_least)), (h3, .inl (cyI, h_n, .inl h_stacks))]) C (c_X10_isHeight l D cyC cyI cyJ cyZ cyO p1) wd_579 wd_482 wd_580 wd_581 ⟨by decide, by decide, rfl⟩ rfl ⟨rfl, rfl, by decide, by decide⟩ ⟨by decide, by decide⟩ [] [0, 1, 2, 3, 4, 5, 6, 7, 8, 9, 10] rfl rfl ⟨by decide, by decide, by decide⟩ rfl (Nat.le_of_ble_eq_true rfl) dX10_sorted_1 (fun u_1 hw_2 => ?_)
  refine j_eq (ws2 := [(x0, .inr (10, [.ref r0, .ref a0, .ref n0, .ref k0, .ref x1, .ref q0, .ref o0, .ref h0, .ref s0, .ref d0])), (a0, .inr (9, [.int a_wares, .int a_shelves, .int a_nests, .ref a1, .ref a2, .ref a3, .ref a4, .ref a5, .ref a6, .int a_lids, .int a_tops, .ref a7, .ref a8, .ref a9, .ref a10])), (a1, .inl (cyI, 12, .inl a_wide)), (a2, .inl (cyI, 12, .inl a_deep)), (a3, .inl (cyI, 12, .inl a_weight)), (a4, .inl (cyI, 12, .inl a_bears)), (a7, .inl (cyI, 12, .inl a_mayOn)), (h0, .inr (0, [.int h_known, .int h_wares, .ref h1, .ref h2, .ref h3])), (h1, .inl (cyI, h_r, .inl h_leastRim)), (h2, .inl (cyI, h_n, .inl h_least)), (h3, .inl (cyI, h_n, .inl h_stacks))]) (pc2 := 4) (lv2 := [(0, .ref x0), (1, .int p0), (2, .int p1), (3, .int p2)]) (st2 := [.int (u_1.2.1 0)]) rfl rfl rfl rfl ?_
  have hw_2_0 : 0 ≤ (u_1.2.1 0).toInt ∧ (u_1.2.1 0).toInt ≤ 1 := hw_2
  refine j_if_eq (pc := 4) (tgt := 37) C dX10_sorted_4 (by decide) (fun c_3 => ?_) (fun c_3 => ?_)
  · skip
    have el_0 : (0 : Int32).toInt = 0 := rfl
    rw [i_eq] at c_3
    refine j_iconst (pc := 37) (v := (-1)) C dX10_sorted_37 (by decide) ?_
    have el_m1 : ((-1) : Int32).toInt = (-1) := rfl
    have el_m1 : ((-1) : Int32).toInt = (-1) := rfl
    exact j_iret (pc := 38) C hr hk (fun i => [h1, h_r, h2, h_n, h3].getD i 0, fun i => [(-1), h_known, h_wares].getD i 0, fun i => [h_leastRim, h_least, h_stacks].getD i (fun _ => 0), fun i => [].getD i (fun _ => 0)) rfl (show (0 ≤ (h_known).toInt ∧ (h_known).toInt ≤ 1) ∧ (0 ≤ (h_wares).toInt ∧ (h_wares).toInt ≤ 12) ∧ (HL h_n h_r) ∧ ((h_known).toInt = 0 ∨ h_wares = a_wares ∧ (2 : Int) ^ (h_wares).toInt.toNat ≤ ((h_n : Nat) : Int)) from ⟨by omega, by omega, hH, hk9⟩) [0, 1, 2, 3, 4, 5, 6, 7, 8, 9, 10] (by decide) rfl (by decide) (by decide) dX10_sorted_38
  · skip
    have el_0 : (0 : Int32).toInt = 0 := rfl
    rw [i_eq] at c_3
    refine j_iload_n (pc := 7) C dX10_sorted_7 rfl 1 rfl ?_
    refine j_iconst (pc := 8) (v := 1) C dX10_sorted_8 (by decide) ?_
    refine j_icmp_lt (pc := 9) (tgt := 37) C dX10_sorted_9 (by decide) (fun c_4 => ?_) (fun c_4 => ?_)
    · skip
      have el_1 : (1 : Int32).toInt = 1 := rfl
      rw [i_lt] at c_4
      refine j_iconst (pc := 37) (v := (-1)) C dX10_sorted_37 (by decide) ?_
      have el_m1 : ((-1) : Int32).toInt = (-1) := rfl
      have el_m1 : ((-1) : Int32).toInt = (-1) := rfl
      exact j_iret (pc := 38) C hr hk (fun i => [h1, h_r, h2, h_n, h3].getD i 0, fun i => [(-1), h_known, h_wares].getD i 0, fun i => [h_leastRim, h_least, h_stacks].getD i (fun _ => 0), fun i => [].getD i (fun _ => 0)) rfl (show (0 ≤ (h_known).toInt ∧ (h_known).toInt ≤ 1) ∧ (0 ≤ (h_wares).toInt ∧ (h_wares).toInt ≤ 12) ∧ (HL h_n h_r) ∧ ((h_known).toInt = 0 ∨ h_wares = a_wares ∧ (2 : Int) ^ (h_wares).toInt.toNat ≤ ((h_n : Nat) : Int)) from ⟨by omega, by omega, hH, hk9⟩) [0, 1, 2, 3, 4, 5, 6, 7, 8, 9, 10] (by decide) rfl (by decide) (by decide) dX10_sorted_38
    · skip
      have el_1 : (1 : Int32).toInt = 1 := rfl
      rw [i_lt] at c_4
      refine j_iload_n (pc := 12) C dX10_sorted_12 rfl 1 rfl ?_
      refine j_iconst (pc := 13) (v := 1) C dX10_sorted_13 (by decide) ?_
      refine j_aload_n (pc := 14) C dX10_sorted_14 rfl 0 rfl ?_
      refine j_get (pc := 15) (ci := 10) (v := .ref a0) C inw_10 0 rfl rfl 1 (by decide) wd_447 rfl rfl dX10_sorted_15 ?_
      refine j_get (pc := 18) (ci := 9) (v := .int a_wares) C inw_9 1 rfl rfl 0 (by decide) wd_534 rfl rfl dX10_sorted_18 ?_
      obtain ⟨v_5, ev_5⟩ : ∃ z : Int32, 1 <<< (a_wares &&& 31) = z := ⟨_, rfl⟩
      have el_1 : (1 : Int32).toInt = 1 := rfl
      have hv_5 : 1 ≤ v_5.toInt ∧ v_5.toInt ≤ 4096 := by rw [← ev_5]; exact shl1_iv 0 12 (by omega) (by omega) (by omega)
      have hv_5p : v_5.toInt = 2 ^ (a_wares).toInt.toNat := by rw [← ev_5]; exact shl1_I (by omega) (by omega)
      refine j_ishl (pc := 21) (v := v_5) C dX10_sorted_21 ev_5 ?_
      refine j_icmp_ge (pc := 22) (tgt := 37) C dX10_sorted_22 (by decide) (fun c_6 => ?_) (fun c_6 => ?_)
      · skip
        rw [i_le] at c_6
        refine j_iconst (pc := 37) (v := (-1)) C dX10_sorted_37 (by decide) ?_
        have el_m1 : ((-1) : Int32).toInt = (-1) := rfl
        have el_m1 : ((-1) : Int32).toInt = (-1) := rfl
        exact j_iret (pc := 38) C hr hk (fun i => [h1, h_r, h2, h_n, h3].getD i 0, fun i => [(-1), h_known, h_wares].getD i 0, fun i => [h_leastRim, h_least, h_stacks].getD i (fun _ => 0), fun i => [].getD i (fun _ => 0)) rfl (show (0 ≤ (h_known).toInt ∧ (h_known).toInt ≤ 1) ∧ (0 ≤ (h_wares).toInt ∧ (h_wares).toInt ≤ 12) ∧ (HL h_n h_r) ∧ ((h_known).toInt = 0 ∨ h_wares = a_wares ∧ (2 : Int) ^ (h_wares).toInt.toNat ≤ ((h_n : Nat) : Int)) from ⟨by omega, by omega, hH, hk9⟩) [0, 1, 2, 3, 4, 5, 6, 7, 8, 9, 10] (by decide) rfl (by decide) (by decide) dX10_sorted_38
      · skip
        rw [i_le] at c_6
        refine j_iload_n (pc := 25) C dX10_sorted_25 rfl 3 rfl ?_
        refine j_if_lt (pc := 26) (tgt := 37) C dX10_sorted_26 (by decide) (fun c_7 => ?_) (fun c_7 => ?_)
        · skip
          have el_0 : (0 : Int32).toInt = 0 := rfl
          rw [i_lt] at c_7
          refine j_iconst (pc := 37) (v := (-1)) C dX10_sorted_37 (by decide) ?_
          have el_m1 : ((-1) : Int32).toInt = (-1) := rfl
          have el_m1 : ((-1) : Int32).toInt = (-1) := rfl
          exact j_iret (pc := 38) C hr hk (fun i => [h1, h_r, h2, h_n, h3].getD i 0, fun i => [(-1), h_known, h_wares].getD i 0, fun i => [h_leastRim, h_least, h_stacks].getD i (fun _ => 0), fun i => [].getD i (fun _ => 0)) rfl (show (0 ≤ (h_known).toInt ∧ (h_known).toInt ≤ 1) ∧ (0 ≤ (h_wares).toInt ∧ (h_wares).toInt ≤ 12) ∧ (HL h_n h_r) ∧ ((h_known).toInt = 0 ∨ h_wares = a_wares ∧ (2 : Int) ^ (h_wares).toInt.toNat ≤ ((h_n : Nat) : Int)) from ⟨by omega, by omega, hH, hk9⟩) [0, 1, 2, 3, 4, 5, 6, 7, 8, 9, 10] (by decide) rfl (by decide) (by decide) dX10_sorted_38
        · skip
          have el_0 : (0 : Int32).toInt = 0 := rfl
          rw [i_lt] at c_7
          refine j_iload_n (pc := 29) C dX10_sorted_29 rfl 3 rfl ?_
          refine j_iload_n (pc := 30) C dX10_sorted_30 rfl 1 rfl ?_
          refine j_callS (pc := 31) (As := [.int p0]) (rest := [.int p2]) (wr := [(x0, .inr (10, [.ref r0, .ref a0, .ref n0, .ref k0, .ref x1, .ref q0, .ref o0, .ref h0, .ref s0, .ref d0])), (a0, .inr (9, [.int a_wares, .int a_shelves, .int a_nests, .ref a1, .ref a2, .ref a3, .ref a4, .ref a5, .ref a6, .int a_lids, .int a_tops, .ref a7, .ref a8, .ref a9, .ref a10])), (a1, .inl (cyI, 12, .inl a_wide)), (a2, .inl (cyI, 12, .inl a_deep)), (a3, .inl (cyI, 12, .inl a_weight)), (a4, .inl (cyI, 12, .inl a_bears)), (a7, .inl (cyI, 12, .inl a_mayOn)), (h0, .inr (0, [.int h_known, .int h_wares, .ref h1, .ref h2, .ref h3])), (h1, .inl (cyI, h_r, .inl h_leastRim)), (h2, .inl (cyI, h_n, .inl h_least)), (h3, .inl (cyI, h_n, .inl h_stacks))]) C (c_J6_bitCount_0f7a4 l D cyC cyI cyJ cyZ cyO p0) wd_84 wd_85 wd_591 wd_87 ⟨by decide, by decide, rfl⟩ rfl ⟨rfl, rfl, by decide, by decide⟩ ⟨by decide, by decide⟩ [] [0, 1, 2, 3, 4, 5, 6, 7, 8, 9, 10] rfl rfl ⟨by decide, by decide, by decide⟩ rfl (Nat.le_of_ble_eq_true rfl) dX10_sorted_31 (fun u_8 hw_9 => ?_)
          refine j_eq (ws2 := [(x0, .inr (10, [.ref r0, .ref a0, .ref n0, .ref k0, .ref x1, .ref q0, .ref o0, .ref h0, .ref s0, .ref d0])), (a0, .inr (9, [.int a_wares, .int a_shelves, .int a_nests, .ref a1, .ref a2, .ref a3, .ref a4, .ref a5, .ref a6, .int a_lids, .int a_tops, .ref a7, .ref a8, .ref a9, .ref a10])), (a1, .inl (cyI, 12, .inl a_wide)), (a2, .inl (cyI, 12, .inl a_deep)), (a3, .inl (cyI, 12, .inl a_weight)), (a4, .inl (cyI, 12, .inl a_bears)), (a7, .inl (cyI, 12, .inl a_mayOn)), (h0, .inr (0, [.int h_known, .int h_wares, .ref h1, .ref h2, .ref h3])), (h1, .inl (cyI, h_r, .inl h_leastRim)), (h2, .inl (cyI, h_n, .inl h_least)), (h3, .inl (cyI, h_n, .inl h_stacks))]) (pc2 := 34) (lv2 := [(0, .ref x0), (1, .int p0), (2, .int p1), (3, .int p2)]) (st2 := [.int (u_8.2.1 0), .int p2]) rfl rfl rfl rfl ?_
          have hw_9_0 : 0 ≤ (u_8.2.1 0).toInt ∧ (u_8.2.1 0).toInt ≤ 63 := hw_9
          refine j_icmp_lt (pc := 34) (tgt := 39) C dX10_sorted_34 (by decide) (fun c_10 => ?_) (fun c_10 => ?_)
          · skip
            rw [i_lt] at c_10
            refine j_aload_n (pc := 39) C dX10_sorted_39 rfl 0 rfl ?_
            refine j_get (pc := 40) (ci := 10) (v := .ref h0) C inw_10 0 rfl rfl 7 (by decide) wd_582 rfl rfl dX10_sorted_40 ?_
            refine j_aload_n (pc := 43) C dX10_sorted_43 rfl 0 rfl ?_
            refine j_get (pc := 44) (ci := 10) (v := .ref a0) C inw_10 0 rfl rfl 1 (by decide) wd_447 rfl rfl dX10_sorted_44 ?_
            refine j_callV (pc := 47) (As := [.ref a0]) (rest := []) (wr := [(x0, .inr (10, [.ref r0, .ref a0, .ref n0, .ref k0, .ref x1, .ref q0, .ref o0, .ref h0, .ref s0, .ref d0]))]) C (c_X0_settle l D cyC cyI cyJ cyZ cyO h0 h1 h2 h3 a0 a1 a2 a3 a4 a7 a5 a6 a8 a9 a10 h_r h_n h_known h_wares a_wares a_shelves a_nests a_lids a_tops h_leastRim h_least h_stacks a_wide a_deep a_weight a_bears a_mayOn (by omega) (by omega) (by omega) (by omega) (by omega) hH hk9) wd_583 wd_166 wd_584 wd_585 wd_586 ⟨by decide, by decide, rfl⟩ rfl ⟨rfl, rfl, by decide, by decide⟩ ⟨by decide, by decide⟩ [7, 8, 9, 10, 1, 2, 3, 4, 5, 6] [0] rfl rfl ⟨by decide, by decide, by decide⟩ 7 rfl rfl rfl (Nat.le_of_ble_eq_true rfl) dX10_sorted_47 (fun u_11 hw_12 => ?_)
            refine j_eq (ws2 := [(x0, .inr (10, [.ref r0, .ref a0, .ref n0, .ref k0, .ref x1, .ref q0, .ref o0, .ref h0, .ref s0, .ref d0])), (h0, .inr (0, [.int (u_11.2.1 0), .int (u_11.2.1 1), .ref (u_11.1 0), .ref (u_11.1 2), .ref (u_11.1 4)])), ((u_11.1 0), .inl (cyI, (u_11.1 1), .inl (u_11.2.2.1 0))), ((u_11.1 2), .inl (cyI, (u_11.1 3), .inl (u_11.2.2.1 1))), ((u_11.1 4), .inl (cyI, (u_11.1 3), .inl (u_11.2.2.1 2))), (a0, .inr (9, [.int a_wares, .int a_shelves, .int a_nests, .ref a1, .ref a2, .ref a3, .ref a4, .ref a5, .ref a6, .int a_lids, .int a_tops, .ref a7, .ref a8, .ref a9, .ref a10])), (a1, .inl (cyI, 12, .inl a_wide)), (a2, .inl (cyI, 12, .inl a_deep)), (a3, .inl (cyI, 12, .inl a_weight)), (a4, .inl (cyI, 12, .inl a_bears)), (a7, .inl (cyI, 12, .inl a_mayOn))]) (pc2 := 50) (lv2 := [(0, .ref x0), (1, .int p0), (2, .int p1), (3, .int p2)]) (st2 := []) rfl rfl rfl rfl ?_
            refine j_widen (k := 3) (n := 57344) (by decide) (by decide) ?_
            obtain ⟨hw_12_0, hw_12_1, hw_12_2, hw_12_3, hw_12_4, hw_12_5, hw_12_6, hw_12_7, hw_12_8⟩ := hw_12
            refine j_aload_n (pc := 50) C dX10_sorted_50 rfl 0 rfl ?_
            refine j_get (pc := 51) (ci := 10) (v := .ref h0) C inw_10 0 rfl rfl 7 (by decide) wd_582 rfl rfl dX10_sorted_51 ?_
            refine j_aload_n (pc := 54) C dX10_sorted_54 rfl 0 rfl ?_
            refine j_get (pc := 55) (ci := 10) (v := .ref a0) C inw_10 0 rfl rfl 1 (by decide) wd_447 rfl rfl dX10_sorted_55 ?_
            refine j_iload_n (pc := 58) C dX10_sorted_58 rfl 1 rfl ?_
            refine j_iload_n (pc := 59) C dX10_sorted_59 rfl 2 rfl ?_
            refine j_iload_n (pc := 60) C dX10_sorted_60 rfl 3 rfl ?_
            refine j_callV (pc := 61) (As := [.ref a0, .int p0, .int p1, .int p2]) (rest := []) (wr := [(x0, .inr (10, [.ref r0, .ref a0, .ref n0, .ref k0, .ref x1, .ref q0, .ref o0, .ref h0, .ref s0, .ref d0])), ((u_11.1 2), .inl (cyI, (u_11.1 3), .inl (u_11.2.2.1 1))), ((u_11.1 4), .inl (cyI, (u_11.1 3), .inl (u_11.2.2.1 2))), (a3, .inl (cyI, 12, .inl a_weight)), (a4, .inl (cyI, 12, .inl a_bears))]) C (c_X0_inOrder l D cyC cyI cyJ cyZ cyO h0 (u_11.1 0) a0 a1 a2 a7 (u_11.1 2) (u_11.1 4) a3 a4 a5 a6 a8 a9 a10 (u_11.1 1) p0 p1 p2 (u_11.2.1 0) (u_11.2.1 1) a_wares a_shelves a_nests a_lids a_tops (u_11.2.2.1 0) a_wide a_deep a_mayOn (by omega) (by omega) (by omega) (by omega) (by omega) (by omega) (by omega) (by omega) (by omega) (by omega)) wd_592 wd_166 wd_593 wd_594 wd_595 ⟨by decide, by decide, rfl⟩ rfl ⟨rfl, rfl, by decide, by decide⟩ ⟨by decide, by decide⟩ [1, 2, 5, 6, 7, 10] [0, 3, 4, 8, 9] rfl rfl ⟨by decide, by decide, by decide⟩ 1 rfl rfl rfl (Nat.le_of_ble_eq_true rfl) dX10_sorted_61 (fun u_13 hw_14 => ?_)
            refine j_eq (ws2 := [(x0, .inr (10, [.ref r0, .ref a0, .ref n0, .ref k0, .ref x1, .ref q0, .ref o0, .ref h0, .ref s0, .ref d0])), ((u_11.1 2), .inl (cyI, (u_11.1 3), .inl (u_11.2.2.1 1))), ((u_11.1 4), .inl (cyI, (u_11.1 3), .inl (u_11.2.2.1 2))), (a3, .inl (cyI, 12, .inl a_weight)), (a4, .inl (cyI, 12, .inl a_bears)), (h0, .inr (0, [.int (u_11.2.1 0), .int (u_11.2.1 1), .ref (u_11.1 0), .ref (u_11.1 2), .ref (u_11.1 4)])), ((u_11.1 0), .inl (cyI, (u_11.1 1), .inl (u_11.2.2.1 0))), (a0, .inr (9, [.int a_wares, .int a_shelves, .int a_nests, .ref a1, .ref a2, .ref a3, .ref a4, .ref a5, .ref a6, .int a_lids, .int a_tops, .ref a7, .ref a8, .ref a9, .ref a10])), (a1, .inl (cyI, 12, .inl a_wide)), (a2, .inl (cyI, 12, .inl a_deep)), (a7, .inl (cyI, 12, .inl a_mayOn))]) (pc2 := 64) (lv2 := [(0, .ref x0), (1, .int p0), (2, .int p1), (3, .int p2)]) (st2 := [.int (u_13.2.1 0)]) rfl rfl rfl rfl ?_
            have hw_14_0 : -1 ≤ (u_13.2.1 0).toInt ∧ (u_13.2.1 0).toInt ≤ 11 := hw_14
            exact j_iret (pc := 64) C hr hk (fun i => [(u_11.1 0), (u_11.1 1), (u_11.1 2), (u_11.1 3), (u_11.1 4)].getD i 0, fun i => [(u_13.2.1 0), (u_11.2.1 0), (u_11.2.1 1)].getD i 0, fun i => [(u_11.2.2.1 0), (u_11.2.2.1 1), (u_11.2.2.1 2)].getD i (fun _ => 0), fun i => [].getD i (fun _ => 0)) rfl (show (0 ≤ ((u_11.2.1 0)).toInt ∧ ((u_11.2.1 0)).toInt ≤ 1) ∧ (0 ≤ ((u_11.2.1 1)).toInt ∧ ((u_11.2.1 1)).toInt ≤ 12) ∧ (HL (u_11.1 3) (u_11.1 1)) ∧ (((u_11.2.1 0)).toInt = 0 ∨ (u_11.2.1 1) = a_wares ∧ (2 : Int) ^ ((u_11.2.1 1)).toInt.toNat ≤ (((u_11.1 3) : Nat) : Int)) from ⟨by omega, by omega, hw_12_2, (Or.inr ⟨hw_12_3, hw_12_5⟩)⟩) [0, 7, 8, 9, 3, 4, 10, 5, 6, 1, 2] (by decide) rfl (by decide) (by decide) dX10_sorted_64
          · skip
            rw [i_lt] at c_10
            refine j_iconst (pc := 37) (v := (-1)) C dX10_sorted_37 (by decide) ?_
            have el_m1 : ((-1) : Int32).toInt = (-1) := rfl
            have el_m1 : ((-1) : Int32).toInt = (-1) := rfl
            exact j_iret (pc := 38) C hr hk (fun i => [h1, h_r, h2, h_n, h3].getD i 0, fun i => [(-1), h_known, h_wares].getD i 0, fun i => [h_leastRim, h_least, h_stacks].getD i (fun _ => 0), fun i => [].getD i (fun _ => 0)) rfl (show (0 ≤ (h_known).toInt ∧ (h_known).toInt ≤ 1) ∧ (0 ≤ (h_wares).toInt ∧ (h_wares).toInt ≤ 12) ∧ (HL h_n h_r) ∧ ((h_known).toInt = 0 ∨ h_wares = a_wares ∧ (2 : Int) ^ (h_wares).toInt.toNat ≤ ((h_n : Nat) : Int)) from ⟨by omega, by omega, hH, hk9⟩) [0, 1, 2, 3, 4, 5, 6, 7, 8, 9, 10] (by decide) rfl (by decide) (by decide) dX10_sorted_38
/-- one sign more, if it is one and there is room -/
def ladd (n : Int) (c : Int32) : Int := if (c.toInt = 10 ∨ 32 ≤ c.toInt ∧ c.toInt ≤ 126) ∧ n < 1000 then n + 1 else n
def bytU (v : Int64) (x : Int32) : Int32 := ((v.toUInt64 >>> (x.toInt64.toUInt64 &&& Int64.toUInt64 63)).toInt64).toInt32 &&& 255
def bytS (v : Int64) (x : Int32) : Int32 := (v >>> (x.toInt64 &&& 63)).toInt32 &&& 255
theorem by_cu : ∀ k, k < 64 → (((nI k).toInt64.toUInt64 &&& Int64.toUInt64 63).toBitVec % 64).toNat = k := by decide +kernel
theorem by_cs : ∀ k, k < 64 → (((nI k).toInt64 &&& 63).toBitVec.smod 64).toNat = k := by decide +kernel
theorem by_255 : ∀ i, i < 32 → 8 ≤ i → (255 : Int32).toBitVec.getLsbD i = false := by decide +kernel
theorem by_U {v : Int64} {n i : Nat} (hn : n < 57) (hi : i < 8) : (((v.toUInt64 >>> ((nI n).toInt64.toUInt64 &&& Int64.toUInt64 63)).toInt64).toInt32).toBitVec.getLsbD i = v.toBitVec.getLsbD (n + i) := by
  rw [Int64.toBitVec_toInt32, BitVec.getLsbD_signExtend, decide_eq_true (show i < 32 from by omega), Bool.true_and, if_pos (show i < 64 from by omega)]
  show (v.toUInt64 >>> ((nI n).toInt64.toUInt64 &&& Int64.toUInt64 63)).toBitVec.getLsbD i = v.toUInt64.toBitVec.getLsbD (n + i)
  rw [UInt64.toBitVec_shiftRight]
  show (v.toUInt64.toBitVec >>> (((nI n).toInt64.toUInt64 &&& Int64.toUInt64 63).toBitVec % 64).toNat).getLsbD i = _
  rw [by_cu n (by omega), BitVec.getLsbD_ushiftRight]
theorem by_S {v : Int64} {n i : Nat} (hn : n < 57) (hi : i < 8) : ((v >>> ((nI n).toInt64 &&& 63)).toInt32).toBitVec.getLsbD i = v.toBitVec.getLsbD (n + i) := by
  rw [Int64.toBitVec_toInt32, BitVec.getLsbD_signExtend, decide_eq_true (show i < 32 from by omega), Bool.true_and, if_pos (show i < 64 from by omega), Int64.toBitVec_shiftRight]
  show (v.toBitVec.sshiftRight (((nI n).toInt64 &&& 63).toBitVec.smod 64).toNat).getLsbD i = _
  rw [by_cs n (by omega), BitVec.getLsbD_sshiftRight, if_pos (show n + i < 64 from by omega), decide_eq_false (show ¬ 64 ≤ i from by omega)]
  rfl
theorem byt_eq {v : Int64} {x : Int32} (h0 : 0 ≤ x.toInt) (h1 : x.toInt ≤ 56) : bytU v x = bytS v x := by
  obtain ⟨n, e, hn, _⟩ := nI_ofI h0
  have hn2 : n < 57 := by omega
  subst e
  unfold bytU bytS
  apply Int32.toBitVec_inj.mp
  apply BitVec.eq_of_getLsbD_eq
  intro i hi
  rw [Int32.toBitVec_and, Int32.toBitVec_and, BitVec.getLsbD_and, BitVec.getLsbD_and]
  rcases Nat.lt_or_ge i 8 with q | q
  · rw [by_U hn2 q, by_S hn2 q]
  · rw [by_255 i hi q, Bool.and_false, Bool.and_false]
/-- how many there are behind the first k bytes of a long -/
def layN (n : Int) (v : Int64) : Nat → Int
  | 0 => n
  | k + 1 => ladd (layN n v k) (bytS v (nI (56 - 8 * k)))
theorem nI_bk {x : Int32} (h : 0 ≤ x.toInt) : nI x.toInt.toNat = x := by
  obtain ⟨n, e, hn, _⟩ := nI_ofI h
  rw [show x.toInt.toNat = n from (by omega)]; exact e.symm
/-- the text behind one sign more -/
def lrow (f : Nat → Int32) (n : Int) (c : Int32) : Nat → Int32 := if (c.toInt = 10 ∨ 32 ≤ c.toInt ∧ c.toInt ≤ 126) ∧ n < 1000 then upd f n.toNat c else f
def layF (f : Nat → Int32) (n : Int) (v : Int64) : Nat → Nat → Int32
  | 0 => f
  | k + 1 => lrow (layF f n v k) (layN n v k) (bytS v (nI (56 - 8 * k)))
theorem ladd_ge {n : Int} {c : Int32} : n ≤ ladd n c := by unfold ladd; split <;> omega
theorem layN_ge {n : Int} {v : Int64} : ∀ k, n ≤ layN n v k := by
  intro k
  induction k with
  | zero => exact Int.le_refl _
  | succ k ih => exact Int.le_trans ih ladd_ge
theorem lrow_cong {f g : Nat → Int32} {n : Int} {c : Int32} (h0 : 0 ≤ n) (h : ∀ j : Nat, (j : Int) < n → g j = f j) : ∀ j : Nat, (j : Int) < ladd n c → lrow g n c j = lrow f n c j := by
  intro j hj
  unfold ladd at hj
  unfold lrow
  by_cases q : (c.toInt = 10 ∨ 32 ≤ c.toInt ∧ c.toInt ≤ 126) ∧ n < 1000
  · rw [if_pos q] at hj
    rw [if_pos q, if_pos q]
    by_cases e : j = n.toNat
    · rw [e, pk_us, pk_us]
    · rw [pk_un e, pk_un e]; exact h j (by omega)
  · rw [if_neg q] at hj
    rw [if_neg q, if_neg q]; exact h j hj
theorem layF_cong {f g : Nat → Int32} {n : Int} {v : Int64} (h0 : 0 ≤ n) (h : ∀ j : Nat, (j : Int) < n → g j = f j) : ∀ k (j : Nat), (j : Int) < layN n v k → layF g n v k j = layF f n v k j := by
  intro k
  induction k with
  | zero => exact h
  | succ k ih => exact lrow_cong (Int.le_trans h0 (layN_ge k)) ih
theorem lay3_cong {f g : Nat → Int32} {n : Int} {a b c : Int64} (h0 : 0 ≤ n) (h : ∀ j : Nat, (j : Int) < n → g j = f j) : ∀ j : Nat, (j : Int) < layN (layN (layN n a 8) b 8) c 8 → layF (layF (layF g n a 8) (layN n a 8) b 8) (layN (layN n a 8) b 8) c 8 j = layF (layF (layF f n a 8) (layN n a 8) b 8) (layN (layN n a 8) b 8) c 8 j :=
  layF_cong (Int.le_trans (Int.le_trans h0 (layN_ge 8)) (layN_ge 8)) (layF_cong (Int.le_trans h0 (layN_ge 8)) (layF_cong h0 h 8) 8) 8
theorem vp_nar_c {x : Int32} (h0 : 0 ≤ x.toInt) (h1 : x.toInt ≤ 65535) : vp_nar .char x = x := by
  unfold vp_nar; rw [nc_16 h0 h1]

