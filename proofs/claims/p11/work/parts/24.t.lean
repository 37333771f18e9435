theorem wd_579 : Cond.code yX10_isHeight cX10_isHeight 1 (some .boolean) ∈ WALL := wl_in (by decide +kernel) (by decide +kernel)
theorem wd_580 : Cond.methodLink RX10 243 yX10_isHeight ∈ WALL := wl_in (by decide +kernel) (by decide +kernel)
theorem wd_581 : Cond.static yX10_isHeight ∈ WALL := wl_in (by decide +kernel) (by decide +kernel)
theorem wd_582 : Cond.fieldLink RX10 54 "BowlShelf" "heights" "LBowlShelf$Heights;" ∈ WALL := wl_in (by decide +kernel) (by decide +kernel)
theorem wd_583 : Cond.code yX0_settle cX0_settle 4 none ∈ WALL := wl_in (by decide +kernel) (by decide +kernel)
theorem wd_584 : Cond.methodLink RX10 249 yX0_settle ∈ WALL := wl_in (by decide +kernel) (by decide +kernel)
theorem wd_585 : Cond.instanceMethod yX0_settle ∈ WALL := wl_in (by decide +kernel) (by decide +kernel)
theorem wd_586 : Cond.selects RX0 yX0_settle yX0_settle ∈ WALL := wl_in (by decide +kernel) (by decide +kernel)
theorem wd_587 : Cond.code yX0_fewestStacks cX0_fewestStacks 4 (some .int) ∈ WALL := wl_in (by decide +kernel) (by decide +kernel)
theorem wd_588 : Cond.methodLink RX10 251 yX0_fewestStacks ∈ WALL := wl_in (by decide +kernel) (by decide +kernel)
theorem wd_589 : Cond.instanceMethod yX0_fewestStacks ∈ WALL := wl_in (by decide +kernel) (by decide +kernel)
theorem wd_590 : Cond.selects RX0 yX0_fewestStacks yX0_fewestStacks ∈ WALL := wl_in (by decide +kernel) (by decide +kernel)
theorem wd_591 : Cond.methodLink RX10 254 yJ6_bitCount_0f7a4 ∈ WALL := wl_in (by decide +kernel) (by decide +kernel)
theorem wd_592 : Cond.code yX0_inOrder cX0_inOrder 10 (some .int) ∈ WALL := wl_in (by decide +kernel) (by decide +kernel)
theorem wd_593 : Cond.methodLink RX10 259 yX0_inOrder ∈ WALL := wl_in (by decide +kernel) (by decide +kernel)
theorem wd_594 : Cond.instanceMethod yX0_inOrder ∈ WALL := wl_in (by decide +kernel) (by decide +kernel)
theorem wd_595 : Cond.selects RX0 yX0_inOrder yX0_inOrder ∈ WALL := wl_in (by decide +kernel) (by decide +kernel)
theorem wd_596 : Cond.code yX8_add cX8_add 3 none ∈ WALL := wl_in (by decide +kernel) (by decide +kernel)
theorem wd_597 : Cond.methodLink RX10 86 yX8_add ∈ WALL := wl_in (by decide +kernel) (by decide +kernel)
theorem wd_598 : Cond.instanceMethod yX8_add ∈ WALL := wl_in (by decide +kernel) (by decide +kernel)
theorem wd_599 : Cond.selects RX8 yX8_add yX8_add ∈ WALL := wl_in (by decide +kernel) (by decide +kernel)
theorem wd_600 : Cond.code yX10_feedBytes cX10_feedBytes 4 none ∈ WALL := wl_in (by decide +kernel) (by decide +kernel)
theorem wd_601 : Cond.methodLink RX10 72 yX10_feedBytes ∈ WALL := wl_in (by decide +kernel) (by decide +kernel)
theorem wd_602 : Cond.instanceMethod yX10_feedBytes ∈ WALL := wl_in (by decide +kernel) (by decide +kernel)
theorem wd_603 : Cond.selects RX10 yX10_feedBytes yX10_feedBytes ∈ WALL := wl_in (by decide +kernel) (by decide +kernel)
theorem dX10_isHeight_0 : decode cX10_isHeight 0 = .ok (.iload_n 0, 1) := by decide +kernel
theorem dX10_isHeight_1 : decode cX10_isHeight 1 = .ok (.iconst 1, 1) := by decide +kernel
theorem dX10_isHeight_2 : decode cX10_isHeight 2 = .ok (.if_icmp .lt 14, 3) := by decide +kernel
theorem dX10_isHeight_5 : decode cX10_isHeight 5 = .ok (.iload_n 0, 1) := by decide +kernel
theorem dX10_isHeight_6 : decode cX10_isHeight 6 = .ok (.sipush 999, 3) := by decide +kernel
theorem dX10_isHeight_9 : decode cX10_isHeight 9 = .ok (.if_icmp .gt 7, 3) := by decide +kernel
theorem dX10_isHeight_12 : decode cX10_isHeight 12 = .ok (.iconst 1, 1) := by decide +kernel
theorem dX10_isHeight_13 : decode cX10_isHeight 13 = .ok (.goto 4, 3) := by decide +kernel
theorem dX10_isHeight_16 : decode cX10_isHeight 16 = .ok (.iconst 0, 1) := by decide +kernel
theorem dX10_isHeight_17 : decode cX10_isHeight 17 = .ok (.ireturn, 1) := by decide +kernel
theorem dX10_needed_0 : decode cX10_needed 0 = .ok (.iload_n 1, 1) := by decide +kernel
theorem dX10_needed_1 : decode cX10_needed 1 = .ok (.invokestatic 243, 3) := by decide +kernel
theorem dX10_needed_4 : decode cX10_needed 4 = .ok (.ifCond .ne 5, 3) := by decide +kernel
theorem dX10_needed_7 : decode cX10_needed 7 = .ok (.iconst (-1), 1) := by decide +kernel
theorem dX10_needed_8 : decode cX10_needed 8 = .ok (.ireturn, 1) := by decide +kernel
theorem dX10_needed_9 : decode cX10_needed 9 = .ok (.iconst 0, 1) := by decide +kernel
theorem dX10_needed_10 : decode cX10_needed 10 = .ok (.istore_n 2, 1) := by decide +kernel
theorem dX10_needed_11 : decode cX10_needed 11 = .ok (.iload_n 2, 1) := by decide +kernel
theorem dX10_needed_12 : decode cX10_needed 12 = .ok (.aload_n 0, 1) := by decide +kernel
theorem dX10_needed_13 : decode cX10_needed 13 = .ok (.getfield 19, 3) := by decide +kernel
theorem dX10_needed_16 : decode cX10_needed 16 = .ok (.getfield 246, 3) := by decide +kernel
theorem dX10_needed_19 : decode cX10_needed 19 = .ok (.if_icmp .ge 24, 3) := by decide +kernel
theorem dX10_needed_22 : decode cX10_needed 22 = .ok (.aload_n 0, 1) := by decide +kernel
theorem dX10_needed_23 : decode cX10_needed 23 = .ok (.getfield 19, 3) := by decide +kernel
theorem dX10_needed_26 : decode cX10_needed 26 = .ok (.getfield 120, 3) := by decide +kernel
theorem dX10_needed_29 : decode cX10_needed 29 = .ok (.iload_n 2, 1) := by decide +kernel
theorem dX10_needed_30 : decode cX10_needed 30 = .ok (.iaload, 1) := by decide +kernel
theorem dX10_needed_31 : decode cX10_needed 31 = .ok (.iload_n 1, 1) := by decide +kernel
theorem dX10_needed_32 : decode cX10_needed 32 = .ok (.if_icmp .le 5, 3) := by decide +kernel
theorem dX10_needed_35 : decode cX10_needed 35 = .ok (.iconst (-1), 1) := by decide +kernel
theorem dX10_needed_36 : decode cX10_needed 36 = .ok (.ireturn, 1) := by decide +kernel
theorem dX10_needed_37 : decode cX10_needed 37 = .ok (.iinc 2 1, 3) := by decide +kernel
theorem dX10_needed_40 : decode cX10_needed 40 = .ok (.goto (-29), 3) := by decide +kernel
theorem dX10_needed_43 : decode cX10_needed 43 = .ok (.aload_n 0, 1) := by decide +kernel
theorem dX10_needed_44 : decode cX10_needed 44 = .ok (.getfield 54, 3) := by decide +kernel
theorem dX10_needed_47 : decode cX10_needed 47 = .ok (.aload_n 0, 1) := by decide +kernel
theorem dX10_needed_48 : decode cX10_needed 48 = .ok (.getfield 19, 3) := by decide +kernel
theorem dX10_needed_51 : decode cX10_needed 51 = .ok (.invokevirtual 249, 3) := by decide +kernel
theorem dX10_needed_54 : decode cX10_needed 54 = .ok (.aload_n 0, 1) := by decide +kernel
theorem dX10_needed_55 : decode cX10_needed 55 = .ok (.getfield 54, 3) := by decide +kernel
theorem dX10_needed_58 : decode cX10_needed 58 = .ok (.iload_n 1, 1) := by decide +kernel
theorem dX10_needed_59 : decode cX10_needed 59 = .ok (.invokevirtual 251, 3) := by decide +kernel
theorem dX10_needed_62 : decode cX10_needed 62 = .ok (.ireturn, 1) := by decide +kernel
theorem dX10_sorted_0 : decode cX10_sorted 0 = .ok (.iload_n 2, 1) := by decide +kernel
theorem dX10_sorted_1 : decode cX10_sorted 1 = .ok (.invokestatic 243, 3) := by decide +kernel
theorem dX10_sorted_4 : decode cX10_sorted 4 = .ok (.ifCond .eq 33, 3) := by decide +kernel
theorem dX10_sorted_7 : decode cX10_sorted 7 = .ok (.iload_n 1, 1) := by decide +kernel
theorem dX10_sorted_8 : decode cX10_sorted 8 = .ok (.iconst 1, 1) := by decide +kernel
theorem dX10_sorted_9 : decode cX10_sorted 9 = .ok (.if_icmp .lt 28, 3) := by decide +kernel
theorem dX10_sorted_12 : decode cX10_sorted 12 = .ok (.iload_n 1, 1) := by decide +kernel
theorem dX10_sorted_13 : decode cX10_sorted 13 = .ok (.iconst 1, 1) := by decide +kernel
theorem dX10_sorted_14 : decode cX10_sorted 14 = .ok (.aload_n 0, 1) := by decide +kernel
theorem dX10_sorted_15 : decode cX10_sorted 15 = .ok (.getfield 19, 3) := by decide +kernel
theorem dX10_sorted_18 : decode cX10_sorted 18 = .ok (.getfield 246, 3) := by decide +kernel
theorem dX10_sorted_21 : decode cX10_sorted 21 = .ok (.ishl, 1) := by decide +kernel
theorem dX10_sorted_22 : decode cX10_sorted 22 = .ok (.if_icmp .ge 15, 3) := by decide +kernel
theorem dX10_sorted_25 : decode cX10_sorted 25 = .ok (.iload_n 3, 1) := by decide +kernel
theorem dX10_sorted_26 : decode cX10_sorted 26 = .ok (.ifCond .lt 11, 3) := by decide +kernel
theorem dX10_sorted_29 : decode cX10_sorted 29 = .ok (.iload_n 3, 1) := by decide +kernel
theorem dX10_sorted_30 : decode cX10_sorted 30 = .ok (.iload_n 1, 1) := by decide +kernel
theorem dX10_sorted_31 : decode cX10_sorted 31 = .ok (.invokestatic 254, 3) := by decide +kernel
theorem dX10_sorted_34 : decode cX10_sorted 34 = .ok (.if_icmp .lt 5, 3) := by decide +kernel
theorem dX10_sorted_37 : decode cX10_sorted 37 = .ok (.iconst (-1), 1) := by decide +kernel
theorem dX10_sorted_38 : decode cX10_sorted 38 = .ok (.ireturn, 1) := by decide +kernel
theorem dX10_sorted_39 : decode cX10_sorted 39 = .ok (.aload_n 0, 1) := by decide +kernel
theorem dX10_sorted_40 : decode cX10_sorted 40 = .ok (.getfield 54, 3) := by decide +kernel
theorem dX10_sorted_43 : decode cX10_sorted 43 = .ok (.aload_n 0, 1) := by decide +kernel
theorem dX10_sorted_44 : decode cX10_sorted 44 = .ok (.getfield 19, 3) := by decide +kernel
theorem dX10_sorted_47 : decode cX10_sorted 47 = .ok (.invokevirtual 249, 3) := by decide +kernel
theorem dX10_sorted_50 : decode cX10_sorted 50 = .ok (.aload_n 0, 1) := by decide +kernel
theorem dX10_sorted_51 : decode cX10_sorted 51 = .ok (.getfield 54, 3) := by decide +kernel
theorem dX10_sorted_54 : decode cX10_sorted 54 = .ok (.aload_n 0, 1) := by decide +kernel
theorem dX10_sorted_55 : decode cX10_sorted 55 = .ok (.getfield 19, 3) := by decide +kernel
theorem dX10_sorted_58 : decode cX10_sorted 58 = .ok (.iload_n 1, 1) := by decide +kernel
theorem dX10_sorted_59 : decode cX10_sorted 59 = .ok (.iload_n 2, 1) := by decide +kernel
theorem dX10_sorted_60 : decode cX10_sorted 60 = .ok (.iload_n 3, 1) := by decide +kernel
theorem dX10_sorted_61 : decode cX10_sorted 61 = .ok (.invokevirtual 259, 3) := by decide +kernel
theorem dX10_sorted_64 : decode cX10_sorted 64 = .ok (.ireturn, 1) := by decide +kernel
theorem dX10_feedBytes_0 : decode cX10_feedBytes 0 = .ok (.bipush 56, 2) := by decide +kernel
theorem dX10_feedBytes_2 : decode cX10_feedBytes 2 = .ok (.istore_n 3, 1) := by decide +kernel
theorem dX10_feedBytes_3 : decode cX10_feedBytes 3 = .ok (.iload_n 3, 1) := by decide +kernel
theorem dX10_feedBytes_4 : decode cX10_feedBytes 4 = .ok (.ifCond .lt 27, 3) := by decide +kernel
theorem dX10_feedBytes_7 : decode cX10_feedBytes 7 = .ok (.aload_n 0, 1) := by decide +kernel
theorem dX10_feedBytes_8 : decode cX10_feedBytes 8 = .ok (.getfield 10, 3) := by decide +kernel
theorem dX10_feedBytes_11 : decode cX10_feedBytes 11 = .ok (.getfield 76, 3) := by decide +kernel
theorem dX10_feedBytes_14 : decode cX10_feedBytes 14 = .ok (.lload_n 1, 1) := by decide +kernel
theorem dX10_feedBytes_15 : decode cX10_feedBytes 15 = .ok (.iload_n 3, 1) := by decide +kernel
theorem dX10_feedBytes_16 : decode cX10_feedBytes 16 = .ok (.lushr, 1) := by decide +kernel
theorem dX10_feedBytes_17 : decode cX10_feedBytes 17 = .ok (.l2i, 1) := by decide +kernel
theorem dX10_feedBytes_18 : decode cX10_feedBytes 18 = .ok (.sipush 255, 3) := by decide +kernel
theorem dX10_feedBytes_21 : decode cX10_feedBytes 21 = .ok (.iand, 1) := by decide +kernel
theorem dX10_feedBytes_22 : decode cX10_feedBytes 22 = .ok (.invokevirtual 86, 3) := by decide +kernel
theorem dX10_feedBytes_25 : decode cX10_feedBytes 25 = .ok (.iinc 3 (-8), 3) := by decide +kernel
theorem dX10_feedBytes_28 : decode cX10_feedBytes 28 = .ok (.goto (-25), 3) := by decide +kernel
theorem dX10_feedBytes_31 : decode cX10_feedBytes 31 = .ok (.return_, 1) := by decide +kernel
theorem dX10_feed_0 : decode cX10_feed 0 = .ok (.aload_n 0, 1) := by decide +kernel
theorem dX10_feed_1 : decode cX10_feed 1 = .ok (.lload_n 1, 1) := by decide +kernel
theorem dX10_feed_2 : decode cX10_feed 2 = .ok (.invokevirtual 72, 3) := by decide +kernel
theorem dX10_feed_5 : decode cX10_feed 5 = .ok (.aload_n 0, 1) := by decide +kernel
theorem dX10_feed_6 : decode cX10_feed 6 = .ok (.lload_n 3, 1) := by decide +kernel
theorem dX10_feed_7 : decode cX10_feed 7 = .ok (.invokevirtual 72, 3) := by decide +kernel
theorem dX10_feed_10 : decode cX10_feed 10 = .ok (.aload_n 0, 1) := by decide +kernel
theorem dX10_feed_11 : decode cX10_feed 11 = .ok (.lload 5, 2) := by decide +kernel
theorem dX10_feed_13 : decode cX10_feed 13 = .ok (.invokevirtual 72, 3) := by decide +kernel
theorem dX10_feed_16 : decode cX10_feed 16 = .ok (.aload_n 0, 1) := by decide +kernel
theorem dX10_feed_17 : decode cX10_feed 17 = .ok (.getfield 10, 3) := by decide +kernel
theorem dX10_feed_20 : decode cX10_feed 20 = .ok (.getfield 76, 3) := by decide +kernel
theorem dX10_feed_23 : decode cX10_feed 23 = .ok (.getfield 80, 3) := by decide +kernel
theorem dX10_feed_26 : decode cX10_feed 26 = .ok (.ireturn, 1) := by decide +kernel
set_option maxHeartbeats 4000000 in
set_option maxRecDepth 100000 in
theorem c_X10_isHeight (l : Launch) (D : DG) (cyC cyI cyJ cyZ cyO : ClassId) (p0 : Int32) : KK l D (TY cyC cyI cyJ cyZ cyO) yX10_isHeight cX10_isHeight 1 (some .boolean) ({ frames := 0, cells := 0, slots := 0, locals := 0 } : Room) 0 0 [.int p0] [] (fun u => some (.int (u.2.1 0))) (fun u => (0 ≤ (u.2.1 0).toInt ∧ (u.2.1 0).toInt ≤ 1)) (fun u => []) := by
  refine KK.of (lv0 := [(0, .int p0)]) (by decide) rfl (Nat.le_of_ble_eq_true rfl) ?_
  intro p e s m args below meth c A C hr hk hin
  refine j_iload_n (pc := 0) C dX10_isHeight_0 rfl 0 rfl ?_
  refine j_iconst (pc := 1) (v := 1) C dX10_isHeight_1 (by decide) ?_
  refine j_icmp_lt (pc := 2) (tgt := 16) C dX10_isHeight_2 (by decide) (fun c_1 => ?_) (fun c_1 => ?_)
  · skip
    have el_1 : (1 : Int32).toInt = 1 := rfl
    rw [i_lt] at c_1
    refine j_iconst (pc := 16) (v := 0) C dX10_isHeight_16 (by decide) ?_
    have el_0 : (0 : Int32).toInt = 0 := rfl
    exact j_zret (pc := 17) C hr rfl hk (fun i => [].getD i 0, fun i => [0].getD i 0, fun i => [].getD i (fun _ => 0), fun i => [].getD i (fun _ => 0)) rfl (show (0 ≤ ((0 : Int32)).toInt ∧ ((0 : Int32)).toInt ≤ 1) from (by omega)) [] (by decide) rfl (by decide) (by decide) dX10_isHeight_17
  · skip
    have el_1 : (1 : Int32).toInt = 1 := rfl
    rw [i_lt] at c_1
    refine j_iload_n (pc := 5) C dX10_isHeight_5 rfl 0 rfl ?_
    refine j_sipush (pc := 6) (v := 999) C dX10_isHeight_6 (by decide) ?_
    refine j_icmp_gt (pc := 9) (tgt := 16) C dX10_isHeight_9 (by decide) (fun c_2 => ?_) (fun c_2 => ?_)
    · skip
      have el_999 : (999 : Int32).toInt = 999 := rfl
      rw [i_lt] at c_2
      refine j_iconst (pc := 16) (v := 0) C dX10_isHeight_16 (by decide) ?_
      have el_0 : (0 : Int32).toInt = 0 := rfl
      exact j_zret (pc := 17) C hr rfl hk (fun i => [].getD i 0, fun i => [0].getD i 0, fun i => [].getD i (fun _ => 0), fun i => [].getD i (fun _ => 0)) rfl (show (0 ≤ ((0 : Int32)).toInt ∧ ((0 : Int32)).toInt ≤ 1) from (by omega)) [] (by decide) rfl (by decide) (by decide) dX10_isHeight_17
    · skip
      have el_999 : (999 : Int32).toInt = 999 := rfl
      rw [i_lt] at c_2
      refine j_iconst (pc := 12) (v := 1) C dX10_isHeight_12 (by decide) ?_
      refine j_goto (pc := 13) (tgt := 17) C dX10_isHeight_13 (by decide) ?_
      have el_1 : (1 : Int32).toInt = 1 := rfl
      exact j_zret (pc := 17) C hr rfl hk (fun i => [].getD i 0, fun i => [1].getD i 0, fun i => [].getD i (fun _ => 0), fun i => [].getD i (fun _ => 0)) rfl (show (0 ≤ ((1 : Int32)).toInt ∧ ((1 : Int32)).toInt ≤ 1) from (by omega)) [] (by decide) rfl (by decide) (by decide) dX10_isHeight_17
set_option maxHeartbeats 4000000 in
set_option maxRecDepth 100000 in
theorem c_X10_needed (l : Launch) (D : DG) (cyC cyI cyJ cyZ cyO : ClassId) (x0 : Nat) (a0 : Nat) (a1 : Nat) (a2 : Nat) (a3 : Nat) (a4 : Nat) (a7 : Nat) (h0 : Nat) (h1 : Nat) (h2 : Nat) (h3 : Nat) (r0 : Nat) (n0 : Nat) (k0 : Nat) (x1 : Nat) (q0 : Nat) (o0 : Nat) (s0 : Nat) (d0 : Nat) (a5 : Nat) (a6 : Nat) (a8 : Nat) (a9 : Nat) (a10 : Nat) (h_r : Nat) (h_n : Nat) (p0 : Int32) (a_wares : Int32) (a_shelves : Int32) (a_nests : Int32) (a_lids : Int32) (a_tops : Int32) (h_known : Int32) (h_wares : Int32) (a_wide : Nat → Int32) (a_deep : Nat → Int32) (a_weight : Nat → Int32) (a_bears : Nat → Int32) (a_mayOn : Nat → Int32) (h_leastRim : Nat → Int32) (h_least : Nat → Int32) (h_stacks : Nat → Int32) (h_a_wares : 0 ≤ (a_wares).toInt ∧ (a_wares).toInt ≤ 12) (h_a_shelves : 0 ≤ (a_shelves).toInt ∧ (a_shelves).toInt ≤ 4) (h_a_nests : 0 ≤ (a_nests).toInt ∧ (a_nests).toInt ≤ 4) (h_h_known : 0 ≤ (h_known).toInt ∧ (h_known).toInt ≤ 1) (h_h_wares : 0 ≤ (h_wares).toInt ∧ (h_wares).toInt ≤ 12) (hH : HL h_n h_r) (hk9 : (h_known).toInt = 0 ∨ h_wares = a_wares ∧ (2 : Int) ^ (h_wares).toInt.toNat ≤ (h_n : Int)) : KK l D (TY cyC cyI cyJ cyZ cyO) yX10_needed cX10_needed 3 (some .int) ({ frames := 4, cells := 3, slots := 57344, locals := 100 } : Room) 3 57344 [.ref x0, .int p0] [(x0, .inr (10, [.ref r0, .ref a0, .ref n0, .ref k0, .ref x1, .ref q0, .ref o0, .ref h0, .ref s0, .ref d0])), (a0, .inr (9, [.int a_wares, .int a_shelves, .int a_nests, .ref a1, .ref a2, .ref a3, .ref a4, .ref a5, .ref a6, .int a_lids, .int a_tops, .ref a7, .ref a8, .ref a9, .ref a10])), (a1, .inl (cyI, 12, .inl a_wide)), (a2, .inl (cyI, 12, .inl a_deep)), (a3, .inl (cyI, 12, .inl a_weight)), (a4, .inl (cyI, 12, .inl a_bears)), (a7, .inl (cyI, 12, .inl a_mayOn)), (h0, .inr (0, [.int h_known, .int h_wares, .ref h1, .ref h2, .ref h3])), (h1, .inl (cyI, h_r, .inl h_leastRim)), (h2, .inl (cyI, h_n, .inl h_least)), (h3, .inl (cyI, h_n, .inl h_stacks))] (fun u => some (.int (u.2.1 0))) (fun u => (0 ≤ (u.2.1 1).toInt ∧ (u.2.1 1).toInt ≤ 1) ∧ (0 ≤ (u.2.1 2).toInt ∧ (u.2.1 2).toInt ≤ 12) ∧ (HL (u.1 3) (u.1 1)) ∧ (((u.2.1 1)).toInt = 0 ∨ (u.2.1 2) = a_wares ∧ (2 : Int) ^ ((u.2.1 2)).toInt.toNat ≤ (((u.1 3) : Nat) : Int))) (fun u => [(x0, .inr (10, [.ref r0, .ref a0, .ref n0, .ref k0, .ref x1, .ref q0, .ref o0, .ref h0, .ref s0, .ref d0])), (a0, .inr (9, [.int a_wares, .int a_shelves, .int a_nests, .ref a1, .ref a2, .ref a3, .ref a4, .ref a5, .ref a6, .int a_lids, .int a_tops, .ref a7, .ref a8, .ref a9, .ref a10])), (a1, .inl (cyI, 12, .inl a_wide)), (a2, .inl (cyI, 12, .inl a_deep)), (a3, .inl (cyI, 12, .inl a_weight)), (a4, .inl (cyI, 12, .inl a_bears)), (a7, .inl (cyI, 12, .inl a_mayOn)), (h0, .inr (0, [.int (u.2.1 1), .int (u.2.1 2), .ref (u.1 0), .ref (u.1 2), .ref (u.1 4)])), ((u.1 0), .inl (cyI, (u.1 1), .inl (u.2.2.1 0))), ((u.1 2), .inl (cyI, (u.1 3), .inl (u.2.2.1 1))), ((u.1 4), .inl (cyI, (u.1 3), .inl (u.2.2.1 2)))]) := by
  refine KK.of (lv0 := [(0, .ref x0), (1, .int p0)]) (by decide) rfl (Nat.le_of_ble_eq_true rfl) ?_
  intro p e s m args below meth c A C hr hk hin
  have hpw1 := pw1 (a_wares).toInt.toNat
  refine j_iload_n (pc := 0) C dX10_needed_0 rfl 1 rfl ?_
  refine j_callS (pc := 1) (As := [.int p0]) (rest := []) (wr := [(x0, .inr (10, [.ref r0, .ref a0, .ref n0, .ref k0, .ref x1, .ref q0, .ref o0, .ref h0, .ref s0, .ref d0])), (a0, .inr (9, [.int a_wares, .int a_shelves, .int a_nests, .ref a1, .ref a2, .ref a3, .ref a4, .ref a5, .ref a6, .int a_lids, .int a_tops, .ref a7, .ref a8, .ref a9, .ref a10])), (a1, .inl (cyI, 12, .inl a_wide)), (a2, .inl (cyI, 12, .inl a_deep)), (a3, .inl (cyI, 12, .inl a_weight)), (a4, .inl (cyI, 12, .inl a_bears)), (a7, .inl (cyI, 12, .inl a_mayOn)), (h0, .inr (0, [.int h_known, .int h_wares, .ref h1, .ref h2, .ref h3])), (h1, .inl (cyI, h_r, .inl h_leastRim)), (h2, .inl (cyI, h_n, .inl h_least)), (h3, .inl (cyI, h_n, .inl h_stacks))]) C (c_X10_isHeight l D cyC cyI cyJ cyZ cyO p0) wd_579 wd_482 wd_580 wd_581 ⟨by decide, by decide, rfl⟩ rfl ⟨rfl, rfl, by decide, by decide⟩ ⟨by decide, by decide⟩ [] [0, 1, 2, 3, 4, 5, 6, 7, 8, 9, 10] rfl rfl ⟨by decide, by decide, by decide⟩ rfl (Nat.le_of_ble_eq_true rfl) dX10_needed_1 (fun u_1 hw_2 => ?_)
  refine j_eq (ws2 := [(x0, .inr (10, [.ref r0, .ref a0, .ref n0, .ref k0, .ref x1, .ref q0, .ref o0, .ref h0, .ref s0, .ref d0])), (a0, .inr (9, [.int a_wares, .int a_shelves, .int a_nests, .ref a1, .ref a2, .ref a3, .ref a4, .ref a5, .ref a6, .int a_lids, .int a_tops, .ref a7, .ref a8, .ref a9, .ref a10])), (a1, .inl (cyI, 12, .inl a_wide)), (a2, .inl (cyI, 12, .inl a_deep)), (a3, .inl (cyI, 12, .inl a_weight)), (a4, .inl (cyI, 12, .inl a_bears)), (a7, .inl (cyI, 12, .inl a_mayOn)), (h0, .inr (0, [.int h_known, .int h_wares, .ref h1, .ref h2, .ref h3])), (h1, .inl (cyI, h_r, .inl h_leastRim)), (h2, .inl (cyI, h_n, .inl h_least)), (h3, .inl (cyI, h_n, .inl h_stacks))]) (pc2 := 4) (lv2 := [(0, .ref x0), (1, .int p0)]) (st2 := [.int (u_1.2.1 0)]) rfl rfl rfl rfl ?_
  have hw_2_0 : 0 ≤ (u_1.2.1 0).toInt ∧ (u_1.2.1 0).toInt ≤ 1 := hw_2
  refine j_if_ne (pc := 4) (tgt := 9) C dX10_needed_4 (by decide) (fun c_3 => ?_) (fun c_3 => ?_)
  · skip
    have el_0 : (0 : Int32).toInt = 0 := rfl
    rw [i_eq] at c_3
    have k0c_3 : ((u_1.2.1 0)).toInt = 1 := by omega
    refine j_iconst (pc := 9) (v := 0) C dX10_needed_9 (by decide) ?_
    refine j_istore_n (pc := 10) (lv' := [(2, .int 0), (0, .ref x0), (1, .int p0)]) C dX10_needed_10 rfl (by decide) rfl ?_
    have loop_4 : ∀ (k_4 : Nat) (x4_2 : Int32), (0 ≤ (x4_2).toInt ∧ (x4_2).toInt ≤ 12) → (12 - x4_2.toInt).toNat < k_4 → J p l e ({ frames := 4, cells := 3, slots := 57344, locals := 100 } : Room) s m args below meth c D A 3 0 0 (QX below D (TY cyC cyI cyJ cyZ cyO) A (fun u => some (.int (u.2.1 0))) (fun u => (0 ≤ (u.2.1 1).toInt ∧ (u.2.1 1).toInt ≤ 1) ∧ (0 ≤ (u.2.1 2).toInt ∧ (u.2.1 2).toInt ≤ 12) ∧ (HL (u.1 3) (u.1 1)) ∧ (((u.2.1 1)).toInt = 0 ∨ (u.2.1 2) = a_wares ∧ (2 : Int) ^ ((u.2.1 2)).toInt.toNat ≤ (((u.1 3) : Nat) : Int))) (fun u => [(x0, .inr (10, [.ref r0, .ref a0, .ref n0, .ref k0, .ref x1, .ref q0, .ref o0, .ref h0, .ref s0, .ref d0])), (a0, .inr (9, [.int a_wares, .int a_shelves, .int a_nests, .ref a1, .ref a2, .ref a3, .ref a4, .ref a5, .ref a6, .int a_lids, .int a_tops, .ref a7, .ref a8, .ref a9, .ref a10])), (a1, .inl (cyI, 12, .inl a_wide)), (a2, .inl (cyI, 12, .inl a_deep)), (a3, .inl (cyI, 12, .inl a_weight)), (a4, .inl (cyI, 12, .inl a_bears)), (a7, .inl (cyI, 12, .inl a_mayOn)), (h0, .inr (0, [.int (u.2.1 1), .int (u.2.1 2), .ref (u.1 0), .ref (u.1 2), .ref (u.1 4)])), ((u.1 0), .inl (cyI, (u.1 1), .inl (u.2.2.1 0))), ((u.1 2), .inl (cyI, (u.1 3), .inl (u.2.2.1 1))), ((u.1 4), .inl (cyI, (u.1 3), .inl (u.2.2.1 2)))]) args s 3 57344) [(x0, .inr (10, [.ref r0, .ref a0, .ref n0, .ref k0, .ref x1, .ref q0, .ref o0, .ref h0, .ref s0, .ref d0])), (a0, .inr (9, [.int a_wares, .int a_shelves, .int a_nests, .ref a1, .ref a2, .ref a3, .ref a4, .ref a5, .ref a6, .int a_lids, .int a_tops, .ref a7, .ref a8, .ref a9, .ref a10])), (a1, .inl (cyI, 12, .inl a_wide)), (a2, .inl (cyI, 12, .inl a_deep)), (a3, .inl (cyI, 12, .inl a_weight)), (a4, .inl (cyI, 12, .inl a_bears)), (a7, .inl (cyI, 12, .inl a_mayOn)), (h0, .inr (0, [.int h_known, .int h_wares, .ref h1, .ref h2, .ref h3])), (h1, .inl (cyI, h_r, .inl h_leastRim)), (h2, .inl (cyI, h_n, .inl h_least)), (h3, .inl (cyI, h_n, .inl h_stacks))] 11 [(2, .int x4_2), (0, .ref x0), (1, .int p0)] [] := by
      intro k_4
      induction k_4 with
      | zero =>
        intro x4_2 hi_4_0 hm_4
        exact absurd hm_4 (Nat.not_lt_zero _)
      | succ k_4 ih_4 =>
        intro x4_2 hi_4_0 hm_4
        refine j_iload_n (pc := 11) C dX10_needed_11 rfl 0 rfl ?_
        refine j_aload_n (pc := 12) C dX10_needed_12 rfl 1 rfl ?_
        refine j_get (pc := 13) (ci := 10) (v := .ref a0) C inw_10 0 rfl rfl 1 (by decide) wd_447 rfl rfl dX10_needed_13 ?_
        refine j_get (pc := 16) (ci := 9) (v := .int a_wares) C inw_9 1 rfl rfl 0 (by decide) wd_534 rfl rfl dX10_needed_16 ?_
        refine j_icmp_ge (pc := 19) (tgt := 43) C dX10_needed_19 (by decide) (fun c_5 => ?_) (fun c_5 => ?_)
        · skip
          rw [i_le] at c_5
          refine j_aload_n (pc := 43) C dX10_needed_43 rfl 1 rfl ?_
          refine j_get (pc := 44) (ci := 10) (v := .ref h0) C inw_10 0 rfl rfl 7 (by decide) wd_582 rfl rfl dX10_needed_44 ?_
          refine j_aload_n (pc := 47) C dX10_needed_47 rfl 1 rfl ?_
          refine j_get (pc := 48) (ci := 10) (v := .ref a0) C inw_10 0 rfl rfl 1 (by decide) wd_447 rfl rfl dX10_needed_48 ?_
          refine j_callV (pc := 51) (As := [.ref a0]) (rest := []) (wr := [(x0, .inr (10, [.ref r0, .ref a0, .ref n0, .ref k0, .ref x1, .ref q0, .ref o0, .ref h0, .ref s0, .ref d0]))]) C (c_X0_settle l D cyC cyI cyJ cyZ cyO h0 h1 h2 h3 a0 a1 a2 a3 a4 a7 a5 a6 a8 a9 a10 h_r h_n h_known h_wares a_wares a_shelves a_nests a_lids a_tops h_leastRim h_least h_stacks a_wide a_deep a_weight a_bears a_mayOn h_h_known h_h_wares h_a_wares h_a_shelves h_a_nests hH hk9) wd_583 wd_166 wd_584 wd_585 wd_586 ⟨by decide, by decide, rfl⟩ rfl ⟨rfl, rfl, by decide, by decide⟩ ⟨by decide, by decide⟩ [7, 8, 9, 10, 1, 2, 3, 4, 5, 6] [0] rfl rfl ⟨by decide, by decide, by decide⟩ 7 rfl rfl rfl (Nat.le_of_ble_eq_true rfl) dX10_needed_51 (fun u_6 hw_7 => ?_)
          refine j_eq (ws2 := [(x0, .inr (10, [.ref r0, .ref a0, .ref n0, .ref k0, .ref x1, .ref q0, .ref o0, .ref h0, .ref s0, .ref d0])), (h0, .inr (0, [.int (u_6.2.1 0), .int (u_6.2.1 1), .ref (u_6.1 0), .ref (u_6.1 2), .ref (u_6.1 4)])), ((u_6.1 0), .inl (cyI, (u_6.1 1), .inl (u_6.2.2.1 0))), ((u_6.1 2), .inl (cyI, (u_6.1 3), .inl (u_6.2.2.1 1))), ((u_6.1 4), .inl (cyI, (u_6.1 3), .inl (u_6.2.2.1 2))), (a0, .inr (9, [.int a_wares, .int a_shelves, .int a_nests, .ref a1, .ref a2, .ref a3, .ref a4, .ref a5, .ref a6, .int a_lids, .int a_tops, .ref a7, .ref a8, .ref a9, .ref a10])), (a1, .inl (cyI, 12, .inl a_wide)), (a2, .inl (cyI, 12, .inl a_deep)), (a3, .inl (cyI, 12, .inl a_weight)), (a4, .inl (cyI, 12, .inl a_bears)), (a7, .inl (cyI, 12, .inl a_mayOn))]) (pc2 := 54) (lv2 := [(2, .int x4_2), (0, .ref x0), (1, .int p0)]) (st2 := []) rfl rfl rfl rfl ?_
          refine j_widen (k := 3) (n := 57344) (by decide) (by decide) ?_
          obtain ⟨hw_7_0, hw_7_1, hw_7_2, hw_7_3, hw_7_4, hw_7_5, hw_7_6, hw_7_7, hw_7_8⟩ := hw_7
          refine j_aload_n (pc := 54) C dX10_needed_54 rfl 1 rfl ?_
          refine j_get (pc := 55) (ci := 10) (v := .ref h0) C inw_10 0 rfl rfl 7 (by decide) wd_582 rfl rfl dX10_needed_55 ?_
          refine j_iload_n (pc := 58) C dX10_needed_58 rfl 2 rfl ?_
          refine j_callV (pc := 59) (As := [.int p0]) (rest := []) (wr := [(x0, .inr (10, [.ref r0, .ref a0, .ref n0, .ref k0, .ref x1, .ref q0, .ref o0, .ref h0, .ref s0, .ref d0])), ((u_6.1 0), .inl (cyI, (u_6.1 1), .inl (u_6.2.2.1 0))), (a0, .inr (9, [.int a_wares, .int a_shelves, .int a_nests, .ref a1, .ref a2, .ref a3, .ref a4, .ref a5, .ref a6, .int a_lids, .int a_tops, .ref a7, .ref a8, .ref a9, .ref a10])), (a1, .inl (cyI, 12, .inl a_wide)), (a2, .inl (cyI, 12, .inl a_deep)), (a3, .inl (cyI, 12, .inl a_weight)), (a4, .inl (cyI, 12, .inl a_bears)), (a7, .inl (cyI, 12, .inl a_mayOn))]) C (c_X0_fewestStacks l D cyC cyI cyJ cyZ cyO h0 (u_6.1 2) (u_6.1 4) (u_6.1 0) (u_6.1 3) p0 (u_6.2.1 0) (u_6.2.1 1) (u_6.2.2.1 1) (u_6.2.2.1 2) (by omega) hw_7_1 (by omega) (by omega)) wd_587 wd_166 wd_588 wd_589 wd_590 ⟨by decide, by decide, rfl⟩ rfl ⟨rfl, rfl, by decide, by decide⟩ ⟨by decide, by decide⟩ [1, 3, 4] [0, 2, 5, 6, 7, 8, 9, 10] rfl rfl ⟨by decide, by decide, by decide⟩ 1 rfl rfl rfl (Nat.le_of_ble_eq_true rfl) dX10_needed_59 (fun u_8 hw_9 => ?_)
          refine j_eq (ws2 := [(x0, .inr (10, [.ref r0, .ref a0, .ref n0, .ref k0, .ref x1, .ref q0, .ref o0, .ref h0, .ref s0, .ref d0])), ((u_6.1 0), .inl (cyI, (u_6.1 1), .inl (u_6.2.2.1 0))), (a0, .inr (9, [.int a_wares, .int a_shelves, .int a_nests, .ref a1, .ref a2, .ref a3, .ref a4, .ref a5, .ref a6, .int a_lids, .int a_tops, .ref a7, .ref a8, .ref a9, .ref a10])), (a1, .inl (cyI, 12, .inl a_wide)), (a2, .inl (cyI, 12, .inl a_deep)), (a3, .inl (cyI, 12, .inl a_weight)), (a4, .inl (cyI, 12, .inl a_bears)), (a7, .inl (cyI, 12, .inl a_mayOn)), (h0, .inr (0, [.int (u_6.2.1 0), .int (u_6.2.1 1), .ref (u_6.1 0), .ref (u_6.1 2), .ref (u_6.1 4)])), ((u_6.1 2), .inl (cyI, (u_6.1 3), .inl (u_6.2.2.1 1))), ((u_6.1 4), .inl (cyI, (u_6.1 3), .inl (u_8.2.2.1 0)))]) (pc2 := 62) (lv2 := [(2, .int x4_2), (0, .ref x0), (1, .int p0)]) (st2 := [.int (u_8.2.1 0)]) rfl rfl rfl rfl ?_
          exact j_iret (pc := 62) C hr hk (fun i => [(u_6.1 0), (u_6.1 1), (u_6.1 2), (u_6.1 3), (u_6.1 4)].getD i 0, fun i => [(u_8.2.1 0), (u_6.2.1 0), (u_6.2.1 1)].getD i 0, fun i => [(u_6.2.2.1 0), (u_6.2.2.1 1), (u_8.2.2.1 0)].getD i (fun _ => 0), fun i => [].getD i (fun _ => 0)) rfl (show (0 ≤ ((u_6.2.1 0)).toInt ∧ ((u_6.2.1 0)).toInt ≤ 1) ∧ (0 ≤ ((u_6.2.1 1)).toInt ∧ ((u_6.2.1 1)).toInt ≤ 12) ∧ (HL (u_6.1 3) (u_6.1 1)) ∧ (((u_6.2.1 0)).toInt = 0 ∨ (u_6.2.1 1) = a_wares ∧ (2 : Int) ^ ((u_6.2.1 1)).toInt.toNat ≤ (((u_6.1 3) : Nat) : Int)) from ⟨by omega, hw_7_1, hw_7_2, (Or.inr ⟨hw_7_3, hw_7_5⟩)⟩) [0, 2, 3, 4, 5, 6, 7, 8, 1, 9, 10] (by decide) rfl (by decide) (by decide) dX10_needed_62
        · skip
          rw [i_le] at c_5
          refine j_aload_n (pc := 22) C dX10_needed_22 rfl 1 rfl ?_
          refine j_get (pc := 23) (ci := 10) (v := .ref a0) C inw_10 0 rfl rfl 1 (by decide) wd_447 rfl rfl dX10_needed_23 ?_
          refine j_get (pc := 26) (ci := 9) (v := .ref a2) C inw_9 1 rfl rfl 4 (by decide) wd_472 rfl rfl dX10_needed_26 ?_
          refine j_iload_n (pc := 29) C dX10_needed_29 rfl 0 rfl ?_
          obtain ⟨v_10, ev_10⟩ : ∃ z, a_deep (x4_2).toInt.toNat = z := ⟨_, rfl⟩
          have env_10 : (a_deep (x4_2).toInt.toNat).toInt = v_10.toInt := by rw [ev_10]
          refine j_iald (pc := 30) (v := v_10) (k := (x4_2).toInt.toNat) C 3 1 rfl rfl (i_nn hi_4_0.1) rfl (i_lt_n hi_4_0.1 (by omega)) ev_10 dX10_needed_30 ?_
          refine j_iload_n (pc := 31) C dX10_needed_31 rfl 2 rfl ?_
          refine j_icmp_le (pc := 32) (tgt := 37) C dX10_needed_32 (by decide) (fun c_11 => ?_) (fun c_11 => ?_)
          · skip
            rw [i_le] at c_11
            obtain ⟨v_12, ev_12⟩ : ∃ z : Int32, x4_2 + 1 = z := ⟨_, rfl⟩
            have el_1 : (1 : Int32).toInt = 1 := rfl
            have hv_12 : v_12.toInt = x4_2.toInt + (1 : Int32).toInt := by rw [← ev_12]; exact fb_addI (by omega) (by omega)
            refine j_iinc (pc := 37) (v := v_12) (lv' := [(2, .int v_12), (0, .ref x0), (1, .int p0)]) C dX10_needed_37 0 rfl ev_12 (by decide) rfl ?_
            refine j_goto (pc := 40) (tgt := 11) C dX10_needed_40 (by decide) ?_
            exact j_lv [0, 1, 2] rfl (ih_4 v_12 (by omega) (by omega))
          · skip
            rw [i_le] at c_11
            refine j_iconst (pc := 35) (v := (-1)) C dX10_needed_35 (by decide) ?_
            have el_m1 : ((-1) : Int32).toInt = (-1) := rfl
            have el_m1 : ((-1) : Int32).toInt = (-1) := rfl
            exact j_iret (pc := 36) C hr hk (fun i => [h1, h_r, h2, h_n, h3].getD i 0, fun i => [(-1), h_known, h_wares].getD i 0, fun i => [h_leastRim, h_least, h_stacks].getD i (fun _ => 0), fun i => [].getD i (fun _ => 0)) rfl (show (0 ≤ (h_known).toInt ∧ (h_known).toInt ≤ 1) ∧ (0 ≤ (h_wares).toInt ∧ (h_wares).toInt ≤ 12) ∧ (HL h_n h_r) ∧ ((h_known).toInt = 0 ∨ h_wares = a_wares ∧ (2 : Int) ^ (h_wares).toInt.toNat ≤ ((h_n : Nat) : Int)) from ⟨h_h_known, h_h_wares, hH, hk9⟩) [0, 1, 2, 3, 4, 5, 6, 7, 8, 9, 10] (by decide) rfl (by decide) (by decide) dX10_needed_36
    have el_0 : (0 : Int32).toInt = 0 := rfl
    exact j_lv [0, 1, 2] rfl (loop_4 4096 0 (by decide) (by omega))
  · skip
    have el_0 : (0 : Int32).toInt = 0 := rfl
    rw [i_eq] at c_3
    refine j_iconst (pc := 7) (v := (-1)) C dX10_needed_7 (by decide) ?_
    have el_m1 : ((-1) : Int32).toInt = (-1) := rfl
    have el_m1 : ((-1) : Int32).toInt = (-1) := rfl
    exact j_iret (pc := 8) C hr hk (fun i => [h1, h_r, h2, h_n, h3].getD i 0, fun i => [(-1), h_known, h_wares].getD i 0, fun i => [h_leastRim, h_least, h_stacks].getD i (fun _ => 0), fun i => [].getD i (fun _ => 0)) rfl (show (0 ≤ (h_known).toInt ∧ (h_known).toInt ≤ 1) ∧ (0 ≤ (h_wares).toInt ∧ (h_wares).toInt ≤ 12) ∧ (HL h_n h_r) ∧ ((h_known).toInt = 0 ∨ h_wares = a_wares ∧ (2 : Int) ^ (h_wares).toInt.toNat ≤ ((h_n : Nat) : Int)) from ⟨h_h_known, h_h_wares, hH, hk9⟩) [0, 1, 2, 3, 4, 5, 6, 7, 8, 9, 10] (by decide) rfl (by decide) (by decide) dX10_needed_8
set_option maxHeartbeats 4000000 in
set_option maxRecDepth 100000 in
theorem c_X10_sorted (l : Launch) (D : DG) (cyC cyI cyJ cyZ cyO : ClassId) (x0 : Nat) (a0 : Nat) (a1 : Nat) (a2 : Nat) (a3 : Nat) (a4 : Nat) (a7 : Nat) (h0 : Nat) (h1 : Nat) (h2 : Nat) (h3 : Nat) (r0 : Nat) (n0 : Nat) (k0 : Nat) (x1 : Nat) (q0 : Nat) (o0 : Nat) (s0 : Nat) (d0 : Nat) (a5 : Nat) (a6 : Nat) (a8 : Nat) (a9 : Nat) (a10 : Nat) (h_r : Nat) (h_n : Nat) (p0 : Int32) (p1 : Int32) (p2 : Int32) (a_wares : Int32) (a_shelves : Int32) (a_nests : Int32) (a_lids : Int32) (a_tops : Int32) (h_known : Int32) (h_wares : Int32) (a_wide : Nat → Int32) (a_deep : Nat → Int32) (a_weight : Nat → Int32) (a_bears : Nat → Int32) (a_mayOn : Nat → Int32) (h_leastRim : Nat → Int32) (h_least : Nat → Int32) (h_stacks : Nat → Int32) (h_a_wares : 0 ≤ (a_wares).toInt ∧ (a_wares).toInt ≤ 12) (h_a_shelves : 0 ≤ (a_shelves).toInt ∧ (a_shelves).toInt ≤ 4) (h_a_nests : 0 ≤ (a_nests).toInt ∧ (a_nests).toInt ≤ 4) (h_h_known : 0 ≤ (h_known).toInt ∧ (h_known).toInt ≤ 1) (h_h_wares : 0 ≤ (h_wares).toInt ∧ (h_wares).toInt ≤ 12) (hH : HL h_n h_r) (hk9 : (h_known).toInt = 0 ∨ h_wares = a_wares ∧ (2 : Int) ^ (h_wares).toInt.toNat ≤ (h_n : Int)) : KK l D (TY cyC cyI cyJ cyZ cyO) yX10_sorted cX10_sorted 4 (some .int) ({ frames := 4, cells := 3, slots := 57344, locals := 100 } : Room) 3 57344 [.ref x0, .int p0, .int p1, .int p2] [(x0, .inr (10, [.ref r0, .ref a0, .ref n0, .ref k0, .ref x1, .ref q0, .ref o0, .ref h0, .ref s0, .ref d0])), (a0, .inr (9, [.int a_wares, .int a_shelves, .int a_nests, .ref a1, .ref a2, .ref a3, .ref a4, .ref a5, .ref a6, .int a_lids, .int a_tops, .ref a7, .ref a8, .ref a9, .ref a10])), (a1, .inl (cyI, 12, .inl a_wide)), (a2, .inl (cyI, 12, .inl a_deep)), (a3, .inl (cyI, 12, .inl a_weight)), (a4, .inl (cyI, 12, .inl a_bears)), (a7, .inl (cyI, 12, .inl a_mayOn)), (h0, .inr (0, [.int h_known, .int h_wares, .ref h1, .ref h2, .ref h3])), (h1, .inl (cyI, h_r, .inl h_leastRim)), (h2, .inl (cyI, h_n, .inl h_least)), (h3, .inl (cyI, h_n, .inl h_stacks))] (fun u => some (.int (u.2.1 0))) (fun u => (0 ≤ (u.2.1 1).toInt ∧ (u.2.1 1).toInt ≤ 1) ∧ (0 ≤ (u.2.1 2).toInt ∧ (u.2.1 2).toInt ≤ 12) ∧ (HL (u.1 3) (u.1 1)) ∧ (((u.2.1 1)).toInt = 0 ∨ (u.2.1 2) = a_wares ∧ (2 : Int) ^ ((u.2.1 2)).toInt.toNat ≤ (((u.1 3) : Nat) : Int))) (fun u => [(x0, .inr (10, [.ref r0, .ref a0, .ref n0, .ref k0, .ref x1, .ref q0, .ref o0, .ref h0, .ref s0, .ref d0])), (a0, .inr (9, [.int a_wares, .int a_shelves, .int a_nests, .ref a1, .ref a2, .ref a3, .ref a4, .ref a5, .ref a6, .int a_lids, .int a_tops, .ref a7, .ref a8, .ref a9, .ref a10])), (a1, .inl (cyI, 12, .inl a_wide)), (a2, .inl (cyI, 12, .inl a_deep)), (a3, .inl (cyI, 12, .inl a_weight)), (a4, .inl (cyI, 12, .inl a_bears)), (a7, .inl (cyI, 12, .inl a_mayOn)), (h0, .inr (0, [.int (u.2.1 1), .int (u.2.1 2), .ref (u.1 0), .ref (u.1 2), .ref (u.1 4)])), ((u.1 0), .inl (cyI, (u.1 1), .inl (u.2.2.1 0))), ((u.1 2), .inl (cyI, (u.1 3), .inl (u.2.2.1 1))), ((u.1 4), .inl (cyI, (u.1 3), .inl (u.2.2.1 2)))]) := by
  refine KK.of (lv0 := [(0, .ref x0), (1, .int p0), (2, .int p1), (3, .int p2)]) (by decide) rfl (Nat.le_of_ble_eq_true rfl) ?_
  intro p e s m args below meth c A C hr hk hin
  have hpw1 := pw1 (a_wares).toInt.toNat
  refine j_iload_n (pc := 0) C dX10_sorted_0 rfl 2 rfl ?_
  refine j_callS (pc := 1) (As := [.int p1]) (rest := []) (wr := [(x0, .inr (10, [.ref r0, .ref a0, .ref n0, .ref k0, .ref x1, .ref q0, .ref o0, .ref h0, .ref s0, .ref d0])), (a0, .inr (9, [.int a_wares, .int a_shelves, .int a_nests, .ref a1, .ref a2, .ref a3, .ref a4, .ref a5, .ref a6, .int a_lids, .int a_tops, .ref a7, .ref a8, .ref a9, .ref a10])), (a1, .inl (cyI, 12, .inl a_wide)), (a2, .inl (cyI, 12, .inl a_deep)), (a3, .inl (cyI, 12, .inl a_weight)), (a4, .inl (cyI, 12, .inl a_bears)), (a7, .inl (cyI, 12, .inl a_mayOn)), (h0, .inr (0, [.int h_known, .int h_wares, .ref h1, .ref h2, .ref h3])), (h1, .inl (cyI, h_r, .inl h_leastRim)), (h2, .inl (cyI, h_n, .inl h_least)), (h3, .inl (cyI, h_n, .inl h_stacks))]) C (c_X10_isHeight l D cyC cyI cyJ cyZ cyO p1) wd_579 wd_482 wd_580 wd_581 ⟨by decide, by decide, rfl⟩ rfl ⟨rfl, rfl, by decide, by decide⟩ ⟨by decide, by decide⟩ [] [0, 1, 2, 3, 4, 5, 6, 7, 8, 9, 10] rfl rfl ⟨by decide, by decide, by decide⟩ rfl (Nat.le_of_ble_eq_true rfl) dX10_sorted_1 (fun u_1 hw_2 => ?_)
  refine j_eq (ws2 := [(x0, .inr (10, [.ref r0, .ref a0, .ref n0, .ref k0, .ref x1, .ref q0, .ref o0, .ref h0, .ref s0, .ref d0])), (a0, .inr (9, [.int a_wares, .int a_shelves, .int a_nests, .ref a1, .ref a2, .ref a3, .ref a4, .ref a5, .ref a6, .int a_lids, .int a_tops, .ref a7, .ref a8, .ref a9, .ref a10])), (a1, .inl (cyI, 12, .inl a_wide)), (a2, .inl (cyI, 12, .inl a_deep)), (a3, .inl (cyI, 12, .inl a_weight)), (a4, .inl (cyI, 12, .inl a_bears)), (a7, .inl (cyI, 12, .inl a_mayOn)), (h0, .inr (0, [.int h_known, .int h_wares, .ref h1, .ref h2, .ref h3])), (h1, .inl (cyI, h_r, .inl h_leastRim)), (h2, .inl (cyI, h_n, .inl h_least)), (h3, .inl (cyI, h_n, .inl h_stacks))]) (pc2 := 4) (lv2 := [(0, .ref x0), (1, .int p0), (2, .int p1), (3, .int p2)]) (st2 := [.int (u_1.2.1 0)]) rfl rfl rfl rfl ?_
  have hw_2_0 : 0 ≤ (u_1.2.1 0).toInt ∧ (u_1.2.1 0).toInt ≤ 1 := hw_2
  refine j_if_eq (pc := 4) (tgt := 37) C dX10_sorted_4 (by decide) (fun c_3 => ?_) (fun c_3 => ?_)
  · skip
    have el_0 : (0 : Int32).toInt = 0 := rfl
    rw [i_eq] at c_3
    refine j_iconst (pc := 37) (v := (-1)) C dX10_sorted_37 (by decide) ?_
    have el_m1 : ((-1) : Int32).toInt = (-1) := rfl
    have el_m1 : ((-1) : Int32).toInt = (-1) := rfl
    exact j_iret (pc := 38) C hr hk (fun i => [h1, h_r, h2, h_n, h3].getD i 0, fun i => [(-1), h_known, h_wares].getD i 0, fun i => [h_leastRim, h_least, h_stacks].getD i (fun _ => 0), fun i => [].getD i (fun _ => 0)) rfl (show (0 ≤ (h_known).toInt ∧ (h_known).toInt ≤ 1) ∧ (0 ≤ (h_wares).toInt ∧ (h_wares).toInt ≤ 12) ∧ (HL h_n h_r) ∧ ((h_known).toInt = 0 ∨ h_wares = a_wares ∧ (2 : Int) ^ (h_wares).toInt.toNat ≤ ((h_n : Nat) : Int)) from ⟨h_h_known, h_h_wares, hH, hk9⟩) [0, 1, 2, 3, 4, 5, 6, 7, 8, 9, 10] (by decide) rfl (by decide) (by decide) dX10_sorted_38
  · skip
    have el_0 : (0 : Int32).toInt = 0 := rfl
    rw [i_eq] at c_3
    have k0c_3 : ((u_1.2.1 0)).toInt = 1 := by omega
    refine j_iload_n (pc := 7) C dX10_sorted_7 rfl 1 rfl ?_
    refine j_iconst (pc := 8) (v := 1) C dX10_sorted_8 (by decide) ?_
    refine j_icmp_lt (pc := 9) (tgt := 37) C dX10_sorted_9 (by decide) (fun c_4 => ?_) (fun c_4 => ?_)
    · skip
      have el_1 : (1 : Int32).toInt = 1 := rfl
      rw [i_lt] at c_4
      refine j_iconst (pc := 37) (v := (-1)) C dX10_sorted_37 (by decide) ?_
      have el_m1 : ((-1) : Int32).toInt = (-1) := rfl
      have el_m1 : ((-1) : Int32).toInt = (-1) := rfl
      exact j_iret (pc := 38) C hr hk (fun i => [h1, h_r, h2, h_n, h3].getD i 0, fun i => [(-1), h_known, h_wares].getD i 0, fun i => [h_leastRim, h_least, h_stacks].getD i (fun _ => 0), fun i => [].getD i (fun _ => 0)) rfl (show (0 ≤ (h_known).toInt ∧ (h_known).toInt ≤ 1) ∧ (0 ≤ (h_wares).toInt ∧ (h_wares).toInt ≤ 12) ∧ (HL h_n h_r) ∧ ((h_known).toInt = 0 ∨ h_wares = a_wares ∧ (2 : Int) ^ (h_wares).toInt.toNat ≤ ((h_n : Nat) : Int)) from ⟨h_h_known, h_h_wares, hH, hk9⟩) [0, 1, 2, 3, 4, 5, 6, 7, 8, 9, 10] (by decide) rfl (by decide) (by decide) dX10_sorted_38
    · skip
      have el_1 : (1 : Int32).toInt = 1 := rfl
      rw [i_lt] at c_4
      refine j_iload_n (pc := 12) C dX10_sorted_12 rfl 1 rfl ?_
      refine j_iconst (pc := 13) (v := 1) C dX10_sorted_13 (by decide) ?_
      refine j_aload_n (pc := 14) C dX10_sorted_14 rfl 0 rfl ?_
      refine j_get (pc := 15) (ci := 10) (v := .ref a0) C inw_10 0 rfl rfl 1 (by decide) wd_447 rfl rfl dX10_sorted_15 ?_
      refine j_get (pc := 18) (ci := 9) (v := .int a_wares) C inw_9 1 rfl rfl 0 (by decide) wd_534 rfl rfl dX10_sorted_18 ?_
      obtain ⟨v_5, ev_5⟩ : ∃ z : Int32, 1 <<< (a_wares &&& 31) = z := ⟨_, rfl⟩
      have el_1 : (1 : Int32).toInt = 1 := rfl
      have hv_5 : 1 ≤ v_5.toInt ∧ v_5.toInt ≤ 4096 := by rw [← ev_5]; exact shl1_iv 0 12 (by omega) (by omega) (by omega)
      have hv_5p : v_5.toInt = 2 ^ (a_wares).toInt.toNat := by rw [← ev_5]; exact shl1_I (by omega) (by omega)
      refine j_ishl (pc := 21) (v := v_5) C dX10_sorted_21 ev_5 ?_
      refine j_icmp_ge (pc := 22) (tgt := 37) C dX10_sorted_22 (by decide) (fun c_6 => ?_) (fun c_6 => ?_)
      · skip
        rw [i_le] at c_6
        refine j_iconst (pc := 37) (v := (-1)) C dX10_sorted_37 (by decide) ?_
        have el_m1 : ((-1) : Int32).toInt = (-1) := rfl
        have el_m1 : ((-1) : Int32).toInt = (-1) := rfl
        exact j_iret (pc := 38) C hr hk (fun i => [h1, h_r, h2, h_n, h3].getD i 0, fun i => [(-1), h_known, h_wares].getD i 0, fun i => [h_leastRim, h_least, h_stacks].getD i (fun _ => 0), fun i => [].getD i (fun _ => 0)) rfl (show (0 ≤ (h_known).toInt ∧ (h_known).toInt ≤ 1) ∧ (0 ≤ (h_wares).toInt ∧ (h_wares).toInt ≤ 12) ∧ (HL h_n h_r) ∧ ((h_known).toInt = 0 ∨ h_wares = a_wares ∧ (2 : Int) ^ (h_wares).toInt.toNat ≤ ((h_n : Nat) : Int)) from ⟨h_h_known, h_h_wares, hH, hk9⟩) [0, 1, 2, 3, 4, 5, 6, 7, 8, 9, 10] (by decide) rfl (by decide) (by decide) dX10_sorted_38
      · skip
        rw [i_le] at c_6
        refine j_iload_n (pc := 25) C dX10_sorted_25 rfl 3 rfl ?_
        refine j_if_lt (pc := 26) (tgt := 37) C dX10_sorted_26 (by decide) (fun c_7 => ?_) (fun c_7 => ?_)
        · skip
          have el_0 : (0 : Int32).toInt = 0 := rfl
          rw [i_lt] at c_7
          refine j_iconst (pc := 37) (v := (-1)) C dX10_sorted_37 (by decide) ?_
          have el_m1 : ((-1) : Int32).toInt = (-1) := rfl
          have el_m1 : ((-1) : Int32).toInt = (-1) := rfl
          exact j_iret (pc := 38) C hr hk (fun i => [h1, h_r, h2, h_n, h3].getD i 0, fun i => [(-1), h_known, h_wares].getD i 0, fun i => [h_leastRim, h_least, h_stacks].getD i (fun _ => 0), fun i => [].getD i (fun _ => 0)) rfl (show (0 ≤ (h_known).toInt ∧ (h_known).toInt ≤ 1) ∧ (0 ≤ (h_wares).toInt ∧ (h_wares).toInt ≤ 12) ∧ (HL h_n h_r) ∧ ((h_known).toInt = 0 ∨ h_wares = a_wares ∧ (2 : Int) ^ (h_wares).toInt.toNat ≤ ((h_n : Nat) : Int)) from ⟨h_h_known, h_h_wares, hH, hk9⟩) [0, 1, 2, 3, 4, 5, 6, 7, 8, 9, 10] (by decide) rfl (by decide) (by decide) dX10_sorted_38
        · skip
          have el_0 : (0 : Int32).toInt = 0 := rfl
          rw [i_lt] at c_7
          refine j_iload_n (pc := 29) C dX10_sorted_29 rfl 3 rfl ?_
          refine j_iload_n (pc := 30) C dX10_sorted_30 rfl 1 rfl ?_
          refine j_callS (pc := 31) (As := [.int p0]) (rest := [.int p2]) (wr := [(x0, .inr (10, [.ref r0, .ref a0, .ref n0, .ref k0, .ref x1, .ref q0, .ref o0, .ref h0, .ref s0, .ref d0])), (a0, .inr (9, [.int a_wares, .int a_shelves, .int a_nests, .ref a1, .ref a2, .ref a3, .ref a4, .ref a5, .ref a6, .int a_lids, .int a_tops, .ref a7, .ref a8, .ref a9, .ref a10])), (a1, .inl (cyI, 12, .inl a_wide)), (a2, .inl (cyI, 12, .inl a_deep)), (a3, .inl (cyI, 12, .inl a_weight)), (a4, .inl (cyI, 12, .inl a_bears)), (a7, .inl (cyI, 12, .inl a_mayOn)), (h0, .inr (0, [.int h_known, .int h_wares, .ref h1, .ref h2, .ref h3])), (h1, .inl (cyI, h_r, .inl h_leastRim)), (h2, .inl (cyI, h_n, .inl h_least)), (h3, .inl (cyI, h_n, .inl h_stacks))]) C (c_J6_bitCount_0f7a4 l D cyC cyI cyJ cyZ cyO p0) wd_84 wd_85 wd_591 wd_87 ⟨by decide, by decide, rfl⟩ rfl ⟨rfl, rfl, by decide, by decide⟩ ⟨by decide, by decide⟩ [] [0, 1, 2, 3, 4, 5, 6, 7, 8, 9, 10] rfl rfl ⟨by decide, by decide, by decide⟩ rfl (Nat.le_of_ble_eq_true rfl) dX10_sorted_31 (fun u_8 hw_9 => ?_)
          refine j_eq (ws2 := [(x0, .inr (10, [.ref r0, .ref a0, .ref n0, .ref k0, .ref x1, .ref q0, .ref o0, .ref h0, .ref s0, .ref d0])), (a0, .inr (9, [.int a_wares, .int a_shelves, .int a_nests, .ref a1, .ref a2, .ref a3, .ref a4, .ref a5, .ref a6, .int a_lids, .int a_tops, .ref a7, .ref a8, .ref a9, .ref a10])), (a1, .inl (cyI, 12, .inl a_wide)), (a2, .inl (cyI, 12, .inl a_deep)), (a3, .inl (cyI, 12, .inl a_weight)), (a4, .inl (cyI, 12, .inl a_bears)), (a7, .inl (cyI, 12, .inl a_mayOn)), (h0, .inr (0, [.int h_known, .int h_wares, .ref h1, .ref h2, .ref h3])), (h1, .inl (cyI, h_r, .inl h_leastRim)), (h2, .inl (cyI, h_n, .inl h_least)), (h3, .inl (cyI, h_n, .inl h_stacks))]) (pc2 := 34) (lv2 := [(0, .ref x0), (1, .int p0), (2, .int p1), (3, .int p2)]) (st2 := [.int (u_8.2.1 0), .int p2]) rfl rfl rfl rfl ?_
          have hw_9_0 : 0 ≤ (u_8.2.1 0).toInt ∧ (u_8.2.1 0).toInt ≤ 63 := hw_9
          refine j_icmp_lt (pc := 34) (tgt := 39) C dX10_sorted_34 (by decide) (fun c_10 => ?_) (fun c_10 => ?_)
          · skip
            rw [i_lt] at c_10
            refine j_aload_n (pc := 39) C dX10_sorted_39 rfl 0 rfl ?_
            refine j_get (pc := 40) (ci := 10) (v := .ref h0) C inw_10 0 rfl rfl 7 (by decide) wd_582 rfl rfl dX10_sorted_40 ?_
            refine j_aload_n (pc := 43) C dX10_sorted_43 rfl 0 rfl ?_
            refine j_get (pc := 44) (ci := 10) (v := .ref a0) C inw_10 0 rfl rfl 1 (by decide) wd_447 rfl rfl dX10_sorted_44 ?_
            refine j_callV (pc := 47) (As := [.ref a0]) (rest := []) (wr := [(x0, .inr (10, [.ref r0, .ref a0, .ref n0, .ref k0, .ref x1, .ref q0, .ref o0, .ref h0, .ref s0, .ref d0]))]) C (c_X0_settle l D cyC cyI cyJ cyZ cyO h0 h1 h2 h3 a0 a1 a2 a3 a4 a7 a5 a6 a8 a9 a10 h_r h_n h_known h_wares a_wares a_shelves a_nests a_lids a_tops h_leastRim h_least h_stacks a_wide a_deep a_weight a_bears a_mayOn h_h_known h_h_wares h_a_wares h_a_shelves h_a_nests hH hk9) wd_583 wd_166 wd_584 wd_585 wd_586 ⟨by decide, by decide, rfl⟩ rfl ⟨rfl, rfl, by decide, by decide⟩ ⟨by decide, by decide⟩ [7, 8, 9, 10, 1, 2, 3, 4, 5, 6] [0] rfl rfl ⟨by decide, by decide, by decide⟩ 7 rfl rfl rfl (Nat.le_of_ble_eq_true rfl) dX10_sorted_47 (fun u_11 hw_12 => ?_)
            refine j_eq (ws2 := [(x0, .inr (10, [.ref r0, .ref a0, .ref n0, .ref k0, .ref x1, .ref q0, .ref o0, .ref h0, .ref s0, .ref d0])), (h0, .inr (0, [.int (u_11.2.1 0), .int (u_11.2.1 1), .ref (u_11.1 0), .ref (u_11.1 2), .ref (u_11.1 4)])), ((u_11.1 0), .inl (cyI, (u_11.1 1), .inl (u_11.2.2.1 0))), ((u_11.1 2), .inl (cyI, (u_11.1 3), .inl (u_11.2.2.1 1))), ((u_11.1 4), .inl (cyI, (u_11.1 3), .inl (u_11.2.2.1 2))), (a0, .inr (9, [.int a_wares, .int a_shelves, .int a_nests, .ref a1, .ref a2, .ref a3, .ref a4, .ref a5, .ref a6, .int a_lids, .int a_tops, .ref a7, .ref a8, .ref a9, .ref a10])), (a1, .inl (cyI, 12, .inl a_wide)), (a2, .inl (cyI, 12, .inl a_deep)), (a3, .inl (cyI, 12, .inl a_weight)), (a4, .inl (cyI, 12, .inl a_bears)), (a7, .inl (cyI, 12, .inl a_mayOn))]) (pc2 := 50) (lv2 := [(0, .ref x0), (1, .int p0), (2, .int p1), (3, .int p2)]) (st2 := []) rfl rfl rfl rfl ?_
            refine j_widen (k := 3) (n := 57344) (by decide) (by decide) ?_
            obtain ⟨hw_12_0, hw_12_1, hw_12_2, hw_12_3, hw_12_4, hw_12_5, hw_12_6, hw_12_7, hw_12_8⟩ := hw_12
            refine j_aload_n (pc := 50) C dX10_sorted_50 rfl 0 rfl ?_
            refine j_get (pc := 51) (ci := 10) (v := .ref h0) C inw_10 0 rfl rfl 7 (by decide) wd_582 rfl rfl dX10_sorted_51 ?_
            refine j_aload_n (pc := 54) C dX10_sorted_54 rfl 0 rfl ?_
            refine j_get (pc := 55) (ci := 10) (v := .ref a0) C inw_10 0 rfl rfl 1 (by decide) wd_447 rfl rfl dX10_sorted_55 ?_
            refine j_iload_n (pc := 58) C dX10_sorted_58 rfl 1 rfl ?_
            refine j_iload_n (pc := 59) C dX10_sorted_59 rfl 2 rfl ?_
            refine j_iload_n (pc := 60) C dX10_sorted_60 rfl 3 rfl ?_
            refine j_callV (pc := 61) (As := [.ref a0, .int p0, .int p1, .int p2]) (rest := []) (wr := [(x0, .inr (10, [.ref r0, .ref a0, .ref n0, .ref k0, .ref x1, .ref q0, .ref o0, .ref h0, .ref s0, .ref d0])), ((u_11.1 2), .inl (cyI, (u_11.1 3), .inl (u_11.2.2.1 1))), ((u_11.1 4), .inl (cyI, (u_11.1 3), .inl (u_11.2.2.1 2))), (a3, .inl (cyI, 12, .inl a_weight)), (a4, .inl (cyI, 12, .inl a_bears))]) C (c_X0_inOrder l D cyC cyI cyJ cyZ cyO h0 (u_11.1 0) a0 a1 a2 a7 (u_11.1 2) (u_11.1 4) a3 a4 a5 a6 a8 a9 a10 (u_11.1 1) p0 p1 p2 (u_11.2.1 0) (u_11.2.1 1) a_wares a_shelves a_nests a_lids a_tops (u_11.2.2.1 0) a_wide a_deep a_mayOn (by omega) hw_12_1 h_a_wares h_a_shelves h_a_nests (by omega) (by omega) (by omega) (by omega) (by omega)) wd_592 wd_166 wd_593 wd_594 wd_595 ⟨by decide, by decide, rfl⟩ rfl ⟨rfl, rfl, by decide, by decide⟩ ⟨by decide, by decide⟩ [1, 2, 5, 6, 7, 10] [0, 3, 4, 8, 9] rfl rfl ⟨by decide, by decide, by decide⟩ 1 rfl rfl rfl (Nat.le_of_ble_eq_true rfl) dX10_sorted_61 (fun u_13 hw_14 => ?_)
            refine j_eq (ws2 := [(x0, .inr (10, [.ref r0, .ref a0, .ref n0, .ref k0, .ref x1, .ref q0, .ref o0, .ref h0, .ref s0, .ref d0])), ((u_11.1 2), .inl (cyI, (u_11.1 3), .inl (u_11.2.2.1 1))), ((u_11.1 4), .inl (cyI, (u_11.1 3), .inl (u_11.2.2.1 2))), (a3, .inl (cyI, 12, .inl a_weight)), (a4, .inl (cyI, 12, .inl a_bears)), (h0, .inr (0, [.int (u_11.2.1 0), .int (u_11.2.1 1), .ref (u_11.1 0), .ref (u_11.1 2), .ref (u_11.1 4)])), ((u_11.1 0), .inl (cyI, (u_11.1 1), .inl (u_11.2.2.1 0))), (a0, .inr (9, [.int a_wares, .int a_shelves, .int a_nests, .ref a1, .ref a2, .ref a3, .ref a4, .ref a5, .ref a6, .int a_lids, .int a_tops, .ref a7, .ref a8, .ref a9, .ref a10])), (a1, .inl (cyI, 12, .inl a_wide)), (a2, .inl (cyI, 12, .inl a_deep)), (a7, .inl (cyI, 12, .inl a_mayOn))]) (pc2 := 64) (lv2 := [(0, .ref x0), (1, .int p0), (2, .int p1), (3, .int p2)]) (st2 := [.int (u_13.2.1 0)]) rfl rfl rfl rfl ?_
            have hw_14_0 : -1 ≤ (u_13.2.1 0).toInt ∧ (u_13.2.1 0).toInt ≤ 11 := hw_14
            exact j_iret (pc := 64) C hr hk (fun i => [(u_11.1 0), (u_11.1 1), (u_11.1 2), (u_11.1 3), (u_11.1 4)].getD i 0, fun i => [(u_13.2.1 0), (u_11.2.1 0), (u_11.2.1 1)].getD i 0, fun i => [(u_11.2.2.1 0), (u_11.2.2.1 1), (u_11.2.2.1 2)].getD i (fun _ => 0), fun i => [].getD i (fun _ => 0)) rfl (show (0 ≤ ((u_11.2.1 0)).toInt ∧ ((u_11.2.1 0)).toInt ≤ 1) ∧ (0 ≤ ((u_11.2.1 1)).toInt ∧ ((u_11.2.1 1)).toInt ≤ 12) ∧ (HL (u_11.1 3) (u_11.1 1)) ∧ (((u_11.2.1 0)).toInt = 0 ∨ (u_11.2.1 1) = a_wares ∧ (2 : Int) ^ ((u_11.2.1 1)).toInt.toNat ≤ (((u_11.1 3) : Nat) : Int)) from ⟨by omega, hw_12_1, hw_12_2, (Or.inr ⟨hw_12_3, hw_12_5⟩)⟩) [0, 7, 8, 9, 3, 4, 10, 5, 6, 1, 2] (by decide) rfl (by decide) (by decide) dX10_sorted_64
          · skip
            rw [i_lt] at c_10
            refine j_iconst (pc := 37) (v := (-1)) C dX10_sorted_37 (by decide) ?_
            have el_m1 : ((-1) : Int32).toInt = (-1) := rfl
            have el_m1 : ((-1) : Int32).toInt = (-1) := rfl
            exact j_iret (pc := 38) C hr hk (fun i => [h1, h_r, h2, h_n, h3].getD i 0, fun i => [(-1), h_known, h_wares].getD i 0, fun i => [h_leastRim, h_least, h_stacks].getD i (fun _ => 0), fun i => [].getD i (fun _ => 0)) rfl (show (0 ≤ (h_known).toInt ∧ (h_known).toInt ≤ 1) ∧ (0 ≤ (h_wares).toInt ∧ (h_wares).toInt ≤ 12) ∧ (HL h_n h_r) ∧ ((h_known).toInt = 0 ∨ h_wares = a_wares ∧ (2 : Int) ^ (h_wares).toInt.toNat ≤ ((h_n : Nat) : Int)) from ⟨h_h_known, h_h_wares, hH, hk9⟩) [0, 1, 2, 3, 4, 5, 6, 7, 8, 9, 10] (by decide) rfl (by decide) (by decide) dX10_sorted_38
set_option maxHeartbeats 4000000 in
set_option maxRecDepth 100000 in
theorem c_X8_add_f (l : Launch) (D : DG) (cyC cyI cyJ cyZ cyO : ClassId) (t0 : Nat) (t1 : Nat) (p0 : Int32) (t_length : Int32) (t_next : Int32) (t_kind : Int32) (t_place : Int32) (t_number : Int32) (t_text : Nat → Int32) (h_t_length : 0 ≤ (t_length).toInt ∧ (t_length).toInt ≤ 1000) (h_t_next : 0 ≤ (t_next).toInt ∧ (t_next).toInt ≤ 1000) (h_t_kind : 0 ≤ (t_kind).toInt ∧ (t_kind).toInt ≤ 4) (h_t_place : 0 ≤ (t_place).toInt ∧ (t_place).toInt ≤ 1000) (h_t_text : Iv 1000 (0) (126) t_text) (ht3 : ¬ (t_kind).toInt = 3 ∨ (t_place).toInt ≤ 999) : KK l D (TY cyC cyI cyJ cyZ cyO) yX8_add cX8_add 3 none ({ frames := 0, cells := 0, slots := 0, locals := 0 } : Room) 0 0 [.ref t0, .int p0] [(t0, .inr (8, [.ref t1, .int t_length, .int t_next, .int t_kind, .int t_place, .int t_number])), (t1, .inl (cyC, 1000, .inl t_text))] (fun u => none) (fun u => (0 ≤ (u.2.1 0).toInt ∧ (u.2.1 0).toInt ≤ 1000) ∧ (Iv 1000 (0) (126) (u.2.2.1 0)) ∧ (((u.2.1 0)).toInt = ladd (t_length).toInt p0) ∧ ((u.2.2.1 0) = lrow t_text (t_length).toInt p0) ∧ (¬ (t_kind).toInt = 3 ∨ (t_place).toInt ≤ 999)) (fun u => [(t0, .inr (8, [.ref t1, .int (u.2.1 0), .int t_next, .int t_kind, .int t_place, .int t_number])), (t1, .inl (cyC, 1000, .inl (u.2.2.1 0)))]) := by
  refine KK.of (lv0 := [(0, .ref t0), (1, .int p0)]) (by decide) rfl (Nat.le_of_ble_eq_true rfl) ?_
  intro p e s m args below meth c A C hr hk hin
  refine j_iload_n (pc := 0) C dX8_add_0 rfl 1 rfl ?_
  refine j_bipush (pc := 1) (v := 10) C dX8_add_1 (by decide) ?_
  refine j_icmp_eq (pc := 3) (tgt := 18) C dX8_add_3 (by decide) (fun c_1 => ?_) (fun c_1 => ?_)
  · skip
    have el_10 : (10 : Int32).toInt = 10 := rfl
    rw [i_eq] at c_1
    refine j_iconst (pc := 18) (v := 1) C dX8_add_18 (by decide) ?_
    refine j_goto (pc := 19) (tgt := 23) C dX8_add_19 (by decide) ?_
    refine j_istore_n (pc := 23) (lv' := [(2, .int 1), (0, .ref t0), (1, .int p0)]) C dX8_add_23 rfl (by decide) rfl ?_
    refine j_iload_n (pc := 24) C dX8_add_24 rfl 0 rfl ?_
    refine j_if_eq_f (pc := 25) (tgt := 59) C dX8_add_25 (by decide) (by decide) ?_
    refine j_aload_n (pc := 28) C dX8_add_28 rfl 1 rfl ?_
    refine j_get (pc := 29) (ci := 8) (v := .int t_length) C inw_8 0 rfl rfl 1 (by decide) wd_254 rfl rfl dX8_add_29 ?_
    refine j_sipush (pc := 32) (v := 1000) C dX8_add_32 (by decide) ?_
    refine j_icmp_ge (pc := 35) (tgt := 59) C dX8_add_35 (by decide) (fun c_2 => ?_) (fun c_2 => ?_)
    · skip
      have el_1000 : (1000 : Int32).toInt = 1000 := rfl
      rw [i_le] at c_2
      have k0c_2 : t_length.toInt = 1000 := by omega
      exact j_vret (pc := 59) C hr hk (fun i => [].getD i 0, fun i => [t_length].getD i 0, fun i => [t_text].getD i (fun _ => 0), fun i => [].getD i (fun _ => 0)) rfl (show (0 ≤ (t_length).toInt ∧ (t_length).toInt ≤ 1000) ∧ (Iv 1000 (0) (126) t_text) ∧ ((t_length).toInt = ladd (t_length).toInt p0) ∧ (t_text = lrow t_text (t_length).toInt p0) ∧ (¬ (t_kind).toInt = 3 ∨ (t_place).toInt ≤ 999) from ⟨h_t_length, h_t_text, (by unfold ladd; rw [if_neg (by omega)]), (by unfold lrow; rw [if_neg (by omega)]), by omega⟩) [0, 1] (by decide) rfl (by decide) (by decide) dX8_add_59
    · skip
      have el_1000 : (1000 : Int32).toInt = 1000 := rfl
      rw [i_le] at c_2
      refine j_aload_n (pc := 38) C dX8_add_38 rfl 1 rfl ?_
      refine j_get (pc := 39) (ci := 8) (v := .ref t1) C inw_8 0 rfl rfl 0 (by decide) wd_255 rfl rfl dX8_add_39 ?_
      refine j_aload_n (pc := 42) C dX8_add_42 rfl 1 rfl ?_
      refine j_get (pc := 43) (ci := 8) (v := .int t_length) C inw_8 0 rfl rfl 1 (by decide) wd_254 rfl rfl dX8_add_43 ?_
      refine j_iload_n (pc := 46) C dX8_add_46 rfl 2 rfl ?_
      obtain ⟨v_3, ev_3⟩ : ∃ z : Int32, ((p0 : Int32).toUInt32 % 65536).toInt32 = z := ⟨_, rfl⟩
      have hv_3 : v_3.toInt = p0.toInt := by rw [← ev_3, i2c_id (by omega) (by omega)]
      refine j_i2c (pc := 47) (v := v_3) C dX8_add_47 ev_3 ?_
      obtain ⟨f_4, ef_4⟩ : ∃ z, z = upd t_text (t_length).toInt.toNat (vp_nar .char v_3) := ⟨_, rfl⟩
      have hnf_4 : vp_nar .char v_3 = v_3 := vp_nar_c (by omega) (by omega)
      have hf_4 : Iv 1000 (0) (126) f_4 := by rw [ef_4, hnf_4]; exact Iv.upd h_t_text (by omega) (by omega)
      refine j_cast (pc := 48) (k := (t_length).toInt.toNat) (ws' := [(t0, .inr (8, [.ref t1, .int t_length, .int t_next, .int t_kind, .int t_place, .int t_number])), (t1, .inl (cyC, 1000, .inl f_4))]) C 1 0 rfl rfl (i_nn h_t_length.1) rfl (i_lt_n h_t_length.1 (by omega)) dX8_add_48 (by rw [ef_4]; rfl) ?_
      refine j_aload_n (pc := 49) C dX8_add_49 rfl 1 rfl ?_
      refine j_dup (pc := 50) C dX8_add_50 rfl ?_
      refine j_get (pc := 51) (ci := 8) (v := .int t_length) C inw_8 0 rfl rfl 1 (by decide) wd_254 rfl rfl dX8_add_51 ?_
      refine j_iconst (pc := 54) (v := 1) C dX8_add_54 (by decide) ?_
      obtain ⟨v_5, ev_5⟩ : ∃ z : Int32, t_length + 1 = z := ⟨_, rfl⟩
      have el_1 : (1 : Int32).toInt = 1 := rfl
      have hv_5 : v_5.toInt = t_length.toInt + (1 : Int32).toInt := by rw [← ev_5]; exact fb_addI (by omega) (by omega)
      refine j_iadd (pc := 55) (v := v_5) C dX8_add_55 ev_5 ?_
      refine j_put (pc := 56) (ci := 8) (v := .int v_5) (ws' := [(t0, .inr (8, [.ref t1, .int v_5, .int t_next, .int t_kind, .int t_place, .int t_number])), (t1, .inl (cyC, 1000, .inl f_4))]) C inw_8 0 rfl rfl 1 (by decide) wd_254 rfl tyX8_ok nmX8 rfl (tyX8_ok 1 (by decide)) rfl rfl (Nat.le_of_ble_eq_true rfl) dX8_add_56 rfl ?_
      exact j_vret (pc := 59) C hr hk (fun i => [].getD i 0, fun i => [v_5].getD i 0, fun i => [f_4].getD i (fun _ => 0), fun i => [].getD i (fun _ => 0)) rfl (show (0 ≤ (v_5).toInt ∧ (v_5).toInt ≤ 1000) ∧ (Iv 1000 (0) (126) f_4) ∧ ((v_5).toInt = ladd (t_length).toInt p0) ∧ (f_4 = lrow t_text (t_length).toInt p0) ∧ (¬ (t_kind).toInt = 3 ∨ (t_place).toInt ≤ 999) from ⟨by omega, hf_4, (by unfold ladd; rw [if_pos (by omega)]; omega), (by unfold lrow; rw [if_pos (by omega), ef_4, hnf_4, show v_3 = p0 from (i_eq _ _).mpr (by omega)]), by omega⟩) [0, 1] (by decide) rfl (by decide) (by decide) dX8_add_59
  · skip
    have el_10 : (10 : Int32).toInt = 10 := rfl
    rw [i_eq] at c_1
    refine j_iload_n (pc := 6) C dX8_add_6 rfl 1 rfl ?_
    refine j_bipush (pc := 7) (v := 32) C dX8_add_7 (by decide) ?_
    refine j_icmp_lt (pc := 9) (tgt := 22) C dX8_add_9 (by decide) (fun c_6 => ?_) (fun c_6 => ?_)
    · skip
      have el_32 : (32 : Int32).toInt = 32 := rfl
      rw [i_lt] at c_6
      refine j_iconst (pc := 22) (v := 0) C dX8_add_22 (by decide) ?_
      refine j_istore_n (pc := 23) (lv' := [(2, .int 0), (0, .ref t0), (1, .int p0)]) C dX8_add_23 rfl (by decide) rfl ?_
      refine j_iload_n (pc := 24) C dX8_add_24 rfl 0 rfl ?_
      refine j_if_eq_t (pc := 25) (tgt := 59) C dX8_add_25 (by decide) (by decide) ?_
      exact j_vret (pc := 59) C hr hk (fun i => [].getD i 0, fun i => [t_length].getD i 0, fun i => [t_text].getD i (fun _ => 0), fun i => [].getD i (fun _ => 0)) rfl (show (0 ≤ (t_length).toInt ∧ (t_length).toInt ≤ 1000) ∧ (Iv 1000 (0) (126) t_text) ∧ ((t_length).toInt = ladd (t_length).toInt p0) ∧ (t_text = lrow t_text (t_length).toInt p0) ∧ (¬ (t_kind).toInt = 3 ∨ (t_place).toInt ≤ 999) from ⟨h_t_length, h_t_text, (by unfold ladd; rw [if_neg (by omega)]), (by unfold lrow; rw [if_neg (by omega)]), by omega⟩) [0, 1] (by decide) rfl (by decide) (by decide) dX8_add_59
    · skip
      have el_32 : (32 : Int32).toInt = 32 := rfl
      rw [i_lt] at c_6
      refine j_iload_n (pc := 12) C dX8_add_12 rfl 1 rfl ?_
      refine j_bipush (pc := 13) (v := 126) C dX8_add_13 (by decide) ?_
      refine j_icmp_gt (pc := 15) (tgt := 22) C dX8_add_15 (by decide) (fun c_7 => ?_) (fun c_7 => ?_)
      · skip
        have el_126 : (126 : Int32).toInt = 126 := rfl
        rw [i_lt] at c_7
        refine j_iconst (pc := 22) (v := 0) C dX8_add_22 (by decide) ?_
        refine j_istore_n (pc := 23) (lv' := [(2, .int 0), (0, .ref t0), (1, .int p0)]) C dX8_add_23 rfl (by decide) rfl ?_
        refine j_iload_n (pc := 24) C dX8_add_24 rfl 0 rfl ?_
        refine j_if_eq_t (pc := 25) (tgt := 59) C dX8_add_25 (by decide) (by decide) ?_
        exact j_vret (pc := 59) C hr hk (fun i => [].getD i 0, fun i => [t_length].getD i 0, fun i => [t_text].getD i (fun _ => 0), fun i => [].getD i (fun _ => 0)) rfl (show (0 ≤ (t_length).toInt ∧ (t_length).toInt ≤ 1000) ∧ (Iv 1000 (0) (126) t_text) ∧ ((t_length).toInt = ladd (t_length).toInt p0) ∧ (t_text = lrow t_text (t_length).toInt p0) ∧ (¬ (t_kind).toInt = 3 ∨ (t_place).toInt ≤ 999) from ⟨h_t_length, h_t_text, (by unfold ladd; rw [if_neg (by omega)]), (by unfold lrow; rw [if_neg (by omega)]), by omega⟩) [0, 1] (by decide) rfl (by decide) (by decide) dX8_add_59
      · skip
        have el_126 : (126 : Int32).toInt = 126 := rfl
        rw [i_lt] at c_7
        refine j_iconst (pc := 18) (v := 1) C dX8_add_18 (by decide) ?_
        refine j_goto (pc := 19) (tgt := 23) C dX8_add_19 (by decide) ?_
        refine j_istore_n (pc := 23) (lv' := [(2, .int 1), (0, .ref t0), (1, .int p0)]) C dX8_add_23 rfl (by decide) rfl ?_
        refine j_iload_n (pc := 24) C dX8_add_24 rfl 0 rfl ?_
        refine j_if_eq_f (pc := 25) (tgt := 59) C dX8_add_25 (by decide) (by decide) ?_
        refine j_aload_n (pc := 28) C dX8_add_28 rfl 1 rfl ?_
        refine j_get (pc := 29) (ci := 8) (v := .int t_length) C inw_8 0 rfl rfl 1 (by decide) wd_254 rfl rfl dX8_add_29 ?_
        refine j_sipush (pc := 32) (v := 1000) C dX8_add_32 (by decide) ?_
        refine j_icmp_ge (pc := 35) (tgt := 59) C dX8_add_35 (by decide) (fun c_8 => ?_) (fun c_8 => ?_)
        · skip
          have el_1000 : (1000 : Int32).toInt = 1000 := rfl
          rw [i_le] at c_8
          have k0c_8 : t_length.toInt = 1000 := by omega
          exact j_vret (pc := 59) C hr hk (fun i => [].getD i 0, fun i => [t_length].getD i 0, fun i => [t_text].getD i (fun _ => 0), fun i => [].getD i (fun _ => 0)) rfl (show (0 ≤ (t_length).toInt ∧ (t_length).toInt ≤ 1000) ∧ (Iv 1000 (0) (126) t_text) ∧ ((t_length).toInt = ladd (t_length).toInt p0) ∧ (t_text = lrow t_text (t_length).toInt p0) ∧ (¬ (t_kind).toInt = 3 ∨ (t_place).toInt ≤ 999) from ⟨h_t_length, h_t_text, (by unfold ladd; rw [if_neg (by omega)]), (by unfold lrow; rw [if_neg (by omega)]), by omega⟩) [0, 1] (by decide) rfl (by decide) (by decide) dX8_add_59
        · skip
          have el_1000 : (1000 : Int32).toInt = 1000 := rfl
          rw [i_le] at c_8
          refine j_aload_n (pc := 38) C dX8_add_38 rfl 1 rfl ?_
          refine j_get (pc := 39) (ci := 8) (v := .ref t1) C inw_8 0 rfl rfl 0 (by decide) wd_255 rfl rfl dX8_add_39 ?_
          refine j_aload_n (pc := 42) C dX8_add_42 rfl 1 rfl ?_
          refine j_get (pc := 43) (ci := 8) (v := .int t_length) C inw_8 0 rfl rfl 1 (by decide) wd_254 rfl rfl dX8_add_43 ?_
          refine j_iload_n (pc := 46) C dX8_add_46 rfl 2 rfl ?_
          obtain ⟨v_9, ev_9⟩ : ∃ z : Int32, ((p0 : Int32).toUInt32 % 65536).toInt32 = z := ⟨_, rfl⟩
          have hv_9 : v_9.toInt = p0.toInt := by rw [← ev_9, i2c_id (by omega) (by omega)]
          refine j_i2c (pc := 47) (v := v_9) C dX8_add_47 ev_9 ?_
          obtain ⟨f_10, ef_10⟩ : ∃ z, z = upd t_text (t_length).toInt.toNat (vp_nar .char v_9) := ⟨_, rfl⟩
          have hnf_10 : vp_nar .char v_9 = v_9 := vp_nar_c (by omega) (by omega)
          have hf_10 : Iv 1000 (0) (126) f_10 := by rw [ef_10, hnf_10]; exact Iv.upd h_t_text (by omega) (by omega)
          refine j_cast (pc := 48) (k := (t_length).toInt.toNat) (ws' := [(t0, .inr (8, [.ref t1, .int t_length, .int t_next, .int t_kind, .int t_place, .int t_number])), (t1, .inl (cyC, 1000, .inl f_10))]) C 1 0 rfl rfl (i_nn h_t_length.1) rfl (i_lt_n h_t_length.1 (by omega)) dX8_add_48 (by rw [ef_10]; rfl) ?_
          refine j_aload_n (pc := 49) C dX8_add_49 rfl 1 rfl ?_
          refine j_dup (pc := 50) C dX8_add_50 rfl ?_
          refine j_get (pc := 51) (ci := 8) (v := .int t_length) C inw_8 0 rfl rfl 1 (by decide) wd_254 rfl rfl dX8_add_51 ?_
          refine j_iconst (pc := 54) (v := 1) C dX8_add_54 (by decide) ?_
          obtain ⟨v_11, ev_11⟩ : ∃ z : Int32, t_length + 1 = z := ⟨_, rfl⟩
          have el_1 : (1 : Int32).toInt = 1 := rfl
          have hv_11 : v_11.toInt = t_length.toInt + (1 : Int32).toInt := by rw [← ev_11]; exact fb_addI (by omega) (by omega)
          refine j_iadd (pc := 55) (v := v_11) C dX8_add_55 ev_11 ?_
          refine j_put (pc := 56) (ci := 8) (v := .int v_11) (ws' := [(t0, .inr (8, [.ref t1, .int v_11, .int t_next, .int t_kind, .int t_place, .int t_number])), (t1, .inl (cyC, 1000, .inl f_10))]) C inw_8 0 rfl rfl 1 (by decide) wd_254 rfl tyX8_ok nmX8 rfl (tyX8_ok 1 (by decide)) rfl rfl (Nat.le_of_ble_eq_true rfl) dX8_add_56 rfl ?_
          exact j_vret (pc := 59) C hr hk (fun i => [].getD i 0, fun i => [v_11].getD i 0, fun i => [f_10].getD i (fun _ => 0), fun i => [].getD i (fun _ => 0)) rfl (show (0 ≤ (v_11).toInt ∧ (v_11).toInt ≤ 1000) ∧ (Iv 1000 (0) (126) f_10) ∧ ((v_11).toInt = ladd (t_length).toInt p0) ∧ (f_10 = lrow t_text (t_length).toInt p0) ∧ (¬ (t_kind).toInt = 3 ∨ (t_place).toInt ≤ 999) from ⟨by omega, hf_10, (by unfold ladd; rw [if_pos (by omega)]; omega), (by unfold lrow; rw [if_pos (by omega), ef_10, hnf_10, show v_9 = p0 from (i_eq _ _).mpr (by omega)]), by omega⟩) [0, 1] (by decide) rfl (by decide) (by decide) dX8_add_59
set_option maxHeartbeats 4000000 in
set_option maxRecDepth 100000 in
theorem c_X10_feedBytes_f (l : Launch) (D : DG) (cyC cyI cyJ cyZ cyO : ClassId) (x0 : Nat) (r0 : Nat) (t0 : Nat) (t1 : Nat) (a0 : Nat) (n0 : Nat) (k0 : Nat) (x1 : Nat) (q0 : Nat) (o0 : Nat) (h0 : Nat) (s0 : Nat) (d0 : Nat) (e0 : Nat) (r1 : Nat) (r2 : Nat) (b0 : Nat) (r_habits : Int32) (r_fault : Int32) (t_length : Int32) (t_next : Int32) (t_kind : Int32) (t_place : Int32) (t_number : Int32) (p0 : Int64) (t_text : Nat → Int32) (h_t_length : 0 ≤ (t_length).toInt ∧ (t_length).toInt ≤ 1000) (h_t_next : 0 ≤ (t_next).toInt ∧ (t_next).toInt ≤ 1000) (h_t_kind : 0 ≤ (t_kind).toInt ∧ (t_kind).toInt ≤ 4) (h_t_place : 0 ≤ (t_place).toInt ∧ (t_place).toInt ≤ 1000) (h_t_text : Iv 1000 (0) (126) t_text) (ht3 : ¬ (t_kind).toInt = 3 ∨ (t_place).toInt ≤ 999) : KK l D (TY cyC cyI cyJ cyZ cyO) yX10_feedBytes cX10_feedBytes 4 none ({ frames := 1, cells := 0, slots := 0, locals := 22 } : Room) 0 0 [.ref x0, .long p0] [(x0, .inr (10, [.ref r0, .ref a0, .ref n0, .ref k0, .ref x1, .ref q0, .ref o0, .ref h0, .ref s0, .ref d0])), (r0, .inr (5, [.ref t0, .ref e0, .ref r1, .ref r2, .ref b0, .int r_habits, .int r_fault])), (t0, .inr (8, [.ref t1, .int t_length, .int t_next, .int t_kind, .int t_place, .int t_number])), (t1, .inl (cyC, 1000, .inl t_text))] (fun u => none) (fun u => (0 ≤ (u.2.1 0).toInt ∧ (u.2.1 0).toInt ≤ 1000) ∧ (Iv 1000 (0) (126) (u.2.2.1 0)) ∧ (¬ (t_kind).toInt = 3 ∨ (t_place).toInt ≤ 999) ∧ (((u.2.1 0)).toInt = layN (t_length).toInt p0 8) ∧ ((u.2.2.1 0) = layF t_text (t_length).toInt p0 8)) (fun u => [(x0, .inr (10, [.ref r0, .ref a0, .ref n0, .ref k0, .ref x1, .ref q0, .ref o0, .ref h0, .ref s0, .ref d0])), (r0, .inr (5, [.ref t0, .ref e0, .ref r1, .ref r2, .ref b0, .int r_habits, .int r_fault])), (t0, .inr (8, [.ref t1, .int (u.2.1 0), .int t_next, .int t_kind, .int t_place, .int t_number])), (t1, .inl (cyC, 1000, .inl (u.2.2.1 0)))]) := by
  refine KK.of (lv0 := [(0, .ref x0), (1, .long p0)]) (by decide) rfl (Nat.le_of_ble_eq_true rfl) ?_
  intro p e s m args below meth c A C hr hk hin
  refine j_bipush (pc := 0) (v := 56) C dX10_feedBytes_0 (by decide) ?_
  refine j_istore_n (pc := 2) (lv' := [(3, .int 56), (0, .ref x0), (1, .long p0)]) C dX10_feedBytes_2 rfl (by decide) rfl ?_
  have loop_1 : ∀ (k_1 : Nat) (x1_3 : Int32) (y1_t0_1 : Int32) (g1_t1 : Nat → Int32), (-8 ≤ (x1_3).toInt ∧ (x1_3).toInt ≤ 56) → (0 ≤ (y1_t0_1).toInt ∧ (y1_t0_1).toInt ≤ 1000) → (Iv 1000 (0) (126) g1_t1) → (x1_3.toInt % 8 = 0 ∧ (¬ t_kind.toInt = 3 ∨ t_place.toInt ≤ 999)) → (y1_t0_1.toInt = layN (t_length).toInt p0 ((56 - x1_3.toInt) / 8).toNat) → (g1_t1 = layF t_text (t_length).toInt p0 ((56 - x1_3.toInt) / 8).toNat) → (x1_3.toInt + 9).toNat < k_1 → J p l e ({ frames := 1, cells := 0, slots := 0, locals := 22 } : Room) s m args below meth c D A 4 0 0 (QX below D (TY cyC cyI cyJ cyZ cyO) A (fun u => none) (fun u => (0 ≤ (u.2.1 0).toInt ∧ (u.2.1 0).toInt ≤ 1000) ∧ (Iv 1000 (0) (126) (u.2.2.1 0)) ∧ (¬ (t_kind).toInt = 3 ∨ (t_place).toInt ≤ 999) ∧ (((u.2.1 0)).toInt = layN (t_length).toInt p0 8) ∧ ((u.2.2.1 0) = layF t_text (t_length).toInt p0 8)) (fun u => [(x0, .inr (10, [.ref r0, .ref a0, .ref n0, .ref k0, .ref x1, .ref q0, .ref o0, .ref h0, .ref s0, .ref d0])), (r0, .inr (5, [.ref t0, .ref e0, .ref r1, .ref r2, .ref b0, .int r_habits, .int r_fault])), (t0, .inr (8, [.ref t1, .int (u.2.1 0), .int t_next, .int t_kind, .int t_place, .int t_number])), (t1, .inl (cyC, 1000, .inl (u.2.2.1 0)))]) args s 0 0) [(x0, .inr (10, [.ref r0, .ref a0, .ref n0, .ref k0, .ref x1, .ref q0, .ref o0, .ref h0, .ref s0, .ref d0])), (r0, .inr (5, [.ref t0, .ref e0, .ref r1, .ref r2, .ref b0, .int r_habits, .int r_fault])), (t0, .inr (8, [.ref t1, .int y1_t0_1, .int t_next, .int t_kind, .int t_place, .int t_number])), (t1, .inl (cyC, 1000, .inl g1_t1))] 3 [(3, .int x1_3), (0, .ref x0), (1, .long p0)] [] := by
    intro k_1
    induction k_1 with
    | zero =>
      intro x1_3 y1_t0_1 g1_t1 hi_1_0 hi_1_1 hi_1_2 hr_1 hq_1_0 hq_1_1 hm_1
      exact absurd hm_1 (Nat.not_lt_zero _)
    | succ k_1 ih_1 =>
      intro x1_3 y1_t0_1 g1_t1 hi_1_0 hi_1_1 hi_1_2 hr_1 hq_1_0 hq_1_1 hm_1
      refine j_iload_n (pc := 3) C dX10_feedBytes_3 rfl 0 rfl ?_
      refine j_if_lt (pc := 4) (tgt := 31) C dX10_feedBytes_4 (by decide) (fun c_2 => ?_) (fun c_2 => ?_)
      · skip
        have el_0 : (0 : Int32).toInt = 0 := rfl
        rw [i_lt] at c_2
        exact j_vret (pc := 31) C hr hk (fun i => [].getD i 0, fun i => [y1_t0_1].getD i 0, fun i => [g1_t1].getD i (fun _ => 0), fun i => [].getD i (fun _ => 0)) rfl (show (0 ≤ (y1_t0_1).toInt ∧ (y1_t0_1).toInt ≤ 1000) ∧ (Iv 1000 (0) (126) g1_t1) ∧ (¬ (t_kind).toInt = 3 ∨ (t_place).toInt ≤ 999) ∧ ((y1_t0_1).toInt = layN (t_length).toInt p0 8) ∧ (g1_t1 = layF t_text (t_length).toInt p0 8) from ⟨hi_1_1, hi_1_2, by omega, (by have e8 : ((56 - (x1_3).toInt) / 8).toNat = 8 := (by omega); rw [← e8]; exact hq_1_0), (by have e8 : ((56 - (x1_3).toInt) / 8).toNat = 8 := (by omega); rw [← e8]; exact hq_1_1)⟩) [0, 1, 2, 3] (by decide) rfl (by decide) (by decide) dX10_feedBytes_31
      · skip
        have el_0 : (0 : Int32).toInt = 0 := rfl
        rw [i_lt] at c_2
        refine j_aload_n (pc := 7) C dX10_feedBytes_7 rfl 1 rfl ?_
        refine j_get (pc := 8) (ci := 10) (v := .ref r0) C inw_10 0 rfl rfl 0 (by decide) wd_541 rfl rfl dX10_feedBytes_8 ?_
        refine j_get (pc := 11) (ci := 5) (v := .ref t0) C inw_5 1 rfl rfl 0 (by decide) wd_542 rfl rfl dX10_feedBytes_11 ?_
        refine j_lload_n (pc := 14) C dX10_feedBytes_14 rfl 2 rfl ?_
        refine j_iload_n (pc := 15) C dX10_feedBytes_15 rfl 0 rfl ?_
        refine j_lushr (pc := 16) C dX10_feedBytes_16 rfl ?_
        refine j_l2i (pc := 17) C dX10_feedBytes_17 rfl ?_
        refine j_sipush (pc := 18) (v := 255) C dX10_feedBytes_18 (by decide) ?_
        obtain ⟨v_3, ev_3⟩ : ∃ z : Int32, (((p0).toUInt64 >>> ((x1_3 : Int32).toInt64.toUInt64 &&& Int64.toUInt64 63)).toInt64).toInt32 &&& 255 = z := ⟨_, rfl⟩
        have el_255 : (255 : Int32).toInt = 255 := rfl
        have hv_3 : 0 ≤ v_3.toInt ∧ v_3.toInt ≤ 255 := by rw [← ev_3]; exact andm_r _ 8 (by decide) (by decide)
        refine j_iand (pc := 21) (v := v_3) C dX10_feedBytes_21 ev_3 ?_
        refine j_callV (pc := 22) (As := [.int v_3]) (rest := []) (wr := [(x0, .inr (10, [.ref r0, .ref a0, .ref n0, .ref k0, .ref x1, .ref q0, .ref o0, .ref h0, .ref s0, .ref d0])), (r0, .inr (5, [.ref t0, .ref e0, .ref r1, .ref r2, .ref b0, .int r_habits, .int r_fault]))]) C (c_X8_add_f l D cyC cyI cyJ cyZ cyO t0 t1 v_3 y1_t0_1 t_next t_kind t_place t_number g1_t1 hi_1_1 h_t_next h_t_kind h_t_place hi_1_2 ht3) wd_596 wd_258 wd_597 wd_598 wd_599 ⟨by decide, by decide, rfl⟩ rfl ⟨rfl, rfl, by decide, by decide⟩ ⟨by decide, by decide⟩ [2, 3] [0, 1] rfl rfl ⟨by decide, by decide, by decide⟩ 2 rfl rfl rfl (Nat.le_of_ble_eq_true rfl) dX10_feedBytes_22 (fun u_4 hw_5 => ?_)
        refine j_eq (ws2 := [(x0, .inr (10, [.ref r0, .ref a0, .ref n0, .ref k0, .ref x1, .ref q0, .ref o0, .ref h0, .ref s0, .ref d0])), (r0, .inr (5, [.ref t0, .ref e0, .ref r1, .ref r2, .ref b0, .int r_habits, .int r_fault])), (t0, .inr (8, [.ref t1, .int (u_4.2.1 0), .int t_next, .int t_kind, .int t_place, .int t_number])), (t1, .inl (cyC, 1000, .inl (u_4.2.2.1 0)))]) (pc2 := 25) (lv2 := [(3, .int x1_3), (0, .ref x0), (1, .long p0)]) (st2 := []) rfl rfl rfl rfl ?_
        obtain ⟨hw_5_0, hw_5_1, hw_5_2, hw_5_3, hw_5_4⟩ := hw_5
        obtain ⟨v_6, ev_6⟩ : ∃ z : Int32, x1_3 + (-8) = z := ⟨_, rfl⟩
        have el_m8 : ((-8) : Int32).toInt = (-8) := rfl
        have hv_6 : v_6.toInt = x1_3.toInt + ((-8) : Int32).toInt := by rw [← ev_6]; exact fb_addI (by omega) (by omega)
        refine j_iinc (pc := 25) (v := v_6) (lv' := [(3, .int v_6), (0, .ref x0), (1, .long p0)]) C dX10_feedBytes_25 0 rfl ev_6 (by decide) rfl ?_
        refine j_goto (pc := 28) (tgt := 3) C dX10_feedBytes_28 (by decide) ?_
        exact j_lv [0, 1, 2] rfl (ih_1 v_6 (u_4.2.1 0) (u_4.2.2.1 0) (by omega) hw_5_0 hw_5_1 (by omega) (by rw [show ((56 - (v_6).toInt) / 8).toNat = ((56 - (x1_3).toInt) / 8).toNat + 1 from (by omega)]; show _ = ladd (layN (t_length).toInt p0 ((56 - (x1_3).toInt) / 8).toNat) (bytS p0 (nI (56 - 8 * ((56 - (x1_3).toInt) / 8).toNat))); rw [← hq_1_0, show nI (56 - 8 * ((56 - (x1_3).toInt) / 8).toNat) = x1_3 from (by (rw [show 56 - 8 * ((56 - (x1_3).toInt) / 8).toNat = (x1_3).toInt.toNat from (by omega)]; exact nI_bk (by omega))), ← byt_eq (by omega) (by omega), show bytU p0 x1_3 = v_3 from ev_3]; exact hw_5_2) (by rw [show ((56 - (v_6).toInt) / 8).toNat = ((56 - (x1_3).toInt) / 8).toNat + 1 from (by omega)]; show _ = lrow (layF t_text (t_length).toInt p0 ((56 - (x1_3).toInt) / 8).toNat) (layN (t_length).toInt p0 ((56 - (x1_3).toInt) / 8).toNat) (bytS p0 (nI (56 - 8 * ((56 - (x1_3).toInt) / 8).toNat))); rw [← hq_1_1, ← hq_1_0, show nI (56 - 8 * ((56 - (x1_3).toInt) / 8).toNat) = x1_3 from (by (rw [show 56 - 8 * ((56 - (x1_3).toInt) / 8).toNat = (x1_3).toInt.toNat from (by omega)]; exact nI_bk (by omega))), ← byt_eq (by omega) (by omega), show bytU p0 x1_3 = v_3 from ev_3]; exact hw_5_3) (by omega))
  have el_56 : (56 : Int32).toInt = 56 := rfl
  exact j_lv [0, 1, 2] rfl (loop_1 4096 56 t_length t_text (by decide) h_t_length h_t_text (by omega) (by rw [show ((56 - (56 : Int32).toInt) / 8).toNat = 0 from rfl]; rfl) (by rw [show ((56 - (56 : Int32).toInt) / 8).toNat = 0 from rfl]; rfl) (by omega))
set_option maxHeartbeats 4000000 in
set_option maxRecDepth 100000 in
theorem c_X10_feed_f (l : Launch) (D : DG) (cyC cyI cyJ cyZ cyO : ClassId) (x0 : Nat) (r0 : Nat) (t0 : Nat) (t1 : Nat) (a0 : Nat) (n0 : Nat) (k0 : Nat) (x1 : Nat) (q0 : Nat) (o0 : Nat) (h0 : Nat) (s0 : Nat) (d0 : Nat) (e0 : Nat) (r1 : Nat) (r2 : Nat) (b0 : Nat) (r_habits : Int32) (r_fault : Int32) (t_length : Int32) (t_next : Int32) (t_kind : Int32) (t_place : Int32) (t_number : Int32) (p0 : Int64) (p1 : Int64) (p2 : Int64) (t_text : Nat → Int32) (h_t_length : 0 ≤ (t_length).toInt ∧ (t_length).toInt ≤ 1000) (h_t_next : 0 ≤ (t_next).toInt ∧ (t_next).toInt ≤ 1000) (h_t_kind : 0 ≤ (t_kind).toInt ∧ (t_kind).toInt ≤ 4) (h_t_place : 0 ≤ (t_place).toInt ∧ (t_place).toInt ≤ 1000) (h_t_text : Iv 1000 (0) (126) t_text) (ht3 : ¬ (t_kind).toInt = 3 ∨ (t_place).toInt ≤ 999) : KK l D (TY cyC cyI cyJ cyZ cyO) yX10_feed cX10_feed 7 (some .int) ({ frames := 2, cells := 0, slots := 0, locals := 45 } : Room) 0 0 [.ref x0, .long p0, .long p1, .long p2] [(x0, .inr (10, [.ref r0, .ref a0, .ref n0, .ref k0, .ref x1, .ref q0, .ref o0, .ref h0, .ref s0, .ref d0])), (r0, .inr (5, [.ref t0, .ref e0, .ref r1, .ref r2, .ref b0, .int r_habits, .int r_fault])), (t0, .inr (8, [.ref t1, .int t_length, .int t_next, .int t_kind, .int t_place, .int t_number])), (t1, .inl (cyC, 1000, .inl t_text))] (fun u => some (.int (u.2.1 0))) (fun u => (0 ≤ (u.2.1 0).toInt ∧ (u.2.1 0).toInt ≤ 1000) ∧ (0 ≤ (u.2.1 1).toInt ∧ (u.2.1 1).toInt ≤ 1000) ∧ (Iv 1000 (0) (126) (u.2.2.1 0)) ∧ (¬ (t_kind).toInt = 3 ∨ (t_place).toInt ≤ 999) ∧ ((u.2.1 0).toInt = layN (layN (layN (t_length).toInt p0 8) p1 8) p2 8) ∧ (((u.2.1 1)).toInt = (u.2.1 0).toInt) ∧ ((u.2.2.1 0) = layF (layF (layF t_text (t_length).toInt p0 8) (layN (t_length).toInt p0 8) p1 8) (layN (layN (t_length).toInt p0 8) p1 8) p2 8)) (fun u => [(x0, .inr (10, [.ref r0, .ref a0, .ref n0, .ref k0, .ref x1, .ref q0, .ref o0, .ref h0, .ref s0, .ref d0])), (r0, .inr (5, [.ref t0, .ref e0, .ref r1, .ref r2, .ref b0, .int r_habits, .int r_fault])), (t0, .inr (8, [.ref t1, .int (u.2.1 1), .int t_next, .int t_kind, .int t_place, .int t_number])), (t1, .inl (cyC, 1000, .inl (u.2.2.1 0)))]) := by
  refine KK.of (lv0 := [(0, .ref x0), (1, .long p0), (3, .long p1), (5, .long p2)]) (by decide) rfl (Nat.le_of_ble_eq_true rfl) ?_
  intro p e s m args below meth c A C hr hk hin
  refine j_aload_n (pc := 0) C dX10_feed_0 rfl 0 rfl ?_
  refine j_lload_n (pc := 1) C dX10_feed_1 rfl 1 rfl ?_
  refine j_callV (pc := 2) (As := [.long p0]) (rest := []) (wr := []) C (c_X10_feedBytes_f l D cyC cyI cyJ cyZ cyO x0 r0 t0 t1 a0 n0 k0 x1 q0 o0 h0 s0 d0 e0 r1 r2 b0 r_habits r_fault t_length t_next t_kind t_place t_number p0 t_text h_t_length h_t_next h_t_kind h_t_place h_t_text ht3) wd_600 wd_482 wd_601 wd_602 wd_603 ⟨by decide, by decide, rfl⟩ rfl ⟨rfl, rfl, by decide, by decide⟩ ⟨by decide, by decide⟩ [0, 1, 2, 3] [] rfl rfl ⟨by decide, by decide, by decide⟩ 0 rfl rfl rfl (Nat.le_of_ble_eq_true rfl) dX10_feed_2 (fun u_1 hw_2 => ?_)
  refine j_eq (ws2 := [(x0, .inr (10, [.ref r0, .ref a0, .ref n0, .ref k0, .ref x1, .ref q0, .ref o0, .ref h0, .ref s0, .ref d0])), (r0, .inr (5, [.ref t0, .ref e0, .ref r1, .ref r2, .ref b0, .int r_habits, .int r_fault])), (t0, .inr (8, [.ref t1, .int (u_1.2.1 0), .int t_next, .int t_kind, .int t_place, .int t_number])), (t1, .inl (cyC, 1000, .inl (u_1.2.2.1 0)))]) (pc2 := 5) (lv2 := [(0, .ref x0), (1, .long p0), (3, .long p1), (5, .long p2)]) (st2 := []) rfl rfl rfl rfl ?_
  obtain ⟨hw_2_0, hw_2_1, hw_2_2, hw_2_3, hw_2_4⟩ := hw_2
  refine j_aload_n (pc := 5) C dX10_feed_5 rfl 0 rfl ?_
  refine j_lload_n (pc := 6) C dX10_feed_6 rfl 2 rfl ?_
  refine j_callV (pc := 7) (As := [.long p1]) (rest := []) (wr := []) C (c_X10_feedBytes_f l D cyC cyI cyJ cyZ cyO x0 r0 t0 t1 a0 n0 k0 x1 q0 o0 h0 s0 d0 e0 r1 r2 b0 r_habits r_fault (u_1.2.1 0) t_next t_kind t_place t_number p1 (u_1.2.2.1 0) hw_2_0 h_t_next h_t_kind h_t_place hw_2_1 ht3) wd_600 wd_482 wd_601 wd_602 wd_603 ⟨by decide, by decide, rfl⟩ rfl ⟨rfl, rfl, by decide, by decide⟩ ⟨by decide, by decide⟩ [0, 1, 2, 3] [] rfl rfl ⟨by decide, by decide, by decide⟩ 0 rfl rfl rfl (Nat.le_of_ble_eq_true rfl) dX10_feed_7 (fun u_3 hw_4 => ?_)
  refine j_eq (ws2 := [(x0, .inr (10, [.ref r0, .ref a0, .ref n0, .ref k0, .ref x1, .ref q0, .ref o0, .ref h0, .ref s0, .ref d0])), (r0, .inr (5, [.ref t0, .ref e0, .ref r1, .ref r2, .ref b0, .int r_habits, .int r_fault])), (t0, .inr (8, [.ref t1, .int (u_3.2.1 0), .int t_next, .int t_kind, .int t_place, .int t_number])), (t1, .inl (cyC, 1000, .inl (u_3.2.2.1 0)))]) (pc2 := 10) (lv2 := [(0, .ref x0), (1, .long p0), (3, .long p1), (5, .long p2)]) (st2 := []) rfl rfl rfl rfl ?_
  obtain ⟨hw_4_0, hw_4_1, hw_4_2, hw_4_3, hw_4_4⟩ := hw_4
  refine j_aload_n (pc := 10) C dX10_feed_10 rfl 0 rfl ?_
  refine j_lload (pc := 11) C dX10_feed_11 3 rfl ?_
  refine j_callV (pc := 13) (As := [.long p2]) (rest := []) (wr := []) C (c_X10_feedBytes_f l D cyC cyI cyJ cyZ cyO x0 r0 t0 t1 a0 n0 k0 x1 q0 o0 h0 s0 d0 e0 r1 r2 b0 r_habits r_fault (u_3.2.1 0) t_next t_kind t_place t_number p2 (u_3.2.2.1 0) hw_4_0 h_t_next h_t_kind h_t_place hw_4_1 ht3) wd_600 wd_482 wd_601 wd_602 wd_603 ⟨by decide, by decide, rfl⟩ rfl ⟨rfl, rfl, by decide, by decide⟩ ⟨by decide, by decide⟩ [0, 1, 2, 3] [] rfl rfl ⟨by decide, by decide, by decide⟩ 0 rfl rfl rfl (Nat.le_of_ble_eq_true rfl) dX10_feed_13 (fun u_5 hw_6 => ?_)
  refine j_eq (ws2 := [(x0, .inr (10, [.ref r0, .ref a0, .ref n0, .ref k0, .ref x1, .ref q0, .ref o0, .ref h0, .ref s0, .ref d0])), (r0, .inr (5, [.ref t0, .ref e0, .ref r1, .ref r2, .ref b0, .int r_habits, .int r_fault])), (t0, .inr (8, [.ref t1, .int (u_5.2.1 0), .int t_next, .int t_kind, .int t_place, .int t_number])), (t1, .inl (cyC, 1000, .inl (u_5.2.2.1 0)))]) (pc2 := 16) (lv2 := [(0, .ref x0), (1, .long p0), (3, .long p1), (5, .long p2)]) (st2 := []) rfl rfl rfl rfl ?_
  obtain ⟨hw_6_0, hw_6_1, hw_6_2, hw_6_3, hw_6_4⟩ := hw_6
  refine j_aload_n (pc := 16) C dX10_feed_16 rfl 0 rfl ?_
  refine j_get (pc := 17) (ci := 10) (v := .ref r0) C inw_10 0 rfl rfl 0 (by decide) wd_541 rfl rfl dX10_feed_17 ?_
  refine j_get (pc := 20) (ci := 5) (v := .ref t0) C inw_5 1 rfl rfl 0 (by decide) wd_542 rfl rfl dX10_feed_20 ?_
  refine j_get (pc := 23) (ci := 8) (v := .int (u_5.2.1 0)) C inw_8 2 rfl rfl 1 (by decide) wd_543 rfl rfl dX10_feed_23 ?_
  exact j_iret (pc := 26) C hr hk (fun i => [].getD i 0, fun i => [(u_5.2.1 0), (u_5.2.1 0)].getD i 0, fun i => [(u_5.2.2.1 0)].getD i (fun _ => 0), fun i => [].getD i (fun _ => 0)) rfl (show (0 ≤ ((u_5.2.1 0)).toInt ∧ ((u_5.2.1 0)).toInt ≤ 1000) ∧ (0 ≤ ((u_5.2.1 0)).toInt ∧ ((u_5.2.1 0)).toInt ≤ 1000) ∧ (Iv 1000 (0) (126) (u_5.2.2.1 0)) ∧ (¬ (t_kind).toInt = 3 ∨ (t_place).toInt ≤ 999) ∧ ((u_5.2.1 0).toInt = layN (layN (layN (t_length).toInt p0 8) p1 8) p2 8) ∧ (((u_5.2.1 0)).toInt = (u_5.2.1 0).toInt) ∧ ((u_5.2.2.1 0) = layF (layF (layF t_text (t_length).toInt p0 8) (layN (t_length).toInt p0 8) p1 8) (layN (layN (t_length).toInt p0 8) p1 8) p2 8) from ⟨hw_6_0, hw_6_0, hw_6_1, by omega, (by rw [hw_6_3, hw_4_3, hw_2_3]), by omega, (by rw [hw_6_4, hw_4_4, hw_2_4, hw_4_3, hw_2_3])⟩) [0, 1, 2, 3] (by decide) rfl (by decide) (by decide) dX10_feed_26
