theorem wd_623 : Cond.code yX11_isLetter cX11_isLetter 1 (some .boolean) ∈ WALL := wl_in (by decide +kernel) (by decide +kernel)
theorem wd_624 : Cond.initialized RX11 ∈ WALL := wl_in (by decide +kernel) (by decide +kernel)
theorem wd_625 : Cond.methodLink RX11 149 yX11_isLetter ∈ WALL := wl_in (by decide +kernel) (by decide +kernel)
theorem wd_626 : Cond.static yX11_isLetter ∈ WALL := wl_in (by decide +kernel) (by decide +kernel)
theorem wd_627 : Cond.fieldLink RX11 11 "BowlShelfModel" "taped" "I" ∈ WALL := wl_in (by decide +kernel) (by decide +kernel)
theorem wd_628 : Cond.fieldLink RX11 14 "BowlShelfModel" "tape" "[I" ∈ WALL := wl_in (by decide +kernel) (by decide +kernel)
theorem wd_629 : Cond.fieldLink RX11 1 "BowlShelfModel" "thrown" "I" ∈ WALL := wl_in (by decide +kernel) (by decide +kernel)
theorem wd_630 : Cond.code yX11_lay cX11_lay 5 none ∈ WALL := wl_in (by decide +kernel) (by decide +kernel)
theorem wd_631 : Cond.methodLink RX11 7 yX11_lay ∈ WALL := wl_in (by decide +kernel) (by decide +kernel)
theorem wd_632 : Cond.instanceMethod yX11_lay ∈ WALL := wl_in (by decide +kernel) (by decide +kernel)
theorem wd_633 : Cond.selects RX11 yX11_lay yX11_lay ∈ WALL := wl_in (by decide +kernel) (by decide +kernel)
theorem dX11_isLetter_0 : decode cX11_isLetter 0 = .ok (.iload_n 0, 1) := by decide +kernel
theorem dX11_isLetter_1 : decode cX11_isLetter 1 = .ok (.bipush 97, 2) := by decide +kernel
theorem dX11_isLetter_3 : decode cX11_isLetter 3 = .ok (.if_icmp .lt 13, 3) := by decide +kernel
theorem dX11_isLetter_6 : decode cX11_isLetter 6 = .ok (.iload_n 0, 1) := by decide +kernel
theorem dX11_isLetter_7 : decode cX11_isLetter 7 = .ok (.bipush 122, 2) := by decide +kernel
theorem dX11_isLetter_9 : decode cX11_isLetter 9 = .ok (.if_icmp .gt 7, 3) := by decide +kernel
theorem dX11_isLetter_12 : decode cX11_isLetter 12 = .ok (.iconst 1, 1) := by decide +kernel
theorem dX11_isLetter_13 : decode cX11_isLetter 13 = .ok (.goto 4, 3) := by decide +kernel
theorem dX11_isLetter_16 : decode cX11_isLetter 16 = .ok (.iconst 0, 1) := by decide +kernel
theorem dX11_isLetter_17 : decode cX11_isLetter 17 = .ok (.ireturn, 1) := by decide +kernel
theorem dX11_isDigit_0 : decode cX11_isDigit 0 = .ok (.iload_n 0, 1) := by decide +kernel
theorem dX11_isDigit_1 : decode cX11_isDigit 1 = .ok (.bipush 48, 2) := by decide +kernel
theorem dX11_isDigit_3 : decode cX11_isDigit 3 = .ok (.if_icmp .lt 13, 3) := by decide +kernel
theorem dX11_isDigit_6 : decode cX11_isDigit 6 = .ok (.iload_n 0, 1) := by decide +kernel
theorem dX11_isDigit_7 : decode cX11_isDigit 7 = .ok (.bipush 57, 2) := by decide +kernel
theorem dX11_isDigit_9 : decode cX11_isDigit 9 = .ok (.if_icmp .gt 7, 3) := by decide +kernel
theorem dX11_isDigit_12 : decode cX11_isDigit 12 = .ok (.iconst 1, 1) := by decide +kernel
theorem dX11_isDigit_13 : decode cX11_isDigit 13 = .ok (.goto 4, 3) := by decide +kernel
theorem dX11_isDigit_16 : decode cX11_isDigit 16 = .ok (.iconst 0, 1) := by decide +kernel
theorem dX11_isDigit_17 : decode cX11_isDigit 17 = .ok (.ireturn, 1) := by decide +kernel
theorem dX11_rank_0 : decode cX11_rank 0 = .ok (.iload_n 0, 1) := by decide +kernel
theorem dX11_rank_1 : decode cX11_rank 1 = .ok (.invokestatic 149, 3) := by decide +kernel
theorem dX11_rank_4 : decode cX11_rank 4 = .ok (.ifCond .eq 10, 3) := by decide +kernel
theorem dX11_rank_7 : decode cX11_rank 7 = .ok (.iload_n 0, 1) := by decide +kernel
theorem dX11_rank_8 : decode cX11_rank 8 = .ok (.bipush 96, 2) := by decide +kernel
theorem dX11_rank_10 : decode cX11_rank 10 = .ok (.isub, 1) := by decide +kernel
theorem dX11_rank_11 : decode cX11_rank 11 = .ok (.goto 7, 3) := by decide +kernel
theorem dX11_rank_14 : decode cX11_rank 14 = .ok (.iload_n 0, 1) := by decide +kernel
theorem dX11_rank_15 : decode cX11_rank 15 = .ok (.bipush 21, 2) := by decide +kernel
theorem dX11_rank_17 : decode cX11_rank 17 = .ok (.isub, 1) := by decide +kernel
theorem dX11_rank_18 : decode cX11_rank 18 = .ok (.ireturn, 1) := by decide +kernel
theorem dX11_isSignOf_0 : decode cX11_isSignOf 0 = .ok (.iload_n 0, 1) := by decide +kernel
theorem dX11_isSignOf_1 : decode cX11_isSignOf 1 = .ok (.bipush 40, 2) := by decide +kernel
theorem dX11_isSignOf_3 : decode cX11_isSignOf 3 = .ok (.if_icmp .eq 45, 3) := by decide +kernel
theorem dX11_isSignOf_6 : decode cX11_isSignOf 6 = .ok (.iload_n 0, 1) := by decide +kernel
theorem dX11_isSignOf_7 : decode cX11_isSignOf 7 = .ok (.bipush 41, 2) := by decide +kernel
theorem dX11_isSignOf_9 : decode cX11_isSignOf 9 = .ok (.if_icmp .eq 39, 3) := by decide +kernel
theorem dX11_isSignOf_12 : decode cX11_isSignOf 12 = .ok (.iload_n 0, 1) := by decide +kernel
theorem dX11_isSignOf_13 : decode cX11_isSignOf 13 = .ok (.bipush 59, 2) := by decide +kernel
theorem dX11_isSignOf_15 : decode cX11_isSignOf 15 = .ok (.if_icmp .eq 33, 3) := by decide +kernel
theorem dX11_isSignOf_18 : decode cX11_isSignOf 18 = .ok (.iload_n 0, 1) := by decide +kernel
theorem dX11_isSignOf_19 : decode cX11_isSignOf 19 = .ok (.bipush 61, 2) := by decide +kernel
theorem dX11_isSignOf_21 : decode cX11_isSignOf 21 = .ok (.if_icmp .eq 27, 3) := by decide +kernel
theorem dX11_isSignOf_24 : decode cX11_isSignOf 24 = .ok (.iload_n 0, 1) := by decide +kernel
theorem dX11_isSignOf_25 : decode cX11_isSignOf 25 = .ok (.bipush 60, 2) := by decide +kernel
theorem dX11_isSignOf_27 : decode cX11_isSignOf 27 = .ok (.if_icmp .eq 21, 3) := by decide +kernel
theorem dX11_isSignOf_30 : decode cX11_isSignOf 30 = .ok (.iload_n 0, 1) := by decide +kernel
theorem dX11_isSignOf_31 : decode cX11_isSignOf 31 = .ok (.bipush 43, 2) := by decide +kernel
theorem dX11_isSignOf_33 : decode cX11_isSignOf 33 = .ok (.if_icmp .eq 15, 3) := by decide +kernel
theorem dX11_isSignOf_36 : decode cX11_isSignOf 36 = .ok (.iload_n 0, 1) := by decide +kernel
theorem dX11_isSignOf_37 : decode cX11_isSignOf 37 = .ok (.bipush 45, 2) := by decide +kernel
theorem dX11_isSignOf_39 : decode cX11_isSignOf 39 = .ok (.if_icmp .eq 9, 3) := by decide +kernel
theorem dX11_isSignOf_42 : decode cX11_isSignOf 42 = .ok (.iload_n 0, 1) := by decide +kernel
theorem dX11_isSignOf_43 : decode cX11_isSignOf 43 = .ok (.bipush 42, 2) := by decide +kernel
theorem dX11_isSignOf_45 : decode cX11_isSignOf 45 = .ok (.if_icmp .ne 7, 3) := by decide +kernel
theorem dX11_isSignOf_48 : decode cX11_isSignOf 48 = .ok (.iconst 1, 1) := by decide +kernel
theorem dX11_isSignOf_49 : decode cX11_isSignOf 49 = .ok (.goto 4, 3) := by decide +kernel
theorem dX11_isSignOf_52 : decode cX11_isSignOf 52 = .ok (.iconst 0, 1) := by decide +kernel
theorem dX11_isSignOf_53 : decode cX11_isSignOf 53 = .ok (.ireturn, 1) := by decide +kernel
theorem dX11_within_0 : decode cX11_within 0 = .ok (.iload_n 0, 1) := by decide +kernel
theorem dX11_within_1 : decode cX11_within 1 = .ok (.iload_n 1, 1) := by decide +kernel
theorem dX11_within_2 : decode cX11_within 2 = .ok (.if_icmp .lt 12, 3) := by decide +kernel
theorem dX11_within_5 : decode cX11_within 5 = .ok (.iload_n 0, 1) := by decide +kernel
theorem dX11_within_6 : decode cX11_within 6 = .ok (.iload_n 2, 1) := by decide +kernel
theorem dX11_within_7 : decode cX11_within 7 = .ok (.if_icmp .gt 7, 3) := by decide +kernel
theorem dX11_within_10 : decode cX11_within 10 = .ok (.iconst 1, 1) := by decide +kernel
theorem dX11_within_11 : decode cX11_within 11 = .ok (.goto 4, 3) := by decide +kernel
theorem dX11_within_14 : decode cX11_within 14 = .ok (.iconst 0, 1) := by decide +kernel
theorem dX11_within_15 : decode cX11_within 15 = .ok (.ireturn, 1) := by decide +kernel
theorem dX11_lay_0 : decode cX11_lay 0 = .ok (.bipush 56, 2) := by decide +kernel
theorem dX11_lay_2 : decode cX11_lay 2 = .ok (.istore_n 3, 1) := by decide +kernel
theorem dX11_lay_3 : decode cX11_lay 3 = .ok (.iload_n 3, 1) := by decide +kernel
theorem dX11_lay_4 : decode cX11_lay 4 = .ok (.ifCond .lt 71, 3) := by decide +kernel
theorem dX11_lay_7 : decode cX11_lay 7 = .ok (.lload_n 1, 1) := by decide +kernel
theorem dX11_lay_8 : decode cX11_lay 8 = .ok (.iload_n 3, 1) := by decide +kernel
theorem dX11_lay_9 : decode cX11_lay 9 = .ok (.lshr, 1) := by decide +kernel
theorem dX11_lay_10 : decode cX11_lay 10 = .ok (.l2i, 1) := by decide +kernel
theorem dX11_lay_11 : decode cX11_lay 11 = .ok (.sipush 255, 3) := by decide +kernel
theorem dX11_lay_14 : decode cX11_lay 14 = .ok (.iand, 1) := by decide +kernel
theorem dX11_lay_15 : decode cX11_lay 15 = .ok (.istore 4, 2) := by decide +kernel
theorem dX11_lay_17 : decode cX11_lay 17 = .ok (.iload 4, 2) := by decide +kernel
theorem dX11_lay_19 : decode cX11_lay 19 = .ok (.bipush 10, 2) := by decide +kernel
theorem dX11_lay_21 : decode cX11_lay 21 = .ok (.if_icmp .eq 17, 3) := by decide +kernel
theorem dX11_lay_24 : decode cX11_lay 24 = .ok (.iload 4, 2) := by decide +kernel
theorem dX11_lay_26 : decode cX11_lay 26 = .ok (.bipush 32, 2) := by decide +kernel
theorem dX11_lay_28 : decode cX11_lay 28 = .ok (.if_icmp .lt 41, 3) := by decide +kernel
theorem dX11_lay_31 : decode cX11_lay 31 = .ok (.iload 4, 2) := by decide +kernel
theorem dX11_lay_33 : decode cX11_lay 33 = .ok (.bipush 126, 2) := by decide +kernel
theorem dX11_lay_35 : decode cX11_lay 35 = .ok (.if_icmp .gt 34, 3) := by decide +kernel
theorem dX11_lay_38 : decode cX11_lay 38 = .ok (.aload_n 0, 1) := by decide +kernel
theorem dX11_lay_39 : decode cX11_lay 39 = .ok (.getfield 11, 3) := by decide +kernel
theorem dX11_lay_42 : decode cX11_lay 42 = .ok (.sipush 1000, 3) := by decide +kernel
theorem dX11_lay_45 : decode cX11_lay 45 = .ok (.if_icmp .ge 24, 3) := by decide +kernel
theorem dX11_lay_48 : decode cX11_lay 48 = .ok (.aload_n 0, 1) := by decide +kernel
theorem dX11_lay_49 : decode cX11_lay 49 = .ok (.getfield 14, 3) := by decide +kernel
theorem dX11_lay_52 : decode cX11_lay 52 = .ok (.aload_n 0, 1) := by decide +kernel
theorem dX11_lay_53 : decode cX11_lay 53 = .ok (.getfield 11, 3) := by decide +kernel
theorem dX11_lay_56 : decode cX11_lay 56 = .ok (.iload 4, 2) := by decide +kernel
theorem dX11_lay_58 : decode cX11_lay 58 = .ok (.iastore, 1) := by decide +kernel
theorem dX11_lay_59 : decode cX11_lay 59 = .ok (.aload_n 0, 1) := by decide +kernel
theorem dX11_lay_60 : decode cX11_lay 60 = .ok (.dup, 1) := by decide +kernel
theorem dX11_lay_61 : decode cX11_lay 61 = .ok (.getfield 11, 3) := by decide +kernel
theorem dX11_lay_64 : decode cX11_lay 64 = .ok (.iconst 1, 1) := by decide +kernel
theorem dX11_lay_65 : decode cX11_lay 65 = .ok (.iadd, 1) := by decide +kernel
theorem dX11_lay_66 : decode cX11_lay 66 = .ok (.putfield 11, 3) := by decide +kernel
theorem dX11_lay_69 : decode cX11_lay 69 = .ok (.iinc 3 (-8), 3) := by decide +kernel
theorem dX11_lay_72 : decode cX11_lay 72 = .ok (.goto (-69), 3) := by decide +kernel
theorem dX11_lay_75 : decode cX11_lay 75 = .ok (.return_, 1) := by decide +kernel
theorem dX11_feed_0 : decode cX11_feed 0 = .ok (.aload_n 0, 1) := by decide +kernel
theorem dX11_feed_1 : decode cX11_feed 1 = .ok (.iconst 0, 1) := by decide +kernel
theorem dX11_feed_2 : decode cX11_feed 2 = .ok (.putfield 1, 3) := by decide +kernel
theorem dX11_feed_5 : decode cX11_feed 5 = .ok (.aload_n 0, 1) := by decide +kernel
theorem dX11_feed_6 : decode cX11_feed 6 = .ok (.lload_n 1, 1) := by decide +kernel
theorem dX11_feed_7 : decode cX11_feed 7 = .ok (.invokevirtual 7, 3) := by decide +kernel
theorem dX11_feed_10 : decode cX11_feed 10 = .ok (.aload_n 0, 1) := by decide +kernel
theorem dX11_feed_11 : decode cX11_feed 11 = .ok (.lload_n 3, 1) := by decide +kernel
theorem dX11_feed_12 : decode cX11_feed 12 = .ok (.invokevirtual 7, 3) := by decide +kernel
theorem dX11_feed_15 : decode cX11_feed 15 = .ok (.aload_n 0, 1) := by decide +kernel
theorem dX11_feed_16 : decode cX11_feed 16 = .ok (.lload 5, 2) := by decide +kernel
theorem dX11_feed_18 : decode cX11_feed 18 = .ok (.invokevirtual 7, 3) := by decide +kernel
theorem dX11_feed_21 : decode cX11_feed 21 = .ok (.aload_n 0, 1) := by decide +kernel
theorem dX11_feed_22 : decode cX11_feed 22 = .ok (.getfield 11, 3) := by decide +kernel
theorem dX11_feed_25 : decode cX11_feed 25 = .ok (.ireturn, 1) := by decide +kernel
set_option maxHeartbeats 4000000 in
set_option maxRecDepth 100000 in
theorem c_X11_isLetter (l : Launch) (D : DG) (cyC cyI cyJ cyZ cyO : ClassId) (p0 : Int32) : KK l D (TY cyC cyI cyJ cyZ cyO) yX11_isLetter cX11_isLetter 1 (some .boolean) ({ frames := 0, cells := 0, slots := 0, locals := 0 } : Room) 0 0 [.int p0] [] (fun u => some (.int (u.2.1 0))) (fun u => (0 ≤ (u.2.1 0).toInt ∧ (u.2.1 0).toInt ≤ 1) ∧ ((u.2.1 0).toInt = 1 ∨ (p0).toInt < 97 ∨ 122 < (p0).toInt) ∧ ((u.2.1 0).toInt = 0 ∨ 97 ≤ (p0).toInt ∧ (p0).toInt ≤ 122)) (fun u => []) := by
  refine KK.of (lv0 := [(0, .int p0)]) (by decide) rfl (Nat.le_of_ble_eq_true rfl) ?_
  intro p e s m args below meth c A C hr hk hin
  refine j_iload_n (pc := 0) C dX11_isLetter_0 rfl 0 rfl ?_
  refine j_bipush (pc := 1) (v := 97) C dX11_isLetter_1 (by decide) ?_
  refine j_icmp_lt (pc := 3) (tgt := 16) C dX11_isLetter_3 (by decide) (fun c_1 => ?_) (fun c_1 => ?_)
  · skip
    have el_97 : (97 : Int32).toInt = 97 := rfl
    rw [i_lt] at c_1
    refine j_iconst (pc := 16) (v := 0) C dX11_isLetter_16 (by decide) ?_
    have el_0 : (0 : Int32).toInt = 0 := rfl
    have el_0 : (0 : Int32).toInt = 0 := rfl
    have el_0 : (0 : Int32).toInt = 0 := rfl
    exact j_zret (pc := 17) C hr rfl hk (fun i => [].getD i 0, fun i => [0].getD i 0, fun i => [].getD i (fun _ => 0), fun i => [].getD i (fun _ => 0)) rfl (show (0 ≤ ((0 : Int32)).toInt ∧ ((0 : Int32)).toInt ≤ 1) ∧ ((0 : Int32).toInt = 1 ∨ (p0).toInt < 97 ∨ 122 < (p0).toInt) ∧ ((0 : Int32).toInt = 0 ∨ 97 ≤ (p0).toInt ∧ (p0).toInt ≤ 122) from ⟨by omega, by omega, by omega⟩) [] (by decide) rfl (by decide) (by decide) dX11_isLetter_17
  · skip
    have el_97 : (97 : Int32).toInt = 97 := rfl
    rw [i_lt] at c_1
    refine j_iload_n (pc := 6) C dX11_isLetter_6 rfl 0 rfl ?_
    refine j_bipush (pc := 7) (v := 122) C dX11_isLetter_7 (by decide) ?_
    refine j_icmp_gt (pc := 9) (tgt := 16) C dX11_isLetter_9 (by decide) (fun c_2 => ?_) (fun c_2 => ?_)
    · skip
      have el_122 : (122 : Int32).toInt = 122 := rfl
      rw [i_lt] at c_2
      refine j_iconst (pc := 16) (v := 0) C dX11_isLetter_16 (by decide) ?_
      have el_0 : (0 : Int32).toInt = 0 := rfl
      have el_0 : (0 : Int32).toInt = 0 := rfl
      have el_0 : (0 : Int32).toInt = 0 := rfl
      exact j_zret (pc := 17) C hr rfl hk (fun i => [].getD i 0, fun i => [0].getD i 0, fun i => [].getD i (fun _ => 0), fun i => [].getD i (fun _ => 0)) rfl (show (0 ≤ ((0 : Int32)).toInt ∧ ((0 : Int32)).toInt ≤ 1) ∧ ((0 : Int32).toInt = 1 ∨ (p0).toInt < 97 ∨ 122 < (p0).toInt) ∧ ((0 : Int32).toInt = 0 ∨ 97 ≤ (p0).toInt ∧ (p0).toInt ≤ 122) from ⟨by omega, by omega, by omega⟩) [] (by decide) rfl (by decide) (by decide) dX11_isLetter_17
    · skip
      have el_122 : (122 : Int32).toInt = 122 := rfl
      rw [i_lt] at c_2
      refine j_iconst (pc := 12) (v := 1) C dX11_isLetter_12 (by decide) ?_
      refine j_goto (pc := 13) (tgt := 17) C dX11_isLetter_13 (by decide) ?_
      have el_1 : (1 : Int32).toInt = 1 := rfl
      have el_1 : (1 : Int32).toInt = 1 := rfl
      have el_1 : (1 : Int32).toInt = 1 := rfl
      exact j_zret (pc := 17) C hr rfl hk (fun i => [].getD i 0, fun i => [1].getD i 0, fun i => [].getD i (fun _ => 0), fun i => [].getD i (fun _ => 0)) rfl (show (0 ≤ ((1 : Int32)).toInt ∧ ((1 : Int32)).toInt ≤ 1) ∧ ((1 : Int32).toInt = 1 ∨ (p0).toInt < 97 ∨ 122 < (p0).toInt) ∧ ((1 : Int32).toInt = 0 ∨ 97 ≤ (p0).toInt ∧ (p0).toInt ≤ 122) from ⟨by omega, by omega, by omega⟩) [] (by decide) rfl (by decide) (by decide) dX11_isLetter_17
set_option maxHeartbeats 4000000 in
set_option maxRecDepth 100000 in
theorem c_X11_isDigit (l : Launch) (D : DG) (cyC cyI cyJ cyZ cyO : ClassId) (p0 : Int32) : KK l D (TY cyC cyI cyJ cyZ cyO) yX11_isDigit cX11_isDigit 1 (some .boolean) ({ frames := 0, cells := 0, slots := 0, locals := 0 } : Room) 0 0 [.int p0] [] (fun u => some (.int (u.2.1 0))) (fun u => (0 ≤ (u.2.1 0).toInt ∧ (u.2.1 0).toInt ≤ 1) ∧ ((u.2.1 0).toInt = 1 ∨ (p0).toInt < 48 ∨ 57 < (p0).toInt) ∧ ((u.2.1 0).toInt = 0 ∨ 48 ≤ (p0).toInt ∧ (p0).toInt ≤ 57)) (fun u => []) := by
  refine KK.of (lv0 := [(0, .int p0)]) (by decide) rfl (Nat.le_of_ble_eq_true rfl) ?_
  intro p e s m args below meth c A C hr hk hin
  refine j_iload_n (pc := 0) C dX11_isDigit_0 rfl 0 rfl ?_
  refine j_bipush (pc := 1) (v := 48) C dX11_isDigit_1 (by decide) ?_
  refine j_icmp_lt (pc := 3) (tgt := 16) C dX11_isDigit_3 (by decide) (fun c_1 => ?_) (fun c_1 => ?_)
  · skip
    have el_48 : (48 : Int32).toInt = 48 := rfl
    rw [i_lt] at c_1
    refine j_iconst (pc := 16) (v := 0) C dX11_isDigit_16 (by decide) ?_
    have el_0 : (0 : Int32).toInt = 0 := rfl
    have el_0 : (0 : Int32).toInt = 0 := rfl
    have el_0 : (0 : Int32).toInt = 0 := rfl
    exact j_zret (pc := 17) C hr rfl hk (fun i => [].getD i 0, fun i => [0].getD i 0, fun i => [].getD i (fun _ => 0), fun i => [].getD i (fun _ => 0)) rfl (show (0 ≤ ((0 : Int32)).toInt ∧ ((0 : Int32)).toInt ≤ 1) ∧ ((0 : Int32).toInt = 1 ∨ (p0).toInt < 48 ∨ 57 < (p0).toInt) ∧ ((0 : Int32).toInt = 0 ∨ 48 ≤ (p0).toInt ∧ (p0).toInt ≤ 57) from ⟨by omega, by omega, by omega⟩) [] (by decide) rfl (by decide) (by decide) dX11_isDigit_17
  · skip
    have el_48 : (48 : Int32).toInt = 48 := rfl
    rw [i_lt] at c_1
    refine j_iload_n (pc := 6) C dX11_isDigit_6 rfl 0 rfl ?_
    refine j_bipush (pc := 7) (v := 57) C dX11_isDigit_7 (by decide) ?_
    refine j_icmp_gt (pc := 9) (tgt := 16) C dX11_isDigit_9 (by decide) (fun c_2 => ?_) (fun c_2 => ?_)
    · skip
      have el_57 : (57 : Int32).toInt = 57 := rfl
      rw [i_lt] at c_2
      refine j_iconst (pc := 16) (v := 0) C dX11_isDigit_16 (by decide) ?_
      have el_0 : (0 : Int32).toInt = 0 := rfl
      have el_0 : (0 : Int32).toInt = 0 := rfl
      have el_0 : (0 : Int32).toInt = 0 := rfl
      exact j_zret (pc := 17) C hr rfl hk (fun i => [].getD i 0, fun i => [0].getD i 0, fun i => [].getD i (fun _ => 0), fun i => [].getD i (fun _ => 0)) rfl (show (0 ≤ ((0 : Int32)).toInt ∧ ((0 : Int32)).toInt ≤ 1) ∧ ((0 : Int32).toInt = 1 ∨ (p0).toInt < 48 ∨ 57 < (p0).toInt) ∧ ((0 : Int32).toInt = 0 ∨ 48 ≤ (p0).toInt ∧ (p0).toInt ≤ 57) from ⟨by omega, by omega, by omega⟩) [] (by decide) rfl (by decide) (by decide) dX11_isDigit_17
    · skip
      have el_57 : (57 : Int32).toInt = 57 := rfl
      rw [i_lt] at c_2
      refine j_iconst (pc := 12) (v := 1) C dX11_isDigit_12 (by decide) ?_
      refine j_goto (pc := 13) (tgt := 17) C dX11_isDigit_13 (by decide) ?_
      have el_1 : (1 : Int32).toInt = 1 := rfl
      have el_1 : (1 : Int32).toInt = 1 := rfl
      have el_1 : (1 : Int32).toInt = 1 := rfl
      exact j_zret (pc := 17) C hr rfl hk (fun i => [].getD i 0, fun i => [1].getD i 0, fun i => [].getD i (fun _ => 0), fun i => [].getD i (fun _ => 0)) rfl (show (0 ≤ ((1 : Int32)).toInt ∧ ((1 : Int32)).toInt ≤ 1) ∧ ((1 : Int32).toInt = 1 ∨ (p0).toInt < 48 ∨ 57 < (p0).toInt) ∧ ((1 : Int32).toInt = 0 ∨ 48 ≤ (p0).toInt ∧ (p0).toInt ≤ 57) from ⟨by omega, by omega, by omega⟩) [] (by decide) rfl (by decide) (by decide) dX11_isDigit_17
set_option maxHeartbeats 4000000 in
set_option maxRecDepth 100000 in
theorem c_X11_rank (l : Launch) (D : DG) (cyC cyI cyJ cyZ cyO : ClassId) (p0 : Int32) : KK l D (TY cyC cyI cyJ cyZ cyO) yX11_rank cX11_rank 1 (some .int) ({ frames := 1, cells := 0, slots := 0, locals := 20 } : Room) 0 0 [.int p0] [] (fun u => some (.int (u.2.1 0))) (fun u => True) (fun u => []) := by
  refine KK.of (lv0 := [(0, .int p0)]) (by decide) rfl (Nat.le_of_ble_eq_true rfl) ?_
  intro p e s m args below meth c A C hr hk hin
  refine j_iload_n (pc := 0) C dX11_rank_0 rfl 0 rfl ?_
  refine j_callS (pc := 1) (As := [.int p0]) (rest := []) (wr := []) C (c_X11_isLetter l D cyC cyI cyJ cyZ cyO p0) wd_623 wd_624 wd_625 wd_626 ⟨by decide, by decide, rfl⟩ rfl ⟨rfl, rfl, by decide, by decide⟩ ⟨by decide, by decide⟩ [] [] rfl rfl ⟨by decide, by decide, by decide⟩ rfl (Nat.le_of_ble_eq_true rfl) dX11_rank_1 (fun u_1 hw_2 => ?_)
  refine j_eq (ws2 := []) (pc2 := 4) (lv2 := [(0, .int p0)]) (st2 := [.int (u_1.2.1 0)]) rfl rfl rfl rfl ?_
  obtain ⟨hw_2_0, hw_2_1, hw_2_2⟩ := hw_2
  refine j_if_eq (pc := 4) (tgt := 14) C dX11_rank_4 (by decide) (fun c_3 => ?_) (fun c_3 => ?_)
  · skip
    have el_0 : (0 : Int32).toInt = 0 := rfl
    rw [i_eq] at c_3
    refine j_iload_n (pc := 14) C dX11_rank_14 rfl 0 rfl ?_
    refine j_bipush (pc := 15) (v := 21) C dX11_rank_15 (by decide) ?_
    obtain ⟨v_4, ev_4⟩ : ∃ z : Int32, p0 - 21 = z := ⟨_, rfl⟩
    have el_21 : (21 : Int32).toInt = 21 := rfl
    refine j_isub (pc := 17) (v := v_4) C dX11_rank_17 ev_4 ?_
    exact j_iret (pc := 18) C hr hk (fun i => [].getD i 0, fun i => [v_4].getD i 0, fun i => [].getD i (fun _ => 0), fun i => [].getD i (fun _ => 0)) rfl trivial [] (by decide) rfl (by decide) (by decide) dX11_rank_18
  · skip
    have el_0 : (0 : Int32).toInt = 0 := rfl
    rw [i_eq] at c_3
    have k0c_3 : ((u_1.2.1 0)).toInt = 1 := by omega
    refine j_iload_n (pc := 7) C dX11_rank_7 rfl 0 rfl ?_
    refine j_bipush (pc := 8) (v := 96) C dX11_rank_8 (by decide) ?_
    obtain ⟨v_5, ev_5⟩ : ∃ z : Int32, p0 - 96 = z := ⟨_, rfl⟩
    have el_96 : (96 : Int32).toInt = 96 := rfl
    refine j_isub (pc := 10) (v := v_5) C dX11_rank_10 ev_5 ?_
    refine j_goto (pc := 11) (tgt := 18) C dX11_rank_11 (by decide) ?_
    exact j_iret (pc := 18) C hr hk (fun i => [].getD i 0, fun i => [v_5].getD i 0, fun i => [].getD i (fun _ => 0), fun i => [].getD i (fun _ => 0)) rfl trivial [] (by decide) rfl (by decide) (by decide) dX11_rank_18
set_option maxHeartbeats 4000000 in
set_option maxRecDepth 100000 in
theorem c_X11_isSignOf (l : Launch) (D : DG) (cyC cyI cyJ cyZ cyO : ClassId) (p0 : Int32) : KK l D (TY cyC cyI cyJ cyZ cyO) yX11_isSignOf cX11_isSignOf 1 (some .boolean) ({ frames := 0, cells := 0, slots := 0, locals := 0 } : Room) 0 0 [.int p0] [] (fun u => some (.int (u.2.1 0))) (fun u => (0 ≤ (u.2.1 0).toInt ∧ (u.2.1 0).toInt ≤ 1)) (fun u => []) := by
  refine KK.of (lv0 := [(0, .int p0)]) (by decide) rfl (Nat.le_of_ble_eq_true rfl) ?_
  intro p e s m args below meth c A C hr hk hin
  refine j_iload_n (pc := 0) C dX11_isSignOf_0 rfl 0 rfl ?_
  refine j_bipush (pc := 1) (v := 40) C dX11_isSignOf_1 (by decide) ?_
  refine j_icmp_eq (pc := 3) (tgt := 48) C dX11_isSignOf_3 (by decide) (fun c_1 => ?_) (fun c_1 => ?_)
  · skip
    have el_40 : (40 : Int32).toInt = 40 := rfl
    rw [i_eq] at c_1
    refine j_iconst (pc := 48) (v := 1) C dX11_isSignOf_48 (by decide) ?_
    refine j_goto (pc := 49) (tgt := 53) C dX11_isSignOf_49 (by decide) ?_
    have el_1 : (1 : Int32).toInt = 1 := rfl
    exact j_zret (pc := 53) C hr rfl hk (fun i => [].getD i 0, fun i => [1].getD i 0, fun i => [].getD i (fun _ => 0), fun i => [].getD i (fun _ => 0)) rfl (show (0 ≤ ((1 : Int32)).toInt ∧ ((1 : Int32)).toInt ≤ 1) from (by omega)) [] (by decide) rfl (by decide) (by decide) dX11_isSignOf_53
  · skip
    have el_40 : (40 : Int32).toInt = 40 := rfl
    rw [i_eq] at c_1
    refine j_iload_n (pc := 6) C dX11_isSignOf_6 rfl 0 rfl ?_
    refine j_bipush (pc := 7) (v := 41) C dX11_isSignOf_7 (by decide) ?_
    refine j_icmp_eq (pc := 9) (tgt := 48) C dX11_isSignOf_9 (by decide) (fun c_2 => ?_) (fun c_2 => ?_)
    · skip
      have el_41 : (41 : Int32).toInt = 41 := rfl
      rw [i_eq] at c_2
      refine j_iconst (pc := 48) (v := 1) C dX11_isSignOf_48 (by decide) ?_
      refine j_goto (pc := 49) (tgt := 53) C dX11_isSignOf_49 (by decide) ?_
      have el_1 : (1 : Int32).toInt = 1 := rfl
      exact j_zret (pc := 53) C hr rfl hk (fun i => [].getD i 0, fun i => [1].getD i 0, fun i => [].getD i (fun _ => 0), fun i => [].getD i (fun _ => 0)) rfl (show (0 ≤ ((1 : Int32)).toInt ∧ ((1 : Int32)).toInt ≤ 1) from (by omega)) [] (by decide) rfl (by decide) (by decide) dX11_isSignOf_53
    · skip
      have el_41 : (41 : Int32).toInt = 41 := rfl
      rw [i_eq] at c_2
      refine j_iload_n (pc := 12) C dX11_isSignOf_12 rfl 0 rfl ?_
      refine j_bipush (pc := 13) (v := 59) C dX11_isSignOf_13 (by decide) ?_
      refine j_icmp_eq (pc := 15) (tgt := 48) C dX11_isSignOf_15 (by decide) (fun c_3 => ?_) (fun c_3 => ?_)
      · skip
        have el_59 : (59 : Int32).toInt = 59 := rfl
        rw [i_eq] at c_3
        refine j_iconst (pc := 48) (v := 1) C dX11_isSignOf_48 (by decide) ?_
        refine j_goto (pc := 49) (tgt := 53) C dX11_isSignOf_49 (by decide) ?_
        have el_1 : (1 : Int32).toInt = 1 := rfl
        exact j_zret (pc := 53) C hr rfl hk (fun i => [].getD i 0, fun i => [1].getD i 0, fun i => [].getD i (fun _ => 0), fun i => [].getD i (fun _ => 0)) rfl (show (0 ≤ ((1 : Int32)).toInt ∧ ((1 : Int32)).toInt ≤ 1) from (by omega)) [] (by decide) rfl (by decide) (by decide) dX11_isSignOf_53
      · skip
        have el_59 : (59 : Int32).toInt = 59 := rfl
        rw [i_eq] at c_3
        refine j_iload_n (pc := 18) C dX11_isSignOf_18 rfl 0 rfl ?_
        refine j_bipush (pc := 19) (v := 61) C dX11_isSignOf_19 (by decide) ?_
        refine j_icmp_eq (pc := 21) (tgt := 48) C dX11_isSignOf_21 (by decide) (fun c_4 => ?_) (fun c_4 => ?_)
        · skip
          have el_61 : (61 : Int32).toInt = 61 := rfl
          rw [i_eq] at c_4
          refine j_iconst (pc := 48) (v := 1) C dX11_isSignOf_48 (by decide) ?_
          refine j_goto (pc := 49) (tgt := 53) C dX11_isSignOf_49 (by decide) ?_
          have el_1 : (1 : Int32).toInt = 1 := rfl
          exact j_zret (pc := 53) C hr rfl hk (fun i => [].getD i 0, fun i => [1].getD i 0, fun i => [].getD i (fun _ => 0), fun i => [].getD i (fun _ => 0)) rfl (show (0 ≤ ((1 : Int32)).toInt ∧ ((1 : Int32)).toInt ≤ 1) from (by omega)) [] (by decide) rfl (by decide) (by decide) dX11_isSignOf_53
        · skip
          have el_61 : (61 : Int32).toInt = 61 := rfl
          rw [i_eq] at c_4
          refine j_iload_n (pc := 24) C dX11_isSignOf_24 rfl 0 rfl ?_
          refine j_bipush (pc := 25) (v := 60) C dX11_isSignOf_25 (by decide) ?_
          refine j_icmp_eq (pc := 27) (tgt := 48) C dX11_isSignOf_27 (by decide) (fun c_5 => ?_) (fun c_5 => ?_)
          · skip
            have el_60 : (60 : Int32).toInt = 60 := rfl
            rw [i_eq] at c_5
            refine j_iconst (pc := 48) (v := 1) C dX11_isSignOf_48 (by decide) ?_
            refine j_goto (pc := 49) (tgt := 53) C dX11_isSignOf_49 (by decide) ?_
            have el_1 : (1 : Int32).toInt = 1 := rfl
            exact j_zret (pc := 53) C hr rfl hk (fun i => [].getD i 0, fun i => [1].getD i 0, fun i => [].getD i (fun _ => 0), fun i => [].getD i (fun _ => 0)) rfl (show (0 ≤ ((1 : Int32)).toInt ∧ ((1 : Int32)).toInt ≤ 1) from (by omega)) [] (by decide) rfl (by decide) (by decide) dX11_isSignOf_53
          · skip
            have el_60 : (60 : Int32).toInt = 60 := rfl
            rw [i_eq] at c_5
            refine j_iload_n (pc := 30) C dX11_isSignOf_30 rfl 0 rfl ?_
            refine j_bipush (pc := 31) (v := 43) C dX11_isSignOf_31 (by decide) ?_
            refine j_icmp_eq (pc := 33) (tgt := 48) C dX11_isSignOf_33 (by decide) (fun c_6 => ?_) (fun c_6 => ?_)
            · skip
              have el_43 : (43 : Int32).toInt = 43 := rfl
              rw [i_eq] at c_6
              refine j_iconst (pc := 48) (v := 1) C dX11_isSignOf_48 (by decide) ?_
              refine j_goto (pc := 49) (tgt := 53) C dX11_isSignOf_49 (by decide) ?_
              have el_1 : (1 : Int32).toInt = 1 := rfl
              exact j_zret (pc := 53) C hr rfl hk (fun i => [].getD i 0, fun i => [1].getD i 0, fun i => [].getD i (fun _ => 0), fun i => [].getD i (fun _ => 0)) rfl (show (0 ≤ ((1 : Int32)).toInt ∧ ((1 : Int32)).toInt ≤ 1) from (by omega)) [] (by decide) rfl (by decide) (by decide) dX11_isSignOf_53
            · skip
              have el_43 : (43 : Int32).toInt = 43 := rfl
              rw [i_eq] at c_6
              refine j_iload_n (pc := 36) C dX11_isSignOf_36 rfl 0 rfl ?_
              refine j_bipush (pc := 37) (v := 45) C dX11_isSignOf_37 (by decide) ?_
              refine j_icmp_eq (pc := 39) (tgt := 48) C dX11_isSignOf_39 (by decide) (fun c_7 => ?_) (fun c_7 => ?_)
              · skip
                have el_45 : (45 : Int32).toInt = 45 := rfl
                rw [i_eq] at c_7
                refine j_iconst (pc := 48) (v := 1) C dX11_isSignOf_48 (by decide) ?_
                refine j_goto (pc := 49) (tgt := 53) C dX11_isSignOf_49 (by decide) ?_
                have el_1 : (1 : Int32).toInt = 1 := rfl
                exact j_zret (pc := 53) C hr rfl hk (fun i => [].getD i 0, fun i => [1].getD i 0, fun i => [].getD i (fun _ => 0), fun i => [].getD i (fun _ => 0)) rfl (show (0 ≤ ((1 : Int32)).toInt ∧ ((1 : Int32)).toInt ≤ 1) from (by omega)) [] (by decide) rfl (by decide) (by decide) dX11_isSignOf_53
              · skip
                have el_45 : (45 : Int32).toInt = 45 := rfl
                rw [i_eq] at c_7
                refine j_iload_n (pc := 42) C dX11_isSignOf_42 rfl 0 rfl ?_
                refine j_bipush (pc := 43) (v := 42) C dX11_isSignOf_43 (by decide) ?_
                refine j_icmp_ne (pc := 45) (tgt := 52) C dX11_isSignOf_45 (by decide) (fun c_8 => ?_) (fun c_8 => ?_)
                · skip
                  have el_42 : (42 : Int32).toInt = 42 := rfl
                  rw [i_eq] at c_8
                  refine j_iconst (pc := 52) (v := 0) C dX11_isSignOf_52 (by decide) ?_
                  have el_0 : (0 : Int32).toInt = 0 := rfl
                  exact j_zret (pc := 53) C hr rfl hk (fun i => [].getD i 0, fun i => [0].getD i 0, fun i => [].getD i (fun _ => 0), fun i => [].getD i (fun _ => 0)) rfl (show (0 ≤ ((0 : Int32)).toInt ∧ ((0 : Int32)).toInt ≤ 1) from (by omega)) [] (by decide) rfl (by decide) (by decide) dX11_isSignOf_53
                · skip
                  have el_42 : (42 : Int32).toInt = 42 := rfl
                  rw [i_eq] at c_8
                  refine j_iconst (pc := 48) (v := 1) C dX11_isSignOf_48 (by decide) ?_
                  refine j_goto (pc := 49) (tgt := 53) C dX11_isSignOf_49 (by decide) ?_
                  have el_1 : (1 : Int32).toInt = 1 := rfl
                  exact j_zret (pc := 53) C hr rfl hk (fun i => [].getD i 0, fun i => [1].getD i 0, fun i => [].getD i (fun _ => 0), fun i => [].getD i (fun _ => 0)) rfl (show (0 ≤ ((1 : Int32)).toInt ∧ ((1 : Int32)).toInt ≤ 1) from (by omega)) [] (by decide) rfl (by decide) (by decide) dX11_isSignOf_53
set_option maxHeartbeats 4000000 in
set_option maxRecDepth 100000 in
theorem c_X11_within (l : Launch) (D : DG) (cyC cyI cyJ cyZ cyO : ClassId) (p0 : Int32) (p1 : Int32) (p2 : Int32) : KK l D (TY cyC cyI cyJ cyZ cyO) yX11_within cX11_within 3 (some .boolean) ({ frames := 0, cells := 0, slots := 0, locals := 0 } : Room) 0 0 [.int p0, .int p1, .int p2] [] (fun u => some (.int (u.2.1 0))) (fun u => (0 ≤ (u.2.1 0).toInt ∧ (u.2.1 0).toInt ≤ 1) ∧ ((u.2.1 0).toInt = 0 ∨ (p1).toInt ≤ (p0).toInt ∧ (p0).toInt ≤ (p2).toInt)) (fun u => []) := by
  refine KK.of (lv0 := [(0, .int p0), (1, .int p1), (2, .int p2)]) (by decide) rfl (Nat.le_of_ble_eq_true rfl) ?_
  intro p e s m args below meth c A C hr hk hin
  refine j_iload_n (pc := 0) C dX11_within_0 rfl 0 rfl ?_
  refine j_iload_n (pc := 1) C dX11_within_1 rfl 1 rfl ?_
  refine j_icmp_lt (pc := 2) (tgt := 14) C dX11_within_2 (by decide) (fun c_1 => ?_) (fun c_1 => ?_)
  · skip
    rw [i_lt] at c_1
    refine j_iconst (pc := 14) (v := 0) C dX11_within_14 (by decide) ?_
    have el_0 : (0 : Int32).toInt = 0 := rfl
    have el_0 : (0 : Int32).toInt = 0 := rfl
    exact j_zret (pc := 15) C hr rfl hk (fun i => [].getD i 0, fun i => [0].getD i 0, fun i => [].getD i (fun _ => 0), fun i => [].getD i (fun _ => 0)) rfl (show (0 ≤ ((0 : Int32)).toInt ∧ ((0 : Int32)).toInt ≤ 1) ∧ ((0 : Int32).toInt = 0 ∨ (p1).toInt ≤ (p0).toInt ∧ (p0).toInt ≤ (p2).toInt) from ⟨by omega, by omega⟩) [] (by decide) rfl (by decide) (by decide) dX11_within_15
  · skip
    rw [i_lt] at c_1
    refine j_iload_n (pc := 5) C dX11_within_5 rfl 0 rfl ?_
    refine j_iload_n (pc := 6) C dX11_within_6 rfl 2 rfl ?_
    refine j_icmp_gt (pc := 7) (tgt := 14) C dX11_within_7 (by decide) (fun c_2 => ?_) (fun c_2 => ?_)
    · skip
      rw [i_lt] at c_2
      refine j_iconst (pc := 14) (v := 0) C dX11_within_14 (by decide) ?_
      have el_0 : (0 : Int32).toInt = 0 := rfl
      have el_0 : (0 : Int32).toInt = 0 := rfl
      exact j_zret (pc := 15) C hr rfl hk (fun i => [].getD i 0, fun i => [0].getD i 0, fun i => [].getD i (fun _ => 0), fun i => [].getD i (fun _ => 0)) rfl (show (0 ≤ ((0 : Int32)).toInt ∧ ((0 : Int32)).toInt ≤ 1) ∧ ((0 : Int32).toInt = 0 ∨ (p1).toInt ≤ (p0).toInt ∧ (p0).toInt ≤ (p2).toInt) from ⟨by omega, by omega⟩) [] (by decide) rfl (by decide) (by decide) dX11_within_15
    · skip
      rw [i_lt] at c_2
      refine j_iconst (pc := 10) (v := 1) C dX11_within_10 (by decide) ?_
      refine j_goto (pc := 11) (tgt := 15) C dX11_within_11 (by decide) ?_
      have el_1 : (1 : Int32).toInt = 1 := rfl
      have el_1 : (1 : Int32).toInt = 1 := rfl
      exact j_zret (pc := 15) C hr rfl hk (fun i => [].getD i 0, fun i => [1].getD i 0, fun i => [].getD i (fun _ => 0), fun i => [].getD i (fun _ => 0)) rfl (show (0 ≤ ((1 : Int32)).toInt ∧ ((1 : Int32)).toInt ≤ 1) ∧ ((1 : Int32).toInt = 0 ∨ (p1).toInt ≤ (p0).toInt ∧ (p0).toInt ≤ (p2).toInt) from ⟨by omega, by omega⟩) [] (by decide) rfl (by decide) (by decide) dX11_within_15
set_option maxHeartbeats 4000000 in
set_option maxRecDepth 100000 in
theorem c_X11_lay (l : Launch) (D : DG) (cyC cyI cyJ cyZ cyO : ClassId) (m0 : Nat) (mtape : Nat) (msort : Nat) (mplace : Nat) (mvalue : Nat) (mwords : Nat) (mtold : Nat) (mop : Nat) (marg : Nat) (mnames : Nat) (mhasHabit : Nat) (mfactWords : Nat) (mfacts : Nat) (mpile : Nat) (mstates : Nat) (misMarked : Nat) (mrow : Nat) (mthr : Nat) (mmays : Nat) (mtall : Nat) (mweights : Nat) (mrowOfWare : Nat) (mneededOf : Nat) (mtried : Nat) (mbestRow : Nat) (mdigits : Nat) (m_thrown : Int32) (m_taped : Int32) (m_size : Int32) (m_at : Int32) (m_fault : Int32) (m_codes : Int32) (m_isNew : Int32) (m_inShelf : Int32) (m_inStack : Int32) (m_inPlace : Int32) (m_rowMany : Int32) (m_goShelf : Int32) (m_goStack : Int32) (m_goLeft : Int32) (m_bestCost : Int32) (m_bestMany : Int32) (m_bestShelf : Int32) (m_bestSet : Int32) (p0 : Int64) (m_tape : Nat → Int32) (h_m_taped : 0 ≤ (m_taped).toInt ∧ (m_taped).toInt ≤ 1000) (h_m_size : 0 ≤ (m_size).toInt ∧ (m_size).toInt ≤ 1000) (h_m_at : 0 ≤ (m_at).toInt ∧ (m_at).toInt ≤ 1000) (h_m_fault : 0 ≤ (m_fault).toInt ∧ (m_fault).toInt ≤ 16005) (h_m_codes : 0 ≤ (m_codes).toInt ∧ (m_codes).toInt ≤ 1000) (h_m_isNew : 0 ≤ (m_isNew).toInt ∧ (m_isNew).toInt ≤ 1) (h_m_inShelf : 0 ≤ (m_inShelf).toInt ∧ (m_inShelf).toInt ≤ 3) (h_m_inStack : 0 ≤ (m_inStack).toInt ∧ (m_inStack).toInt ≤ 7) (h_m_inPlace : 0 ≤ (m_inPlace).toInt ∧ (m_inPlace).toInt ≤ 11) (h_m_rowMany : 0 ≤ (m_rowMany).toInt ∧ (m_rowMany).toInt ≤ 12) (h_m_goShelf : -1 ≤ (m_goShelf).toInt ∧ (m_goShelf).toInt ≤ 3) (h_m_bestMany : 0 ≤ (m_bestMany).toInt ∧ (m_bestMany).toInt ≤ 7) (h_m_bestShelf : 0 ≤ (m_bestShelf).toInt ∧ (m_bestShelf).toInt ≤ 3) : KK l D (TY cyC cyI cyJ cyZ cyO) yX11_lay cX11_lay 5 none ({ frames := 0, cells := 0, slots := 0, locals := 0 } : Room) 0 0 [.ref m0, .long p0] [(m0, .inr (11, [.int m_thrown, .ref mtape, .int m_taped, .int m_size, .ref msort, .ref mplace, .ref mvalue, .int m_at, .int m_fault, .ref mwords, .ref mtold, .ref mop, .ref marg, .int m_codes, .ref mnames, .ref mhasHabit, .int m_isNew, .ref mfactWords, .ref mfacts, .ref mpile, .ref mstates, .ref misMarked, .int m_inShelf, .int m_inStack, .int m_inPlace, .ref mrow, .int m_rowMany, .ref mthr, .ref mmays, .ref mtall, .ref mweights, .ref mrowOfWare, .ref mneededOf, .int m_goShelf, .int m_goStack, .int m_goLeft, .ref mtried, .ref mbestRow, .int m_bestCost, .int m_bestMany, .int m_bestShelf, .int m_bestSet, .ref mdigits])), (mtape, .inl (cyI, 1000, .inl m_tape))] (fun u => none) (fun u => (0 ≤ (u.2.1 0).toInt ∧ (u.2.1 0).toInt ≤ 1000)) (fun u => [(m0, .inr (11, [.int m_thrown, .ref mtape, .int (u.2.1 0), .int m_size, .ref msort, .ref mplace, .ref mvalue, .int m_at, .int m_fault, .ref mwords, .ref mtold, .ref mop, .ref marg, .int m_codes, .ref mnames, .ref mhasHabit, .int m_isNew, .ref mfactWords, .ref mfacts, .ref mpile, .ref mstates, .ref misMarked, .int m_inShelf, .int m_inStack, .int m_inPlace, .ref mrow, .int m_rowMany, .ref mthr, .ref mmays, .ref mtall, .ref mweights, .ref mrowOfWare, .ref mneededOf, .int m_goShelf, .int m_goStack, .int m_goLeft, .ref mtried, .ref mbestRow, .int m_bestCost, .int m_bestMany, .int m_bestShelf, .int m_bestSet, .ref mdigits])), (mtape, .inl (cyI, 1000, .inl (u.2.2.1 0)))]) := by
  refine KK.of (lv0 := [(0, .ref m0), (1, .long p0)]) (by decide) rfl (Nat.le_of_ble_eq_true rfl) ?_
  intro p e s m args below meth c A C hr hk hin
  refine j_bipush (pc := 0) (v := 56) C dX11_lay_0 (by decide) ?_
  refine j_istore_n (pc := 2) (lv' := [(3, .int 56), (0, .ref m0), (1, .long p0)]) C dX11_lay_2 rfl (by decide) rfl ?_
  have loop_1 : ∀ (k_1 : Nat) (x1_3 : Int32) (y1_m0_2 : Int32) (g1_mtape : Nat → Int32), (-8 ≤ (x1_3).toInt ∧ (x1_3).toInt ≤ 56) → (0 ≤ (y1_m0_2).toInt ∧ (y1_m0_2).toInt ≤ 1000) → (x1_3.toInt + 9).toNat < k_1 → J p l e ({ frames := 0, cells := 0, slots := 0, locals := 0 } : Room) s m args below meth c D A 5 0 0 (QX below D (TY cyC cyI cyJ cyZ cyO) A (fun u => none) (fun u => (0 ≤ (u.2.1 0).toInt ∧ (u.2.1 0).toInt ≤ 1000)) (fun u => [(m0, .inr (11, [.int m_thrown, .ref mtape, .int (u.2.1 0), .int m_size, .ref msort, .ref mplace, .ref mvalue, .int m_at, .int m_fault, .ref mwords, .ref mtold, .ref mop, .ref marg, .int m_codes, .ref mnames, .ref mhasHabit, .int m_isNew, .ref mfactWords, .ref mfacts, .ref mpile, .ref mstates, .ref misMarked, .int m_inShelf, .int m_inStack, .int m_inPlace, .ref mrow, .int m_rowMany, .ref mthr, .ref mmays, .ref mtall, .ref mweights, .ref mrowOfWare, .ref mneededOf, .int m_goShelf, .int m_goStack, .int m_goLeft, .ref mtried, .ref mbestRow, .int m_bestCost, .int m_bestMany, .int m_bestShelf, .int m_bestSet, .ref mdigits])), (mtape, .inl (cyI, 1000, .inl (u.2.2.1 0)))]) args s 0 0) [(m0, .inr (11, [.int m_thrown, .ref mtape, .int y1_m0_2, .int m_size, .ref msort, .ref mplace, .ref mvalue, .int m_at, .int m_fault, .ref mwords, .ref mtold, .ref mop, .ref marg, .int m_codes, .ref mnames, .ref mhasHabit, .int m_isNew, .ref mfactWords, .ref mfacts, .ref mpile, .ref mstates, .ref misMarked, .int m_inShelf, .int m_inStack, .int m_inPlace, .ref mrow, .int m_rowMany, .ref mthr, .ref mmays, .ref mtall, .ref mweights, .ref mrowOfWare, .ref mneededOf, .int m_goShelf, .int m_goStack, .int m_goLeft, .ref mtried, .ref mbestRow, .int m_bestCost, .int m_bestMany, .int m_bestShelf, .int m_bestSet, .ref mdigits])), (mtape, .inl (cyI, 1000, .inl g1_mtape))] 3 [(3, .int x1_3), (0, .ref m0), (1, .long p0)] [] := by
    intro k_1
    induction k_1 with
    | zero =>
      intro x1_3 y1_m0_2 g1_mtape hi_1_0 hi_1_1 hm_1
      exact absurd hm_1 (Nat.not_lt_zero _)
    | succ k_1 ih_1 =>
      intro x1_3 y1_m0_2 g1_mtape hi_1_0 hi_1_1 hm_1
      refine j_iload_n (pc := 3) C dX11_lay_3 rfl 0 rfl ?_
      refine j_if_lt (pc := 4) (tgt := 75) C dX11_lay_4 (by decide) (fun c_2 => ?_) (fun c_2 => ?_)
      · skip
        have el_0 : (0 : Int32).toInt = 0 := rfl
        rw [i_lt] at c_2
        exact j_vret (pc := 75) C hr hk (fun i => [].getD i 0, fun i => [y1_m0_2].getD i 0, fun i => [g1_mtape].getD i (fun _ => 0), fun i => [].getD i (fun _ => 0)) rfl (show (0 ≤ (y1_m0_2).toInt ∧ (y1_m0_2).toInt ≤ 1000) from (hi_1_1)) [0, 1] (by decide) rfl (by decide) (by decide) dX11_lay_75
      · skip
        have el_0 : (0 : Int32).toInt = 0 := rfl
        rw [i_lt] at c_2
        refine j_lload_n (pc := 7) C dX11_lay_7 rfl 2 rfl ?_
        refine j_iload_n (pc := 8) C dX11_lay_8 rfl 0 rfl ?_
        refine j_lshr (pc := 9) C dX11_lay_9 rfl ?_
        refine j_l2i (pc := 10) C dX11_lay_10 rfl ?_
        refine j_sipush (pc := 11) (v := 255) C dX11_lay_11 (by decide) ?_
        obtain ⟨v_3, ev_3⟩ : ∃ z : Int32, ((p0 >>> ((x1_3 : Int32).toInt64 &&& 63))).toInt32 &&& 255 = z := ⟨_, rfl⟩
        have el_255 : (255 : Int32).toInt = 255 := rfl
        have hv_3 : 0 ≤ v_3.toInt ∧ v_3.toInt ≤ 255 := by rw [← ev_3]; exact andm_r _ 8 (by decide) (by decide)
        refine j_iand (pc := 14) (v := v_3) C dX11_lay_14 ev_3 ?_
        refine j_istore (pc := 15) (lv' := [(4, .int v_3), (3, .int x1_3), (0, .ref m0), (1, .long p0)]) C dX11_lay_15 (by decide) rfl ?_
        refine j_iload (pc := 17) C dX11_lay_17 0 rfl ?_
        refine j_bipush (pc := 19) (v := 10) C dX11_lay_19 (by decide) ?_
        refine j_icmp_eq (pc := 21) (tgt := 38) C dX11_lay_21 (by decide) (fun c_4 => ?_) (fun c_4 => ?_)
        · skip
          have el_10 : (10 : Int32).toInt = 10 := rfl
          rw [i_eq] at c_4
          refine j_aload_n (pc := 38) C dX11_lay_38 rfl 2 rfl ?_
          refine j_get (pc := 39) (ci := 11) (v := .int y1_m0_2) C inw_11 0 rfl rfl 2 (by decide) wd_627 rfl rfl dX11_lay_39 ?_
          refine j_sipush (pc := 42) (v := 1000) C dX11_lay_42 (by decide) ?_
          refine j_icmp_ge (pc := 45) (tgt := 69) C dX11_lay_45 (by decide) (fun c_5 => ?_) (fun c_5 => ?_)
          · skip
            have el_1000 : (1000 : Int32).toInt = 1000 := rfl
            rw [i_le] at c_5
            have k0c_5 : y1_m0_2.toInt = 1000 := by omega
            obtain ⟨v_6, ev_6⟩ : ∃ z : Int32, x1_3 + (-8) = z := ⟨_, rfl⟩
            have el_m8 : ((-8) : Int32).toInt = (-8) := rfl
            have hv_6 : v_6.toInt = x1_3.toInt + ((-8) : Int32).toInt := by rw [← ev_6]; exact fb_addI (by omega) (by omega)
            refine j_iinc (pc := 69) (v := v_6) (lv' := [(3, .int v_6), (4, .int v_3), (0, .ref m0), (1, .long p0)]) C dX11_lay_69 1 rfl ev_6 (by decide) rfl ?_
            refine j_goto (pc := 72) (tgt := 3) C dX11_lay_72 (by decide) ?_
            exact j_lv [0, 2, 3] rfl (ih_1 v_6 y1_m0_2 g1_mtape (by omega) hi_1_1 (by omega))
          · skip
            have el_1000 : (1000 : Int32).toInt = 1000 := rfl
            rw [i_le] at c_5
            refine j_aload_n (pc := 48) C dX11_lay_48 rfl 2 rfl ?_
            refine j_get (pc := 49) (ci := 11) (v := .ref mtape) C inw_11 0 rfl rfl 1 (by decide) wd_628 rfl rfl dX11_lay_49 ?_
            refine j_aload_n (pc := 52) C dX11_lay_52 rfl 2 rfl ?_
            refine j_get (pc := 53) (ci := 11) (v := .int y1_m0_2) C inw_11 0 rfl rfl 2 (by decide) wd_627 rfl rfl dX11_lay_53 ?_
            refine j_iload (pc := 56) C dX11_lay_56 0 rfl ?_
            obtain ⟨f_7, ef_7⟩ : ∃ z, z = upd g1_mtape (y1_m0_2).toInt.toNat v_3 := ⟨_, rfl⟩
            refine j_iast (pc := 58) (k := (y1_m0_2).toInt.toNat) (ws' := [(m0, .inr (11, [.int m_thrown, .ref mtape, .int y1_m0_2, .int m_size, .ref msort, .ref mplace, .ref mvalue, .int m_at, .int m_fault, .ref mwords, .ref mtold, .ref mop, .ref marg, .int m_codes, .ref mnames, .ref mhasHabit, .int m_isNew, .ref mfactWords, .ref mfacts, .ref mpile, .ref mstates, .ref misMarked, .int m_inShelf, .int m_inStack, .int m_inPlace, .ref mrow, .int m_rowMany, .ref mthr, .ref mmays, .ref mtall, .ref mweights, .ref mrowOfWare, .ref mneededOf, .int m_goShelf, .int m_goStack, .int m_goLeft, .ref mtried, .ref mbestRow, .int m_bestCost, .int m_bestMany, .int m_bestShelf, .int m_bestSet, .ref mdigits])), (mtape, .inl (cyI, 1000, .inl f_7))]) C 1 1 rfl rfl (i_nn hi_1_1.1) rfl (i_lt_n hi_1_1.1 (by omega)) dX11_lay_58 (by rw [ef_7]; rfl) ?_
            refine j_aload_n (pc := 59) C dX11_lay_59 rfl 2 rfl ?_
            refine j_dup (pc := 60) C dX11_lay_60 rfl ?_
            refine j_get (pc := 61) (ci := 11) (v := .int y1_m0_2) C inw_11 0 rfl rfl 2 (by decide) wd_627 rfl rfl dX11_lay_61 ?_
            refine j_iconst (pc := 64) (v := 1) C dX11_lay_64 (by decide) ?_
            obtain ⟨v_8, ev_8⟩ : ∃ z : Int32, y1_m0_2 + 1 = z := ⟨_, rfl⟩
            have el_1 : (1 : Int32).toInt = 1 := rfl
            have hv_8 : v_8.toInt = y1_m0_2.toInt + (1 : Int32).toInt := by rw [← ev_8]; exact fb_addI (by omega) (by omega)
            refine j_iadd (pc := 65) (v := v_8) C dX11_lay_65 ev_8 ?_
            refine j_put (pc := 66) (ci := 11) (v := .int v_8) (ws' := [(m0, .inr (11, [.int m_thrown, .ref mtape, .int v_8, .int m_size, .ref msort, .ref mplace, .ref mvalue, .int m_at, .int m_fault, .ref mwords, .ref mtold, .ref mop, .ref marg, .int m_codes, .ref mnames, .ref mhasHabit, .int m_isNew, .ref mfactWords, .ref mfacts, .ref mpile, .ref mstates, .ref misMarked, .int m_inShelf, .int m_inStack, .int m_inPlace, .ref mrow, .int m_rowMany, .ref mthr, .ref mmays, .ref mtall, .ref mweights, .ref mrowOfWare, .ref mneededOf, .int m_goShelf, .int m_goStack, .int m_goLeft, .ref mtried, .ref mbestRow, .int m_bestCost, .int m_bestMany, .int m_bestShelf, .int m_bestSet, .ref mdigits])), (mtape, .inl (cyI, 1000, .inl f_7))]) C inw_11 0 rfl rfl 2 (by decide) wd_627 rfl tyX11_ok nmX11 rfl (tyX11_ok 2 (by decide)) rfl rfl (Nat.le_of_ble_eq_true rfl) dX11_lay_66 rfl ?_
            obtain ⟨v_9, ev_9⟩ : ∃ z : Int32, x1_3 + (-8) = z := ⟨_, rfl⟩
            have el_m8 : ((-8) : Int32).toInt = (-8) := rfl
            have hv_9 : v_9.toInt = x1_3.toInt + ((-8) : Int32).toInt := by rw [← ev_9]; exact fb_addI (by omega) (by omega)
            refine j_iinc (pc := 69) (v := v_9) (lv' := [(3, .int v_9), (4, .int v_3), (0, .ref m0), (1, .long p0)]) C dX11_lay_69 1 rfl ev_9 (by decide) rfl ?_
            refine j_goto (pc := 72) (tgt := 3) C dX11_lay_72 (by decide) ?_
            exact j_lv [0, 2, 3] rfl (ih_1 v_9 v_8 f_7 (by omega) (by omega) (by omega))
        · skip
          have el_10 : (10 : Int32).toInt = 10 := rfl
          rw [i_eq] at c_4
          refine j_iload (pc := 24) C dX11_lay_24 0 rfl ?_
          refine j_bipush (pc := 26) (v := 32) C dX11_lay_26 (by decide) ?_
          refine j_icmp_lt (pc := 28) (tgt := 69) C dX11_lay_28 (by decide) (fun c_10 => ?_) (fun c_10 => ?_)
          · skip
            have el_32 : (32 : Int32).toInt = 32 := rfl
            rw [i_lt] at c_10
            obtain ⟨v_11, ev_11⟩ : ∃ z : Int32, x1_3 + (-8) = z := ⟨_, rfl⟩
            have el_m8 : ((-8) : Int32).toInt = (-8) := rfl
            have hv_11 : v_11.toInt = x1_3.toInt + ((-8) : Int32).toInt := by rw [← ev_11]; exact fb_addI (by omega) (by omega)
            refine j_iinc (pc := 69) (v := v_11) (lv' := [(3, .int v_11), (4, .int v_3), (0, .ref m0), (1, .long p0)]) C dX11_lay_69 1 rfl ev_11 (by decide) rfl ?_
            refine j_goto (pc := 72) (tgt := 3) C dX11_lay_72 (by decide) ?_
            exact j_lv [0, 2, 3] rfl (ih_1 v_11 y1_m0_2 g1_mtape (by omega) hi_1_1 (by omega))
          · skip
            have el_32 : (32 : Int32).toInt = 32 := rfl
            rw [i_lt] at c_10
            refine j_iload (pc := 31) C dX11_lay_31 0 rfl ?_
            refine j_bipush (pc := 33) (v := 126) C dX11_lay_33 (by decide) ?_
            refine j_icmp_gt (pc := 35) (tgt := 69) C dX11_lay_35 (by decide) (fun c_12 => ?_) (fun c_12 => ?_)
            · skip
              have el_126 : (126 : Int32).toInt = 126 := rfl
              rw [i_lt] at c_12
              obtain ⟨v_13, ev_13⟩ : ∃ z : Int32, x1_3 + (-8) = z := ⟨_, rfl⟩
              have el_m8 : ((-8) : Int32).toInt = (-8) := rfl
              have hv_13 : v_13.toInt = x1_3.toInt + ((-8) : Int32).toInt := by rw [← ev_13]; exact fb_addI (by omega) (by omega)
              refine j_iinc (pc := 69) (v := v_13) (lv' := [(3, .int v_13), (4, .int v_3), (0, .ref m0), (1, .long p0)]) C dX11_lay_69 1 rfl ev_13 (by decide) rfl ?_
              refine j_goto (pc := 72) (tgt := 3) C dX11_lay_72 (by decide) ?_
              exact j_lv [0, 2, 3] rfl (ih_1 v_13 y1_m0_2 g1_mtape (by omega) hi_1_1 (by omega))
            · skip
              have el_126 : (126 : Int32).toInt = 126 := rfl
              rw [i_lt] at c_12
              refine j_aload_n (pc := 38) C dX11_lay_38 rfl 2 rfl ?_
              refine j_get (pc := 39) (ci := 11) (v := .int y1_m0_2) C inw_11 0 rfl rfl 2 (by decide) wd_627 rfl rfl dX11_lay_39 ?_
              refine j_sipush (pc := 42) (v := 1000) C dX11_lay_42 (by decide) ?_
              refine j_icmp_ge (pc := 45) (tgt := 69) C dX11_lay_45 (by decide) (fun c_14 => ?_) (fun c_14 => ?_)
              · skip
                have el_1000 : (1000 : Int32).toInt = 1000 := rfl
                rw [i_le] at c_14
                have k0c_14 : y1_m0_2.toInt = 1000 := by omega
                obtain ⟨v_15, ev_15⟩ : ∃ z : Int32, x1_3 + (-8) = z := ⟨_, rfl⟩
                have el_m8 : ((-8) : Int32).toInt = (-8) := rfl
                have hv_15 : v_15.toInt = x1_3.toInt + ((-8) : Int32).toInt := by rw [← ev_15]; exact fb_addI (by omega) (by omega)
                refine j_iinc (pc := 69) (v := v_15) (lv' := [(3, .int v_15), (4, .int v_3), (0, .ref m0), (1, .long p0)]) C dX11_lay_69 1 rfl ev_15 (by decide) rfl ?_
                refine j_goto (pc := 72) (tgt := 3) C dX11_lay_72 (by decide) ?_
                exact j_lv [0, 2, 3] rfl (ih_1 v_15 y1_m0_2 g1_mtape (by omega) hi_1_1 (by omega))
              · skip
                have el_1000 : (1000 : Int32).toInt = 1000 := rfl
                rw [i_le] at c_14
                refine j_aload_n (pc := 48) C dX11_lay_48 rfl 2 rfl ?_
                refine j_get (pc := 49) (ci := 11) (v := .ref mtape) C inw_11 0 rfl rfl 1 (by decide) wd_628 rfl rfl dX11_lay_49 ?_
                refine j_aload_n (pc := 52) C dX11_lay_52 rfl 2 rfl ?_
                refine j_get (pc := 53) (ci := 11) (v := .int y1_m0_2) C inw_11 0 rfl rfl 2 (by decide) wd_627 rfl rfl dX11_lay_53 ?_
                refine j_iload (pc := 56) C dX11_lay_56 0 rfl ?_
                obtain ⟨f_16, ef_16⟩ : ∃ z, z = upd g1_mtape (y1_m0_2).toInt.toNat v_3 := ⟨_, rfl⟩
                refine j_iast (pc := 58) (k := (y1_m0_2).toInt.toNat) (ws' := [(m0, .inr (11, [.int m_thrown, .ref mtape, .int y1_m0_2, .int m_size, .ref msort, .ref mplace, .ref mvalue, .int m_at, .int m_fault, .ref mwords, .ref mtold, .ref mop, .ref marg, .int m_codes, .ref mnames, .ref mhasHabit, .int m_isNew, .ref mfactWords, .ref mfacts, .ref mpile, .ref mstates, .ref misMarked, .int m_inShelf, .int m_inStack, .int m_inPlace, .ref mrow, .int m_rowMany, .ref mthr, .ref mmays, .ref mtall, .ref mweights, .ref mrowOfWare, .ref mneededOf, .int m_goShelf, .int m_goStack, .int m_goLeft, .ref mtried, .ref mbestRow, .int m_bestCost, .int m_bestMany, .int m_bestShelf, .int m_bestSet, .ref mdigits])), (mtape, .inl (cyI, 1000, .inl f_16))]) C 1 1 rfl rfl (i_nn hi_1_1.1) rfl (i_lt_n hi_1_1.1 (by omega)) dX11_lay_58 (by rw [ef_16]; rfl) ?_
                refine j_aload_n (pc := 59) C dX11_lay_59 rfl 2 rfl ?_
                refine j_dup (pc := 60) C dX11_lay_60 rfl ?_
                refine j_get (pc := 61) (ci := 11) (v := .int y1_m0_2) C inw_11 0 rfl rfl 2 (by decide) wd_627 rfl rfl dX11_lay_61 ?_
                refine j_iconst (pc := 64) (v := 1) C dX11_lay_64 (by decide) ?_
                obtain ⟨v_17, ev_17⟩ : ∃ z : Int32, y1_m0_2 + 1 = z := ⟨_, rfl⟩
                have el_1 : (1 : Int32).toInt = 1 := rfl
                have hv_17 : v_17.toInt = y1_m0_2.toInt + (1 : Int32).toInt := by rw [← ev_17]; exact fb_addI (by omega) (by omega)
                refine j_iadd (pc := 65) (v := v_17) C dX11_lay_65 ev_17 ?_
                refine j_put (pc := 66) (ci := 11) (v := .int v_17) (ws' := [(m0, .inr (11, [.int m_thrown, .ref mtape, .int v_17, .int m_size, .ref msort, .ref mplace, .ref mvalue, .int m_at, .int m_fault, .ref mwords, .ref mtold, .ref mop, .ref marg, .int m_codes, .ref mnames, .ref mhasHabit, .int m_isNew, .ref mfactWords, .ref mfacts, .ref mpile, .ref mstates, .ref misMarked, .int m_inShelf, .int m_inStack, .int m_inPlace, .ref mrow, .int m_rowMany, .ref mthr, .ref mmays, .ref mtall, .ref mweights, .ref mrowOfWare, .ref mneededOf, .int m_goShelf, .int m_goStack, .int m_goLeft, .ref mtried, .ref mbestRow, .int m_bestCost, .int m_bestMany, .int m_bestShelf, .int m_bestSet, .ref mdigits])), (mtape, .inl (cyI, 1000, .inl f_16))]) C inw_11 0 rfl rfl 2 (by decide) wd_627 rfl tyX11_ok nmX11 rfl (tyX11_ok 2 (by decide)) rfl rfl (Nat.le_of_ble_eq_true rfl) dX11_lay_66 rfl ?_
                obtain ⟨v_18, ev_18⟩ : ∃ z : Int32, x1_3 + (-8) = z := ⟨_, rfl⟩
                have el_m8 : ((-8) : Int32).toInt = (-8) := rfl
                have hv_18 : v_18.toInt = x1_3.toInt + ((-8) : Int32).toInt := by rw [← ev_18]; exact fb_addI (by omega) (by omega)
                refine j_iinc (pc := 69) (v := v_18) (lv' := [(3, .int v_18), (4, .int v_3), (0, .ref m0), (1, .long p0)]) C dX11_lay_69 1 rfl ev_18 (by decide) rfl ?_
                refine j_goto (pc := 72) (tgt := 3) C dX11_lay_72 (by decide) ?_
                exact j_lv [0, 2, 3] rfl (ih_1 v_18 v_17 f_16 (by omega) (by omega) (by omega))
  have el_56 : (56 : Int32).toInt = 56 := rfl
  exact j_lv [0, 1, 2] rfl (loop_1 4096 56 m_taped m_tape (by decide) h_m_taped (by omega))
set_option maxHeartbeats 4000000 in
set_option maxRecDepth 100000 in
theorem c_X11_feed (l : Launch) (D : DG) (cyC cyI cyJ cyZ cyO : ClassId) (m0 : Nat) (mtape : Nat) (msort : Nat) (mplace : Nat) (mvalue : Nat) (mwords : Nat) (mtold : Nat) (mop : Nat) (marg : Nat) (mnames : Nat) (mhasHabit : Nat) (mfactWords : Nat) (mfacts : Nat) (mpile : Nat) (mstates : Nat) (misMarked : Nat) (mrow : Nat) (mthr : Nat) (mmays : Nat) (mtall : Nat) (mweights : Nat) (mrowOfWare : Nat) (mneededOf : Nat) (mtried : Nat) (mbestRow : Nat) (mdigits : Nat) (m_thrown : Int32) (m_taped : Int32) (m_size : Int32) (m_at : Int32) (m_fault : Int32) (m_codes : Int32) (m_isNew : Int32) (m_inShelf : Int32) (m_inStack : Int32) (m_inPlace : Int32) (m_rowMany : Int32) (m_goShelf : Int32) (m_goStack : Int32) (m_goLeft : Int32) (m_bestCost : Int32) (m_bestMany : Int32) (m_bestShelf : Int32) (m_bestSet : Int32) (p0 : Int64) (p1 : Int64) (p2 : Int64) (m_tape : Nat → Int32) (h_m_taped : 0 ≤ (m_taped).toInt ∧ (m_taped).toInt ≤ 1000) (h_m_size : 0 ≤ (m_size).toInt ∧ (m_size).toInt ≤ 1000) (h_m_at : 0 ≤ (m_at).toInt ∧ (m_at).toInt ≤ 1000) (h_m_fault : 0 ≤ (m_fault).toInt ∧ (m_fault).toInt ≤ 16005) (h_m_codes : 0 ≤ (m_codes).toInt ∧ (m_codes).toInt ≤ 1000) (h_m_isNew : 0 ≤ (m_isNew).toInt ∧ (m_isNew).toInt ≤ 1) (h_m_inShelf : 0 ≤ (m_inShelf).toInt ∧ (m_inShelf).toInt ≤ 3) (h_m_inStack : 0 ≤ (m_inStack).toInt ∧ (m_inStack).toInt ≤ 7) (h_m_inPlace : 0 ≤ (m_inPlace).toInt ∧ (m_inPlace).toInt ≤ 11) (h_m_rowMany : 0 ≤ (m_rowMany).toInt ∧ (m_rowMany).toInt ≤ 12) (h_m_goShelf : -1 ≤ (m_goShelf).toInt ∧ (m_goShelf).toInt ≤ 3) (h_m_bestMany : 0 ≤ (m_bestMany).toInt ∧ (m_bestMany).toInt ≤ 7) (h_m_bestShelf : 0 ≤ (m_bestShelf).toInt ∧ (m_bestShelf).toInt ≤ 3) : KK l D (TY cyC cyI cyJ cyZ cyO) yX11_feed cX11_feed 7 (some .int) ({ frames := 1, cells := 0, slots := 0, locals := 24 } : Room) 0 0 [.ref m0, .long p0, .long p1, .long p2] [(m0, .inr (11, [.int m_thrown, .ref mtape, .int m_taped, .int m_size, .ref msort, .ref mplace, .ref mvalue, .int m_at, .int m_fault, .ref mwords, .ref mtold, .ref mop, .ref marg, .int m_codes, .ref mnames, .ref mhasHabit, .int m_isNew, .ref mfactWords, .ref mfacts, .ref mpile, .ref mstates, .ref misMarked, .int m_inShelf, .int m_inStack, .int m_inPlace, .ref mrow, .int m_rowMany, .ref mthr, .ref mmays, .ref mtall, .ref mweights, .ref mrowOfWare, .ref mneededOf, .int m_goShelf, .int m_goStack, .int m_goLeft, .ref mtried, .ref mbestRow, .int m_bestCost, .int m_bestMany, .int m_bestShelf, .int m_bestSet, .ref mdigits])), (mtape, .inl (cyI, 1000, .inl m_tape))] (fun u => some (.int (u.2.1 0))) (fun u => (0 ≤ (u.2.1 0).toInt ∧ (u.2.1 0).toInt ≤ 1000) ∧ (0 ≤ (u.2.1 1).toInt ∧ (u.2.1 1).toInt ≤ 1000)) (fun u => [(m0, .inr (11, [.int 0, .ref mtape, .int (u.2.1 1), .int m_size, .ref msort, .ref mplace, .ref mvalue, .int m_at, .int m_fault, .ref mwords, .ref mtold, .ref mop, .ref marg, .int m_codes, .ref mnames, .ref mhasHabit, .int m_isNew, .ref mfactWords, .ref mfacts, .ref mpile, .ref mstates, .ref misMarked, .int m_inShelf, .int m_inStack, .int m_inPlace, .ref mrow, .int m_rowMany, .ref mthr, .ref mmays, .ref mtall, .ref mweights, .ref mrowOfWare, .ref mneededOf, .int m_goShelf, .int m_goStack, .int m_goLeft, .ref mtried, .ref mbestRow, .int m_bestCost, .int m_bestMany, .int m_bestShelf, .int m_bestSet, .ref mdigits])), (mtape, .inl (cyI, 1000, .inl (u.2.2.1 0)))]) := by
  refine KK.of (lv0 := [(0, .ref m0), (1, .long p0), (3, .long p1), (5, .long p2)]) (by decide) rfl (Nat.le_of_ble_eq_true rfl) ?_
  intro p e s m args below meth c A C hr hk hin
  refine j_aload_n (pc := 0) C dX11_feed_0 rfl 0 rfl ?_
  refine j_iconst (pc := 1) (v := 0) C dX11_feed_1 (by decide) ?_
  refine j_put (pc := 2) (ci := 11) (v := .int 0) (ws' := [(m0, .inr (11, [.int 0, .ref mtape, .int m_taped, .int m_size, .ref msort, .ref mplace, .ref mvalue, .int m_at, .int m_fault, .ref mwords, .ref mtold, .ref mop, .ref marg, .int m_codes, .ref mnames, .ref mhasHabit, .int m_isNew, .ref mfactWords, .ref mfacts, .ref mpile, .ref mstates, .ref misMarked, .int m_inShelf, .int m_inStack, .int m_inPlace, .ref mrow, .int m_rowMany, .ref mthr, .ref mmays, .ref mtall, .ref mweights, .ref mrowOfWare, .ref mneededOf, .int m_goShelf, .int m_goStack, .int m_goLeft, .ref mtried, .ref mbestRow, .int m_bestCost, .int m_bestMany, .int m_bestShelf, .int m_bestSet, .ref mdigits])), (mtape, .inl (cyI, 1000, .inl m_tape))]) C inw_11 0 rfl rfl 0 (by decide) wd_629 rfl tyX11_ok nmX11 rfl (tyX11_ok 0 (by decide)) rfl rfl (Nat.le_of_ble_eq_true rfl) dX11_feed_2 rfl ?_
  refine j_aload_n (pc := 5) C dX11_feed_5 rfl 0 rfl ?_
  refine j_lload_n (pc := 6) C dX11_feed_6 rfl 1 rfl ?_
  refine j_callV (pc := 7) (As := [.long p0]) (rest := []) (wr := []) C (c_X11_lay l D cyC cyI cyJ cyZ cyO m0 mtape msort mplace mvalue mwords mtold mop marg mnames mhasHabit mfactWords mfacts mpile mstates misMarked mrow mthr mmays mtall mweights mrowOfWare mneededOf mtried mbestRow mdigits 0 m_taped m_size m_at m_fault m_codes m_isNew m_inShelf m_inStack m_inPlace m_rowMany m_goShelf m_goStack m_goLeft m_bestCost m_bestMany m_bestShelf m_bestSet p0 m_tape h_m_taped h_m_size h_m_at h_m_fault h_m_codes h_m_isNew h_m_inShelf h_m_inStack h_m_inPlace h_m_rowMany h_m_goShelf h_m_bestMany h_m_bestShelf) wd_630 wd_624 wd_631 wd_632 wd_633 ⟨by decide, by decide, rfl⟩ rfl ⟨rfl, rfl, by decide, by decide⟩ ⟨by decide, by decide⟩ [0, 1] [] rfl rfl ⟨by decide, by decide, by decide⟩ 0 rfl rfl rfl (Nat.le_of_ble_eq_true rfl) dX11_feed_7 (fun u_1 hw_2 => ?_)
  refine j_eq (ws2 := [(m0, .inr (11, [.int 0, .ref mtape, .int (u_1.2.1 0), .int m_size, .ref msort, .ref mplace, .ref mvalue, .int m_at, .int m_fault, .ref mwords, .ref mtold, .ref mop, .ref marg, .int m_codes, .ref mnames, .ref mhasHabit, .int m_isNew, .ref mfactWords, .ref mfacts, .ref mpile, .ref mstates, .ref misMarked, .int m_inShelf, .int m_inStack, .int m_inPlace, .ref mrow, .int m_rowMany, .ref mthr, .ref mmays, .ref mtall, .ref mweights, .ref mrowOfWare, .ref mneededOf, .int m_goShelf, .int m_goStack, .int m_goLeft, .ref mtried, .ref mbestRow, .int m_bestCost, .int m_bestMany, .int m_bestShelf, .int m_bestSet, .ref mdigits])), (mtape, .inl (cyI, 1000, .inl (u_1.2.2.1 0)))]) (pc2 := 10) (lv2 := [(0, .ref m0), (1, .long p0), (3, .long p1), (5, .long p2)]) (st2 := []) rfl rfl rfl rfl ?_
  have hw_2_0 : 0 ≤ (u_1.2.1 0).toInt ∧ (u_1.2.1 0).toInt ≤ 1000 := hw_2
  refine j_aload_n (pc := 10) C dX11_feed_10 rfl 0 rfl ?_
  refine j_lload_n (pc := 11) C dX11_feed_11 rfl 2 rfl ?_
  refine j_callV (pc := 12) (As := [.long p1]) (rest := []) (wr := []) C (c_X11_lay l D cyC cyI cyJ cyZ cyO m0 mtape msort mplace mvalue mwords mtold mop marg mnames mhasHabit mfactWords mfacts mpile mstates misMarked mrow mthr mmays mtall mweights mrowOfWare mneededOf mtried mbestRow mdigits 0 (u_1.2.1 0) m_size m_at m_fault m_codes m_isNew m_inShelf m_inStack m_inPlace m_rowMany m_goShelf m_goStack m_goLeft m_bestCost m_bestMany m_bestShelf m_bestSet p1 (u_1.2.2.1 0) hw_2_0 h_m_size h_m_at h_m_fault h_m_codes h_m_isNew h_m_inShelf h_m_inStack h_m_inPlace h_m_rowMany h_m_goShelf h_m_bestMany h_m_bestShelf) wd_630 wd_624 wd_631 wd_632 wd_633 ⟨by decide, by decide, rfl⟩ rfl ⟨rfl, rfl, by decide, by decide⟩ ⟨by decide, by decide⟩ [0, 1] [] rfl rfl ⟨by decide, by decide, by decide⟩ 0 rfl rfl rfl (Nat.le_of_ble_eq_true rfl) dX11_feed_12 (fun u_3 hw_4 => ?_)
  refine j_eq (ws2 := [(m0, .inr (11, [.int 0, .ref mtape, .int (u_3.2.1 0), .int m_size, .ref msort, .ref mplace, .ref mvalue, .int m_at, .int m_fault, .ref mwords, .ref mtold, .ref mop, .ref marg, .int m_codes, .ref mnames, .ref mhasHabit, .int m_isNew, .ref mfactWords, .ref mfacts, .ref mpile, .ref mstates, .ref misMarked, .int m_inShelf, .int m_inStack, .int m_inPlace, .ref mrow, .int m_rowMany, .ref mthr, .ref mmays, .ref mtall, .ref mweights, .ref mrowOfWare, .ref mneededOf, .int m_goShelf, .int m_goStack, .int m_goLeft, .ref mtried, .ref mbestRow, .int m_bestCost, .int m_bestMany, .int m_bestShelf, .int m_bestSet, .ref mdigits])), (mtape, .inl (cyI, 1000, .inl (u_3.2.2.1 0)))]) (pc2 := 15) (lv2 := [(0, .ref m0), (1, .long p0), (3, .long p1), (5, .long p2)]) (st2 := []) rfl rfl rfl rfl ?_
  have hw_4_0 : 0 ≤ (u_3.2.1 0).toInt ∧ (u_3.2.1 0).toInt ≤ 1000 := hw_4
  refine j_aload_n (pc := 15) C dX11_feed_15 rfl 0 rfl ?_
  refine j_lload (pc := 16) C dX11_feed_16 3 rfl ?_
  refine j_callV (pc := 18) (As := [.long p2]) (rest := []) (wr := []) C (c_X11_lay l D cyC cyI cyJ cyZ cyO m0 mtape msort mplace mvalue mwords mtold mop marg mnames mhasHabit mfactWords mfacts mpile mstates misMarked mrow mthr mmays mtall mweights mrowOfWare mneededOf mtried mbestRow mdigits 0 (u_3.2.1 0) m_size m_at m_fault m_codes m_isNew m_inShelf m_inStack m_inPlace m_rowMany m_goShelf m_goStack m_goLeft m_bestCost m_bestMany m_bestShelf m_bestSet p2 (u_3.2.2.1 0) hw_4_0 h_m_size h_m_at h_m_fault h_m_codes h_m_isNew h_m_inShelf h_m_inStack h_m_inPlace h_m_rowMany h_m_goShelf h_m_bestMany h_m_bestShelf) wd_630 wd_624 wd_631 wd_632 wd_633 ⟨by decide, by decide, rfl⟩ rfl ⟨rfl, rfl, by decide, by decide⟩ ⟨by decide, by decide⟩ [0, 1] [] rfl rfl ⟨by decide, by decide, by decide⟩ 0 rfl rfl rfl (Nat.le_of_ble_eq_true rfl) dX11_feed_18 (fun u_5 hw_6 => ?_)
  refine j_eq (ws2 := [(m0, .inr (11, [.int 0, .ref mtape, .int (u_5.2.1 0), .int m_size, .ref msort, .ref mplace, .ref mvalue, .int m_at, .int m_fault, .ref mwords, .ref mtold, .ref mop, .ref marg, .int m_codes, .ref mnames, .ref mhasHabit, .int m_isNew, .ref mfactWords, .ref mfacts, .ref mpile, .ref mstates, .ref misMarked, .int m_inShelf, .int m_inStack, .int m_inPlace, .ref mrow, .int m_rowMany, .ref mthr, .ref mmays, .ref mtall, .ref mweights, .ref mrowOfWare, .ref mneededOf, .int m_goShelf, .int m_goStack, .int m_goLeft, .ref mtried, .ref mbestRow, .int m_bestCost, .int m_bestMany, .int m_bestShelf, .int m_bestSet, .ref mdigits])), (mtape, .inl (cyI, 1000, .inl (u_5.2.2.1 0)))]) (pc2 := 21) (lv2 := [(0, .ref m0), (1, .long p0), (3, .long p1), (5, .long p2)]) (st2 := []) rfl rfl rfl rfl ?_
  have hw_6_0 : 0 ≤ (u_5.2.1 0).toInt ∧ (u_5.2.1 0).toInt ≤ 1000 := hw_6
  refine j_aload_n (pc := 21) C dX11_feed_21 rfl 0 rfl ?_
  refine j_get (pc := 22) (ci := 11) (v := .int (u_5.2.1 0)) C inw_11 0 rfl rfl 2 (by decide) wd_627 rfl rfl dX11_feed_22 ?_
  exact j_iret (pc := 25) C hr hk (fun i => [].getD i 0, fun i => [(u_5.2.1 0), (u_5.2.1 0)].getD i 0, fun i => [(u_5.2.2.1 0)].getD i (fun _ => 0), fun i => [].getD i (fun _ => 0)) rfl (show (0 ≤ ((u_5.2.1 0)).toInt ∧ ((u_5.2.1 0)).toInt ≤ 1000) ∧ (0 ≤ ((u_5.2.1 0)).toInt ∧ ((u_5.2.1 0)).toInt ≤ 1000) from ⟨hw_6_0, hw_6_0⟩) [0, 1] (by decide) rfl (by decide) (by decide) dX11_feed_25
