theorem wd_374 : Cond.code yX8_add cX8_add 3 none ∈ WALL := wl_in (by decide +kernel) (by decide +kernel)
theorem wd_375 : Cond.methodLink RX10 86 yX8_add ∈ WALL := wl_in (by decide +kernel) (by decide +kernel)
theorem wd_376 : Cond.instanceMethod yX8_add ∈ WALL := wl_in (by decide +kernel) (by decide +kernel)
theorem wd_377 : Cond.selects RX8 yX8_add yX8_add ∈ WALL := wl_in (by decide +kernel) (by decide +kernel)
theorem wd_378 : Cond.code yX10_feedBytes cX10_feedBytes 4 none ∈ WALL := wl_in (by decide +kernel) (by decide +kernel)
theorem wd_379 : Cond.methodLink RX10 72 yX10_feedBytes ∈ WALL := wl_in (by decide +kernel) (by decide +kernel)
theorem wd_380 : Cond.instanceMethod yX10_feedBytes ∈ WALL := wl_in (by decide +kernel) (by decide +kernel)
theorem wd_381 : Cond.selects RX10 yX10_feedBytes yX10_feedBytes ∈ WALL := wl_in (by decide +kernel) (by decide +kernel)
theorem dX8_add_0 : decode cX8_add 0 = .ok (.iload_n 1, 1) := by decide +kernel
theorem dX8_add_1 : decode cX8_add 1 = .ok (.bipush 10, 2) := by decide +kernel
theorem dX8_add_3 : decode cX8_add 3 = .ok (.if_icmp .eq 15, 3) := by decide +kernel
theorem dX8_add_6 : decode cX8_add 6 = .ok (.iload_n 1, 1) := by decide +kernel
theorem dX8_add_7 : decode cX8_add 7 = .ok (.bipush 32, 2) := by decide +kernel
theorem dX8_add_9 : decode cX8_add 9 = .ok (.if_icmp .lt 13, 3) := by decide +kernel
theorem dX8_add_12 : decode cX8_add 12 = .ok (.iload_n 1, 1) := by decide +kernel
theorem dX8_add_13 : decode cX8_add 13 = .ok (.bipush 126, 2) := by decide +kernel
theorem dX8_add_15 : decode cX8_add 15 = .ok (.if_icmp .gt 7, 3) := by decide +kernel
theorem dX8_add_18 : decode cX8_add 18 = .ok (.iconst 1, 1) := by decide +kernel
theorem dX8_add_19 : decode cX8_add 19 = .ok (.goto 4, 3) := by decide +kernel
theorem dX8_add_22 : decode cX8_add 22 = .ok (.iconst 0, 1) := by decide +kernel
theorem dX8_add_23 : decode cX8_add 23 = .ok (.istore_n 2, 1) := by decide +kernel
theorem dX8_add_24 : decode cX8_add 24 = .ok (.iload_n 2, 1) := by decide +kernel
theorem dX8_add_25 : decode cX8_add 25 = .ok (.ifCond .eq 34, 3) := by decide +kernel
theorem dX8_add_28 : decode cX8_add 28 = .ok (.aload_n 0, 1) := by decide +kernel
theorem dX8_add_29 : decode cX8_add 29 = .ok (.getfield 15, 3) := by decide +kernel
theorem dX8_add_32 : decode cX8_add 32 = .ok (.sipush 1000, 3) := by decide +kernel
theorem dX8_add_35 : decode cX8_add 35 = .ok (.if_icmp .ge 24, 3) := by decide +kernel
theorem dX8_add_38 : decode cX8_add 38 = .ok (.aload_n 0, 1) := by decide +kernel
theorem dX8_add_39 : decode cX8_add 39 = .ok (.getfield 9, 3) := by decide +kernel
theorem dX8_add_42 : decode cX8_add 42 = .ok (.aload_n 0, 1) := by decide +kernel
theorem dX8_add_43 : decode cX8_add 43 = .ok (.getfield 15, 3) := by decide +kernel
theorem dX8_add_46 : decode cX8_add 46 = .ok (.iload_n 1, 1) := by decide +kernel
theorem dX8_add_47 : decode cX8_add 47 = .ok (.i2c, 1) := by decide +kernel
theorem dX8_add_48 : decode cX8_add 48 = .ok (.castore, 1) := by decide +kernel
theorem dX8_add_49 : decode cX8_add 49 = .ok (.aload_n 0, 1) := by decide +kernel
theorem dX8_add_50 : decode cX8_add 50 = .ok (.dup, 1) := by decide +kernel
theorem dX8_add_51 : decode cX8_add 51 = .ok (.getfield 15, 3) := by decide +kernel
theorem dX8_add_54 : decode cX8_add 54 = .ok (.iconst 1, 1) := by decide +kernel
theorem dX8_add_55 : decode cX8_add 55 = .ok (.iadd, 1) := by decide +kernel
theorem dX8_add_56 : decode cX8_add 56 = .ok (.putfield 15, 3) := by decide +kernel
theorem dX8_add_59 : decode cX8_add 59 = .ok (.return_, 1) := by decide +kernel
theorem dX10_feedBytes_0 : decode cX10_feedBytes 0 = .ok (.bipush 56, 2) := by decide +kernel
theorem dX10_feedBytes_2 : decode cX10_feedBytes 2 = .ok (.istore_n 3, 1) := by decide +kernel
theorem dX10_feedBytes_3 : decode cX10_feedBytes 3 = .ok (.iload_n 3, 1) := by decide +kernel
theorem dX10_feedBytes_4 : decode cX10_feedBytes 4 = .ok (.ifCond .lt 27, 3) := by decide +kernel
theorem dX10_feedBytes_7 : decode cX10_feedBytes 7 = .ok (.aload_n 0, 1) := by decide +kernel
theorem dX10_feedBytes_8 : decode cX10_feedBytes 8 = .ok (.getfield 10, 3) := by decide +kernel
theorem dX10_feedBytes_11 : decode cX10_feedBytes 11 = .ok (.getfield 76, 3) := by decide +kernel
theorem dX10_feedBytes_14 : decode cX10_feedBytes 14 = .ok (.lload_n 1, 1) := by decide +kernel
theorem dX10_feedBytes_15 : decode cX10_feedBytes 15 = .ok (.iload_n 3, 1) := by decide +kernel
theorem dX10_feedBytes_16 : decode cX10_feedBytes 16 = .ok (.lushr, 1) := by decide +kernel
theorem dX10_feedBytes_17 : decode cX10_feedBytes 17 = .ok (.l2i, 1) := by decide +kernel
theorem dX10_feedBytes_18 : decode cX10_feedBytes 18 = .ok (.sipush 255, 3) := by decide +kernel
theorem dX10_feedBytes_21 : decode cX10_feedBytes 21 = .ok (.iand, 1) := by decide +kernel
theorem dX10_feedBytes_22 : decode cX10_feedBytes 22 = .ok (.invokevirtual 86, 3) := by decide +kernel
theorem dX10_feedBytes_25 : decode cX10_feedBytes 25 = .ok (.iinc 3 (-8), 3) := by decide +kernel
theorem dX10_feedBytes_28 : decode cX10_feedBytes 28 = .ok (.goto (-25), 3) := by decide +kernel
theorem dX10_feedBytes_31 : decode cX10_feedBytes 31 = .ok (.return_, 1) := by decide +kernel
theorem dX10_feed_0 : decode cX10_feed 0 = .ok (.aload_n 0, 1) := by decide +kernel
theorem dX10_feed_1 : decode cX10_feed 1 = .ok (.lload_n 1, 1) := by decide +kernel
theorem dX10_feed_2 : decode cX10_feed 2 = .ok (.invokevirtual 72, 3) := by decide +kernel
theorem dX10_feed_5 : decode cX10_feed 5 = .ok (.aload_n 0, 1) := by decide +kernel
theorem dX10_feed_6 : decode cX10_feed 6 = .ok (.lload_n 3, 1) := by decide +kernel
theorem dX10_feed_7 : decode cX10_feed 7 = .ok (.invokevirtual 72, 3) := by decide +kernel
theorem dX10_feed_10 : decode cX10_feed 10 = .ok (.aload_n 0, 1) := by decide +kernel
theorem dX10_feed_11 : decode cX10_feed 11 = .ok (.lload 5, 2) := by decide +kernel
theorem dX10_feed_13 : decode cX10_feed 13 = .ok (.invokevirtual 72, 3) := by decide +kernel
theorem dX10_feed_16 : decode cX10_feed 16 = .ok (.aload_n 0, 1) := by decide +kernel
theorem dX10_feed_17 : decode cX10_feed 17 = .ok (.getfield 10, 3) := by decide +kernel
theorem dX10_feed_20 : decode cX10_feed 20 = .ok (.getfield 76, 3) := by decide +kernel
theorem dX10_feed_23 : decode cX10_feed 23 = .ok (.getfield 80, 3) := by decide +kernel
theorem dX10_feed_26 : decode cX10_feed 26 = .ok (.ireturn, 1) := by decide +kernel
set_option maxHeartbeats 4000000 in
set_option maxRecDepth 100000 in
theorem c_X8_add (l : Launch) (D : va_G) (cyC cyI cyJ cyZ cyO : ClassId) (t0 : Nat) (t1 : Nat) (x : Int32) (n : Nat) (f : Nat → Int32) (B : Nat) (hn : n < B) (hB : B ≤ 1000) : KK l D (TY cyC cyI cyJ cyZ cyO) yX8_add cX8_add 3 none ({ frames := 0, cells := 0, slots := 0, locals := 0 } : Room) 0 0 [.ref t0, .int x] [(t0, .inr (8, [.ref t1, .int (nI n), .int 0, .int 0, .int 0, .int 0])), (t1, .inl (cyC, 1000, .inl f))] (fun u => none) (fun u => u.2.1 0 = nI (fit n x)) (fun u => [(t0, .inr (8, [.ref t1, .int (u.2.1 0), .int 0, .int 0, .int 0, .int 0])), (t1, .inl (cyC, 1000, .inl (u.2.2 0)))]) := by
  refine KK.of (lv0 := [(0, .ref t0), (1, .int x)]) (by decide) rfl (Nat.le_of_ble_eq_true rfl) ?_
  intro p e s m args below meth c A C hr hk hin
  refine j_iload_n (pc := 0) C dX8_add_0 rfl 1 rfl ?_
  refine j_bipush (pc := 1) (v := 10) C dX8_add_1 (by decide) ?_
  refine j_icmp_eq (pc := 3) (tgt := 18) C dX8_add_3 (by decide) (fun c_1 => ?_) (fun c_1 => ?_)
  · skip
    refine j_iconst (pc := 18) (v := 1) C dX8_add_18 (by decide) ?_
    refine j_goto (pc := 19) (tgt := 23) C dX8_add_19 (by decide) ?_
    refine j_istore_n (pc := 23) (lv' := [(2, .int 1), (0, .ref t0), (1, .int x)]) C dX8_add_23 rfl (by decide) rfl ?_
    refine j_iload_n (pc := 24) C dX8_add_24 rfl 0 rfl ?_
    refine j_if_eq_f (pc := 25) (tgt := 59) C dX8_add_25 (by decide) (by decide) ?_
    refine j_aload_n (pc := 28) C dX8_add_28 rfl 1 rfl ?_
    refine j_get (pc := 29) (ci := 8) (v := .int (nI n)) C inw_8 0 rfl rfl 1 (by decide) wd_192 rfl rfl dX8_add_29 ?_
    refine j_sipush (pc := 32) (v := 1000) C dX8_add_32 (by decide) ?_
    refine j_icmp_ge_f (pc := 35) (tgt := 59) C dX8_add_35 (by decide) (nI12 1000 (by omega) (by decide)) ?_
    refine j_aload_n (pc := 38) C dX8_add_38 rfl 1 rfl ?_
    refine j_get (pc := 39) (ci := 8) (v := .ref t1) C inw_8 0 rfl rfl 0 (by decide) wd_4 rfl rfl dX8_add_39 ?_
    refine j_aload_n (pc := 42) C dX8_add_42 rfl 1 rfl ?_
    refine j_get (pc := 43) (ci := 8) (v := .int (nI n)) C inw_8 0 rfl rfl 1 (by decide) wd_192 rfl rfl dX8_add_43 ?_
    refine j_iload_n (pc := 46) C dX8_add_46 rfl 2 rfl ?_
    refine j_i2c (pc := 47) C dX8_add_47 rfl ?_
    refine j_cast (pc := 48) (k := n) (ws' := [(t0, .inr (8, [.ref t1, .int (nI n), .int 0, .int 0, .int 0, .int 0])), (t1, .inl (cyC, 1000, .inl (upd f n (vp_nar .char ((x).toUInt32 % 65536).toInt32))))]) C 1 0 rfl rfl (nI_pos (by omega)) (nI_clamp (by omega)) (by omega) dX8_add_48 rfl ?_
    refine j_aload_n (pc := 49) C dX8_add_49 rfl 1 rfl ?_
    refine j_dup (pc := 50) C dX8_add_50 rfl ?_
    refine j_get (pc := 51) (ci := 8) (v := .int (nI n)) C inw_8 0 rfl rfl 1 (by decide) wd_192 rfl rfl dX8_add_51 ?_
    refine j_iconst (pc := 54) (v := 1) C dX8_add_54 (by decide) ?_
    refine j_iadd (pc := 55) (v := (nI (n + 1))) C dX8_add_55 (nI_1 n) ?_
    refine j_put (pc := 56) (ci := 8) (v := .int (nI (n + 1))) (ws' := [(t0, .inr (8, [.ref t1, .int (nI (n + 1)), .int 0, .int 0, .int 0, .int 0])), (t1, .inl (cyC, 1000, .inl (upd f n (vp_nar .char ((x).toUInt32 % 65536).toInt32))))]) C inw_8 0 rfl rfl 1 (by decide) wd_192 rfl tyX8_ok nmX8 rfl (tyX8_ok 1 (by decide)) rfl rfl (Nat.le_of_ble_eq_true rfl) dX8_add_56 rfl ?_
    exact j_vret (pc := 59) C hr hk (fun _ => 0, fun _ => (nI (n + 1)), fun _ => (upd f n (vp_nar .char ((x).toUInt32 % 65536).toInt32))) rfl (by show (nI (n + 1)) = nI (fit n x); rw [fit_a c_1]) [0, 1] (by decide) rfl (by decide) (by decide) dX8_add_59
  · skip
    refine j_iload_n (pc := 6) C dX8_add_6 rfl 1 rfl ?_
    refine j_bipush (pc := 7) (v := 32) C dX8_add_7 (by decide) ?_
    refine j_icmp_lt (pc := 9) (tgt := 22) C dX8_add_9 (by decide) (fun c_2 => ?_) (fun c_2 => ?_)
    · skip
      refine j_iconst (pc := 22) (v := 0) C dX8_add_22 (by decide) ?_
      refine j_istore_n (pc := 23) (lv' := [(2, .int 0), (0, .ref t0), (1, .int x)]) C dX8_add_23 rfl (by decide) rfl ?_
      refine j_iload_n (pc := 24) C dX8_add_24 rfl 0 rfl ?_
      refine j_if_eq_t (pc := 25) (tgt := 59) C dX8_add_25 (by decide) (by decide) ?_
      exact j_vret (pc := 59) C hr hk (fun _ => 0, fun _ => (nI n), fun _ => f) rfl (by show (nI n) = nI (fit n x); rw [fit_c c_1 c_2]) [0, 1] (by decide) rfl (by decide) (by decide) dX8_add_59
    · skip
      refine j_iload_n (pc := 12) C dX8_add_12 rfl 1 rfl ?_
      refine j_bipush (pc := 13) (v := 126) C dX8_add_13 (by decide) ?_
      refine j_icmp_gt (pc := 15) (tgt := 22) C dX8_add_15 (by decide) (fun c_3 => ?_) (fun c_3 => ?_)
      · skip
        refine j_iconst (pc := 22) (v := 0) C dX8_add_22 (by decide) ?_
        refine j_istore_n (pc := 23) (lv' := [(2, .int 0), (0, .ref t0), (1, .int x)]) C dX8_add_23 rfl (by decide) rfl ?_
        refine j_iload_n (pc := 24) C dX8_add_24 rfl 0 rfl ?_
        refine j_if_eq_t (pc := 25) (tgt := 59) C dX8_add_25 (by decide) (by decide) ?_
        exact j_vret (pc := 59) C hr hk (fun _ => 0, fun _ => (nI n), fun _ => f) rfl (by show (nI n) = nI (fit n x); rw [fit_d c_1 c_3]) [0, 1] (by decide) rfl (by decide) (by decide) dX8_add_59
      · skip
        refine j_iconst (pc := 18) (v := 1) C dX8_add_18 (by decide) ?_
        refine j_goto (pc := 19) (tgt := 23) C dX8_add_19 (by decide) ?_
        refine j_istore_n (pc := 23) (lv' := [(2, .int 1), (0, .ref t0), (1, .int x)]) C dX8_add_23 rfl (by decide) rfl ?_
        refine j_iload_n (pc := 24) C dX8_add_24 rfl 0 rfl ?_
        refine j_if_eq_f (pc := 25) (tgt := 59) C dX8_add_25 (by decide) (by decide) ?_
        refine j_aload_n (pc := 28) C dX8_add_28 rfl 1 rfl ?_
        refine j_get (pc := 29) (ci := 8) (v := .int (nI n)) C inw_8 0 rfl rfl 1 (by decide) wd_192 rfl rfl dX8_add_29 ?_
        refine j_sipush (pc := 32) (v := 1000) C dX8_add_32 (by decide) ?_
        refine j_icmp_ge_f (pc := 35) (tgt := 59) C dX8_add_35 (by decide) (nI12 1000 (by omega) (by decide)) ?_
        refine j_aload_n (pc := 38) C dX8_add_38 rfl 1 rfl ?_
        refine j_get (pc := 39) (ci := 8) (v := .ref t1) C inw_8 0 rfl rfl 0 (by decide) wd_4 rfl rfl dX8_add_39 ?_
        refine j_aload_n (pc := 42) C dX8_add_42 rfl 1 rfl ?_
        refine j_get (pc := 43) (ci := 8) (v := .int (nI n)) C inw_8 0 rfl rfl 1 (by decide) wd_192 rfl rfl dX8_add_43 ?_
        refine j_iload_n (pc := 46) C dX8_add_46 rfl 2 rfl ?_
        refine j_i2c (pc := 47) C dX8_add_47 rfl ?_
        refine j_cast (pc := 48) (k := n) (ws' := [(t0, .inr (8, [.ref t1, .int (nI n), .int 0, .int 0, .int 0, .int 0])), (t1, .inl (cyC, 1000, .inl (upd f n (vp_nar .char ((x).toUInt32 % 65536).toInt32))))]) C 1 0 rfl rfl (nI_pos (by omega)) (nI_clamp (by omega)) (by omega) dX8_add_48 rfl ?_
        refine j_aload_n (pc := 49) C dX8_add_49 rfl 1 rfl ?_
        refine j_dup (pc := 50) C dX8_add_50 rfl ?_
        refine j_get (pc := 51) (ci := 8) (v := .int (nI n)) C inw_8 0 rfl rfl 1 (by decide) wd_192 rfl rfl dX8_add_51 ?_
        refine j_iconst (pc := 54) (v := 1) C dX8_add_54 (by decide) ?_
        refine j_iadd (pc := 55) (v := (nI (n + 1))) C dX8_add_55 (nI_1 n) ?_
        refine j_put (pc := 56) (ci := 8) (v := .int (nI (n + 1))) (ws' := [(t0, .inr (8, [.ref t1, .int (nI (n + 1)), .int 0, .int 0, .int 0, .int 0])), (t1, .inl (cyC, 1000, .inl (upd f n (vp_nar .char ((x).toUInt32 % 65536).toInt32))))]) C inw_8 0 rfl rfl 1 (by decide) wd_192 rfl tyX8_ok nmX8 rfl (tyX8_ok 1 (by decide)) rfl rfl (Nat.le_of_ble_eq_true rfl) dX8_add_56 rfl ?_
        exact j_vret (pc := 59) C hr hk (fun _ => 0, fun _ => (nI (n + 1)), fun _ => (upd f n (vp_nar .char ((x).toUInt32 % 65536).toInt32))) rfl (by show (nI (n + 1)) = nI (fit n x); rw [fit_b c_2 c_3]) [0, 1] (by decide) rfl (by decide) (by decide) dX8_add_59
set_option maxHeartbeats 4000000 in
set_option maxRecDepth 100000 in
theorem c_X10_feedBytes (l : Launch) (D : va_G) (cyC cyI cyJ cyZ cyO : ClassId) (v : Int64) (n : Nat) (f : Nat → Int32) (B : Nat) (t0 : Nat) (t1 : Nat) (t21 : Nat) (t32 : Nat) (t37 : Nat) (t42 : Nat) (t43 : Nat) (t45 : Nat) (t50 : Nat) (t54 : Nat) (t58 : Nat) (t2 : Nat) (t4 : Nat) (t8 : Nat) (t9 : Nat) (t10 : Nat) (t3 : Nat) (hn : n < B) (hB : B + 8 ≤ 1001) : KK l D (TY cyC cyI cyJ cyZ cyO) yX10_feedBytes cX10_feedBytes 4 none ({ frames := 1, cells := 0, slots := 0, locals := 22 } : Room) 0 0 [.ref t0, .long v] [(t0, .inr (10, [.ref t1, .ref t21, .ref t32, .ref t37, .ref t42, .ref t43, .ref t45, .ref t50, .ref t54, .ref t58])), (t1, .inr (5, [.ref t2, .ref t4, .ref t8, .ref t9, .ref t10, .int 0, .int 0])), (t2, .inr (8, [.ref t3, .int (nI n), .int 0, .int 0, .int 0, .int 0])), (t3, .inl (cyC, 1000, .inl f))] (fun u => none) (fun u => True) (fun u => [(t0, .inr (10, [.ref t1, .ref t21, .ref t32, .ref t37, .ref t42, .ref t43, .ref t45, .ref t50, .ref t54, .ref t58])), (t1, .inr (5, [.ref t2, .ref t4, .ref t8, .ref t9, .ref t10, .int 0, .int 0])), (t2, .inr (8, [.ref t3, .int (nI (fed v n)), .int 0, .int 0, .int 0, .int 0])), (t3, .inl (cyC, 1000, .inl (u.2.2 0)))]) := by
  refine KK.of (lv0 := [(0, .ref t0), (1, .long v)]) (by decide) rfl (Nat.le_of_ble_eq_true rfl) ?_
  intro p e s m args below meth c A C hr hk hin
  refine j_bipush (pc := 0) (v := 56) C dX10_feedBytes_0 (by decide) ?_
  refine j_istore_n (pc := 2) (lv' := [(3, .int 56), (0, .ref t0), (1, .long v)]) C dX10_feedBytes_2 rfl (by decide) rfl ?_
  refine j_iload_n (pc := 3) C dX10_feedBytes_3 rfl 0 rfl ?_
  refine j_if_lt_f (pc := 4) (tgt := 31) C dX10_feedBytes_4 (by decide) (by decide) ?_
  refine j_aload_n (pc := 7) C dX10_feedBytes_7 rfl 1 rfl ?_
  refine j_get (pc := 8) (ci := 10) (v := .ref t1) C inw_10 0 rfl rfl 0 (by decide) wd_75 rfl rfl dX10_feedBytes_8 ?_
  refine j_get (pc := 11) (ci := 5) (v := .ref t2) C inw_5 1 rfl rfl 0 (by decide) wd_310 rfl rfl dX10_feedBytes_11 ?_
  refine j_lload_n (pc := 14) C dX10_feedBytes_14 rfl 2 rfl ?_
  refine j_iload_n (pc := 15) C dX10_feedBytes_15 rfl 0 rfl ?_
  refine j_lushr (pc := 16) C dX10_feedBytes_16 rfl ?_
  refine j_l2i (pc := 17) C dX10_feedBytes_17 rfl ?_
  refine j_sipush (pc := 18) (v := 255) C dX10_feedBytes_18 (by decide) ?_
  refine j_iand (pc := 21) (v := (bt v 56)) C dX10_feedBytes_21 (bt_56 v) ?_
  refine j_callV (pc := 22) (As := [.int (bt v 56)]) (rest := []) (wr := [(t0, .inr (10, [.ref t1, .ref t21, .ref t32, .ref t37, .ref t42, .ref t43, .ref t45, .ref t50, .ref t54, .ref t58])), (t1, .inr (5, [.ref t2, .ref t4, .ref t8, .ref t9, .ref t10, .int 0, .int 0]))]) C (c_X8_add l D cyC cyI cyJ cyZ cyO t2 t3 (bt v 56) n f B hn (by omega)) wd_374 wd_24 wd_375 wd_376 wd_377 ⟨by decide, by decide, rfl⟩ rfl ⟨rfl, rfl, by decide, by decide⟩ ⟨by decide, by decide⟩ [2, 3] [0, 1] rfl rfl ⟨by decide, by decide, by decide⟩ 2 rfl rfl rfl (Nat.le_of_ble_eq_true rfl) dX10_feedBytes_22 (fun u_1 hw_2 => ?_)
  refine j_eq (ws2 := [(t0, .inr (10, [.ref t1, .ref t21, .ref t32, .ref t37, .ref t42, .ref t43, .ref t45, .ref t50, .ref t54, .ref t58])), (t1, .inr (5, [.ref t2, .ref t4, .ref t8, .ref t9, .ref t10, .int 0, .int 0])), (t2, .inr (8, [.ref t3, .int (u_1.2.1 0), .int 0, .int 0, .int 0, .int 0])), (t3, .inl (cyC, 1000, .inl (u_1.2.2 0)))]) (pc2 := 25) (lv2 := [(3, .int 56), (0, .ref t0), (1, .long v)]) (st2 := []) rfl rfl rfl rfl ?_
  refine j_eq (ws2 := [(t0, .inr (10, [.ref t1, .ref t21, .ref t32, .ref t37, .ref t42, .ref t43, .ref t45, .ref t50, .ref t54, .ref t58])), (t1, .inr (5, [.ref t2, .ref t4, .ref t8, .ref t9, .ref t10, .int 0, .int 0])), (t2, .inr (8, [.ref t3, .int (nI (fit n (bt v 56))), .int 0, .int 0, .int 0, .int 0])), (t3, .inl (cyC, 1000, .inl (u_1.2.2 0)))]) (pc2 := 25) (lv2 := [(3, .int 56), (0, .ref t0), (1, .long v)]) (st2 := []) (by rw [hw_2]) rfl rfl rfl ?_
  refine j_iinc (pc := 25) (v := 48) (lv' := [(3, .int 48), (0, .ref t0), (1, .long v)]) C dX10_feedBytes_25 0 rfl (by decide) (by decide) rfl ?_
  refine j_goto (pc := 28) (tgt := 3) C dX10_feedBytes_28 (by decide) ?_
  refine j_iload_n (pc := 3) C dX10_feedBytes_3 rfl 0 rfl ?_
  refine j_if_lt_f (pc := 4) (tgt := 31) C dX10_feedBytes_4 (by decide) (by decide) ?_
  refine j_aload_n (pc := 7) C dX10_feedBytes_7 rfl 1 rfl ?_
  refine j_get (pc := 8) (ci := 10) (v := .ref t1) C inw_10 0 rfl rfl 0 (by decide) wd_75 rfl rfl dX10_feedBytes_8 ?_
  refine j_get (pc := 11) (ci := 5) (v := .ref t2) C inw_5 1 rfl rfl 0 (by decide) wd_310 rfl rfl dX10_feedBytes_11 ?_
  refine j_lload_n (pc := 14) C dX10_feedBytes_14 rfl 2 rfl ?_
  refine j_iload_n (pc := 15) C dX10_feedBytes_15 rfl 0 rfl ?_
  refine j_lushr (pc := 16) C dX10_feedBytes_16 rfl ?_
  refine j_l2i (pc := 17) C dX10_feedBytes_17 rfl ?_
  refine j_sipush (pc := 18) (v := 255) C dX10_feedBytes_18 (by decide) ?_
  refine j_iand (pc := 21) (v := (bt v 48)) C dX10_feedBytes_21 (bt_48 v) ?_
  refine j_callV (pc := 22) (As := [.int (bt v 48)]) (rest := []) (wr := [(t0, .inr (10, [.ref t1, .ref t21, .ref t32, .ref t37, .ref t42, .ref t43, .ref t45, .ref t50, .ref t54, .ref t58])), (t1, .inr (5, [.ref t2, .ref t4, .ref t8, .ref t9, .ref t10, .int 0, .int 0]))]) C (c_X8_add l D cyC cyI cyJ cyZ cyO t2 t3 (bt v 48) (fit n (bt v 56)) (u_1.2.2 0) (B + 1) (fit_lt hn) (by omega)) wd_374 wd_24 wd_375 wd_376 wd_377 ⟨by decide, by decide, rfl⟩ rfl ⟨rfl, rfl, by decide, by decide⟩ ⟨by decide, by decide⟩ [2, 3] [0, 1] rfl rfl ⟨by decide, by decide, by decide⟩ 2 rfl rfl rfl (Nat.le_of_ble_eq_true rfl) dX10_feedBytes_22 (fun u_3 hw_4 => ?_)
  refine j_eq (ws2 := [(t0, .inr (10, [.ref t1, .ref t21, .ref t32, .ref t37, .ref t42, .ref t43, .ref t45, .ref t50, .ref t54, .ref t58])), (t1, .inr (5, [.ref t2, .ref t4, .ref t8, .ref t9, .ref t10, .int 0, .int 0])), (t2, .inr (8, [.ref t3, .int (u_3.2.1 0), .int 0, .int 0, .int 0, .int 0])), (t3, .inl (cyC, 1000, .inl (u_3.2.2 0)))]) (pc2 := 25) (lv2 := [(3, .int 48), (0, .ref t0), (1, .long v)]) (st2 := []) rfl rfl rfl rfl ?_
  refine j_eq (ws2 := [(t0, .inr (10, [.ref t1, .ref t21, .ref t32, .ref t37, .ref t42, .ref t43, .ref t45, .ref t50, .ref t54, .ref t58])), (t1, .inr (5, [.ref t2, .ref t4, .ref t8, .ref t9, .ref t10, .int 0, .int 0])), (t2, .inr (8, [.ref t3, .int (nI (fit (fit n (bt v 56)) (bt v 48))), .int 0, .int 0, .int 0, .int 0])), (t3, .inl (cyC, 1000, .inl (u_3.2.2 0)))]) (pc2 := 25) (lv2 := [(3, .int 48), (0, .ref t0), (1, .long v)]) (st2 := []) (by rw [hw_4]) rfl rfl rfl ?_
  refine j_iinc (pc := 25) (v := 40) (lv' := [(3, .int 40), (0, .ref t0), (1, .long v)]) C dX10_feedBytes_25 0 rfl (by decide) (by decide) rfl ?_
  refine j_goto (pc := 28) (tgt := 3) C dX10_feedBytes_28 (by decide) ?_
  refine j_iload_n (pc := 3) C dX10_feedBytes_3 rfl 0 rfl ?_
  refine j_if_lt_f (pc := 4) (tgt := 31) C dX10_feedBytes_4 (by decide) (by decide) ?_
  refine j_aload_n (pc := 7) C dX10_feedBytes_7 rfl 1 rfl ?_
  refine j_get (pc := 8) (ci := 10) (v := .ref t1) C inw_10 0 rfl rfl 0 (by decide) wd_75 rfl rfl dX10_feedBytes_8 ?_
  refine j_get (pc := 11) (ci := 5) (v := .ref t2) C inw_5 1 rfl rfl 0 (by decide) wd_310 rfl rfl dX10_feedBytes_11 ?_
  refine j_lload_n (pc := 14) C dX10_feedBytes_14 rfl 2 rfl ?_
  refine j_iload_n (pc := 15) C dX10_feedBytes_15 rfl 0 rfl ?_
  refine j_lushr (pc := 16) C dX10_feedBytes_16 rfl ?_
  refine j_l2i (pc := 17) C dX10_feedBytes_17 rfl ?_
  refine j_sipush (pc := 18) (v := 255) C dX10_feedBytes_18 (by decide) ?_
  refine j_iand (pc := 21) (v := (bt v 40)) C dX10_feedBytes_21 (bt_40 v) ?_
  refine j_callV (pc := 22) (As := [.int (bt v 40)]) (rest := []) (wr := [(t0, .inr (10, [.ref t1, .ref t21, .ref t32, .ref t37, .ref t42, .ref t43, .ref t45, .ref t50, .ref t54, .ref t58])), (t1, .inr (5, [.ref t2, .ref t4, .ref t8, .ref t9, .ref t10, .int 0, .int 0]))]) C (c_X8_add l D cyC cyI cyJ cyZ cyO t2 t3 (bt v 40) (fit (fit n (bt v 56)) (bt v 48)) (u_3.2.2 0) ((B + 1) + 1) (fit_lt (fit_lt hn)) (by omega)) wd_374 wd_24 wd_375 wd_376 wd_377 ⟨by decide, by decide, rfl⟩ rfl ⟨rfl, rfl, by decide, by decide⟩ ⟨by decide, by decide⟩ [2, 3] [0, 1] rfl rfl ⟨by decide, by decide, by decide⟩ 2 rfl rfl rfl (Nat.le_of_ble_eq_true rfl) dX10_feedBytes_22 (fun u_5 hw_6 => ?_)
  refine j_eq (ws2 := [(t0, .inr (10, [.ref t1, .ref t21, .ref t32, .ref t37, .ref t42, .ref t43, .ref t45, .ref t50, .ref t54, .ref t58])), (t1, .inr (5, [.ref t2, .ref t4, .ref t8, .ref t9, .ref t10, .int 0, .int 0])), (t2, .inr (8, [.ref t3, .int (u_5.2.1 0), .int 0, .int 0, .int 0, .int 0])), (t3, .inl (cyC, 1000, .inl (u_5.2.2 0)))]) (pc2 := 25) (lv2 := [(3, .int 40), (0, .ref t0), (1, .long v)]) (st2 := []) rfl rfl rfl rfl ?_
  refine j_eq (ws2 := [(t0, .inr (10, [.ref t1, .ref t21, .ref t32, .ref t37, .ref t42, .ref t43, .ref t45, .ref t50, .ref t54, .ref t58])), (t1, .inr (5, [.ref t2, .ref t4, .ref t8, .ref t9, .ref t10, .int 0, .int 0])), (t2, .inr (8, [.ref t3, .int (nI (fit (fit (fit n (bt v 56)) (bt v 48)) (bt v 40))), .int 0, .int 0, .int 0, .int 0])), (t3, .inl (cyC, 1000, .inl (u_5.2.2 0)))]) (pc2 := 25) (lv2 := [(3, .int 40), (0, .ref t0), (1, .long v)]) (st2 := []) (by rw [hw_6]) rfl rfl rfl ?_
  refine j_iinc (pc := 25) (v := 32) (lv' := [(3, .int 32), (0, .ref t0), (1, .long v)]) C dX10_feedBytes_25 0 rfl (by decide) (by decide) rfl ?_
  refine j_goto (pc := 28) (tgt := 3) C dX10_feedBytes_28 (by decide) ?_
  refine j_iload_n (pc := 3) C dX10_feedBytes_3 rfl 0 rfl ?_
  refine j_if_lt_f (pc := 4) (tgt := 31) C dX10_feedBytes_4 (by decide) (by decide) ?_
  refine j_aload_n (pc := 7) C dX10_feedBytes_7 rfl 1 rfl ?_
  refine j_get (pc := 8) (ci := 10) (v := .ref t1) C inw_10 0 rfl rfl 0 (by decide) wd_75 rfl rfl dX10_feedBytes_8 ?_
  refine j_get (pc := 11) (ci := 5) (v := .ref t2) C inw_5 1 rfl rfl 0 (by decide) wd_310 rfl rfl dX10_feedBytes_11 ?_
  refine j_lload_n (pc := 14) C dX10_feedBytes_14 rfl 2 rfl ?_
  refine j_iload_n (pc := 15) C dX10_feedBytes_15 rfl 0 rfl ?_
  refine j_lushr (pc := 16) C dX10_feedBytes_16 rfl ?_
  refine j_l2i (pc := 17) C dX10_feedBytes_17 rfl ?_
  refine j_sipush (pc := 18) (v := 255) C dX10_feedBytes_18 (by decide) ?_
  refine j_iand (pc := 21) (v := (bt v 32)) C dX10_feedBytes_21 (bt_32 v) ?_
  refine j_callV (pc := 22) (As := [.int (bt v 32)]) (rest := []) (wr := [(t0, .inr (10, [.ref t1, .ref t21, .ref t32, .ref t37, .ref t42, .ref t43, .ref t45, .ref t50, .ref t54, .ref t58])), (t1, .inr (5, [.ref t2, .ref t4, .ref t8, .ref t9, .ref t10, .int 0, .int 0]))]) C (c_X8_add l D cyC cyI cyJ cyZ cyO t2 t3 (bt v 32) (fit (fit (fit n (bt v 56)) (bt v 48)) (bt v 40)) (u_5.2.2 0) (((B + 1) + 1) + 1) (fit_lt (fit_lt (fit_lt hn))) (by omega)) wd_374 wd_24 wd_375 wd_376 wd_377 ⟨by decide, by decide, rfl⟩ rfl ⟨rfl, rfl, by decide, by decide⟩ ⟨by decide, by decide⟩ [2, 3] [0, 1] rfl rfl ⟨by decide, by decide, by decide⟩ 2 rfl rfl rfl (Nat.le_of_ble_eq_true rfl) dX10_feedBytes_22 (fun u_7 hw_8 => ?_)
  refine j_eq (ws2 := [(t0, .inr (10, [.ref t1, .ref t21, .ref t32, .ref t37, .ref t42, .ref t43, .ref t45, .ref t50, .ref t54, .ref t58])), (t1, .inr (5, [.ref t2, .ref t4, .ref t8, .ref t9, .ref t10, .int 0, .int 0])), (t2, .inr (8, [.ref t3, .int (u_7.2.1 0), .int 0, .int 0, .int 0, .int 0])), (t3, .inl (cyC, 1000, .inl (u_7.2.2 0)))]) (pc2 := 25) (lv2 := [(3, .int 32), (0, .ref t0), (1, .long v)]) (st2 := []) rfl rfl rfl rfl ?_
  refine j_eq (ws2 := [(t0, .inr (10, [.ref t1, .ref t21, .ref t32, .ref t37, .ref t42, .ref t43, .ref t45, .ref t50, .ref t54, .ref t58])), (t1, .inr (5, [.ref t2, .ref t4, .ref t8, .ref t9, .ref t10, .int 0, .int 0])), (t2, .inr (8, [.ref t3, .int (nI (fit (fit (fit (fit n (bt v 56)) (bt v 48)) (bt v 40)) (bt v 32))), .int 0, .int 0, .int 0, .int 0])), (t3, .inl (cyC, 1000, .inl (u_7.2.2 0)))]) (pc2 := 25) (lv2 := [(3, .int 32), (0, .ref t0), (1, .long v)]) (st2 := []) (by rw [hw_8]) rfl rfl rfl ?_
  refine j_iinc (pc := 25) (v := 24) (lv' := [(3, .int 24), (0, .ref t0), (1, .long v)]) C dX10_feedBytes_25 0 rfl (by decide) (by decide) rfl ?_
  refine j_goto (pc := 28) (tgt := 3) C dX10_feedBytes_28 (by decide) ?_
  refine j_iload_n (pc := 3) C dX10_feedBytes_3 rfl 0 rfl ?_
  refine j_if_lt_f (pc := 4) (tgt := 31) C dX10_feedBytes_4 (by decide) (by decide) ?_
  refine j_aload_n (pc := 7) C dX10_feedBytes_7 rfl 1 rfl ?_
  refine j_get (pc := 8) (ci := 10) (v := .ref t1) C inw_10 0 rfl rfl 0 (by decide) wd_75 rfl rfl dX10_feedBytes_8 ?_
  refine j_get (pc := 11) (ci := 5) (v := .ref t2) C inw_5 1 rfl rfl 0 (by decide) wd_310 rfl rfl dX10_feedBytes_11 ?_
  refine j_lload_n (pc := 14) C dX10_feedBytes_14 rfl 2 rfl ?_
  refine j_iload_n (pc := 15) C dX10_feedBytes_15 rfl 0 rfl ?_
  refine j_lushr (pc := 16) C dX10_feedBytes_16 rfl ?_
  refine j_l2i (pc := 17) C dX10_feedBytes_17 rfl ?_
  refine j_sipush (pc := 18) (v := 255) C dX10_feedBytes_18 (by decide) ?_
  refine j_iand (pc := 21) (v := (bt v 24)) C dX10_feedBytes_21 (bt_24 v) ?_
  refine j_callV (pc := 22) (As := [.int (bt v 24)]) (rest := []) (wr := [(t0, .inr (10, [.ref t1, .ref t21, .ref t32, .ref t37, .ref t42, .ref t43, .ref t45, .ref t50, .ref t54, .ref t58])), (t1, .inr (5, [.ref t2, .ref t4, .ref t8, .ref t9, .ref t10, .int 0, .int 0]))]) C (c_X8_add l D cyC cyI cyJ cyZ cyO t2 t3 (bt v 24) (fit (fit (fit (fit n (bt v 56)) (bt v 48)) (bt v 40)) (bt v 32)) (u_7.2.2 0) ((((B + 1) + 1) + 1) + 1) (fit_lt (fit_lt (fit_lt (fit_lt hn)))) (by omega)) wd_374 wd_24 wd_375 wd_376 wd_377 ⟨by decide, by decide, rfl⟩ rfl ⟨rfl, rfl, by decide, by decide⟩ ⟨by decide, by decide⟩ [2, 3] [0, 1] rfl rfl ⟨by decide, by decide, by decide⟩ 2 rfl rfl rfl (Nat.le_of_ble_eq_true rfl) dX10_feedBytes_22 (fun u_9 hw_10 => ?_)
  refine j_eq (ws2 := [(t0, .inr (10, [.ref t1, .ref t21, .ref t32, .ref t37, .ref t42, .ref t43, .ref t45, .ref t50, .ref t54, .ref t58])), (t1, .inr (5, [.ref t2, .ref t4, .ref t8, .ref t9, .ref t10, .int 0, .int 0])), (t2, .inr (8, [.ref t3, .int (u_9.2.1 0), .int 0, .int 0, .int 0, .int 0])), (t3, .inl (cyC, 1000, .inl (u_9.2.2 0)))]) (pc2 := 25) (lv2 := [(3, .int 24), (0, .ref t0), (1, .long v)]) (st2 := []) rfl rfl rfl rfl ?_
  refine j_eq (ws2 := [(t0, .inr (10, [.ref t1, .ref t21, .ref t32, .ref t37, .ref t42, .ref t43, .ref t45, .ref t50, .ref t54, .ref t58])), (t1, .inr (5, [.ref t2, .ref t4, .ref t8, .ref t9, .ref t10, .int 0, .int 0])), (t2, .inr (8, [.ref t3, .int (nI (fit (fit (fit (fit (fit n (bt v 56)) (bt v 48)) (bt v 40)) (bt v 32)) (bt v 24))), .int 0, .int 0, .int 0, .int 0])), (t3, .inl (cyC, 1000, .inl (u_9.2.2 0)))]) (pc2 := 25) (lv2 := [(3, .int 24), (0, .ref t0), (1, .long v)]) (st2 := []) (by rw [hw_10]) rfl rfl rfl ?_
  refine j_iinc (pc := 25) (v := 16) (lv' := [(3, .int 16), (0, .ref t0), (1, .long v)]) C dX10_feedBytes_25 0 rfl (by decide) (by decide) rfl ?_
  refine j_goto (pc := 28) (tgt := 3) C dX10_feedBytes_28 (by decide) ?_
  refine j_iload_n (pc := 3) C dX10_feedBytes_3 rfl 0 rfl ?_
  refine j_if_lt_f (pc := 4) (tgt := 31) C dX10_feedBytes_4 (by decide) (by decide) ?_
  refine j_aload_n (pc := 7) C dX10_feedBytes_7 rfl 1 rfl ?_
  refine j_get (pc := 8) (ci := 10) (v := .ref t1) C inw_10 0 rfl rfl 0 (by decide) wd_75 rfl rfl dX10_feedBytes_8 ?_
  refine j_get (pc := 11) (ci := 5) (v := .ref t2) C inw_5 1 rfl rfl 0 (by decide) wd_310 rfl rfl dX10_feedBytes_11 ?_
  refine j_lload_n (pc := 14) C dX10_feedBytes_14 rfl 2 rfl ?_
  refine j_iload_n (pc := 15) C dX10_feedBytes_15 rfl 0 rfl ?_
  refine j_lushr (pc := 16) C dX10_feedBytes_16 rfl ?_
  refine j_l2i (pc := 17) C dX10_feedBytes_17 rfl ?_
  refine j_sipush (pc := 18) (v := 255) C dX10_feedBytes_18 (by decide) ?_
  refine j_iand (pc := 21) (v := (bt v 16)) C dX10_feedBytes_21 (bt_16 v) ?_
  refine j_callV (pc := 22) (As := [.int (bt v 16)]) (rest := []) (wr := [(t0, .inr (10, [.ref t1, .ref t21, .ref t32, .ref t37, .ref t42, .ref t43, .ref t45, .ref t50, .ref t54, .ref t58])), (t1, .inr (5, [.ref t2, .ref t4, .ref t8, .ref t9, .ref t10, .int 0, .int 0]))]) C (c_X8_add l D cyC cyI cyJ cyZ cyO t2 t3 (bt v 16) (fit (fit (fit (fit (fit n (bt v 56)) (bt v 48)) (bt v 40)) (bt v 32)) (bt v 24)) (u_9.2.2 0) (((((B + 1) + 1) + 1) + 1) + 1) (fit_lt (fit_lt (fit_lt (fit_lt (fit_lt hn))))) (by omega)) wd_374 wd_24 wd_375 wd_376 wd_377 ⟨by decide, by decide, rfl⟩ rfl ⟨rfl, rfl, by decide, by decide⟩ ⟨by decide, by decide⟩ [2, 3] [0, 1] rfl rfl ⟨by decide, by decide, by decide⟩ 2 rfl rfl rfl (Nat.le_of_ble_eq_true rfl) dX10_feedBytes_22 (fun u_11 hw_12 => ?_)
  refine j_eq (ws2 := [(t0, .inr (10, [.ref t1, .ref t21, .ref t32, .ref t37, .ref t42, .ref t43, .ref t45, .ref t50, .ref t54, .ref t58])), (t1, .inr (5, [.ref t2, .ref t4, .ref t8, .ref t9, .ref t10, .int 0, .int 0])), (t2, .inr (8, [.ref t3, .int (u_11.2.1 0), .int 0, .int 0, .int 0, .int 0])), (t3, .inl (cyC, 1000, .inl (u_11.2.2 0)))]) (pc2 := 25) (lv2 := [(3, .int 16), (0, .ref t0), (1, .long v)]) (st2 := []) rfl rfl rfl rfl ?_
  refine j_eq (ws2 := [(t0, .inr (10, [.ref t1, .ref t21, .ref t32, .ref t37, .ref t42, .ref t43, .ref t45, .ref t50, .ref t54, .ref t58])), (t1, .inr (5, [.ref t2, .ref t4, .ref t8, .ref t9, .ref t10, .int 0, .int 0])), (t2, .inr (8, [.ref t3, .int (nI (fit (fit (fit (fit (fit (fit n (bt v 56)) (bt v 48)) (bt v 40)) (bt v 32)) (bt v 24)) (bt v 16))), .int 0, .int 0, .int 0, .int 0])), (t3, .inl (cyC, 1000, .inl (u_11.2.2 0)))]) (pc2 := 25) (lv2 := [(3, .int 16), (0, .ref t0), (1, .long v)]) (st2 := []) (by rw [hw_12]) rfl rfl rfl ?_
  refine j_iinc (pc := 25) (v := 8) (lv' := [(3, .int 8), (0, .ref t0), (1, .long v)]) C dX10_feedBytes_25 0 rfl (by decide) (by decide) rfl ?_
  refine j_goto (pc := 28) (tgt := 3) C dX10_feedBytes_28 (by decide) ?_
  refine j_iload_n (pc := 3) C dX10_feedBytes_3 rfl 0 rfl ?_
  refine j_if_lt_f (pc := 4) (tgt := 31) C dX10_feedBytes_4 (by decide) (by decide) ?_
  refine j_aload_n (pc := 7) C dX10_feedBytes_7 rfl 1 rfl ?_
  refine j_get (pc := 8) (ci := 10) (v := .ref t1) C inw_10 0 rfl rfl 0 (by decide) wd_75 rfl rfl dX10_feedBytes_8 ?_
  refine j_get (pc := 11) (ci := 5) (v := .ref t2) C inw_5 1 rfl rfl 0 (by decide) wd_310 rfl rfl dX10_feedBytes_11 ?_
  refine j_lload_n (pc := 14) C dX10_feedBytes_14 rfl 2 rfl ?_
  refine j_iload_n (pc := 15) C dX10_feedBytes_15 rfl 0 rfl ?_
  refine j_lushr (pc := 16) C dX10_feedBytes_16 rfl ?_
  refine j_l2i (pc := 17) C dX10_feedBytes_17 rfl ?_
  refine j_sipush (pc := 18) (v := 255) C dX10_feedBytes_18 (by decide) ?_
  refine j_iand (pc := 21) (v := (bt v 8)) C dX10_feedBytes_21 (bt_8 v) ?_
  refine j_callV (pc := 22) (As := [.int (bt v 8)]) (rest := []) (wr := [(t0, .inr (10, [.ref t1, .ref t21, .ref t32, .ref t37, .ref t42, .ref t43, .ref t45, .ref t50, .ref t54, .ref t58])), (t1, .inr (5, [.ref t2, .ref t4, .ref t8, .ref t9, .ref t10, .int 0, .int 0]))]) C (c_X8_add l D cyC cyI cyJ cyZ cyO t2 t3 (bt v 8) (fit (fit (fit (fit (fit (fit n (bt v 56)) (bt v 48)) (bt v 40)) (bt v 32)) (bt v 24)) (bt v 16)) (u_11.2.2 0) ((((((B + 1) + 1) + 1) + 1) + 1) + 1) (fit_lt (fit_lt (fit_lt (fit_lt (fit_lt (fit_lt hn)))))) (by omega)) wd_374 wd_24 wd_375 wd_376 wd_377 ⟨by decide, by decide, rfl⟩ rfl ⟨rfl, rfl, by decide, by decide⟩ ⟨by decide, by decide⟩ [2, 3] [0, 1] rfl rfl ⟨by decide, by decide, by decide⟩ 2 rfl rfl rfl (Nat.le_of_ble_eq_true rfl) dX10_feedBytes_22 (fun u_13 hw_14 => ?_)
  refine j_eq (ws2 := [(t0, .inr (10, [.ref t1, .ref t21, .ref t32, .ref t37, .ref t42, .ref t43, .ref t45, .ref t50, .ref t54, .ref t58])), (t1, .inr (5, [.ref t2, .ref t4, .ref t8, .ref t9, .ref t10, .int 0, .int 0])), (t2, .inr (8, [.ref t3, .int (u_13.2.1 0), .int 0, .int 0, .int 0, .int 0])), (t3, .inl (cyC, 1000, .inl (u_13.2.2 0)))]) (pc2 := 25) (lv2 := [(3, .int 8), (0, .ref t0), (1, .long v)]) (st2 := []) rfl rfl rfl rfl ?_
  refine j_eq (ws2 := [(t0, .inr (10, [.ref t1, .ref t21, .ref t32, .ref t37, .ref t42, .ref t43, .ref t45, .ref t50, .ref t54, .ref t58])), (t1, .inr (5, [.ref t2, .ref t4, .ref t8, .ref t9, .ref t10, .int 0, .int 0])), (t2, .inr (8, [.ref t3, .int (nI (fit (fit (fit (fit (fit (fit (fit n (bt v 56)) (bt v 48)) (bt v 40)) (bt v 32)) (bt v 24)) (bt v 16)) (bt v 8))), .int 0, .int 0, .int 0, .int 0])), (t3, .inl (cyC, 1000, .inl (u_13.2.2 0)))]) (pc2 := 25) (lv2 := [(3, .int 8), (0, .ref t0), (1, .long v)]) (st2 := []) (by rw [hw_14]) rfl rfl rfl ?_
  refine j_iinc (pc := 25) (v := 0) (lv' := [(3, .int 0), (0, .ref t0), (1, .long v)]) C dX10_feedBytes_25 0 rfl (by decide) (by decide) rfl ?_
  refine j_goto (pc := 28) (tgt := 3) C dX10_feedBytes_28 (by decide) ?_
  refine j_iload_n (pc := 3) C dX10_feedBytes_3 rfl 0 rfl ?_
  refine j_if_lt_f (pc := 4) (tgt := 31) C dX10_feedBytes_4 (by decide) (by decide) ?_
  refine j_aload_n (pc := 7) C dX10_feedBytes_7 rfl 1 rfl ?_
  refine j_get (pc := 8) (ci := 10) (v := .ref t1) C inw_10 0 rfl rfl 0 (by decide) wd_75 rfl rfl dX10_feedBytes_8 ?_
  refine j_get (pc := 11) (ci := 5) (v := .ref t2) C inw_5 1 rfl rfl 0 (by decide) wd_310 rfl rfl dX10_feedBytes_11 ?_
  refine j_lload_n (pc := 14) C dX10_feedBytes_14 rfl 2 rfl ?_
  refine j_iload_n (pc := 15) C dX10_feedBytes_15 rfl 0 rfl ?_
  refine j_lushr (pc := 16) C dX10_feedBytes_16 rfl ?_
  refine j_l2i (pc := 17) C dX10_feedBytes_17 rfl ?_
  refine j_sipush (pc := 18) (v := 255) C dX10_feedBytes_18 (by decide) ?_
  refine j_iand (pc := 21) (v := (bt v 0)) C dX10_feedBytes_21 (bt_0 v) ?_
  refine j_callV (pc := 22) (As := [.int (bt v 0)]) (rest := []) (wr := [(t0, .inr (10, [.ref t1, .ref t21, .ref t32, .ref t37, .ref t42, .ref t43, .ref t45, .ref t50, .ref t54, .ref t58])), (t1, .inr (5, [.ref t2, .ref t4, .ref t8, .ref t9, .ref t10, .int 0, .int 0]))]) C (c_X8_add l D cyC cyI cyJ cyZ cyO t2 t3 (bt v 0) (fit (fit (fit (fit (fit (fit (fit n (bt v 56)) (bt v 48)) (bt v 40)) (bt v 32)) (bt v 24)) (bt v 16)) (bt v 8)) (u_13.2.2 0) (((((((B + 1) + 1) + 1) + 1) + 1) + 1) + 1) (fit_lt (fit_lt (fit_lt (fit_lt (fit_lt (fit_lt (fit_lt hn))))))) (by omega)) wd_374 wd_24 wd_375 wd_376 wd_377 ⟨by decide, by decide, rfl⟩ rfl ⟨rfl, rfl, by decide, by decide⟩ ⟨by decide, by decide⟩ [2, 3] [0, 1] rfl rfl ⟨by decide, by decide, by decide⟩ 2 rfl rfl rfl (Nat.le_of_ble_eq_true rfl) dX10_feedBytes_22 (fun u_15 hw_16 => ?_)
  refine j_eq (ws2 := [(t0, .inr (10, [.ref t1, .ref t21, .ref t32, .ref t37, .ref t42, .ref t43, .ref t45, .ref t50, .ref t54, .ref t58])), (t1, .inr (5, [.ref t2, .ref t4, .ref t8, .ref t9, .ref t10, .int 0, .int 0])), (t2, .inr (8, [.ref t3, .int (u_15.2.1 0), .int 0, .int 0, .int 0, .int 0])), (t3, .inl (cyC, 1000, .inl (u_15.2.2 0)))]) (pc2 := 25) (lv2 := [(3, .int 0), (0, .ref t0), (1, .long v)]) (st2 := []) rfl rfl rfl rfl ?_
  refine j_eq (ws2 := [(t0, .inr (10, [.ref t1, .ref t21, .ref t32, .ref t37, .ref t42, .ref t43, .ref t45, .ref t50, .ref t54, .ref t58])), (t1, .inr (5, [.ref t2, .ref t4, .ref t8, .ref t9, .ref t10, .int 0, .int 0])), (t2, .inr (8, [.ref t3, .int (nI (fit (fit (fit (fit (fit (fit (fit (fit n (bt v 56)) (bt v 48)) (bt v 40)) (bt v 32)) (bt v 24)) (bt v 16)) (bt v 8)) (bt v 0))), .int 0, .int 0, .int 0, .int 0])), (t3, .inl (cyC, 1000, .inl (u_15.2.2 0)))]) (pc2 := 25) (lv2 := [(3, .int 0), (0, .ref t0), (1, .long v)]) (st2 := []) (by rw [hw_16]) rfl rfl rfl ?_
  refine j_iinc (pc := 25) (v := (-8)) (lv' := [(3, .int (-8)), (0, .ref t0), (1, .long v)]) C dX10_feedBytes_25 0 rfl (by decide) (by decide) rfl ?_
  refine j_goto (pc := 28) (tgt := 3) C dX10_feedBytes_28 (by decide) ?_
  refine j_iload_n (pc := 3) C dX10_feedBytes_3 rfl 0 rfl ?_
  refine j_if_lt_t (pc := 4) (tgt := 31) C dX10_feedBytes_4 (by decide) (by decide) ?_
  exact j_vret (pc := 31) C hr hk (fun _ => 0, fun _ => 0, fun _ => (u_15.2.2 0)) rfl trivial [0, 1, 2, 3] (by decide) rfl (by decide) (by decide) dX10_feedBytes_31
set_option maxHeartbeats 4000000 in
set_option maxRecDepth 100000 in
theorem c_X10_feed (l : Launch) (D : va_G) (cyC cyI cyJ cyZ cyO : ClassId) (v0 : Int64) (v1 : Int64) (v2 : Int64) (t0 : Nat) (t1 : Nat) (t21 : Nat) (t32 : Nat) (t37 : Nat) (t42 : Nat) (t43 : Nat) (t45 : Nat) (t50 : Nat) (t54 : Nat) (t58 : Nat) (t2 : Nat) (t4 : Nat) (t8 : Nat) (t9 : Nat) (t10 : Nat) (t3 : Nat) : KK l D (TY cyC cyI cyJ cyZ cyO) yX10_feed cX10_feed 7 (some .int) ({ frames := 2, cells := 0, slots := 0, locals := 45 } : Room) 0 0 [.ref t0, .long v0, .long v1, .long v2] [(t0, .inr (10, [.ref t1, .ref t21, .ref t32, .ref t37, .ref t42, .ref t43, .ref t45, .ref t50, .ref t54, .ref t58])), (t1, .inr (5, [.ref t2, .ref t4, .ref t8, .ref t9, .ref t10, .int 0, .int 0])), (t2, .inr (8, [.ref t3, .int 0, .int 0, .int 0, .int 0, .int 0])), (t3, .inl (cyC, 1000, .inl (fun _ => 0)))] (fun u => some (.int (u.2.1 0))) (fun u => u.2.1 0 = (nI (fed3 v0 v1 v2))) (fun u => []) := by
  refine KK.of (lv0 := [(0, .ref t0), (1, .long v0), (3, .long v1), (5, .long v2)]) (by decide) rfl (Nat.le_of_ble_eq_true rfl) ?_
  intro p e s m args below meth c A C hr hk hin
  refine j_aload_n (pc := 0) C dX10_feed_0 rfl 0 rfl ?_
  refine j_lload_n (pc := 1) C dX10_feed_1 rfl 1 rfl ?_
  refine j_callV (pc := 2) (As := [.long v0]) (rest := []) (wr := []) C (c_X10_feedBytes l D cyC cyI cyJ cyZ cyO v0 0 (fun _ => 0) 1 t0 t1 t21 t32 t37 t42 t43 t45 t50 t54 t58 t2 t4 t8 t9 t10 t3 Nat.one_pos (by decide)) wd_378 wd_180 wd_379 wd_380 wd_381 ⟨by decide, by decide, rfl⟩ rfl ⟨rfl, rfl, by decide, by decide⟩ ⟨by decide, by decide⟩ [0, 1, 2, 3] [] rfl rfl ⟨by decide, by decide, by decide⟩ 0 rfl rfl rfl (Nat.le_of_ble_eq_true rfl) dX10_feed_2 (fun u_1 hw_2 => ?_)
  refine j_eq (ws2 := [(t0, .inr (10, [.ref t1, .ref t21, .ref t32, .ref t37, .ref t42, .ref t43, .ref t45, .ref t50, .ref t54, .ref t58])), (t1, .inr (5, [.ref t2, .ref t4, .ref t8, .ref t9, .ref t10, .int 0, .int 0])), (t2, .inr (8, [.ref t3, .int (nI (fed v0 0)), .int 0, .int 0, .int 0, .int 0])), (t3, .inl (cyC, 1000, .inl (u_1.2.2 0)))]) (pc2 := 5) (lv2 := [(0, .ref t0), (1, .long v0), (3, .long v1), (5, .long v2)]) (st2 := []) rfl rfl rfl rfl ?_
  refine j_aload_n (pc := 5) C dX10_feed_5 rfl 0 rfl ?_
  refine j_lload_n (pc := 6) C dX10_feed_6 rfl 2 rfl ?_
  refine j_callV (pc := 7) (As := [.long v1]) (rest := []) (wr := []) C (c_X10_feedBytes l D cyC cyI cyJ cyZ cyO v1 (fed v0 0) (u_1.2.2 0) 9 t0 t1 t21 t32 t37 t42 t43 t45 t50 t54 t58 t2 t4 t8 t9 t10 t3 (fed_lt v0 Nat.one_pos) (by decide)) wd_378 wd_180 wd_379 wd_380 wd_381 ⟨by decide, by decide, rfl⟩ rfl ⟨rfl, rfl, by decide, by decide⟩ ⟨by decide, by decide⟩ [0, 1, 2, 3] [] rfl rfl ⟨by decide, by decide, by decide⟩ 0 rfl rfl rfl (Nat.le_of_ble_eq_true rfl) dX10_feed_7 (fun u_3 hw_4 => ?_)
  refine j_eq (ws2 := [(t0, .inr (10, [.ref t1, .ref t21, .ref t32, .ref t37, .ref t42, .ref t43, .ref t45, .ref t50, .ref t54, .ref t58])), (t1, .inr (5, [.ref t2, .ref t4, .ref t8, .ref t9, .ref t10, .int 0, .int 0])), (t2, .inr (8, [.ref t3, .int (nI (fed v1 (fed v0 0))), .int 0, .int 0, .int 0, .int 0])), (t3, .inl (cyC, 1000, .inl (u_3.2.2 0)))]) (pc2 := 10) (lv2 := [(0, .ref t0), (1, .long v0), (3, .long v1), (5, .long v2)]) (st2 := []) rfl rfl rfl rfl ?_
  refine j_aload_n (pc := 10) C dX10_feed_10 rfl 0 rfl ?_
  refine j_lload (pc := 11) C dX10_feed_11 3 rfl ?_
  refine j_callV (pc := 13) (As := [.long v2]) (rest := []) (wr := []) C (c_X10_feedBytes l D cyC cyI cyJ cyZ cyO v2 (fed v1 (fed v0 0)) (u_3.2.2 0) 17 t0 t1 t21 t32 t37 t42 t43 t45 t50 t54 t58 t2 t4 t8 t9 t10 t3 (fed_lt v1 (fed_lt v0 Nat.one_pos)) (by decide)) wd_378 wd_180 wd_379 wd_380 wd_381 ⟨by decide, by decide, rfl⟩ rfl ⟨rfl, rfl, by decide, by decide⟩ ⟨by decide, by decide⟩ [0, 1, 2, 3] [] rfl rfl ⟨by decide, by decide, by decide⟩ 0 rfl rfl rfl (Nat.le_of_ble_eq_true rfl) dX10_feed_13 (fun u_5 hw_6 => ?_)
  refine j_eq (ws2 := [(t0, .inr (10, [.ref t1, .ref t21, .ref t32, .ref t37, .ref t42, .ref t43, .ref t45, .ref t50, .ref t54, .ref t58])), (t1, .inr (5, [.ref t2, .ref t4, .ref t8, .ref t9, .ref t10, .int 0, .int 0])), (t2, .inr (8, [.ref t3, .int (nI (fed v2 (fed v1 (fed v0 0)))), .int 0, .int 0, .int 0, .int 0])), (t3, .inl (cyC, 1000, .inl (u_5.2.2 0)))]) (pc2 := 16) (lv2 := [(0, .ref t0), (1, .long v0), (3, .long v1), (5, .long v2)]) (st2 := []) rfl rfl rfl rfl ?_
  refine j_aload_n (pc := 16) C dX10_feed_16 rfl 0 rfl ?_
  refine j_get (pc := 17) (ci := 10) (v := .ref t1) C inw_10 0 rfl rfl 0 (by decide) wd_75 rfl rfl dX10_feed_17 ?_
  refine j_get (pc := 20) (ci := 5) (v := .ref t2) C inw_5 1 rfl rfl 0 (by decide) wd_310 rfl rfl dX10_feed_20 ?_
  refine j_get (pc := 23) (ci := 8) (v := .int (nI (fed v2 (fed v1 (fed v0 0))))) C inw_8 2 rfl rfl 1 (by decide) wd_311 rfl rfl dX10_feed_23 ?_
  exact j_iret (pc := 26) C hr hk (fun _ => 0, fun _ => (nI (fed v2 (fed v1 (fed v0 0)))), fun _ _ => 0) rfl rfl [] (by decide) rfl (by decide) (by decide) dX10_feed_26
