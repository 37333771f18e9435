theorem wd_410 : Cond.fieldLink RX5 66 "BowlShelf$Told" "mayOn" "[I" ∈ WALL := wl_in (by decide +kernel) (by decide +kernel)
theorem wd_411 : Cond.methodLink RX5 70 yJ7_fill_53178 ∈ WALL := wl_in (by decide +kernel) (by decide +kernel)
theorem wd_412 : Cond.code yX1_allow cX1_allow 6 (some .boolean) ∈ WALL := wl_in (by decide +kernel) (by decide +kernel)
theorem wd_413 : Cond.methodLink RX5 79 yX1_allow ∈ WALL := wl_in (by decide +kernel) (by decide +kernel)
theorem wd_414 : Cond.instanceMethod yX1_allow ∈ WALL := wl_in (by decide +kernel) (by decide +kernel)
theorem wd_415 : Cond.selects RX1 yX1_allow yX1_allow ∈ WALL := wl_in (by decide +kernel) (by decide +kernel)
theorem wd_416 : Cond.code yX9_empty cX9_empty 1 none ∈ WALL := wl_in (by decide +kernel) (by decide +kernel)
theorem wd_417 : Cond.methodLink RX5 39 yX9_empty ∈ WALL := wl_in (by decide +kernel) (by decide +kernel)
theorem wd_418 : Cond.instanceMethod yX9_empty ∈ WALL := wl_in (by decide +kernel) (by decide +kernel)
theorem wd_419 : Cond.selects RX9 yX9_empty yX9_empty ∈ WALL := wl_in (by decide +kernel) (by decide +kernel)
theorem wd_420 : Cond.code yX1_empty cX1_empty 1 none ∈ WALL := wl_in (by decide +kernel) (by decide +kernel)
theorem wd_421 : Cond.methodLink RX5 42 yX1_empty ∈ WALL := wl_in (by decide +kernel) (by decide +kernel)
theorem wd_422 : Cond.instanceMethod yX1_empty ∈ WALL := wl_in (by decide +kernel) (by decide +kernel)
theorem wd_423 : Cond.selects RX1 yX1_empty yX1_empty ∈ WALL := wl_in (by decide +kernel) (by decide +kernel)
theorem wd_424 : Cond.code yX8_start cX8_start 1 none ∈ WALL := wl_in (by decide +kernel) (by decide +kernel)
theorem wd_425 : Cond.methodLink RX5 50 yX8_start ∈ WALL := wl_in (by decide +kernel) (by decide +kernel)
theorem wd_426 : Cond.instanceMethod yX8_start ∈ WALL := wl_in (by decide +kernel) (by decide +kernel)
theorem wd_427 : Cond.selects RX8 yX8_start yX8_start ∈ WALL := wl_in (by decide +kernel) (by decide +kernel)
theorem wd_428 : Cond.fieldLink RX5 60 "BowlShelf$Tape" "length" "I" ∈ WALL := wl_in (by decide +kernel) (by decide +kernel)
theorem wd_429 : Cond.code yX5_findMay cX5_findMay 3 none ∈ WALL := wl_in (by decide +kernel) (by decide +kernel)
theorem wd_430 : Cond.methodLink RX5 63 yX5_findMay ∈ WALL := wl_in (by decide +kernel) (by decide +kernel)
theorem wd_431 : Cond.instanceMethod yX5_findMay ∈ WALL := wl_in (by decide +kernel) (by decide +kernel)
theorem wd_432 : Cond.selects RX5 yX5_findMay yX5_findMay ∈ WALL := wl_in (by decide +kernel) (by decide +kernel)
theorem wd_433 : Cond.code yX5_readStatement cX5_readStatement 1 (some .boolean) ∈ WALL := wl_in (by decide +kernel) (by decide +kernel)
theorem wd_434 : Cond.methodLink RX5 56 yX5_readStatement ∈ WALL := wl_in (by decide +kernel) (by decide +kernel)
theorem wd_435 : Cond.instanceMethod yX5_readStatement ∈ WALL := wl_in (by decide +kernel) (by decide +kernel)
theorem wd_436 : Cond.selects RX5 yX5_readStatement yX5_readStatement ∈ WALL := wl_in (by decide +kernel) (by decide +kernel)
theorem dX5_findMay_0 : decode cX5_findMay 0 = .ok (.aload_n 0, 1) := by decide +kernel
theorem dX5_findMay_1 : decode cX5_findMay 1 = .ok (.getfield 35, 3) := by decide +kernel
theorem dX5_findMay_4 : decode cX5_findMay 4 = .ok (.getfield 66, 3) := by decide +kernel
theorem dX5_findMay_7 : decode cX5_findMay 7 = .ok (.iconst 0, 1) := by decide +kernel
theorem dX5_findMay_8 : decode cX5_findMay 8 = .ok (.invokestatic 70, 3) := by decide +kernel
theorem dX5_findMay_11 : decode cX5_findMay 11 = .ok (.iconst 0, 1) := by decide +kernel
theorem dX5_findMay_12 : decode cX5_findMay 12 = .ok (.istore_n 1, 1) := by decide +kernel
theorem dX5_findMay_13 : decode cX5_findMay 13 = .ok (.iload_n 1, 1) := by decide +kernel
theorem dX5_findMay_14 : decode cX5_findMay 14 = .ok (.aload_n 0, 1) := by decide +kernel
theorem dX5_findMay_15 : decode cX5_findMay 15 = .ok (.getfield 35, 3) := by decide +kernel
theorem dX5_findMay_18 : decode cX5_findMay 18 = .ok (.getfield 76, 3) := by decide +kernel
theorem dX5_findMay_21 : decode cX5_findMay 21 = .ok (.if_icmp .ge 64, 3) := by decide +kernel
theorem dX5_findMay_24 : decode cX5_findMay 24 = .ok (.iconst 0, 1) := by decide +kernel
theorem dX5_findMay_25 : decode cX5_findMay 25 = .ok (.istore_n 2, 1) := by decide +kernel
theorem dX5_findMay_26 : decode cX5_findMay 26 = .ok (.iload_n 2, 1) := by decide +kernel
theorem dX5_findMay_27 : decode cX5_findMay 27 = .ok (.aload_n 0, 1) := by decide +kernel
theorem dX5_findMay_28 : decode cX5_findMay 28 = .ok (.getfield 35, 3) := by decide +kernel
theorem dX5_findMay_31 : decode cX5_findMay 31 = .ok (.getfield 76, 3) := by decide +kernel
theorem dX5_findMay_34 : decode cX5_findMay 34 = .ok (.if_icmp .ge 45, 3) := by decide +kernel
theorem dX5_findMay_37 : decode cX5_findMay 37 = .ok (.iload_n 2, 1) := by decide +kernel
theorem dX5_findMay_38 : decode cX5_findMay 38 = .ok (.iload_n 1, 1) := by decide +kernel
theorem dX5_findMay_39 : decode cX5_findMay 39 = .ok (.if_icmp .eq 34, 3) := by decide +kernel
theorem dX5_findMay_42 : decode cX5_findMay 42 = .ok (.aload_n 0, 1) := by decide +kernel
theorem dX5_findMay_43 : decode cX5_findMay 43 = .ok (.getfield 21, 3) := by decide +kernel
theorem dX5_findMay_46 : decode cX5_findMay 46 = .ok (.aload_n 0, 1) := by decide +kernel
theorem dX5_findMay_47 : decode cX5_findMay 47 = .ok (.getfield 35, 3) := by decide +kernel
theorem dX5_findMay_50 : decode cX5_findMay 50 = .ok (.iload_n 2, 1) := by decide +kernel
theorem dX5_findMay_51 : decode cX5_findMay 51 = .ok (.iload_n 1, 1) := by decide +kernel
theorem dX5_findMay_52 : decode cX5_findMay 52 = .ok (.invokevirtual 79, 3) := by decide +kernel
theorem dX5_findMay_55 : decode cX5_findMay 55 = .ok (.ifCond .eq 18, 3) := by decide +kernel
theorem dX5_findMay_58 : decode cX5_findMay 58 = .ok (.aload_n 0, 1) := by decide +kernel
theorem dX5_findMay_59 : decode cX5_findMay 59 = .ok (.getfield 35, 3) := by decide +kernel
theorem dX5_findMay_62 : decode cX5_findMay 62 = .ok (.getfield 66, 3) := by decide +kernel
theorem dX5_findMay_65 : decode cX5_findMay 65 = .ok (.iload_n 1, 1) := by decide +kernel
theorem dX5_findMay_66 : decode cX5_findMay 66 = .ok (.dup2, 1) := by decide +kernel
theorem dX5_findMay_67 : decode cX5_findMay 67 = .ok (.iaload, 1) := by decide +kernel
theorem dX5_findMay_68 : decode cX5_findMay 68 = .ok (.iconst 1, 1) := by decide +kernel
theorem dX5_findMay_69 : decode cX5_findMay 69 = .ok (.iload_n 2, 1) := by decide +kernel
theorem dX5_findMay_70 : decode cX5_findMay 70 = .ok (.ishl, 1) := by decide +kernel
theorem dX5_findMay_71 : decode cX5_findMay 71 = .ok (.ior, 1) := by decide +kernel
theorem dX5_findMay_72 : decode cX5_findMay 72 = .ok (.iastore, 1) := by decide +kernel
theorem dX5_findMay_73 : decode cX5_findMay 73 = .ok (.iinc 2 1, 3) := by decide +kernel
theorem dX5_findMay_76 : decode cX5_findMay 76 = .ok (.goto (-50), 3) := by decide +kernel
theorem dX5_findMay_79 : decode cX5_findMay 79 = .ok (.iinc 1 1, 3) := by decide +kernel
theorem dX5_findMay_82 : decode cX5_findMay 82 = .ok (.goto (-69), 3) := by decide +kernel
theorem dX5_findMay_85 : decode cX5_findMay 85 = .ok (.return_, 1) := by decide +kernel
theorem dX5_read_0 : decode cX5_read 0 = .ok (.aload_n 0, 1) := by decide +kernel
theorem dX5_read_1 : decode cX5_read 1 = .ok (.getfield 35, 3) := by decide +kernel
theorem dX5_read_4 : decode cX5_read 4 = .ok (.invokevirtual 39, 3) := by decide +kernel
theorem dX5_read_7 : decode cX5_read 7 = .ok (.aload_n 0, 1) := by decide +kernel
theorem dX5_read_8 : decode cX5_read 8 = .ok (.getfield 21, 3) := by decide +kernel
theorem dX5_read_11 : decode cX5_read 11 = .ok (.invokevirtual 42, 3) := by decide +kernel
theorem dX5_read_14 : decode cX5_read 14 = .ok (.aload_n 0, 1) := by decide +kernel
theorem dX5_read_15 : decode cX5_read 15 = .ok (.iconst 0, 1) := by decide +kernel
theorem dX5_read_16 : decode cX5_read 16 = .ok (.putfield 43, 3) := by decide +kernel
theorem dX5_read_19 : decode cX5_read 19 = .ok (.aload_n 0, 1) := by decide +kernel
theorem dX5_read_20 : decode cX5_read 20 = .ok (.iconst 0, 1) := by decide +kernel
theorem dX5_read_21 : decode cX5_read 21 = .ok (.putfield 47, 3) := by decide +kernel
theorem dX5_read_24 : decode cX5_read 24 = .ok (.aload_n 0, 1) := by decide +kernel
theorem dX5_read_25 : decode cX5_read 25 = .ok (.getfield 12, 3) := by decide +kernel
theorem dX5_read_28 : decode cX5_read 28 = .ok (.invokevirtual 50, 3) := by decide +kernel
theorem dX5_read_31 : decode cX5_read 31 = .ok (.iconst 1, 1) := by decide +kernel
theorem dX5_read_32 : decode cX5_read 32 = .ok (.istore_n 1, 1) := by decide +kernel
theorem dX5_read_33 : decode cX5_read 33 = .ok (.iconst 0, 1) := by decide +kernel
theorem dX5_read_34 : decode cX5_read 34 = .ok (.istore_n 2, 1) := by decide +kernel
theorem dX5_read_35 : decode cX5_read 35 = .ok (.iload_n 2, 1) := by decide +kernel
theorem dX5_read_36 : decode cX5_read 36 = .ok (.sipush 1000, 3) := by decide +kernel
theorem dX5_read_39 : decode cX5_read 39 = .ok (.if_icmp .ge 28, 3) := by decide +kernel
theorem dX5_read_42 : decode cX5_read 42 = .ok (.iload_n 1, 1) := by decide +kernel
theorem dX5_read_43 : decode cX5_read 43 = .ok (.ifCond .eq 24, 3) := by decide +kernel
theorem dX5_read_46 : decode cX5_read 46 = .ok (.aload_n 0, 1) := by decide +kernel
theorem dX5_read_47 : decode cX5_read 47 = .ok (.getfield 12, 3) := by decide +kernel
theorem dX5_read_50 : decode cX5_read 50 = .ok (.getfield 53, 3) := by decide +kernel
theorem dX5_read_53 : decode cX5_read 53 = .ok (.ifCond .eq 14, 3) := by decide +kernel
theorem dX5_read_56 : decode cX5_read 56 = .ok (.aload_n 0, 1) := by decide +kernel
theorem dX5_read_57 : decode cX5_read 57 = .ok (.invokevirtual 56, 3) := by decide +kernel
theorem dX5_read_60 : decode cX5_read 60 = .ok (.istore_n 1, 1) := by decide +kernel
theorem dX5_read_61 : decode cX5_read 61 = .ok (.iinc 2 1, 3) := by decide +kernel
theorem dX5_read_64 : decode cX5_read 64 = .ok (.goto (-29), 3) := by decide +kernel
theorem dX5_read_67 : decode cX5_read 67 = .ok (.aload_n 0, 1) := by decide +kernel
theorem dX5_read_68 : decode cX5_read 68 = .ok (.getfield 12, 3) := by decide +kernel
theorem dX5_read_71 : decode cX5_read 71 = .ok (.iconst 0, 1) := by decide +kernel
theorem dX5_read_72 : decode cX5_read 72 = .ok (.putfield 60, 3) := by decide +kernel
theorem dX5_read_75 : decode cX5_read 75 = .ok (.iload_n 1, 1) := by decide +kernel
theorem dX5_read_76 : decode cX5_read 76 = .ok (.ifCond .eq 7, 3) := by decide +kernel
theorem dX5_read_79 : decode cX5_read 79 = .ok (.aload_n 0, 1) := by decide +kernel
theorem dX5_read_80 : decode cX5_read 80 = .ok (.invokevirtual 63, 3) := by decide +kernel
theorem dX5_read_83 : decode cX5_read 83 = .ok (.aload_n 0, 1) := by decide +kernel
theorem dX5_read_84 : decode cX5_read 84 = .ok (.getfield 47, 3) := by decide +kernel
theorem dX5_read_87 : decode cX5_read 87 = .ok (.ireturn, 1) := by decide +kernel
set_option maxHeartbeats 4000000 in
set_option maxRecDepth 100000 in
theorem c_X5_findMay (l : Launch) (D : DG) (cyC cyI cyJ cyZ cyO : ClassId) (r0 : Nat) (e0 : Nat) (e1 : Nat) (e2 : Nat) (e3 : Nat) (a0 : Nat) (a1 : Nat) (a2 : Nat) (a3 : Nat) (a7 : Nat) (t0 : Nat) (r1 : Nat) (r2 : Nat) (a4 : Nat) (a5 : Nat) (a6 : Nat) (a8 : Nat) (a9 : Nat) (a10 : Nat) (r_habits : Int32) (r_fault : Int32) (e_size : Int32) (e_nests : Int32) (a_wares : Int32) (a_shelves : Int32) (a_nests : Int32) (a_lids : Int32) (a_tops : Int32) (e_steps : Nat → Int32) (e_end : Nat → Int32) (e_values : Nat → Int32) (a_wide : Nat → Int32) (a_deep : Nat → Int32) (a_weight : Nat → Int32) (a_mayOn : Nat → Int32) (h_e_size : 0 ≤ (e_size).toInt ∧ (e_size).toInt ≤ 1000) (h_e_nests : 0 ≤ (e_nests).toInt ∧ (e_nests).toInt ≤ 4) (h_a_wares : 0 ≤ (a_wares).toInt ∧ (a_wares).toInt ≤ 12) (h_a_shelves : 0 ≤ (a_shelves).toInt ∧ (a_shelves).toInt ≤ 4) (h_a_nests : 0 ≤ (a_nests).toInt ∧ (a_nests).toInt ≤ 4) (h_e_end : Iv 4 (0) (1000) e_end) : KK l D (TY cyC cyI cyJ cyZ cyO) yX5_findMay cX5_findMay 3 none ({ frames := 3, cells := 0, slots := 0, locals := 76 } : Room) 0 0 [.ref r0] [(r0, .inr (5, [.ref t0, .ref e0, .ref r1, .ref r2, .ref a0, .int r_habits, .int r_fault])), (e0, .inr (1, [.int e_size, .int e_nests, .ref e1, .ref e2, .ref e3])), (e1, .inl (cyI, 1000, .inl e_steps)), (e2, .inl (cyI, 4, .inl e_end)), (e3, .inl (cyI, 32, .inl e_values)), (a0, .inr (9, [.int a_wares, .int a_shelves, .int a_nests, .ref a1, .ref a2, .ref a3, .ref a4, .ref a5, .ref a6, .int a_lids, .int a_tops, .ref a7, .ref a8, .ref a9, .ref a10])), (a1, .inl (cyI, 12, .inl a_wide)), (a2, .inl (cyI, 12, .inl a_deep)), (a3, .inl (cyI, 12, .inl a_weight)), (a7, .inl (cyI, 12, .inl a_mayOn))] (fun u => none) (fun u => True) (fun u => [(r0, .inr (5, [.ref t0, .ref e0, .ref r1, .ref r2, .ref a0, .int r_habits, .int r_fault])), (e0, .inr (1, [.int e_size, .int e_nests, .ref e1, .ref e2, .ref e3])), (e1, .inl (cyI, 1000, .inl e_steps)), (e2, .inl (cyI, 4, .inl e_end)), (e3, .inl (cyI, 32, .inl (u.2.2.1 0))), (a0, .inr (9, [.int a_wares, .int a_shelves, .int a_nests, .ref a1, .ref a2, .ref a3, .ref a4, .ref a5, .ref a6, .int a_lids, .int a_tops, .ref a7, .ref a8, .ref a9, .ref a10])), (a1, .inl (cyI, 12, .inl a_wide)), (a2, .inl (cyI, 12, .inl a_deep)), (a3, .inl (cyI, 12, .inl a_weight)), (a7, .inl (cyI, 12, .inl (u.2.2.1 1)))]) := by
  refine KK.of (lv0 := [(0, .ref r0)]) (by decide) rfl (Nat.le_of_ble_eq_true rfl) ?_
  intro p e s m args below meth c A C hr hk hin
  refine j_aload_n (pc := 0) C dX5_findMay_0 rfl 0 rfl ?_
  refine j_get (pc := 1) (ci := 5) (v := .ref a0) C inw_5 0 rfl rfl 4 (by decide) wd_299 rfl rfl dX5_findMay_1 ?_
  refine j_get (pc := 4) (ci := 9) (v := .ref a7) C inw_9 5 rfl rfl 11 (by decide) wd_410 rfl rfl dX5_findMay_4 ?_
  refine j_iconst (pc := 7) (v := 0) C dX5_findMay_7 (by decide) ?_
  refine j_callS (pc := 8) (As := [.ref a7, .int 0]) (rest := []) (wr := [(r0, .inr (5, [.ref t0, .ref e0, .ref r1, .ref r2, .ref a0, .int r_habits, .int r_fault])), (e0, .inr (1, [.int e_size, .int e_nests, .ref e1, .ref e2, .ref e3])), (e1, .inl (cyI, 1000, .inl e_steps)), (e2, .inl (cyI, 4, .inl e_end)), (e3, .inl (cyI, 32, .inl e_values)), (a0, .inr (9, [.int a_wares, .int a_shelves, .int a_nests, .ref a1, .ref a2, .ref a3, .ref a4, .ref a5, .ref a6, .int a_lids, .int a_tops, .ref a7, .ref a8, .ref a9, .ref a10])), (a1, .inl (cyI, 12, .inl a_wide)), (a2, .inl (cyI, 12, .inl a_deep)), (a3, .inl (cyI, 12, .inl a_weight))]) C (c_fill l D cyC cyI cyJ cyZ cyO a7 0 a_mayOn) wd_50 wd_51 wd_411 wd_53 ⟨by decide, by decide, rfl⟩ rfl ⟨rfl, rfl, by decide, by decide⟩ ⟨by decide, by decide⟩ [9] [0, 1, 2, 3, 4, 5, 6, 7, 8] rfl rfl ⟨by decide, by decide, by decide⟩ rfl (Nat.le_of_ble_eq_true rfl) dX5_findMay_8 (fun u_1 hw_2 => ?_)
  refine j_eq (ws2 := [(r0, .inr (5, [.ref t0, .ref e0, .ref r1, .ref r2, .ref a0, .int r_habits, .int r_fault])), (e0, .inr (1, [.int e_size, .int e_nests, .ref e1, .ref e2, .ref e3])), (e1, .inl (cyI, 1000, .inl e_steps)), (e2, .inl (cyI, 4, .inl e_end)), (e3, .inl (cyI, 32, .inl e_values)), (a0, .inr (9, [.int a_wares, .int a_shelves, .int a_nests, .ref a1, .ref a2, .ref a3, .ref a4, .ref a5, .ref a6, .int a_lids, .int a_tops, .ref a7, .ref a8, .ref a9, .ref a10])), (a1, .inl (cyI, 12, .inl a_wide)), (a2, .inl (cyI, 12, .inl a_deep)), (a3, .inl (cyI, 12, .inl a_weight)), (a7, .inl (cyI, 12, .inl (fun _ => 0)))]) (pc2 := 11) (lv2 := [(0, .ref r0)]) (st2 := []) rfl rfl rfl rfl ?_
  refine j_iconst (pc := 11) (v := 0) C dX5_findMay_11 (by decide) ?_
  refine j_istore_n (pc := 12) (lv' := [(1, .int 0), (0, .ref r0)]) C dX5_findMay_12 rfl (by decide) rfl ?_
  have loop_3 : ∀ (k_3 : Nat) (x3_1 : Int32) (g3_e3 : Nat → Int32) (g3_a7 : Nat → Int32), (0 ≤ (x3_1).toInt ∧ (x3_1).toInt ≤ 12) → (12 - x3_1.toInt).toNat < k_3 → J p l e ({ frames := 3, cells := 0, slots := 0, locals := 76 } : Room) s m args below meth c D A 3 0 0 (QX below D (TY cyC cyI cyJ cyZ cyO) A (fun u => none) (fun u => True) (fun u => [(r0, .inr (5, [.ref t0, .ref e0, .ref r1, .ref r2, .ref a0, .int r_habits, .int r_fault])), (e0, .inr (1, [.int e_size, .int e_nests, .ref e1, .ref e2, .ref e3])), (e1, .inl (cyI, 1000, .inl e_steps)), (e2, .inl (cyI, 4, .inl e_end)), (e3, .inl (cyI, 32, .inl (u.2.2.1 0))), (a0, .inr (9, [.int a_wares, .int a_shelves, .int a_nests, .ref a1, .ref a2, .ref a3, .ref a4, .ref a5, .ref a6, .int a_lids, .int a_tops, .ref a7, .ref a8, .ref a9, .ref a10])), (a1, .inl (cyI, 12, .inl a_wide)), (a2, .inl (cyI, 12, .inl a_deep)), (a3, .inl (cyI, 12, .inl a_weight)), (a7, .inl (cyI, 12, .inl (u.2.2.1 1)))]) args s 0 0) [(r0, .inr (5, [.ref t0, .ref e0, .ref r1, .ref r2, .ref a0, .int r_habits, .int r_fault])), (e0, .inr (1, [.int e_size, .int e_nests, .ref e1, .ref e2, .ref e3])), (e1, .inl (cyI, 1000, .inl e_steps)), (e2, .inl (cyI, 4, .inl e_end)), (e3, .inl (cyI, 32, .inl g3_e3)), (a0, .inr (9, [.int a_wares, .int a_shelves, .int a_nests, .ref a1, .ref a2, .ref a3, .ref a4, .ref a5, .ref a6, .int a_lids, .int a_tops, .ref a7, .ref a8, .ref a9, .ref a10])), (a1, .inl (cyI, 12, .inl a_wide)), (a2, .inl (cyI, 12, .inl a_deep)), (a3, .inl (cyI, 12, .inl a_weight)), (a7, .inl (cyI, 12, .inl g3_a7))] 13 [(1, .int x3_1), (0, .ref r0)] [] := by
    intro k_3
    induction k_3 with
    | zero =>
      intro x3_1 g3_e3 g3_a7 hi_3_0 hm_3
      exact absurd hm_3 (Nat.not_lt_zero _)
    | succ k_3 ih_3 =>
      intro x3_1 g3_e3 g3_a7 hi_3_0 hm_3
      refine j_iload_n (pc := 13) C dX5_findMay_13 rfl 0 rfl ?_
      refine j_aload_n (pc := 14) C dX5_findMay_14 rfl 1 rfl ?_
      refine j_get (pc := 15) (ci := 5) (v := .ref a0) C inw_5 0 rfl rfl 4 (by decide) wd_299 rfl rfl dX5_findMay_15 ?_
      refine j_get (pc := 18) (ci := 9) (v := .int a_wares) C inw_9 5 rfl rfl 0 (by decide) wd_326 rfl rfl dX5_findMay_18 ?_
      refine j_icmp_ge (pc := 21) (tgt := 85) C dX5_findMay_21 (by decide) (fun c_4 => ?_) (fun c_4 => ?_)
      · skip
        rw [i_le] at c_4
        exact j_vret (pc := 85) C hr hk (fun i => [].getD i 0, fun i => [].getD i 0, fun i => [g3_e3, g3_a7].getD i (fun _ => 0), fun i => [].getD i (fun _ => 0)) rfl trivial [0, 1, 2, 3, 4, 5, 6, 7, 8, 9] (by decide) rfl (by decide) (by decide) dX5_findMay_85
      · skip
        rw [i_le] at c_4
        refine j_iconst (pc := 24) (v := 0) C dX5_findMay_24 (by decide) ?_
        refine j_istore_n (pc := 25) (lv' := [(2, .int 0), (1, .int x3_1), (0, .ref r0)]) C dX5_findMay_25 rfl (by decide) rfl ?_
        have loop_5 : ∀ (k_5 : Nat) (x5_2 : Int32) (g5_e3 : Nat → Int32) (g5_a7 : Nat → Int32), (0 ≤ (x5_2).toInt ∧ (x5_2).toInt ≤ 12) → (12 - x5_2.toInt).toNat < k_5 → J p l e ({ frames := 3, cells := 0, slots := 0, locals := 76 } : Room) s m args below meth c D A 3 0 0 (QX below D (TY cyC cyI cyJ cyZ cyO) A (fun u => none) (fun u => True) (fun u => [(r0, .inr (5, [.ref t0, .ref e0, .ref r1, .ref r2, .ref a0, .int r_habits, .int r_fault])), (e0, .inr (1, [.int e_size, .int e_nests, .ref e1, .ref e2, .ref e3])), (e1, .inl (cyI, 1000, .inl e_steps)), (e2, .inl (cyI, 4, .inl e_end)), (e3, .inl (cyI, 32, .inl (u.2.2.1 0))), (a0, .inr (9, [.int a_wares, .int a_shelves, .int a_nests, .ref a1, .ref a2, .ref a3, .ref a4, .ref a5, .ref a6, .int a_lids, .int a_tops, .ref a7, .ref a8, .ref a9, .ref a10])), (a1, .inl (cyI, 12, .inl a_wide)), (a2, .inl (cyI, 12, .inl a_deep)), (a3, .inl (cyI, 12, .inl a_weight)), (a7, .inl (cyI, 12, .inl (u.2.2.1 1)))]) args s 0 0) [(r0, .inr (5, [.ref t0, .ref e0, .ref r1, .ref r2, .ref a0, .int r_habits, .int r_fault])), (e0, .inr (1, [.int e_size, .int e_nests, .ref e1, .ref e2, .ref e3])), (e1, .inl (cyI, 1000, .inl e_steps)), (e2, .inl (cyI, 4, .inl e_end)), (e3, .inl (cyI, 32, .inl g5_e3)), (a0, .inr (9, [.int a_wares, .int a_shelves, .int a_nests, .ref a1, .ref a2, .ref a3, .ref a4, .ref a5, .ref a6, .int a_lids, .int a_tops, .ref a7, .ref a8, .ref a9, .ref a10])), (a1, .inl (cyI, 12, .inl a_wide)), (a2, .inl (cyI, 12, .inl a_deep)), (a3, .inl (cyI, 12, .inl a_weight)), (a7, .inl (cyI, 12, .inl g5_a7))] 26 [(2, .int x5_2), (1, .int x3_1), (0, .ref r0)] [] := by
          intro k_5
          induction k_5 with
          | zero =>
            intro x5_2 g5_e3 g5_a7 hi_5_0 hm_5
            exact absurd hm_5 (Nat.not_lt_zero _)
          | succ k_5 ih_5 =>
            intro x5_2 g5_e3 g5_a7 hi_5_0 hm_5
            refine j_iload_n (pc := 26) C dX5_findMay_26 rfl 0 rfl ?_
            refine j_aload_n (pc := 27) C dX5_findMay_27 rfl 2 rfl ?_
            refine j_get (pc := 28) (ci := 5) (v := .ref a0) C inw_5 0 rfl rfl 4 (by decide) wd_299 rfl rfl dX5_findMay_28 ?_
            refine j_get (pc := 31) (ci := 9) (v := .int a_wares) C inw_9 5 rfl rfl 0 (by decide) wd_326 rfl rfl dX5_findMay_31 ?_
            refine j_icmp_ge (pc := 34) (tgt := 79) C dX5_findMay_34 (by decide) (fun c_6 => ?_) (fun c_6 => ?_)
            · skip
              rw [i_le] at c_6
              obtain ⟨v_7, ev_7⟩ : ∃ z : Int32, x3_1 + 1 = z := ⟨_, rfl⟩
              have el_1 : (1 : Int32).toInt = 1 := rfl
              have hv_7 : v_7.toInt = x3_1.toInt + (1 : Int32).toInt := by rw [← ev_7]; exact fb_addI (by omega) (by omega)
              refine j_iinc (pc := 79) (v := v_7) (lv' := [(1, .int v_7), (2, .int x5_2), (0, .ref r0)]) C dX5_findMay_79 1 rfl ev_7 (by decide) rfl ?_
              refine j_goto (pc := 82) (tgt := 13) C dX5_findMay_82 (by decide) ?_
              exact j_lv [0, 2] rfl (ih_3 v_7 g5_e3 g5_a7 (by omega) (by omega))
            · skip
              rw [i_le] at c_6
              refine j_iload_n (pc := 37) C dX5_findMay_37 rfl 0 rfl ?_
              refine j_iload_n (pc := 38) C dX5_findMay_38 rfl 1 rfl ?_
              refine j_icmp_eq (pc := 39) (tgt := 73) C dX5_findMay_39 (by decide) (fun c_8 => ?_) (fun c_8 => ?_)
              · skip
                rw [i_eq] at c_8
                obtain ⟨v_9, ev_9⟩ : ∃ z : Int32, x5_2 + 1 = z := ⟨_, rfl⟩
                have el_1 : (1 : Int32).toInt = 1 := rfl
                have hv_9 : v_9.toInt = x5_2.toInt + (1 : Int32).toInt := by rw [← ev_9]; exact fb_addI (by omega) (by omega)
                refine j_iinc (pc := 73) (v := v_9) (lv' := [(2, .int v_9), (1, .int x3_1), (0, .ref r0)]) C dX5_findMay_73 0 rfl ev_9 (by decide) rfl ?_
                refine j_goto (pc := 76) (tgt := 26) C dX5_findMay_76 (by decide) ?_
                exact j_lv [0, 1, 2] rfl (ih_5 v_9 g5_e3 g5_a7 (by omega) (by omega))
              · skip
                rw [i_eq] at c_8
                refine j_aload_n (pc := 42) C dX5_findMay_42 rfl 2 rfl ?_
                refine j_get (pc := 43) (ci := 5) (v := .ref e0) C inw_5 0 rfl rfl 1 (by decide) wd_344 rfl rfl dX5_findMay_43 ?_
                refine j_aload_n (pc := 46) C dX5_findMay_46 rfl 2 rfl ?_
                refine j_get (pc := 47) (ci := 5) (v := .ref a0) C inw_5 0 rfl rfl 4 (by decide) wd_299 rfl rfl dX5_findMay_47 ?_
                refine j_iload_n (pc := 50) C dX5_findMay_50 rfl 0 rfl ?_
                refine j_iload_n (pc := 51) C dX5_findMay_51 rfl 1 rfl ?_
                refine j_callV (pc := 52) (As := [.ref a0, .int x5_2, .int x3_1]) (rest := []) (wr := [(r0, .inr (5, [.ref t0, .ref e0, .ref r1, .ref r2, .ref a0, .int r_habits, .int r_fault])), (a7, .inl (cyI, 12, .inl g5_a7))]) C (c_X1_allow l D cyC cyI cyJ cyZ cyO e0 e1 e2 e3 a0 a1 a2 a3 a4 a5 a6 a7 a8 a9 a10 x5_2 x3_1 e_size e_nests a_wares a_shelves a_nests a_lids a_tops e_steps e_end g5_e3 a_wide a_deep a_weight (by omega) (by omega) (by omega) (by omega) (by omega) (by omega) (by omega) h_e_end) wd_412 wd_200 wd_413 wd_414 wd_415 ⟨by decide, by decide, rfl⟩ rfl ⟨rfl, rfl, by decide, by decide⟩ ⟨by decide, by decide⟩ [1, 2, 3, 4, 5, 6, 7, 8] [0, 9] rfl rfl ⟨by decide, by decide, by decide⟩ 1 rfl rfl rfl (Nat.le_of_ble_eq_true rfl) dX5_findMay_52 (fun u_10 hw_11 => ?_)
                refine j_eq (ws2 := [(r0, .inr (5, [.ref t0, .ref e0, .ref r1, .ref r2, .ref a0, .int r_habits, .int r_fault])), (a7, .inl (cyI, 12, .inl g5_a7)), (e0, .inr (1, [.int e_size, .int e_nests, .ref e1, .ref e2, .ref e3])), (e1, .inl (cyI, 1000, .inl e_steps)), (e2, .inl (cyI, 4, .inl e_end)), (e3, .inl (cyI, 32, .inl (u_10.2.2.1 0))), (a0, .inr (9, [.int a_wares, .int a_shelves, .int a_nests, .ref a1, .ref a2, .ref a3, .ref a4, .ref a5, .ref a6, .int a_lids, .int a_tops, .ref a7, .ref a8, .ref a9, .ref a10])), (a1, .inl (cyI, 12, .inl a_wide)), (a2, .inl (cyI, 12, .inl a_deep)), (a3, .inl (cyI, 12, .inl a_weight))]) (pc2 := 55) (lv2 := [(2, .int x5_2), (1, .int x3_1), (0, .ref r0)]) (st2 := [.int (u_10.2.1 0)]) rfl rfl rfl rfl ?_
                have hw_11_0 : 0 ≤ (u_10.2.1 0).toInt ∧ (u_10.2.1 0).toInt ≤ 1 := hw_11
                refine j_if_eq (pc := 55) (tgt := 73) C dX5_findMay_55 (by decide) (fun c_12 => ?_) (fun c_12 => ?_)
                · skip
                  have el_0 : (0 : Int32).toInt = 0 := rfl
                  rw [i_eq] at c_12
                  obtain ⟨v_13, ev_13⟩ : ∃ z : Int32, x5_2 + 1 = z := ⟨_, rfl⟩
                  have el_1 : (1 : Int32).toInt = 1 := rfl
                  have hv_13 : v_13.toInt = x5_2.toInt + (1 : Int32).toInt := by rw [← ev_13]; exact fb_addI (by omega) (by omega)
                  refine j_iinc (pc := 73) (v := v_13) (lv' := [(2, .int v_13), (1, .int x3_1), (0, .ref r0)]) C dX5_findMay_73 0 rfl ev_13 (by decide) rfl ?_
                  refine j_goto (pc := 76) (tgt := 26) C dX5_findMay_76 (by decide) ?_
                  refine j_subG (ws' := [(r0, .inr (5, [.ref t0, .ref e0, .ref r1, .ref r2, .ref a0, .int r_habits, .int r_fault])), (e0, .inr (1, [.int e_size, .int e_nests, .ref e1, .ref e2, .ref e3])), (e1, .inl (cyI, 1000, .inl e_steps)), (e2, .inl (cyI, 4, .inl e_end)), (e3, .inl (cyI, 32, .inl (u_10.2.2.1 0))), (a0, .inr (9, [.int a_wares, .int a_shelves, .int a_nests, .ref a1, .ref a2, .ref a3, .ref a4, .ref a5, .ref a6, .int a_lids, .int a_tops, .ref a7, .ref a8, .ref a9, .ref a10])), (a1, .inl (cyI, 12, .inl a_wide)), (a2, .inl (cyI, 12, .inl a_deep)), (a3, .inl (cyI, 12, .inl a_weight)), (a7, .inl (cyI, 12, .inl g5_a7))]) [0, 2, 3, 4, 5, 6, 7, 8, 9, 1] (by decide) rfl ?_
                  exact j_lv [0, 1, 2] rfl (ih_5 v_13 (u_10.2.2.1 0) g5_a7 (by omega) (by omega))
                · skip
                  have el_0 : (0 : Int32).toInt = 0 := rfl
                  rw [i_eq] at c_12
                  refine j_aload_n (pc := 58) C dX5_findMay_58 rfl 2 rfl ?_
                  refine j_get (pc := 59) (ci := 5) (v := .ref a0) C inw_5 0 rfl rfl 4 (by decide) wd_299 rfl rfl dX5_findMay_59 ?_
                  refine j_get (pc := 62) (ci := 9) (v := .ref a7) C inw_9 6 rfl rfl 11 (by decide) wd_410 rfl rfl dX5_findMay_62 ?_
                  refine j_iload_n (pc := 65) C dX5_findMay_65 rfl 1 rfl ?_
                  refine j_dup2 (pc := 66) C dX5_findMay_66 rfl rfl ?_
                  obtain ⟨v_14, ev_14⟩ : ∃ z, g5_a7 (x3_1).toInt.toNat = z := ⟨_, rfl⟩
                  have env_14 : (g5_a7 (x3_1).toInt.toNat).toInt = v_14.toInt := by rw [ev_14]
                  refine j_iald (pc := 67) (v := v_14) (k := (x3_1).toInt.toNat) C 1 1 rfl rfl (i_nn (by omega)) rfl (i_lt_n (by omega) (by omega)) ev_14 dX5_findMay_67 ?_
                  refine j_iconst (pc := 68) (v := 1) C dX5_findMay_68 (by decide) ?_
                  refine j_iload_n (pc := 69) C dX5_findMay_69 rfl 0 rfl ?_
                  obtain ⟨v_15, ev_15⟩ : ∃ z : Int32, 1 <<< (x5_2 &&& 31) = z := ⟨_, rfl⟩
                  have el_1 : (1 : Int32).toInt = 1 := rfl
                  have hv_15 : 1 ≤ v_15.toInt ∧ v_15.toInt ≤ 2048 := by rw [← ev_15]; exact shl1_iv 0 11 (by omega) (by omega) (by omega)
                  refine j_ishl (pc := 70) (v := v_15) C dX5_findMay_70 ev_15 ?_
                  obtain ⟨v_16, ev_16⟩ : ∃ z : Int32, v_14 ||| v_15 = z := ⟨_, rfl⟩
                  refine j_ior (pc := 71) (v := v_16) C dX5_findMay_71 ev_16 ?_
                  obtain ⟨f_17, ef_17⟩ : ∃ z, z = upd g5_a7 (x3_1).toInt.toNat v_16 := ⟨_, rfl⟩
                  refine j_iast (pc := 72) (k := (x3_1).toInt.toNat) (ws' := [(r0, .inr (5, [.ref t0, .ref e0, .ref r1, .ref r2, .ref a0, .int r_habits, .int r_fault])), (a7, .inl (cyI, 12, .inl f_17)), (e0, .inr (1, [.int e_size, .int e_nests, .ref e1, .ref e2, .ref e3])), (e1, .inl (cyI, 1000, .inl e_steps)), (e2, .inl (cyI, 4, .inl e_end)), (e3, .inl (cyI, 32, .inl (u_10.2.2.1 0))), (a0, .inr (9, [.int a_wares, .int a_shelves, .int a_nests, .ref a1, .ref a2, .ref a3, .ref a4, .ref a5, .ref a6, .int a_lids, .int a_tops, .ref a7, .ref a8, .ref a9, .ref a10])), (a1, .inl (cyI, 12, .inl a_wide)), (a2, .inl (cyI, 12, .inl a_deep)), (a3, .inl (cyI, 12, .inl a_weight))]) C 1 1 rfl rfl (i_nn (by omega)) rfl (i_lt_n (by omega) (by omega)) dX5_findMay_72 (by rw [ef_17]; rfl) ?_
                  obtain ⟨v_18, ev_18⟩ : ∃ z : Int32, x5_2 + 1 = z := ⟨_, rfl⟩
                  have el_1 : (1 : Int32).toInt = 1 := rfl
                  have hv_18 : v_18.toInt = x5_2.toInt + (1 : Int32).toInt := by rw [← ev_18]; exact fb_addI (by omega) (by omega)
                  refine j_iinc (pc := 73) (v := v_18) (lv' := [(2, .int v_18), (1, .int x3_1), (0, .ref r0)]) C dX5_findMay_73 0 rfl ev_18 (by decide) rfl ?_
                  refine j_goto (pc := 76) (tgt := 26) C dX5_findMay_76 (by decide) ?_
                  refine j_subG (ws' := [(r0, .inr (5, [.ref t0, .ref e0, .ref r1, .ref r2, .ref a0, .int r_habits, .int r_fault])), (e0, .inr (1, [.int e_size, .int e_nests, .ref e1, .ref e2, .ref e3])), (e1, .inl (cyI, 1000, .inl e_steps)), (e2, .inl (cyI, 4, .inl e_end)), (e3, .inl (cyI, 32, .inl (u_10.2.2.1 0))), (a0, .inr (9, [.int a_wares, .int a_shelves, .int a_nests, .ref a1, .ref a2, .ref a3, .ref a4, .ref a5, .ref a6, .int a_lids, .int a_tops, .ref a7, .ref a8, .ref a9, .ref a10])), (a1, .inl (cyI, 12, .inl a_wide)), (a2, .inl (cyI, 12, .inl a_deep)), (a3, .inl (cyI, 12, .inl a_weight)), (a7, .inl (cyI, 12, .inl f_17))]) [0, 2, 3, 4, 5, 6, 7, 8, 9, 1] (by decide) rfl ?_
                  exact j_lv [0, 1, 2] rfl (ih_5 v_18 (u_10.2.2.1 0) f_17 (by omega) (by omega))
        have el_0 : (0 : Int32).toInt = 0 := rfl
        exact j_lv [0, 1, 2] rfl (loop_5 4096 0 g3_e3 g3_a7 (by decide) (by omega))
  have el_0 : (0 : Int32).toInt = 0 := rfl
  exact j_lv [0, 1] rfl (loop_3 4096 0 e_values (fun _ => 0) (by decide) (by omega))
set_option maxHeartbeats 4000000 in
set_option maxRecDepth 100000 in
theorem c_X5_read (l : Launch) (D : DG) (cyC cyI cyJ cyZ cyO : ClassId) (r0 : Nat) (r1 : Nat) (r2 : Nat) (t0 : Nat) (t1 : Nat) (e0 : Nat) (e1 : Nat) (e2 : Nat) (e3 : Nat) (a0 : Nat) (a1 : Nat) (a2 : Nat) (a3 : Nat) (a4 : Nat) (a5 : Nat) (a6 : Nat) (a7 : Nat) (a8 : Nat) (a9 : Nat) (a10 : Nat) (r_habits : Int32) (r_fault : Int32) (t_length : Int32) (t_next : Int32) (t_kind : Int32) (t_place : Int32) (t_number : Int32) (e_size : Int32) (e_nests : Int32) (a_wares : Int32) (a_shelves : Int32) (a_nests : Int32) (a_lids : Int32) (a_tops : Int32) (r_wn : Nat → Int64) (r_sn : Nat → Int64) (t_text : Nat → Int32) (e_steps : Nat → Int32) (e_end : Nat → Int32) (e_values : Nat → Int32) (a_wide : Nat → Int32) (a_deep : Nat → Int32) (a_weight : Nat → Int32) (a_bears : Nat → Int32) (a_breaks : Nat → Int32) (a_habit : Nat → Int32) (a_mayOn : Nat → Int32) (a_height : Nat → Int32) (a_reach : Nat → Int32) (a_room : Nat → Int32) (h_t_length : 0 ≤ (t_length).toInt ∧ (t_length).toInt ≤ 1000) (h_t_next : 0 ≤ (t_next).toInt ∧ (t_next).toInt ≤ 1000) (h_t_kind : 0 ≤ (t_kind).toInt ∧ (t_kind).toInt ≤ 4) (h_t_place : 0 ≤ (t_place).toInt ∧ (t_place).toInt ≤ 1000) (h_e_size : 0 ≤ (e_size).toInt ∧ (e_size).toInt ≤ 1000) (h_e_nests : 0 ≤ (e_nests).toInt ∧ (e_nests).toInt ≤ 4) (h_a_wares : 0 ≤ (a_wares).toInt ∧ (a_wares).toInt ≤ 12) (h_a_shelves : 0 ≤ (a_shelves).toInt ∧ (a_shelves).toInt ≤ 4) (h_a_nests : 0 ≤ (a_nests).toInt ∧ (a_nests).toInt ≤ 4) (h_t_text : Iv 1000 (0) (126) t_text) (h_e_end : Iv 4 (0) (1000) e_end) (h_a_room : Iv 4 (0) (8) a_room) (ht3 : ¬ (t_kind).toInt = 3 ∨ (t_place).toInt ≤ 999) : KK l D (TY cyC cyI cyJ cyZ cyO) yX5_read cX5_read 3 (some .int) ({ frames := 44, cells := 0, slots := 0, locals := 1097 } : Room) 0 0 [.ref r0] [(r0, .inr (5, [.ref t0, .ref e0, .ref r1, .ref r2, .ref a0, .int r_habits, .int r_fault])), (r1, .inl (cyJ, 12, .inr (.inl r_wn))), (r2, .inl (cyJ, 4, .inr (.inl r_sn))), (t0, .inr (8, [.ref t1, .int t_length, .int t_next, .int t_kind, .int t_place, .int t_number])), (t1, .inl (cyC, 1000, .inl t_text)), (e0, .inr (1, [.int e_size, .int e_nests, .ref e1, .ref e2, .ref e3])), (e1, .inl (cyI, 1000, .inl e_steps)), (e2, .inl (cyI, 4, .inl e_end)), (e3, .inl (cyI, 32, .inl e_values)), (a0, .inr (9, [.int a_wares, .int a_shelves, .int a_nests, .ref a1, .ref a2, .ref a3, .ref a4, .ref a5, .ref a6, .int a_lids, .int a_tops, .ref a7, .ref a8, .ref a9, .ref a10])), (a1, .inl (cyI, 12, .inl a_wide)), (a2, .inl (cyI, 12, .inl a_deep)), (a3, .inl (cyI, 12, .inl a_weight)), (a4, .inl (cyI, 12, .inl a_bears)), (a5, .inl (cyI, 12, .inl a_breaks)), (a6, .inl (cyI, 12, .inl a_habit)), (a7, .inl (cyI, 12, .inl a_mayOn)), (a8, .inl (cyI, 4, .inl a_height)), (a9, .inl (cyI, 4, .inl a_reach)), (a10, .inl (cyI, 4, .inl a_room))] (fun u => some (.int (u.2.1 0))) (fun u => (0 ≤ (u.2.1 3).toInt ∧ (u.2.1 3).toInt ≤ 1000) ∧ (0 ≤ (u.2.1 4).toInt ∧ (u.2.1 4).toInt ≤ 4) ∧ (0 ≤ (u.2.1 5).toInt ∧ (u.2.1 5).toInt ≤ 1000) ∧ (0 ≤ (u.2.1 7).toInt ∧ (u.2.1 7).toInt ≤ 1000) ∧ (0 ≤ (u.2.1 8).toInt ∧ (u.2.1 8).toInt ≤ 4) ∧ (Iv 4 (0) (1000) (u.2.2.1 1)) ∧ (0 ≤ (u.2.1 9).toInt ∧ (u.2.1 9).toInt ≤ 12) ∧ (0 ≤ (u.2.1 10).toInt ∧ (u.2.1 10).toInt ≤ 4) ∧ (0 ≤ (u.2.1 11).toInt ∧ (u.2.1 11).toInt ≤ 4) ∧ (Iv 4 (0) (8) (u.2.2.1 12)) ∧ (¬ ((u.2.1 4)).toInt = 3 ∨ ((u.2.1 5)).toInt ≤ 999) ∧ (((u.2.1 0)).toInt = cup t_text (t_length).toInt.toNat)) (fun u => [(r0, .inr (5, [.ref t0, .ref e0, .ref r1, .ref r2, .ref a0, .int (u.2.1 1), .int (u.2.1 2)])), (r1, .inl (cyJ, 12, .inr (.inl (u.2.2.2 0)))), (r2, .inl (cyJ, 4, .inr (.inl (u.2.2.2 1)))), (t0, .inr (8, [.ref t1, .int 0, .int (u.2.1 3), .int (u.2.1 4), .int (u.2.1 5), .int (u.2.1 6)])), (t1, .inl (cyC, 1000, .inl t_text)), (e0, .inr (1, [.int (u.2.1 7), .int (u.2.1 8), .ref e1, .ref e2, .ref e3])), (e1, .inl (cyI, 1000, .inl (u.2.2.1 0))), (e2, .inl (cyI, 4, .inl (u.2.2.1 1))), (e3, .inl (cyI, 32, .inl (u.2.2.1 2))), (a0, .inr (9, [.int (u.2.1 9), .int (u.2.1 10), .int (u.2.1 11), .ref a1, .ref a2, .ref a3, .ref a4, .ref a5, .ref a6, .int (u.2.1 12), .int (u.2.1 13), .ref a7, .ref a8, .ref a9, .ref a10])), (a1, .inl (cyI, 12, .inl (u.2.2.1 3))), (a2, .inl (cyI, 12, .inl (u.2.2.1 4))), (a3, .inl (cyI, 12, .inl (u.2.2.1 5))), (a4, .inl (cyI, 12, .inl (u.2.2.1 6))), (a5, .inl (cyI, 12, .inl (u.2.2.1 7))), (a6, .inl (cyI, 12, .inl (u.2.2.1 8))), (a7, .inl (cyI, 12, .inl (u.2.2.1 9))), (a8, .inl (cyI, 4, .inl (u.2.2.1 10))), (a9, .inl (cyI, 4, .inl (u.2.2.1 11))), (a10, .inl (cyI, 4, .inl (u.2.2.1 12)))]) := by
  refine KK.of (lv0 := [(0, .ref r0)]) (by decide) rfl (Nat.le_of_ble_eq_true rfl) ?_
  intro p e s m args below meth c A C hr hk hin
  refine j_aload_n (pc := 0) C dX5_read_0 rfl 0 rfl ?_
  refine j_get (pc := 1) (ci := 5) (v := .ref a0) C inw_5 0 rfl rfl 4 (by decide) wd_299 rfl rfl dX5_read_1 ?_
  refine j_callV (pc := 4) (As := []) (rest := []) (wr := [(r0, .inr (5, [.ref t0, .ref e0, .ref r1, .ref r2, .ref a0, .int r_habits, .int r_fault])), (r1, .inl (cyJ, 12, .inr (.inl r_wn))), (r2, .inl (cyJ, 4, .inr (.inl r_sn))), (t0, .inr (8, [.ref t1, .int t_length, .int t_next, .int t_kind, .int t_place, .int t_number])), (t1, .inl (cyC, 1000, .inl t_text)), (e0, .inr (1, [.int e_size, .int e_nests, .ref e1, .ref e2, .ref e3])), (e1, .inl (cyI, 1000, .inl e_steps)), (e2, .inl (cyI, 4, .inl e_end)), (e3, .inl (cyI, 32, .inl e_values)), (a1, .inl (cyI, 12, .inl a_wide)), (a2, .inl (cyI, 12, .inl a_deep)), (a3, .inl (cyI, 12, .inl a_weight)), (a4, .inl (cyI, 12, .inl a_bears)), (a5, .inl (cyI, 12, .inl a_breaks)), (a7, .inl (cyI, 12, .inl a_mayOn)), (a8, .inl (cyI, 4, .inl a_height)), (a9, .inl (cyI, 4, .inl a_reach)), (a10, .inl (cyI, 4, .inl a_room))]) C (c_X9_empty l D cyC cyI cyJ cyZ cyO a0 a6 a1 a2 a3 a4 a5 a7 a8 a9 a10 a_wares a_shelves a_nests a_lids a_tops a_habit (by omega) (by omega) (by omega)) wd_416 wd_33 wd_417 wd_418 wd_419 ⟨by decide, by decide, rfl⟩ rfl ⟨rfl, rfl, by decide, by decide⟩ ⟨by decide, by decide⟩ [9, 15] [0, 1, 2, 3, 4, 5, 6, 7, 8, 10, 11, 12, 13, 14, 16, 17, 18, 19] rfl rfl ⟨by decide, by decide, by decide⟩ 9 rfl rfl rfl (Nat.le_of_ble_eq_true rfl) dX5_read_4 (fun u_1 hw_2 => ?_)
  refine j_eq (ws2 := [(r0, .inr (5, [.ref t0, .ref e0, .ref r1, .ref r2, .ref a0, .int r_habits, .int r_fault])), (r1, .inl (cyJ, 12, .inr (.inl r_wn))), (r2, .inl (cyJ, 4, .inr (.inl r_sn))), (t0, .inr (8, [.ref t1, .int t_length, .int t_next, .int t_kind, .int t_place, .int t_number])), (t1, .inl (cyC, 1000, .inl t_text)), (e0, .inr (1, [.int e_size, .int e_nests, .ref e1, .ref e2, .ref e3])), (e1, .inl (cyI, 1000, .inl e_steps)), (e2, .inl (cyI, 4, .inl e_end)), (e3, .inl (cyI, 32, .inl e_values)), (a1, .inl (cyI, 12, .inl a_wide)), (a2, .inl (cyI, 12, .inl a_deep)), (a3, .inl (cyI, 12, .inl a_weight)), (a4, .inl (cyI, 12, .inl a_bears)), (a5, .inl (cyI, 12, .inl a_breaks)), (a7, .inl (cyI, 12, .inl a_mayOn)), (a8, .inl (cyI, 4, .inl a_height)), (a9, .inl (cyI, 4, .inl a_reach)), (a10, .inl (cyI, 4, .inl a_room)), (a0, .inr (9, [.int 0, .int 0, .int 0, .ref a1, .ref a2, .ref a3, .ref a4, .ref a5, .ref a6, .int 0, .int 0, .ref a7, .ref a8, .ref a9, .ref a10])), (a6, .inl (cyI, 12, .inl (fun _ => 0)))]) (pc2 := 7) (lv2 := [(0, .ref r0)]) (st2 := []) rfl rfl rfl rfl ?_
  refine j_aload_n (pc := 7) C dX5_read_7 rfl 0 rfl ?_
  refine j_get (pc := 8) (ci := 5) (v := .ref e0) C inw_5 0 rfl rfl 1 (by decide) wd_344 rfl rfl dX5_read_8 ?_
  refine j_callV (pc := 11) (As := []) (rest := []) (wr := [(r0, .inr (5, [.ref t0, .ref e0, .ref r1, .ref r2, .ref a0, .int r_habits, .int r_fault])), (r1, .inl (cyJ, 12, .inr (.inl r_wn))), (r2, .inl (cyJ, 4, .inr (.inl r_sn))), (t0, .inr (8, [.ref t1, .int t_length, .int t_next, .int t_kind, .int t_place, .int t_number])), (t1, .inl (cyC, 1000, .inl t_text)), (e1, .inl (cyI, 1000, .inl e_steps)), (e2, .inl (cyI, 4, .inl e_end)), (e3, .inl (cyI, 32, .inl e_values)), (a1, .inl (cyI, 12, .inl a_wide)), (a2, .inl (cyI, 12, .inl a_deep)), (a3, .inl (cyI, 12, .inl a_weight)), (a4, .inl (cyI, 12, .inl a_bears)), (a5, .inl (cyI, 12, .inl a_breaks)), (a7, .inl (cyI, 12, .inl a_mayOn)), (a8, .inl (cyI, 4, .inl a_height)), (a9, .inl (cyI, 4, .inl a_reach)), (a10, .inl (cyI, 4, .inl a_room)), (a0, .inr (9, [.int 0, .int 0, .int 0, .ref a1, .ref a2, .ref a3, .ref a4, .ref a5, .ref a6, .int 0, .int 0, .ref a7, .ref a8, .ref a9, .ref a10])), (a6, .inl (cyI, 12, .inl (fun _ => 0)))]) C (c_X1_empty l D cyC cyI cyJ cyZ cyO e0 e1 e2 e3 e_size e_nests (by omega) (by omega)) wd_420 wd_200 wd_421 wd_422 wd_423 ⟨by decide, by decide, rfl⟩ rfl ⟨rfl, rfl, by decide, by decide⟩ ⟨by decide, by decide⟩ [5] [0, 1, 2, 3, 4, 6, 7, 8, 9, 10, 11, 12, 13, 14, 15, 16, 17, 18, 19] rfl rfl ⟨by decide, by decide, by decide⟩ 5 rfl rfl rfl (Nat.le_of_ble_eq_true rfl) dX5_read_11 (fun u_3 hw_4 => ?_)
  refine j_eq (ws2 := [(r0, .inr (5, [.ref t0, .ref e0, .ref r1, .ref r2, .ref a0, .int r_habits, .int r_fault])), (r1, .inl (cyJ, 12, .inr (.inl r_wn))), (r2, .inl (cyJ, 4, .inr (.inl r_sn))), (t0, .inr (8, [.ref t1, .int t_length, .int t_next, .int t_kind, .int t_place, .int t_number])), (t1, .inl (cyC, 1000, .inl t_text)), (e1, .inl (cyI, 1000, .inl e_steps)), (e2, .inl (cyI, 4, .inl e_end)), (e3, .inl (cyI, 32, .inl e_values)), (a1, .inl (cyI, 12, .inl a_wide)), (a2, .inl (cyI, 12, .inl a_deep)), (a3, .inl (cyI, 12, .inl a_weight)), (a4, .inl (cyI, 12, .inl a_bears)), (a5, .inl (cyI, 12, .inl a_breaks)), (a7, .inl (cyI, 12, .inl a_mayOn)), (a8, .inl (cyI, 4, .inl a_height)), (a9, .inl (cyI, 4, .inl a_reach)), (a10, .inl (cyI, 4, .inl a_room)), (a0, .inr (9, [.int 0, .int 0, .int 0, .ref a1, .ref a2, .ref a3, .ref a4, .ref a5, .ref a6, .int 0, .int 0, .ref a7, .ref a8, .ref a9, .ref a10])), (a6, .inl (cyI, 12, .inl (fun _ => 0))), (e0, .inr (1, [.int 0, .int 0, .ref e1, .ref e2, .ref e3]))]) (pc2 := 14) (lv2 := [(0, .ref r0)]) (st2 := []) rfl rfl rfl rfl ?_
  refine j_aload_n (pc := 14) C dX5_read_14 rfl 0 rfl ?_
  refine j_iconst (pc := 15) (v := 0) C dX5_read_15 (by decide) ?_
  refine j_put (pc := 16) (ci := 5) (v := .int 0) (ws' := [(r0, .inr (5, [.ref t0, .ref e0, .ref r1, .ref r2, .ref a0, .int 0, .int r_fault])), (r1, .inl (cyJ, 12, .inr (.inl r_wn))), (r2, .inl (cyJ, 4, .inr (.inl r_sn))), (t0, .inr (8, [.ref t1, .int t_length, .int t_next, .int t_kind, .int t_place, .int t_number])), (t1, .inl (cyC, 1000, .inl t_text)), (e1, .inl (cyI, 1000, .inl e_steps)), (e2, .inl (cyI, 4, .inl e_end)), (e3, .inl (cyI, 32, .inl e_values)), (a1, .inl (cyI, 12, .inl a_wide)), (a2, .inl (cyI, 12, .inl a_deep)), (a3, .inl (cyI, 12, .inl a_weight)), (a4, .inl (cyI, 12, .inl a_bears)), (a5, .inl (cyI, 12, .inl a_breaks)), (a7, .inl (cyI, 12, .inl a_mayOn)), (a8, .inl (cyI, 4, .inl a_height)), (a9, .inl (cyI, 4, .inl a_reach)), (a10, .inl (cyI, 4, .inl a_room)), (a0, .inr (9, [.int 0, .int 0, .int 0, .ref a1, .ref a2, .ref a3, .ref a4, .ref a5, .ref a6, .int 0, .int 0, .ref a7, .ref a8, .ref a9, .ref a10])), (a6, .inl (cyI, 12, .inl (fun _ => 0))), (e0, .inr (1, [.int 0, .int 0, .ref e1, .ref e2, .ref e3]))]) C inw_5 0 rfl rfl 5 (by decide) wd_379 rfl tyX5_ok nmX5 rfl (tyX5_ok 5 (by decide)) rfl rfl (Nat.le_of_ble_eq_true rfl) dX5_read_16 rfl ?_
  refine j_aload_n (pc := 19) C dX5_read_19 rfl 0 rfl ?_
  refine j_iconst (pc := 20) (v := 0) C dX5_read_20 (by decide) ?_
  refine j_put (pc := 21) (ci := 5) (v := .int 0) (ws' := [(r0, .inr (5, [.ref t0, .ref e0, .ref r1, .ref r2, .ref a0, .int 0, .int 0])), (r1, .inl (cyJ, 12, .inr (.inl r_wn))), (r2, .inl (cyJ, 4, .inr (.inl r_sn))), (t0, .inr (8, [.ref t1, .int t_length, .int t_next, .int t_kind, .int t_place, .int t_number])), (t1, .inl (cyC, 1000, .inl t_text)), (e1, .inl (cyI, 1000, .inl e_steps)), (e2, .inl (cyI, 4, .inl e_end)), (e3, .inl (cyI, 32, .inl e_values)), (a1, .inl (cyI, 12, .inl a_wide)), (a2, .inl (cyI, 12, .inl a_deep)), (a3, .inl (cyI, 12, .inl a_weight)), (a4, .inl (cyI, 12, .inl a_bears)), (a5, .inl (cyI, 12, .inl a_breaks)), (a7, .inl (cyI, 12, .inl a_mayOn)), (a8, .inl (cyI, 4, .inl a_height)), (a9, .inl (cyI, 4, .inl a_reach)), (a10, .inl (cyI, 4, .inl a_room)), (a0, .inr (9, [.int 0, .int 0, .int 0, .ref a1, .ref a2, .ref a3, .ref a4, .ref a5, .ref a6, .int 0, .int 0, .ref a7, .ref a8, .ref a9, .ref a10])), (a6, .inl (cyI, 12, .inl (fun _ => 0))), (e0, .inr (1, [.int 0, .int 0, .ref e1, .ref e2, .ref e3]))]) C inw_5 0 rfl rfl 6 (by decide) wd_298 rfl tyX5_ok nmX5 rfl (tyX5_ok 6 (by decide)) rfl rfl (Nat.le_of_ble_eq_true rfl) dX5_read_21 rfl ?_
  refine j_aload_n (pc := 24) C dX5_read_24 rfl 0 rfl ?_
  refine j_get (pc := 25) (ci := 5) (v := .ref t0) C inw_5 0 rfl rfl 0 (by decide) wd_296 rfl rfl dX5_read_25 ?_
  refine j_callV (pc := 28) (As := []) (rest := []) (wr := [(r0, .inr (5, [.ref t0, .ref e0, .ref r1, .ref r2, .ref a0, .int 0, .int 0])), (r1, .inl (cyJ, 12, .inr (.inl r_wn))), (r2, .inl (cyJ, 4, .inr (.inl r_sn))), (e1, .inl (cyI, 1000, .inl e_steps)), (e2, .inl (cyI, 4, .inl e_end)), (e3, .inl (cyI, 32, .inl e_values)), (a1, .inl (cyI, 12, .inl a_wide)), (a2, .inl (cyI, 12, .inl a_deep)), (a3, .inl (cyI, 12, .inl a_weight)), (a4, .inl (cyI, 12, .inl a_bears)), (a5, .inl (cyI, 12, .inl a_breaks)), (a7, .inl (cyI, 12, .inl a_mayOn)), (a8, .inl (cyI, 4, .inl a_height)), (a9, .inl (cyI, 4, .inl a_reach)), (a10, .inl (cyI, 4, .inl a_room)), (a0, .inr (9, [.int 0, .int 0, .int 0, .ref a1, .ref a2, .ref a3, .ref a4, .ref a5, .ref a6, .int 0, .int 0, .ref a7, .ref a8, .ref a9, .ref a10])), (a6, .inl (cyI, 12, .inl (fun _ => 0))), (e0, .inr (1, [.int 0, .int 0, .ref e1, .ref e2, .ref e3]))]) C (c_X8_start_f l D cyC cyI cyJ cyZ cyO t0 t1 t_length t_next t_kind t_place t_number t_text (by omega) (by omega) (by omega) (by omega) h_t_text) wd_424 wd_258 wd_425 wd_426 wd_427 ⟨by decide, by decide, rfl⟩ rfl ⟨rfl, rfl, by decide, by decide⟩ ⟨by decide, by decide⟩ [3, 4] [0, 1, 2, 5, 6, 7, 8, 9, 10, 11, 12, 13, 14, 15, 16, 17, 18, 19] rfl rfl ⟨by decide, by decide, by decide⟩ 3 rfl rfl rfl (Nat.le_of_ble_eq_true rfl) dX5_read_28 (fun u_5 hw_6 => ?_)
  refine j_eq (ws2 := [(r0, .inr (5, [.ref t0, .ref e0, .ref r1, .ref r2, .ref a0, .int 0, .int 0])), (r1, .inl (cyJ, 12, .inr (.inl r_wn))), (r2, .inl (cyJ, 4, .inr (.inl r_sn))), (e1, .inl (cyI, 1000, .inl e_steps)), (e2, .inl (cyI, 4, .inl e_end)), (e3, .inl (cyI, 32, .inl e_values)), (a1, .inl (cyI, 12, .inl a_wide)), (a2, .inl (cyI, 12, .inl a_deep)), (a3, .inl (cyI, 12, .inl a_weight)), (a4, .inl (cyI, 12, .inl a_bears)), (a5, .inl (cyI, 12, .inl a_breaks)), (a7, .inl (cyI, 12, .inl a_mayOn)), (a8, .inl (cyI, 4, .inl a_height)), (a9, .inl (cyI, 4, .inl a_reach)), (a10, .inl (cyI, 4, .inl a_room)), (a0, .inr (9, [.int 0, .int 0, .int 0, .ref a1, .ref a2, .ref a3, .ref a4, .ref a5, .ref a6, .int 0, .int 0, .ref a7, .ref a8, .ref a9, .ref a10])), (a6, .inl (cyI, 12, .inl (fun _ => 0))), (e0, .inr (1, [.int 0, .int 0, .ref e1, .ref e2, .ref e3])), (t0, .inr (8, [.ref t1, .int t_length, .int (u_5.2.1 0), .int (u_5.2.1 1), .int (u_5.2.1 2), .int (u_5.2.1 3)])), (t1, .inl (cyC, 1000, .inl t_text))]) (pc2 := 31) (lv2 := [(0, .ref r0)]) (st2 := []) rfl rfl rfl rfl ?_
  obtain ⟨hw_6_0, hw_6_1, hw_6_2, hw_6_3, hw_6_4, hw_6_5⟩ := hw_6
  refine j_iconst (pc := 31) (v := 1) C dX5_read_31 (by decide) ?_
  refine j_istore_n (pc := 32) (lv' := [(1, .int 1), (0, .ref r0)]) C dX5_read_32 rfl (by decide) rfl ?_
  refine j_iconst (pc := 33) (v := 0) C dX5_read_33 (by decide) ?_
  refine j_istore_n (pc := 34) (lv' := [(2, .int 0), (1, .int 1), (0, .ref r0)]) C dX5_read_34 rfl (by decide) rfl ?_
  have loop_7 : ∀ (k_7 : Nat) (x7_2 : Int32) (x7_1 : Int32) (y7_r0_5 : Int32) (y7_r0_6 : Int32) (g7_r1 : Nat → Int64) (g7_r2 : Nat → Int64) (g7_e1 : Nat → Int32) (g7_e2 : Nat → Int32) (g7_a1 : Nat → Int32) (g7_a2 : Nat → Int32) (g7_a3 : Nat → Int32) (g7_a4 : Nat → Int32) (g7_a5 : Nat → Int32) (g7_a8 : Nat → Int32) (g7_a9 : Nat → Int32) (g7_a10 : Nat → Int32) (y7_a0_0 : Int32) (y7_a0_1 : Int32) (y7_a0_2 : Int32) (y7_a0_9 : Int32) (y7_a0_10 : Int32) (g7_a6 : Nat → Int32) (y7_e0_0 : Int32) (y7_e0_1 : Int32) (y7_t0_2 : Int32) (y7_t0_3 : Int32) (y7_t0_4 : Int32) (y7_t0_5 : Int32), (0 ≤ (x7_2).toInt ∧ (x7_2).toInt ≤ 1000) → (0 ≤ (x7_1).toInt ∧ (x7_1).toInt ≤ 1) → (Iv 4 (0) (1000) g7_e2) → (Iv 4 (0) (8) g7_a10) → (0 ≤ (y7_a0_0).toInt ∧ (y7_a0_0).toInt ≤ 12) → (0 ≤ (y7_a0_1).toInt ∧ (y7_a0_1).toInt ≤ 4) → (0 ≤ (y7_a0_2).toInt ∧ (y7_a0_2).toInt ≤ 4) → (0 ≤ (y7_e0_0).toInt ∧ (y7_e0_0).toInt ≤ 1000) → (0 ≤ (y7_e0_1).toInt ∧ (y7_e0_1).toInt ≤ 4) → (0 ≤ (y7_t0_2).toInt ∧ (y7_t0_2).toInt ≤ 1000) → (0 ≤ (y7_t0_3).toInt ∧ (y7_t0_3).toInt ≤ 4) → (0 ≤ (y7_t0_4).toInt ∧ (y7_t0_4).toInt ≤ 1000) → (¬ y7_t0_3.toInt = 3 ∨ y7_t0_4.toInt ≤ 999) → (TH t_text (t_length).toInt.toNat y7_t0_2.toInt y7_t0_3.toInt y7_t0_4.toInt y7_t0_5.toInt) → (RDG (TKS t_text (t_length).toInt.toNat) g7_r1 g7_r2 y7_a0_0.toInt y7_a0_1.toInt y7_a0_2.toInt y7_a0_10 y7_r0_5 (1000 - x7_2.toInt).toNat x7_1.toInt y7_t0_4.toInt y7_r0_6.toInt (cup t_text (t_length).toInt.toNat)) → (1000 - x7_2.toInt).toNat < k_7 → J p l e ({ frames := 44, cells := 0, slots := 0, locals := 1097 } : Room) s m args below meth c D A 3 0 0 (QX below D (TY cyC cyI cyJ cyZ cyO) A (fun u => some (.int (u.2.1 0))) (fun u => (0 ≤ (u.2.1 3).toInt ∧ (u.2.1 3).toInt ≤ 1000) ∧ (0 ≤ (u.2.1 4).toInt ∧ (u.2.1 4).toInt ≤ 4) ∧ (0 ≤ (u.2.1 5).toInt ∧ (u.2.1 5).toInt ≤ 1000) ∧ (0 ≤ (u.2.1 7).toInt ∧ (u.2.1 7).toInt ≤ 1000) ∧ (0 ≤ (u.2.1 8).toInt ∧ (u.2.1 8).toInt ≤ 4) ∧ (Iv 4 (0) (1000) (u.2.2.1 1)) ∧ (0 ≤ (u.2.1 9).toInt ∧ (u.2.1 9).toInt ≤ 12) ∧ (0 ≤ (u.2.1 10).toInt ∧ (u.2.1 10).toInt ≤ 4) ∧ (0 ≤ (u.2.1 11).toInt ∧ (u.2.1 11).toInt ≤ 4) ∧ (Iv 4 (0) (8) (u.2.2.1 12)) ∧ (¬ ((u.2.1 4)).toInt = 3 ∨ ((u.2.1 5)).toInt ≤ 999) ∧ (((u.2.1 0)).toInt = cup t_text (t_length).toInt.toNat)) (fun u => [(r0, .inr (5, [.ref t0, .ref e0, .ref r1, .ref r2, .ref a0, .int (u.2.1 1), .int (u.2.1 2)])), (r1, .inl (cyJ, 12, .inr (.inl (u.2.2.2 0)))), (r2, .inl (cyJ, 4, .inr (.inl (u.2.2.2 1)))), (t0, .inr (8, [.ref t1, .int 0, .int (u.2.1 3), .int (u.2.1 4), .int (u.2.1 5), .int (u.2.1 6)])), (t1, .inl (cyC, 1000, .inl t_text)), (e0, .inr (1, [.int (u.2.1 7), .int (u.2.1 8), .ref e1, .ref e2, .ref e3])), (e1, .inl (cyI, 1000, .inl (u.2.2.1 0))), (e2, .inl (cyI, 4, .inl (u.2.2.1 1))), (e3, .inl (cyI, 32, .inl (u.2.2.1 2))), (a0, .inr (9, [.int (u.2.1 9), .int (u.2.1 10), .int (u.2.1 11), .ref a1, .ref a2, .ref a3, .ref a4, .ref a5, .ref a6, .int (u.2.1 12), .int (u.2.1 13), .ref a7, .ref a8, .ref a9, .ref a10])), (a1, .inl (cyI, 12, .inl (u.2.2.1 3))), (a2, .inl (cyI, 12, .inl (u.2.2.1 4))), (a3, .inl (cyI, 12, .inl (u.2.2.1 5))), (a4, .inl (cyI, 12, .inl (u.2.2.1 6))), (a5, .inl (cyI, 12, .inl (u.2.2.1 7))), (a6, .inl (cyI, 12, .inl (u.2.2.1 8))), (a7, .inl (cyI, 12, .inl (u.2.2.1 9))), (a8, .inl (cyI, 4, .inl (u.2.2.1 10))), (a9, .inl (cyI, 4, .inl (u.2.2.1 11))), (a10, .inl (cyI, 4, .inl (u.2.2.1 12)))]) args s 0 0) [(r0, .inr (5, [.ref t0, .ref e0, .ref r1, .ref r2, .ref a0, .int y7_r0_5, .int y7_r0_6])), (r1, .inl (cyJ, 12, .inr (.inl g7_r1))), (r2, .inl (cyJ, 4, .inr (.inl g7_r2))), (e1, .inl (cyI, 1000, .inl g7_e1)), (e2, .inl (cyI, 4, .inl g7_e2)), (e3, .inl (cyI, 32, .inl e_values)), (a1, .inl (cyI, 12, .inl g7_a1)), (a2, .inl (cyI, 12, .inl g7_a2)), (a3, .inl (cyI, 12, .inl g7_a3)), (a4, .inl (cyI, 12, .inl g7_a4)), (a5, .inl (cyI, 12, .inl g7_a5)), (a7, .inl (cyI, 12, .inl a_mayOn)), (a8, .inl (cyI, 4, .inl g7_a8)), (a9, .inl (cyI, 4, .inl g7_a9)), (a10, .inl (cyI, 4, .inl g7_a10)), (a0, .inr (9, [.int y7_a0_0, .int y7_a0_1, .int y7_a0_2, .ref a1, .ref a2, .ref a3, .ref a4, .ref a5, .ref a6, .int y7_a0_9, .int y7_a0_10, .ref a7, .ref a8, .ref a9, .ref a10])), (a6, .inl (cyI, 12, .inl g7_a6)), (e0, .inr (1, [.int y7_e0_0, .int y7_e0_1, .ref e1, .ref e2, .ref e3])), (t0, .inr (8, [.ref t1, .int t_length, .int y7_t0_2, .int y7_t0_3, .int y7_t0_4, .int y7_t0_5])), (t1, .inl (cyC, 1000, .inl t_text))] 35 [(2, .int x7_2), (1, .int x7_1), (0, .ref r0)] [] := by
    intro k_7
    induction k_7 with
    | zero =>
      intro x7_2 x7_1 y7_r0_5 y7_r0_6 g7_r1 g7_r2 g7_e1 g7_e2 g7_a1 g7_a2 g7_a3 g7_a4 g7_a5 g7_a8 g7_a9 g7_a10 y7_a0_0 y7_a0_1 y7_a0_2 y7_a0_9 y7_a0_10 g7_a6 y7_e0_0 y7_e0_1 y7_t0_2 y7_t0_3 y7_t0_4 y7_t0_5 hi_7_0 hi_7_1 hi_7_7 hi_7_15 hi_7_16 hi_7_17 hi_7_18 hi_7_22 hi_7_23 hi_7_24 hi_7_25 hi_7_26 hr_7 hq_7_0 hq_7_1 hm_7
      exact absurd hm_7 (Nat.not_lt_zero _)
    | succ k_7 ih_7 =>
      intro x7_2 x7_1 y7_r0_5 y7_r0_6 g7_r1 g7_r2 g7_e1 g7_e2 g7_a1 g7_a2 g7_a3 g7_a4 g7_a5 g7_a8 g7_a9 g7_a10 y7_a0_0 y7_a0_1 y7_a0_2 y7_a0_9 y7_a0_10 g7_a6 y7_e0_0 y7_e0_1 y7_t0_2 y7_t0_3 y7_t0_4 y7_t0_5 hi_7_0 hi_7_1 hi_7_7 hi_7_15 hi_7_16 hi_7_17 hi_7_18 hi_7_22 hi_7_23 hi_7_24 hi_7_25 hi_7_26 hr_7 hq_7_0 hq_7_1 hm_7
      obtain ⟨S9, hS9⟩ := RDG.ex hq_7_1
      refine j_iload_n (pc := 35) C dX5_read_35 rfl 0 rfl ?_
      refine j_sipush (pc := 36) (v := 1000) C dX5_read_36 (by decide) ?_
      refine j_icmp_ge (pc := 39) (tgt := 67) C dX5_read_39 (by decide) (fun c_8 => ?_) (fun c_8 => ?_)
      · skip
        have el_1000 : (1000 : Int32).toInt = 1000 := rfl
        rw [i_le] at c_8
        have hF9 := RDG.fin hq_7_1 (by omega) (fun z => Or.inl (by omega))
        refine j_aload_n (pc := 67) C dX5_read_67 rfl 2 rfl ?_
        refine j_get (pc := 68) (ci := 5) (v := .ref t0) C inw_5 0 rfl rfl 0 (by decide) wd_296 rfl rfl dX5_read_68 ?_
        refine j_iconst (pc := 71) (v := 0) C dX5_read_71 (by decide) ?_
        refine j_put (pc := 72) (ci := 8) (v := .int 0) (ws' := [(r0, .inr (5, [.ref t0, .ref e0, .ref r1, .ref r2, .ref a0, .int y7_r0_5, .int y7_r0_6])), (r1, .inl (cyJ, 12, .inr (.inl g7_r1))), (r2, .inl (cyJ, 4, .inr (.inl g7_r2))), (e1, .inl (cyI, 1000, .inl g7_e1)), (e2, .inl (cyI, 4, .inl g7_e2)), (e3, .inl (cyI, 32, .inl e_values)), (a1, .inl (cyI, 12, .inl g7_a1)), (a2, .inl (cyI, 12, .inl g7_a2)), (a3, .inl (cyI, 12, .inl g7_a3)), (a4, .inl (cyI, 12, .inl g7_a4)), (a5, .inl (cyI, 12, .inl g7_a5)), (a7, .inl (cyI, 12, .inl a_mayOn)), (a8, .inl (cyI, 4, .inl g7_a8)), (a9, .inl (cyI, 4, .inl g7_a9)), (a10, .inl (cyI, 4, .inl g7_a10)), (a0, .inr (9, [.int y7_a0_0, .int y7_a0_1, .int y7_a0_2, .ref a1, .ref a2, .ref a3, .ref a4, .ref a5, .ref a6, .int y7_a0_9, .int y7_a0_10, .ref a7, .ref a8, .ref a9, .ref a10])), (a6, .inl (cyI, 12, .inl g7_a6)), (e0, .inr (1, [.int y7_e0_0, .int y7_e0_1, .ref e1, .ref e2, .ref e3])), (t0, .inr (8, [.ref t1, .int 0, .int y7_t0_2, .int y7_t0_3, .int y7_t0_4, .int y7_t0_5])), (t1, .inl (cyC, 1000, .inl t_text))]) C inw_8 18 rfl rfl 1 (by decide) wd_428 rfl tyX8_ok nmX8 rfl (tyX8_ok 1 (by decide)) rfl rfl (Nat.le_of_ble_eq_true rfl) dX5_read_72 rfl ?_
        refine j_iload_n (pc := 75) C dX5_read_75 rfl 1 rfl ?_
        refine j_if_eq (pc := 76) (tgt := 83) C dX5_read_76 (by decide) (fun c_9 => ?_) (fun c_9 => ?_)
        · skip
          have el_0 : (0 : Int32).toInt = 0 := rfl
          rw [i_eq] at c_9
          refine j_aload_n (pc := 83) C dX5_read_83 rfl 2 rfl ?_
          refine j_get (pc := 84) (ci := 5) (v := .int y7_r0_6) C inw_5 0 rfl rfl 6 (by decide) wd_298 rfl rfl dX5_read_84 ?_
          exact j_iret (pc := 87) C hr hk (fun i => [].getD i 0, fun i => [y7_r0_6, y7_r0_5, y7_r0_6, y7_t0_2, y7_t0_3, y7_t0_4, y7_t0_5, y7_e0_0, y7_e0_1, y7_a0_0, y7_a0_1, y7_a0_2, y7_a0_9, y7_a0_10].getD i 0, fun i => [g7_e1, g7_e2, e_values, g7_a1, g7_a2, g7_a3, g7_a4, g7_a5, g7_a6, a_mayOn, g7_a8, g7_a9, g7_a10].getD i (fun _ => 0), fun i => [g7_r1, g7_r2].getD i (fun _ => 0)) rfl (show (0 ≤ (y7_t0_2).toInt ∧ (y7_t0_2).toInt ≤ 1000) ∧ (0 ≤ (y7_t0_3).toInt ∧ (y7_t0_3).toInt ≤ 4) ∧ (0 ≤ (y7_t0_4).toInt ∧ (y7_t0_4).toInt ≤ 1000) ∧ (0 ≤ (y7_e0_0).toInt ∧ (y7_e0_0).toInt ≤ 1000) ∧ (0 ≤ (y7_e0_1).toInt ∧ (y7_e0_1).toInt ≤ 4) ∧ (Iv 4 (0) (1000) g7_e2) ∧ (0 ≤ (y7_a0_0).toInt ∧ (y7_a0_0).toInt ≤ 12) ∧ (0 ≤ (y7_a0_1).toInt ∧ (y7_a0_1).toInt ≤ 4) ∧ (0 ≤ (y7_a0_2).toInt ∧ (y7_a0_2).toInt ≤ 4) ∧ (Iv 4 (0) (8) g7_a10) ∧ (¬ (y7_t0_3).toInt = 3 ∨ (y7_t0_4).toInt ≤ 999) ∧ ((y7_r0_6).toInt = cup t_text (t_length).toInt.toNat) from ⟨by omega, by omega, by omega, by omega, by omega, hi_7_7, by omega, by omega, by omega, hi_7_15, by omega, hF9⟩) [0, 1, 2, 18, 19, 17, 3, 4, 5, 15, 6, 7, 8, 9, 10, 16, 11, 12, 13, 14] (by decide) rfl (by decide) (by decide) dX5_read_87
        · skip
          have el_0 : (0 : Int32).toInt = 0 := rfl
          rw [i_eq] at c_9
          refine j_aload_n (pc := 79) C dX5_read_79 rfl 2 rfl ?_
          refine j_callV (pc := 80) (As := []) (rest := []) (wr := [(r1, .inl (cyJ, 12, .inr (.inl g7_r1))), (r2, .inl (cyJ, 4, .inr (.inl g7_r2))), (a4, .inl (cyI, 12, .inl g7_a4)), (a5, .inl (cyI, 12, .inl g7_a5)), (a8, .inl (cyI, 4, .inl g7_a8)), (a9, .inl (cyI, 4, .inl g7_a9)), (a10, .inl (cyI, 4, .inl g7_a10)), (a6, .inl (cyI, 12, .inl g7_a6)), (t0, .inr (8, [.ref t1, .int 0, .int y7_t0_2, .int y7_t0_3, .int y7_t0_4, .int y7_t0_5])), (t1, .inl (cyC, 1000, .inl t_text))]) C (c_X5_findMay l D cyC cyI cyJ cyZ cyO r0 e0 e1 e2 e3 a0 a1 a2 a3 a7 t0 r1 r2 a4 a5 a6 a8 a9 a10 y7_r0_5 y7_r0_6 y7_e0_0 y7_e0_1 y7_a0_0 y7_a0_1 y7_a0_2 y7_a0_9 y7_a0_10 g7_e1 g7_e2 e_values g7_a1 g7_a2 g7_a3 a_mayOn (by omega) (by omega) (by omega) (by omega) (by omega) hi_7_7) wd_429 wd_306 wd_430 wd_431 wd_432 ⟨by decide, by decide, rfl⟩ rfl ⟨rfl, rfl, by decide, by decide⟩ ⟨by decide, by decide⟩ [0, 17, 3, 4, 5, 15, 6, 7, 8, 11] [1, 2, 9, 10, 12, 13, 14, 16, 18, 19] rfl rfl ⟨by decide, by decide, by decide⟩ 0 rfl rfl rfl (Nat.le_of_ble_eq_true rfl) dX5_read_80 (fun u_10 hw_11 => ?_)
          refine j_eq (ws2 := [(r1, .inl (cyJ, 12, .inr (.inl g7_r1))), (r2, .inl (cyJ, 4, .inr (.inl g7_r2))), (a4, .inl (cyI, 12, .inl g7_a4)), (a5, .inl (cyI, 12, .inl g7_a5)), (a8, .inl (cyI, 4, .inl g7_a8)), (a9, .inl (cyI, 4, .inl g7_a9)), (a10, .inl (cyI, 4, .inl g7_a10)), (a6, .inl (cyI, 12, .inl g7_a6)), (t0, .inr (8, [.ref t1, .int 0, .int y7_t0_2, .int y7_t0_3, .int y7_t0_4, .int y7_t0_5])), (t1, .inl (cyC, 1000, .inl t_text)), (r0, .inr (5, [.ref t0, .ref e0, .ref r1, .ref r2, .ref a0, .int y7_r0_5, .int y7_r0_6])), (e0, .inr (1, [.int y7_e0_0, .int y7_e0_1, .ref e1, .ref e2, .ref e3])), (e1, .inl (cyI, 1000, .inl g7_e1)), (e2, .inl (cyI, 4, .inl g7_e2)), (e3, .inl (cyI, 32, .inl (u_10.2.2.1 0))), (a0, .inr (9, [.int y7_a0_0, .int y7_a0_1, .int y7_a0_2, .ref a1, .ref a2, .ref a3, .ref a4, .ref a5, .ref a6, .int y7_a0_9, .int y7_a0_10, .ref a7, .ref a8, .ref a9, .ref a10])), (a1, .inl (cyI, 12, .inl g7_a1)), (a2, .inl (cyI, 12, .inl g7_a2)), (a3, .inl (cyI, 12, .inl g7_a3)), (a7, .inl (cyI, 12, .inl (u_10.2.2.1 1)))]) (pc2 := 83) (lv2 := [(2, .int x7_2), (1, .int x7_1), (0, .ref r0)]) (st2 := []) rfl rfl rfl rfl ?_
          refine j_aload_n (pc := 83) C dX5_read_83 rfl 2 rfl ?_
          refine j_get (pc := 84) (ci := 5) (v := .int y7_r0_6) C inw_5 10 rfl rfl 6 (by decide) wd_298 rfl rfl dX5_read_84 ?_
          exact j_iret (pc := 87) C hr hk (fun i => [].getD i 0, fun i => [y7_r0_6, y7_r0_5, y7_r0_6, y7_t0_2, y7_t0_3, y7_t0_4, y7_t0_5, y7_e0_0, y7_e0_1, y7_a0_0, y7_a0_1, y7_a0_2, y7_a0_9, y7_a0_10].getD i 0, fun i => [g7_e1, g7_e2, (u_10.2.2.1 0), g7_a1, g7_a2, g7_a3, g7_a4, g7_a5, g7_a6, (u_10.2.2.1 1), g7_a8, g7_a9, g7_a10].getD i (fun _ => 0), fun i => [g7_r1, g7_r2].getD i (fun _ => 0)) rfl (show (0 ≤ (y7_t0_2).toInt ∧ (y7_t0_2).toInt ≤ 1000) ∧ (0 ≤ (y7_t0_3).toInt ∧ (y7_t0_3).toInt ≤ 4) ∧ (0 ≤ (y7_t0_4).toInt ∧ (y7_t0_4).toInt ≤ 1000) ∧ (0 ≤ (y7_e0_0).toInt ∧ (y7_e0_0).toInt ≤ 1000) ∧ (0 ≤ (y7_e0_1).toInt ∧ (y7_e0_1).toInt ≤ 4) ∧ (Iv 4 (0) (1000) g7_e2) ∧ (0 ≤ (y7_a0_0).toInt ∧ (y7_a0_0).toInt ≤ 12) ∧ (0 ≤ (y7_a0_1).toInt ∧ (y7_a0_1).toInt ≤ 4) ∧ (0 ≤ (y7_a0_2).toInt ∧ (y7_a0_2).toInt ≤ 4) ∧ (Iv 4 (0) (8) g7_a10) ∧ (¬ (y7_t0_3).toInt = 3 ∨ (y7_t0_4).toInt ≤ 999) ∧ ((y7_r0_6).toInt = cup t_text (t_length).toInt.toNat) from ⟨by omega, by omega, by omega, by omega, by omega, hi_7_7, by omega, by omega, by omega, hi_7_15, by omega, hF9⟩) [10, 0, 1, 8, 9, 11, 12, 13, 14, 15, 16, 17, 18, 2, 3, 7, 19, 4, 5, 6] (by decide) rfl (by decide) (by decide) dX5_read_87
      · skip
        have el_1000 : (1000 : Int32).toInt = 1000 := rfl
        rw [i_le] at c_8
        refine j_iload_n (pc := 42) C dX5_read_42 rfl 1 rfl ?_
        refine j_if_eq (pc := 43) (tgt := 67) C dX5_read_43 (by decide) (fun c_12 => ?_) (fun c_12 => ?_)
        · skip
          have el_0 : (0 : Int32).toInt = 0 := rfl
          rw [i_eq] at c_12
          have hF9 := RDG.fin hq_7_1 (by omega) (fun z => absurd z (by omega))
          refine j_aload_n (pc := 67) C dX5_read_67 rfl 2 rfl ?_
          refine j_get (pc := 68) (ci := 5) (v := .ref t0) C inw_5 0 rfl rfl 0 (by decide) wd_296 rfl rfl dX5_read_68 ?_
          refine j_iconst (pc := 71) (v := 0) C dX5_read_71 (by decide) ?_
          refine j_put (pc := 72) (ci := 8) (v := .int 0) (ws' := [(r0, .inr (5, [.ref t0, .ref e0, .ref r1, .ref r2, .ref a0, .int y7_r0_5, .int y7_r0_6])), (r1, .inl (cyJ, 12, .inr (.inl g7_r1))), (r2, .inl (cyJ, 4, .inr (.inl g7_r2))), (e1, .inl (cyI, 1000, .inl g7_e1)), (e2, .inl (cyI, 4, .inl g7_e2)), (e3, .inl (cyI, 32, .inl e_values)), (a1, .inl (cyI, 12, .inl g7_a1)), (a2, .inl (cyI, 12, .inl g7_a2)), (a3, .inl (cyI, 12, .inl g7_a3)), (a4, .inl (cyI, 12, .inl g7_a4)), (a5, .inl (cyI, 12, .inl g7_a5)), (a7, .inl (cyI, 12, .inl a_mayOn)), (a8, .inl (cyI, 4, .inl g7_a8)), (a9, .inl (cyI, 4, .inl g7_a9)), (a10, .inl (cyI, 4, .inl g7_a10)), (a0, .inr (9, [.int y7_a0_0, .int y7_a0_1, .int y7_a0_2, .ref a1, .ref a2, .ref a3, .ref a4, .ref a5, .ref a6, .int y7_a0_9, .int y7_a0_10, .ref a7, .ref a8, .ref a9, .ref a10])), (a6, .inl (cyI, 12, .inl g7_a6)), (e0, .inr (1, [.int y7_e0_0, .int y7_e0_1, .ref e1, .ref e2, .ref e3])), (t0, .inr (8, [.ref t1, .int 0, .int y7_t0_2, .int y7_t0_3, .int y7_t0_4, .int y7_t0_5])), (t1, .inl (cyC, 1000, .inl t_text))]) C inw_8 18 rfl rfl 1 (by decide) wd_428 rfl tyX8_ok nmX8 rfl (tyX8_ok 1 (by decide)) rfl rfl (Nat.le_of_ble_eq_true rfl) dX5_read_72 rfl ?_
          refine j_iload_n (pc := 75) C dX5_read_75 rfl 1 rfl ?_
          have el_0 : (0 : Int32).toInt = 0 := rfl
          refine j_if_eq_t (pc := 76) (tgt := 83) C dX5_read_76 (by decide) (by rw [i_eq]; omega) ?_
          refine j_aload_n (pc := 83) C dX5_read_83 rfl 2 rfl ?_
          refine j_get (pc := 84) (ci := 5) (v := .int y7_r0_6) C inw_5 0 rfl rfl 6 (by decide) wd_298 rfl rfl dX5_read_84 ?_
          exact j_iret (pc := 87) C hr hk (fun i => [].getD i 0, fun i => [y7_r0_6, y7_r0_5, y7_r0_6, y7_t0_2, y7_t0_3, y7_t0_4, y7_t0_5, y7_e0_0, y7_e0_1, y7_a0_0, y7_a0_1, y7_a0_2, y7_a0_9, y7_a0_10].getD i 0, fun i => [g7_e1, g7_e2, e_values, g7_a1, g7_a2, g7_a3, g7_a4, g7_a5, g7_a6, a_mayOn, g7_a8, g7_a9, g7_a10].getD i (fun _ => 0), fun i => [g7_r1, g7_r2].getD i (fun _ => 0)) rfl (show (0 ≤ (y7_t0_2).toInt ∧ (y7_t0_2).toInt ≤ 1000) ∧ (0 ≤ (y7_t0_3).toInt ∧ (y7_t0_3).toInt ≤ 4) ∧ (0 ≤ (y7_t0_4).toInt ∧ (y7_t0_4).toInt ≤ 1000) ∧ (0 ≤ (y7_e0_0).toInt ∧ (y7_e0_0).toInt ≤ 1000) ∧ (0 ≤ (y7_e0_1).toInt ∧ (y7_e0_1).toInt ≤ 4) ∧ (Iv 4 (0) (1000) g7_e2) ∧ (0 ≤ (y7_a0_0).toInt ∧ (y7_a0_0).toInt ≤ 12) ∧ (0 ≤ (y7_a0_1).toInt ∧ (y7_a0_1).toInt ≤ 4) ∧ (0 ≤ (y7_a0_2).toInt ∧ (y7_a0_2).toInt ≤ 4) ∧ (Iv 4 (0) (8) g7_a10) ∧ (¬ (y7_t0_3).toInt = 3 ∨ (y7_t0_4).toInt ≤ 999) ∧ ((y7_r0_6).toInt = cup t_text (t_length).toInt.toNat) from ⟨by omega, by omega, by omega, by omega, by omega, hi_7_7, by omega, by omega, by omega, hi_7_15, by omega, hF9⟩) [0, 1, 2, 18, 19, 17, 3, 4, 5, 15, 6, 7, 8, 9, 10, 16, 11, 12, 13, 14] (by decide) rfl (by decide) (by decide) dX5_read_87
        · skip
          have el_0 : (0 : Int32).toInt = 0 := rfl
          rw [i_eq] at c_12
          refine j_aload_n (pc := 46) C dX5_read_46 rfl 2 rfl ?_
          refine j_get (pc := 47) (ci := 5) (v := .ref t0) C inw_5 0 rfl rfl 0 (by decide) wd_296 rfl rfl dX5_read_47 ?_
          refine j_get (pc := 50) (ci := 8) (v := .int y7_t0_3) C inw_8 18 rfl rfl 3 (by decide) wd_310 rfl rfl dX5_read_50 ?_
          refine j_if_eq (pc := 53) (tgt := 67) C dX5_read_53 (by decide) (fun c_13 => ?_) (fun c_13 => ?_)
          · skip
            have el_0 : (0 : Int32).toInt = 0 := rfl
            rw [i_eq] at c_13
            have hF9 := RDG.fin hq_7_1 (by omega) (fun z => Or.inr (by have hk9 := hq_7_0.kind; omega))
            refine j_aload_n (pc := 67) C dX5_read_67 rfl 2 rfl ?_
            refine j_get (pc := 68) (ci := 5) (v := .ref t0) C inw_5 0 rfl rfl 0 (by decide) wd_296 rfl rfl dX5_read_68 ?_
            refine j_iconst (pc := 71) (v := 0) C dX5_read_71 (by decide) ?_
            refine j_put (pc := 72) (ci := 8) (v := .int 0) (ws' := [(r0, .inr (5, [.ref t0, .ref e0, .ref r1, .ref r2, .ref a0, .int y7_r0_5, .int y7_r0_6])), (r1, .inl (cyJ, 12, .inr (.inl g7_r1))), (r2, .inl (cyJ, 4, .inr (.inl g7_r2))), (e1, .inl (cyI, 1000, .inl g7_e1)), (e2, .inl (cyI, 4, .inl g7_e2)), (e3, .inl (cyI, 32, .inl e_values)), (a1, .inl (cyI, 12, .inl g7_a1)), (a2, .inl (cyI, 12, .inl g7_a2)), (a3, .inl (cyI, 12, .inl g7_a3)), (a4, .inl (cyI, 12, .inl g7_a4)), (a5, .inl (cyI, 12, .inl g7_a5)), (a7, .inl (cyI, 12, .inl a_mayOn)), (a8, .inl (cyI, 4, .inl g7_a8)), (a9, .inl (cyI, 4, .inl g7_a9)), (a10, .inl (cyI, 4, .inl g7_a10)), (a0, .inr (9, [.int y7_a0_0, .int y7_a0_1, .int y7_a0_2, .ref a1, .ref a2, .ref a3, .ref a4, .ref a5, .ref a6, .int y7_a0_9, .int y7_a0_10, .ref a7, .ref a8, .ref a9, .ref a10])), (a6, .inl (cyI, 12, .inl g7_a6)), (e0, .inr (1, [.int y7_e0_0, .int y7_e0_1, .ref e1, .ref e2, .ref e3])), (t0, .inr (8, [.ref t1, .int 0, .int y7_t0_2, .int y7_t0_3, .int y7_t0_4, .int y7_t0_5])), (t1, .inl (cyC, 1000, .inl t_text))]) C inw_8 18 rfl rfl 1 (by decide) wd_428 rfl tyX8_ok nmX8 rfl (tyX8_ok 1 (by decide)) rfl rfl (Nat.le_of_ble_eq_true rfl) dX5_read_72 rfl ?_
            refine j_iload_n (pc := 75) C dX5_read_75 rfl 1 rfl ?_
            have el_0 : (0 : Int32).toInt = 0 := rfl
            refine j_if_eq_f (pc := 76) (tgt := 83) C dX5_read_76 (by decide) (by rw [i_eq]; omega) ?_
            refine j_aload_n (pc := 79) C dX5_read_79 rfl 2 rfl ?_
            refine j_callV (pc := 80) (As := []) (rest := []) (wr := [(r1, .inl (cyJ, 12, .inr (.inl g7_r1))), (r2, .inl (cyJ, 4, .inr (.inl g7_r2))), (a4, .inl (cyI, 12, .inl g7_a4)), (a5, .inl (cyI, 12, .inl g7_a5)), (a8, .inl (cyI, 4, .inl g7_a8)), (a9, .inl (cyI, 4, .inl g7_a9)), (a10, .inl (cyI, 4, .inl g7_a10)), (a6, .inl (cyI, 12, .inl g7_a6)), (t0, .inr (8, [.ref t1, .int 0, .int y7_t0_2, .int y7_t0_3, .int y7_t0_4, .int y7_t0_5])), (t1, .inl (cyC, 1000, .inl t_text))]) C (c_X5_findMay l D cyC cyI cyJ cyZ cyO r0 e0 e1 e2 e3 a0 a1 a2 a3 a7 t0 r1 r2 a4 a5 a6 a8 a9 a10 y7_r0_5 y7_r0_6 y7_e0_0 y7_e0_1 y7_a0_0 y7_a0_1 y7_a0_2 y7_a0_9 y7_a0_10 g7_e1 g7_e2 e_values g7_a1 g7_a2 g7_a3 a_mayOn (by omega) (by omega) (by omega) (by omega) (by omega) hi_7_7) wd_429 wd_306 wd_430 wd_431 wd_432 ⟨by decide, by decide, rfl⟩ rfl ⟨rfl, rfl, by decide, by decide⟩ ⟨by decide, by decide⟩ [0, 17, 3, 4, 5, 15, 6, 7, 8, 11] [1, 2, 9, 10, 12, 13, 14, 16, 18, 19] rfl rfl ⟨by decide, by decide, by decide⟩ 0 rfl rfl rfl (Nat.le_of_ble_eq_true rfl) dX5_read_80 (fun u_14 hw_15 => ?_)
            refine j_eq (ws2 := [(r1, .inl (cyJ, 12, .inr (.inl g7_r1))), (r2, .inl (cyJ, 4, .inr (.inl g7_r2))), (a4, .inl (cyI, 12, .inl g7_a4)), (a5, .inl (cyI, 12, .inl g7_a5)), (a8, .inl (cyI, 4, .inl g7_a8)), (a9, .inl (cyI, 4, .inl g7_a9)), (a10, .inl (cyI, 4, .inl g7_a10)), (a6, .inl (cyI, 12, .inl g7_a6)), (t0, .inr (8, [.ref t1, .int 0, .int y7_t0_2, .int y7_t0_3, .int y7_t0_4, .int y7_t0_5])), (t1, .inl (cyC, 1000, .inl t_text)), (r0, .inr (5, [.ref t0, .ref e0, .ref r1, .ref r2, .ref a0, .int y7_r0_5, .int y7_r0_6])), (e0, .inr (1, [.int y7_e0_0, .int y7_e0_1, .ref e1, .ref e2, .ref e3])), (e1, .inl (cyI, 1000, .inl g7_e1)), (e2, .inl (cyI, 4, .inl g7_e2)), (e3, .inl (cyI, 32, .inl (u_14.2.2.1 0))), (a0, .inr (9, [.int y7_a0_0, .int y7_a0_1, .int y7_a0_2, .ref a1, .ref a2, .ref a3, .ref a4, .ref a5, .ref a6, .int y7_a0_9, .int y7_a0_10, .ref a7, .ref a8, .ref a9, .ref a10])), (a1, .inl (cyI, 12, .inl g7_a1)), (a2, .inl (cyI, 12, .inl g7_a2)), (a3, .inl (cyI, 12, .inl g7_a3)), (a7, .inl (cyI, 12, .inl (u_14.2.2.1 1)))]) (pc2 := 83) (lv2 := [(2, .int x7_2), (1, .int x7_1), (0, .ref r0)]) (st2 := []) rfl rfl rfl rfl ?_
            refine j_aload_n (pc := 83) C dX5_read_83 rfl 2 rfl ?_
            refine j_get (pc := 84) (ci := 5) (v := .int y7_r0_6) C inw_5 10 rfl rfl 6 (by decide) wd_298 rfl rfl dX5_read_84 ?_
            exact j_iret (pc := 87) C hr hk (fun i => [].getD i 0, fun i => [y7_r0_6, y7_r0_5, y7_r0_6, y7_t0_2, y7_t0_3, y7_t0_4, y7_t0_5, y7_e0_0, y7_e0_1, y7_a0_0, y7_a0_1, y7_a0_2, y7_a0_9, y7_a0_10].getD i 0, fun i => [g7_e1, g7_e2, (u_14.2.2.1 0), g7_a1, g7_a2, g7_a3, g7_a4, g7_a5, g7_a6, (u_14.2.2.1 1), g7_a8, g7_a9, g7_a10].getD i (fun _ => 0), fun i => [g7_r1, g7_r2].getD i (fun _ => 0)) rfl (show (0 ≤ (y7_t0_2).toInt ∧ (y7_t0_2).toInt ≤ 1000) ∧ (0 ≤ (y7_t0_3).toInt ∧ (y7_t0_3).toInt ≤ 4) ∧ (0 ≤ (y7_t0_4).toInt ∧ (y7_t0_4).toInt ≤ 1000) ∧ (0 ≤ (y7_e0_0).toInt ∧ (y7_e0_0).toInt ≤ 1000) ∧ (0 ≤ (y7_e0_1).toInt ∧ (y7_e0_1).toInt ≤ 4) ∧ (Iv 4 (0) (1000) g7_e2) ∧ (0 ≤ (y7_a0_0).toInt ∧ (y7_a0_0).toInt ≤ 12) ∧ (0 ≤ (y7_a0_1).toInt ∧ (y7_a0_1).toInt ≤ 4) ∧ (0 ≤ (y7_a0_2).toInt ∧ (y7_a0_2).toInt ≤ 4) ∧ (Iv 4 (0) (8) g7_a10) ∧ (¬ (y7_t0_3).toInt = 3 ∨ (y7_t0_4).toInt ≤ 999) ∧ ((y7_r0_6).toInt = cup t_text (t_length).toInt.toNat) from ⟨by omega, by omega, by omega, by omega, by omega, hi_7_7, by omega, by omega, by omega, hi_7_15, by omega, hF9⟩) [10, 0, 1, 8, 9, 11, 12, 13, 14, 15, 16, 17, 18, 2, 3, 7, 19, 4, 5, 6] (by decide) rfl (by decide) (by decide) dX5_read_87
          · skip
            have el_0 : (0 : Int32).toInt = 0 := rfl
            rw [i_eq] at c_13
            refine j_aload_n (pc := 56) C dX5_read_56 rfl 2 rfl ?_
            refine j_callV (pc := 57) (As := []) (rest := []) (wr := [(e3, .inl (cyI, 32, .inl e_values)), (a7, .inl (cyI, 12, .inl a_mayOn))]) C (c_X5_readStatement l D cyC cyI cyJ cyZ cyO r0 r1 r2 t0 t1 e0 e1 e2 a0 a1 a2 a3 a4 a5 a6 a8 a9 a10 e3 a7 y7_r0_5 y7_r0_6 t_length y7_t0_2 y7_t0_3 y7_t0_4 y7_t0_5 y7_e0_0 y7_e0_1 y7_a0_0 y7_a0_1 y7_a0_2 y7_a0_9 y7_a0_10 g7_r1 g7_r2 t_text g7_e1 g7_e2 g7_a1 g7_a2 g7_a3 g7_a4 g7_a5 g7_a6 g7_a8 g7_a9 g7_a10 S9 (by omega) (by omega) (by omega) (by omega) (by omega) (by omega) (by omega) (by omega) (by omega) h_t_text hi_7_7 hi_7_15 (by omega) hq_7_0 (hS9 (by omega)).1) wd_433 wd_306 wd_434 wd_435 wd_436 ⟨by decide, by decide, rfl⟩ rfl ⟨rfl, rfl, by decide, by decide⟩ ⟨by decide, by decide⟩ [0, 1, 2, 18, 19, 17, 3, 4, 15, 6, 7, 8, 9, 10, 16, 12, 13, 14] [5, 11] rfl rfl ⟨by decide, by decide, by decide⟩ 0 rfl rfl rfl (Nat.le_of_ble_eq_true rfl) dX5_read_57 (fun u_16 hw_17 => ?_)
            refine j_eq (ws2 := [(e3, .inl (cyI, 32, .inl e_values)), (a7, .inl (cyI, 12, .inl a_mayOn)), (r0, .inr (5, [.ref t0, .ref e0, .ref r1, .ref r2, .ref a0, .int (u_16.2.1 1), .int (u_16.2.1 2)])), (r1, .inl (cyJ, 12, .inr (.inl (u_16.2.2.2 0)))), (r2, .inl (cyJ, 4, .inr (.inl (u_16.2.2.2 1)))), (t0, .inr (8, [.ref t1, .int t_length, .int (u_16.2.1 3), .int (u_16.2.1 4), .int (u_16.2.1 5), .int (u_16.2.1 6)])), (t1, .inl (cyC, 1000, .inl t_text)), (e0, .inr (1, [.int (u_16.2.1 7), .int (u_16.2.1 8), .ref e1, .ref e2, .ref e3])), (e1, .inl (cyI, 1000, .inl (u_16.2.2.1 0))), (e2, .inl (cyI, 4, .inl (u_16.2.2.1 1))), (a0, .inr (9, [.int (u_16.2.1 9), .int (u_16.2.1 10), .int (u_16.2.1 11), .ref a1, .ref a2, .ref a3, .ref a4, .ref a5, .ref a6, .int (u_16.2.1 12), .int (u_16.2.1 13), .ref a7, .ref a8, .ref a9, .ref a10])), (a1, .inl (cyI, 12, .inl (u_16.2.2.1 2))), (a2, .inl (cyI, 12, .inl (u_16.2.2.1 3))), (a3, .inl (cyI, 12, .inl (u_16.2.2.1 4))), (a4, .inl (cyI, 12, .inl (u_16.2.2.1 5))), (a5, .inl (cyI, 12, .inl (u_16.2.2.1 6))), (a6, .inl (cyI, 12, .inl (u_16.2.2.1 7))), (a8, .inl (cyI, 4, .inl (u_16.2.2.1 8))), (a9, .inl (cyI, 4, .inl (u_16.2.2.1 9))), (a10, .inl (cyI, 4, .inl (u_16.2.2.1 10)))]) (pc2 := 60) (lv2 := [(2, .int x7_2), (1, .int x7_1), (0, .ref r0)]) (st2 := [.int (u_16.2.1 0)]) rfl rfl rfl rfl ?_
            obtain ⟨hw_17_0, hw_17_1, hw_17_2, hw_17_3, hw_17_4, hw_17_5, hw_17_6, hw_17_7, hw_17_8, hw_17_9, hw_17_10, hw_17_11, hw_17_12, hw_17_13, hw_17_14⟩ := hw_17
            refine j_istore_n (pc := 60) (lv' := [(1, .int (u_16.2.1 0)), (2, .int x7_2), (0, .ref r0)]) C dX5_read_60 rfl (by decide) rfl ?_
            obtain ⟨v_18, ev_18⟩ : ∃ z : Int32, x7_2 + 1 = z := ⟨_, rfl⟩
            have el_1 : (1 : Int32).toInt = 1 := rfl
            have hv_18 : v_18.toInt = x7_2.toInt + (1 : Int32).toInt := by rw [← ev_18]; exact fb_addI (by omega) (by omega)
            refine j_iinc (pc := 61) (v := v_18) (lv' := [(2, .int v_18), (1, .int (u_16.2.1 0)), (0, .ref r0)]) C dX5_read_61 1 rfl ev_18 (by decide) rfl ?_
            refine j_goto (pc := 64) (tgt := 35) C dX5_read_64 (by decide) ?_
            refine j_subG (ws' := [(r0, .inr (5, [.ref t0, .ref e0, .ref r1, .ref r2, .ref a0, .int (u_16.2.1 1), .int (u_16.2.1 2)])), (r1, .inl (cyJ, 12, .inr (.inl (u_16.2.2.2 0)))), (r2, .inl (cyJ, 4, .inr (.inl (u_16.2.2.2 1)))), (e1, .inl (cyI, 1000, .inl (u_16.2.2.1 0))), (e2, .inl (cyI, 4, .inl (u_16.2.2.1 1))), (e3, .inl (cyI, 32, .inl e_values)), (a1, .inl (cyI, 12, .inl (u_16.2.2.1 2))), (a2, .inl (cyI, 12, .inl (u_16.2.2.1 3))), (a3, .inl (cyI, 12, .inl (u_16.2.2.1 4))), (a4, .inl (cyI, 12, .inl (u_16.2.2.1 5))), (a5, .inl (cyI, 12, .inl (u_16.2.2.1 6))), (a7, .inl (cyI, 12, .inl a_mayOn)), (a8, .inl (cyI, 4, .inl (u_16.2.2.1 8))), (a9, .inl (cyI, 4, .inl (u_16.2.2.1 9))), (a10, .inl (cyI, 4, .inl (u_16.2.2.1 10))), (a0, .inr (9, [.int (u_16.2.1 9), .int (u_16.2.1 10), .int (u_16.2.1 11), .ref a1, .ref a2, .ref a3, .ref a4, .ref a5, .ref a6, .int (u_16.2.1 12), .int (u_16.2.1 13), .ref a7, .ref a8, .ref a9, .ref a10])), (a6, .inl (cyI, 12, .inl (u_16.2.2.1 7))), (e0, .inr (1, [.int (u_16.2.1 7), .int (u_16.2.1 8), .ref e1, .ref e2, .ref e3])), (t0, .inr (8, [.ref t1, .int t_length, .int (u_16.2.1 3), .int (u_16.2.1 4), .int (u_16.2.1 5), .int (u_16.2.1 6)])), (t1, .inl (cyC, 1000, .inl t_text))]) [2, 3, 4, 8, 9, 0, 11, 12, 13, 14, 15, 1, 17, 18, 19, 10, 16, 7, 5, 6] (by decide) rfl ?_
            exact j_lv [0, 1, 2] rfl (ih_7 v_18 (u_16.2.1 0) (u_16.2.1 1) (u_16.2.1 2) (u_16.2.2.2 0) (u_16.2.2.2 1) (u_16.2.2.1 0) (u_16.2.2.1 1) (u_16.2.2.1 2) (u_16.2.2.1 3) (u_16.2.2.1 4) (u_16.2.2.1 5) (u_16.2.2.1 6) (u_16.2.2.1 8) (u_16.2.2.1 9) (u_16.2.2.1 10) (u_16.2.1 9) (u_16.2.1 10) (u_16.2.1 11) (u_16.2.1 12) (u_16.2.1 13) (u_16.2.2.1 7) (u_16.2.1 7) (u_16.2.1 8) (u_16.2.1 3) (u_16.2.1 4) (u_16.2.1 5) (u_16.2.1 6) (by omega) (by omega) hw_17_6 hw_17_10 (by omega) (by omega) (by omega) (by omega) (by omega) (by omega) (by omega) (by omega) (by omega) hw_17_12 (RDG.step (k := (1000 - (v_18).toInt).toNat) (by rw [show (1000 - (v_18).toInt).toNat + 1 = (1000 - (x7_2).toInt).toNat from (by omega)]; exact hS9) (by omega) (by have hk9 := hq_7_0.kind; omega) hw_17_13 hw_17_14) (by omega))
  have el_0 : (0 : Int32).toInt = 0 := rfl
  have el_1 : (1 : Int32).toInt = 1 := rfl
  have el_0 : (0 : Int32).toInt = 0 := rfl
  have el_0 : (0 : Int32).toInt = 0 := rfl
  have el_0 : (0 : Int32).toInt = 0 := rfl
  have el_0 : (0 : Int32).toInt = 0 := rfl
  have el_0 : (0 : Int32).toInt = 0 := rfl
  have el_0 : (0 : Int32).toInt = 0 := rfl
  have el_0 : (0 : Int32).toInt = 0 := rfl
  have el_0 : (0 : Int32).toInt = 0 := rfl
  have el_0 : (0 : Int32).toInt = 0 := rfl
  exact j_lv [0, 1, 2] rfl (loop_7 4096 0 1 0 0 r_wn r_sn e_steps e_end a_wide a_deep a_weight a_bears a_breaks a_height a_reach a_room 0 0 0 0 0 (fun _ => 0) 0 0 (u_5.2.1 0) (u_5.2.1 1) (u_5.2.1 2) (u_5.2.1 3) (by decide) (by decide) h_e_end h_a_room (by decide) (by decide) (by decide) (by decide) (by decide) (by omega) (by omega) (by omega) (by omega) hw_6_4 ⟨fun _ => ⟨S0, CR.zero' rfl rfl rfl, by rw [show (1000 - (0 : Int32).toInt).toNat = 1000 from by decide, hw_6_5]; rfl, rfl⟩, fun h => absurd h (by decide)⟩ (by omega))
