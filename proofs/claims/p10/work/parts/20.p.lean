theorem wd_410 : Cond.fieldLink RX5 66 "BowlShelf$Told" "mayOn" "[I" ∈ WALL := wl_in (by decide +kernel) (by decide +kernel)
theorem wd_411 : Cond.methodLink RX5 70 yJ7_fill_53178 ∈ WALL := wl_in (by decide +kernel) (by decide +kernel)
theorem wd_412 : Cond.code yX1_allow cX1_allow 6 (some .boolean) ∈ WALL := wl_in (by decide +kernel) (by decide +kernel)
theorem wd_413 : Cond.methodLink RX5 79 yX1_allow ∈ WALL := wl_in (by decide +kernel) (by decide +kernel)
theorem wd_414 : Cond.instanceMethod yX1_allow ∈ WALL := wl_in (by decide +kernel) (by decide +kernel)
theorem wd_415 : Cond.selects RX1 yX1_allow yX1_allow ∈ WALL := wl_in (by decide +kernel) (by decide +kernel)
theorem wd_416 : Cond.code yX9_empty cX9_empty 1 none ∈ WALL := wl_in (by decide +kernel) (by decide +kernel)
theorem wd_417 : Cond.methodLink RX5 39 yX9_empty ∈ WALL := wl_in (by decide +kernel) (by decide +kernel)
theorem wd_418 : Cond.instanceMethod yX9_empty ∈ WALL := wl_in (by decide +kernel) (by decide +kernel)
theorem wd_419 : Cond.selects RX9 yX9_empty yX9_empty ∈ WALL := wl_in (by decide +kernel) (by decide +kernel)
theorem wd_420 : Cond.code yX1_empty cX1_empty 1 none ∈ WALL := wl_in (by decide +kernel) (by decide +kernel)
theorem wd_421 : Cond.methodLink RX5 42 yX1_empty ∈ WALL := wl_in (by decide +kernel) (by decide +kernel)
theorem wd_422 : Cond.instanceMethod yX1_empty ∈ WALL := wl_in (by decide +kernel) (by decide +kernel)
theorem wd_423 : Cond.selects RX1 yX1_empty yX1_empty ∈ WALL := wl_in (by decide +kernel) (by decide +kernel)
theorem wd_424 : Cond.code yX8_start cX8_start 1 none ∈ WALL := wl_in (by decide +kernel) (by decide +kernel)
theorem wd_425 : Cond.methodLink RX5 50 yX8_start ∈ WALL := wl_in (by decide +kernel) (by decide +kernel)
theorem wd_426 : Cond.instanceMethod yX8_start ∈ WALL := wl_in (by decide +kernel) (by decide +kernel)
theorem wd_427 : Cond.selects RX8 yX8_start yX8_start ∈ WALL := wl_in (by decide +kernel) (by decide +kernel)
theorem wd_428 : Cond.fieldLink RX5 60 "BowlShelf$Tape" "length" "I" ∈ WALL := wl_in (by decide +kernel) (by decide +kernel)
theorem wd_429 : Cond.code yX5_findMay cX5_findMay 3 none ∈ WALL := wl_in (by decide +kernel) (by decide +kernel)
theorem wd_430 : Cond.methodLink RX5 63 yX5_findMay ∈ WALL := wl_in (by decide +kernel) (by decide +kernel)
theorem wd_431 : Cond.instanceMethod yX5_findMay ∈ WALL := wl_in (by decide +kernel) (by decide +kernel)
theorem wd_432 : Cond.selects RX5 yX5_findMay yX5_findMay ∈ WALL := wl_in (by decide +kernel) (by decide +kernel)
theorem wd_433 : Cond.code yX5_readStatement cX5_readStatement 1 (some .boolean) ∈ WALL := wl_in (by decide +kernel) (by decide +kernel)
theorem wd_434 : Cond.methodLink RX5 56 yX5_readStatement ∈ WALL := wl_in (by decide +kernel) (by decide +kernel)
theorem wd_435 : Cond.instanceMethod yX5_readStatement ∈ WALL := wl_in (by decide +kernel) (by decide +kernel)
theorem wd_436 : Cond.selects RX5 yX5_readStatement yX5_readStatement ∈ WALL := wl_in (by decide +kernel) (by decide +kernel)
theorem dX5_findMay_0 : decode cX5_findMay 0 = .ok (.aload_n 0, 1) := by decide +kernel
theorem dX5_findMay_1 : decode cX5_findMay 1 = .ok (.getfield 35, 3) := by decide +kernel
theorem dX5_findMay_4 : decode cX5_findMay 4 = .ok (.getfield 66, 3) := by decide +kernel
theorem dX5_findMay_7 : decode cX5_findMay 7 = .ok (.iconst 0, 1) := by decide +kernel
theorem dX5_findMay_8 : decode cX5_findMay 8 = .ok (.invokestatic 70, 3) := by decide +kernel
theorem dX5_findMay_11 : decode cX5_findMay 11 = .ok (.iconst 0, 1) := by decide +kernel
theorem dX5_findMay_12 : decode cX5_findMay 12 = .ok (.istore_n 1, 1) := by decide +kernel
theorem dX5_findMay_13 : decode cX5_findMay 13 = .ok (.iload_n 1, 1) := by decide +kernel
theorem dX5_findMay_14 : decode cX5_findMay 14 = .ok (.aload_n 0, 1) := by decide +kernel
theorem dX5_findMay_15 : decode cX5_findMay 15 = .ok (.getfield 35, 3) := by decide +kernel
theorem dX5_findMay_18 : decode cX5_findMay 18 = .ok (.getfield 76, 3) := by decide +kernel
theorem dX5_findMay_21 : decode cX5_findMay 21 = .ok (.if_icmp .ge 64, 3) := by decide +kernel
theorem dX5_findMay_24 : decode cX5_findMay 24 = .ok (.iconst 0, 1) := by decide +kernel
theorem dX5_findMay_25 : decode cX5_findMay 25 = .ok (.istore_n 2, 1) := by decide +kernel
theorem dX5_findMay_26 : decode cX5_findMay 26 = .ok (.iload_n 2, 1) := by decide +kernel
theorem dX5_findMay_27 : decode cX5_findMay 27 = .ok (.aload_n 0, 1) := by decide +kernel
theorem dX5_findMay_28 : decode cX5_findMay 28 = .ok (.getfield 35, 3) := by decide +kernel
theorem dX5_findMay_31 : decode cX5_findMay 31 = .ok (.getfield 76, 3) := by decide +kernel
theorem dX5_findMay_34 : decode cX5_findMay 34 = .ok (.if_icmp .ge 45, 3) := by decide +kernel
theorem dX5_findMay_37 : decode cX5_findMay 37 = .ok (.iload_n 2, 1) := by decide +kernel
theorem dX5_findMay_38 : decode cX5_findMay 38 = .ok (.iload_n 1, 1) := by decide +kernel
theorem dX5_findMay_39 : decode cX5_findMay 39 = .ok (.if_icmp .eq 34, 3) := by decide +kernel
theorem dX5_findMay_42 : decode cX5_findMay 42 = .ok (.aload_n 0, 1) := by decide +kernel
theorem dX5_findMay_43 : decode cX5_findMay 43 = .ok (.getfield 21, 3) := by decide +kernel
theorem dX5_findMay_46 : decode cX5_findMay 46 = .ok (.aload_n 0, 1) := by decide +kernel
theorem dX5_findMay_47 : decode cX5_findMay 47 = .ok (.getfield 35, 3) := by decide +kernel
theorem dX5_findMay_50 : decode cX5_findMay 50 = .ok (.iload_n 2, 1) := by decide +kernel
theorem dX5_findMay_51 : decode cX5_findMay 51 = .ok (.iload_n 1, 1) := by decide +kernel
theorem dX5_findMay_52 : decode cX5_findMay 52 = .ok (.invokevirtual 79, 3) := by decide +kernel
theorem dX5_findMay_55 : decode cX5_findMay 55 = .ok (.ifCond .eq 18, 3) := by decide +kernel
theorem dX5_findMay_58 : decode cX5_findMay 58 = .ok (.aload_n 0, 1) := by decide +kernel
theorem dX5_findMay_59 : decode cX5_findMay 59 = .ok (.getfield 35, 3) := by decide +kernel
theorem dX5_findMay_62 : decode cX5_findMay 62 = .ok (.getfield 66, 3) := by decide +kernel
theorem dX5_findMay_65 : decode cX5_findMay 65 = .ok (.iload_n 1, 1) := by decide +kernel
theorem dX5_findMay_66 : decode cX5_findMay 66 = .ok (.dup2, 1) := by decide +kernel
theorem dX5_findMay_67 : decode cX5_findMay 67 = .ok (.iaload, 1) := by decide +kernel
theorem dX5_findMay_68 : decode cX5_findMay 68 = .ok (.iconst 1, 1) := by decide +kernel
theorem dX5_findMay_69 : decode cX5_findMay 69 = .ok (.iload_n 2, 1) := by decide +kernel
theorem dX5_findMay_70 : decode cX5_findMay 70 = .ok (.ishl, 1) := by decide +kernel
theorem dX5_findMay_71 : decode cX5_findMay 71 = .ok (.ior, 1) := by decide +kernel
theorem dX5_findMay_72 : decode cX5_findMay 72 = .ok (.iastore, 1) := by decide +kernel
theorem dX5_findMay_73 : decode cX5_findMay 73 = .ok (.iinc 2 1, 3) := by decide +kernel
theorem dX5_findMay_76 : decode cX5_findMay 76 = .ok (.goto (-50), 3) := by decide +kernel
theorem dX5_findMay_79 : decode cX5_findMay 79 = .ok (.iinc 1 1, 3) := by decide +kernel
theorem dX5_findMay_82 : decode cX5_findMay 82 = .ok (.goto (-69), 3) := by decide +kernel
theorem dX5_findMay_85 : decode cX5_findMay 85 = .ok (.return_, 1) := by decide +kernel
theorem dX5_read_0 : decode cX5_read 0 = .ok (.aload_n 0, 1) := by decide +kernel
theorem dX5_read_1 : decode cX5_read 1 = .ok (.getfield 35, 3) := by decide +kernel
theorem dX5_read_4 : decode cX5_read 4 = .ok (.invokevirtual 39, 3) := by decide +kernel
theorem dX5_read_7 : decode cX5_read 7 = .ok (.aload_n 0, 1) := by decide +kernel
theorem dX5_read_8 : decode cX5_read 8 = .ok (.getfield 21, 3) := by decide +kernel
theorem dX5_read_11 : decode cX5_read 11 = .ok (.invokevirtual 42, 3) := by decide +kernel
theorem dX5_read_14 : decode cX5_read 14 = .ok (.aload_n 0, 1) := by decide +kernel
theorem dX5_read_15 : decode cX5_read 15 = .ok (.iconst 0, 1) := by decide +kernel
theorem dX5_read_16 : decode cX5_read 16 = .ok (.putfield 43, 3) := by decide +kernel
theorem dX5_read_19 : decode cX5_read 19 = .ok (.aload_n 0, 1) := by decide +kernel
theorem dX5_read_20 : decode cX5_read 20 = .ok (.iconst 0, 1) := by decide +kernel
theorem dX5_read_21 : decode cX5_read 21 = .ok (.putfield 47, 3) := by decide +kernel
theorem dX5_read_24 : decode cX5_read 24 = .ok (.aload_n 0, 1) := by decide +kernel
theorem dX5_read_25 : decode cX5_read 25 = .ok (.getfield 12, 3) := by decide +kernel
theorem dX5_read_28 : decode cX5_read 28 = .ok (.invokevirtual 50, 3) := by decide +kernel
theorem dX5_read_31 : decode cX5_read 31 = .ok (.iconst 1, 1) := by decide +kernel
theorem dX5_read_32 : decode cX5_read 32 = .ok (.istore_n 1, 1) := by decide +kernel
theorem dX5_read_33 : decode cX5_read 33 = .ok (.iconst 0, 1) := by decide +kernel
theorem dX5_read_34 : decode cX5_read 34 = .ok (.istore_n 2, 1) := by decide +kernel
theorem dX5_read_35 : decode cX5_read 35 = .ok (.iload_n 2, 1) := by decide +kernel
theorem dX5_read_36 : decode cX5_read 36 = .ok (.sipush 1000, 3) := by decide +kernel
theorem dX5_read_39 : decode cX5_read 39 = .ok (.if_icmp .ge 28, 3) := by decide +kernel
theorem dX5_read_42 : decode cX5_read 42 = .ok (.iload_n 1, 1) := by decide +kernel
theorem dX5_read_43 : decode cX5_read 43 = .ok (.ifCond .eq 24, 3) := by decide +kernel
theorem dX5_read_46 : decode cX5_read 46 = .ok (.aload_n 0, 1) := by decide +kernel
theorem dX5_read_47 : decode cX5_read 47 = .ok (.getfield 12, 3) := by decide +kernel
theorem dX5_read_50 : decode cX5_read 50 = .ok (.getfield 53, 3) := by decide +kernel
theorem dX5_read_53 : decode cX5_read 53 = .ok (.ifCond .eq 14, 3) := by decide +kernel
theorem dX5_read_56 : decode cX5_read 56 = .ok (.aload_n 0, 1) := by decide +kernel
theorem dX5_read_57 : decode cX5_read 57 = .ok (.invokevirtual 56, 3) := by decide +kernel
theorem dX5_read_60 : decode cX5_read 60 = .ok (.istore_n 1, 1) := by decide +kernel
theorem dX5_read_61 : decode cX5_read 61 = .ok (.iinc 2 1, 3) := by decide +kernel
theorem dX5_read_64 : decode cX5_read 64 = .ok (.goto (-29), 3) := by decide +kernel
theorem dX5_read_67 : decode cX5_read 67 = .ok (.aload_n 0, 1) := by decide +kernel
theorem dX5_read_68 : decode cX5_read 68 = .ok (.getfield 12, 3) := by decide +kernel
theorem dX5_read_71 : decode cX5_read 71 = .ok (.iconst 0, 1) := by decide +kernel
theorem dX5_read_72 : decode cX5_read 72 = .ok (.putfield 60, 3) := by decide +kernel
theorem dX5_read_75 : decode cX5_read 75 = .ok (.iload_n 1, 1) := by decide +kernel
theorem dX5_read_76 : decode cX5_read 76 = .ok (.ifCond .eq 7, 3) := by decide +kernel
theorem dX5_read_79 : decode cX5_read 79 = .ok (.aload_n 0, 1) := by decide +kernel
theorem dX5_read_80 : decode cX5_read 80 = .ok (.invokevirtual 63, 3) := by decide +kernel
theorem dX5_read_83 : decode cX5_read 83 = .ok (.aload_n 0, 1) := by decide +kernel
theorem dX5_read_84 : decode cX5_read 84 = .ok (.getfield 47, 3) := by decide +kernel
theorem dX5_read_87 : decode cX5_read 87 = .ok (.ireturn, 1) := by decide +kernel
set_option maxHeartbeats 4000000 in
set_option maxRecDepth 100000 in
theorem c_X5_findMay (l : Launch) (D : DG) (cyC cyI cyJ cyZ cyO : ClassId) (r0 : Nat) (e0 : Nat) (e1 : Nat) (e2 : Nat) (e3 : Nat) (a0 : Nat) (a1 : Nat) (a2 : Nat) (a3 : Nat) (a7 : Nat) (t0 : Nat) (r1 : Nat) (r2 : Nat) (a4 : Nat) (a5 : Nat) (a6 : Nat) (a8 : Nat) (a9 : Nat) (a10 : Nat) (r_habits : Int32) (r_fault : Int32) (e_size : Int32) (e_nests : Int32) (a_wares : Int32) (a_shelves : Int32) (a_nests : Int32) (a_lids : Int32) (a_tops : Int32) (e_steps : Nat → Int32) (e_end : Nat → Int32) (e_values : Nat → Int32) (a_wide : Nat → Int32) (a_deep : Nat → Int32) (a_weight : Nat → Int32) (a_mayOn : Nat → Int32) (EM : (Nat → (Nat → Int32) → Int32)) (h_e_size : 0 ≤ (e_size).toInt ∧ (e_size).toInt ≤ 1000) (h_e_nests : 0 ≤ (e_nests).toInt ∧ (e_nests).toInt ≤ 4) (h_a_wares : 0 ≤ (a_wares).toInt ∧ (a_wares).toInt ≤ 12) (h_a_shelves : 0 ≤ (a_shelves).toInt ∧ (a_shelves).toInt ≤ 4) (h_a_nests : 0 ≤ (a_nests).toInt ∧ (a_nests).toInt ≤ 4) (h_e_end : Iv 4 (0) (1000) e_end) (hCEM : CE0 e_steps e_end (e_nests).toInt EM) : KK l D (TY cyC cyI cyJ cyZ cyO) yX5_findMay cX5_findMay 3 none ({ frames := 3, cells := 0, slots := 0, locals := 76 } : Room) 0 0 [.ref r0] [(r0, .inr (5, [.ref t0, .ref e0, .ref r1, .ref r2, .ref a0, .int r_habits, .int r_fault])), (e0, .inr (1, [.int e_size, .int e_nests, .ref e1, .ref e2, .ref e3])), (e1, .inl (cyI, 1000, .inl e_steps)), (e2, .inl (cyI, 4, .inl e_end)), (e3, .inl (cyI, 32, .inl e_values)), (a0, .inr (9, [.int a_wares, .int a_shelves, .int a_nests, .ref a1, .ref a2, .ref a3, .ref a4, .ref a5, .ref a6, .int a_lids, .int a_tops, .ref a7, .ref a8, .ref a9, .ref a10])), (a1, .inl (cyI, 12, .inl a_wide)), (a2, .inl (cyI, 12, .inl a_deep)), (a3, .inl (cyI, 12, .inl a_weight)), (a7, .inl (cyI, 12, .inl a_mayOn))] (fun u => none) (fun u => (MYC (u.2.2.1 1) (mayC (a_wares).toInt (e_nests).toInt EM a_wide a_deep a_weight a_lids a_tops))) (fun u => [(r0, .inr (5, [.ref t0, .ref e0, .ref r1, .ref r2, .ref a0, .int r_habits, .int r_fault])), (e0, .inr (1, [.int e_size, .int e_nests, .ref e1, .ref e2, .ref e3])), (e1, .inl (cyI, 1000, .inl e_steps)), (e2, .inl (cyI, 4, .inl e_end)), (e3, .inl (cyI, 32, .inl (u.2.2.1 0))), (a0, .inr (9, [.int a_wares, .int a_shelves, .int a_nests, .ref a1, .ref a2, .ref a3, .ref a4, .ref a5, .ref a6, .int a_lids, .int a_tops, .ref a7, .ref a8, .ref a9, .ref a10])), (a1, .inl (cyI, 12, .inl a_wide)), (a2, .inl (cyI, 12, .inl a_deep)), (a3, .inl (cyI, 12, .inl a_weight)), (a7, .inl (cyI, 12, .inl (u.2.2.1 1)))]) := by
  refine KK.of (lv0 := [(0, .ref r0)]) (by decide) rfl (Nat.le_of_ble_eq_true rfl) ?_
  intro p e s m args below meth c A C hr hk hin
  refine j_aload_n (pc := 0) C dX5_findMay_0 rfl 0 rfl ?_
  refine j_get (pc := 1) (ci := 5) (v := .ref a0) C inw_5 0 rfl rfl 4 (by decide) wd_299 rfl rfl dX5_findMay_1 ?_
  refine j_get (pc := 4) (ci := 9) (v := .ref a7) C inw_9 5 rfl rfl 11 (by decide) wd_410 rfl rfl dX5_findMay_4 ?_
  refine j_iconst (pc := 7) (v := 0) C dX5_findMay_7 (by decide) ?_
  refine j_callS (pc := 8) (As := [.ref a7, .int 0]) (rest := []) (wr := [(r0, .inr (5, [.ref t0, .ref e0, .ref r1, .ref r2, .ref a0, .int r_habits, .int r_fault])), (e0, .inr (1, [.int e_size, .int e_nests, .ref e1, .ref e2, .ref e3])), (e1, .inl (cyI, 1000, .inl e_steps)), (e2, .inl (cyI, 4, .inl e_end)), (e3, .inl (cyI, 32, .inl e_values)), (a0, .inr (9, [.int a_wares, .int a_shelves, .int a_nests, .ref a1, .ref a2, .ref a3, .ref a4, .ref a5, .ref a6, .int a_lids, .int a_tops, .ref a7, .ref a8, .ref a9, .ref a10])), (a1, .inl (cyI, 12, .inl a_wide)), (a2, .inl (cyI, 12, .inl a_deep)), (a3, .inl (cyI, 12, .inl a_weight))]) C (c_fill l D cyC cyI cyJ cyZ cyO a7 0 a_mayOn) wd_50 wd_51 wd_411 wd_53 ⟨by decide, by decide, rfl⟩ rfl ⟨rfl, rfl, by decide, by decide⟩ ⟨by decide, by decide⟩ [9] [0, 1, 2, 3, 4, 5, 6, 7, 8] rfl rfl ⟨by decide, by decide, by decide⟩ rfl (Nat.le_of_ble_eq_true rfl) dX5_findMay_8 (fun u_1 hw_2 => ?_)
  refine j_eq (ws2 := [(r0, .inr (5, [.ref t0, .ref e0, .ref r1, .ref r2, .ref a0, .int r_habits, .int r_fault])), (e0, .inr (1, [.int e_size, .int e_nests, .ref e1, .ref e2, .ref e3])), (e1, .inl (cyI, 1000, .inl e_steps)), (e2, .inl (cyI, 4, .inl e_end)), (e3, .inl (cyI, 32, .inl e_values)), (a0, .inr (9, [.int a_wares, .int a_shelves, .int a_nests, .ref a1, .ref a2, .ref a3, .ref a4, .ref a5, .ref a6, .int a_lids, .int a_tops, .ref a7, .ref a8, .ref a9, .ref a10])), (a1, .inl (cyI, 12, .inl a_wide)), (a2, .inl (cyI, 12, .inl a_deep)), (a3, .inl (cyI, 12, .inl a_weight)), (a7, .inl (cyI, 12, .inl (fun _ => 0)))]) (pc2 := 11) (lv2 := [(0, .ref r0)]) (st2 := []) rfl rfl rfl rfl ?_
  refine j_iconst (pc := 11) (v := 0) C dX5_findMay_11 (by decide) ?_
  refine j_istore_n (pc := 12) (lv' := [(1, .int 0), (0, .ref r0)]) C dX5_findMay_12 rfl (by decide) rfl ?_
  have loop_3 : ∀ (k_3 : Nat) (x3_1 : Int32) (g3_e3 : Nat → Int32) (g3_a7 : Nat → Int32), (0 ≤ (x3_1).toInt ∧ (x3_1).toInt ≤ 12) → (MYI g3_a7 (mayC (a_wares).toInt (e_nests).toInt EM a_wide a_deep a_weight a_lids a_tops) x3_1.toInt 0) → (12 - x3_1.toInt).toNat < k_3 → J p l e ({ frames := 3, cells := 0, slots := 0, locals := 76 } : Room) s m args below meth c D A 3 0 0 (QX below D (TY cyC cyI cyJ cyZ cyO) A (fun u => none) (fun u => (MYC (u.2.2.1 1) (mayC (a_wares).toInt (e_nests).toInt EM a_wide a_deep a_weight a_lids a_tops))) (fun u => [(r0, .inr (5, [.ref t0, .ref e0, .ref r1, .ref r2, .ref a0, .int r_habits, .int r_fault])), (e0, .inr (1, [.int e_size, .int e_nests, .ref e1, .ref e2, .ref e3])), (e1, .inl (cyI, 1000, .inl e_steps)), (e2, .inl (cyI, 4, .inl e_end)), (e3, .inl (cyI, 32, .inl (u.2.2.1 0))), (a0, .inr (9, [.int a_wares, .int a_shelves, .int a_nests, .ref a1, .ref a2, .ref a3, .ref a4, .ref a5, .ref a6, .int a_lids, .int a_tops, .ref a7, .ref a8, .ref a9, .ref a10])), (a1, .inl (cyI, 12, .inl a_wide)), (a2, .inl (cyI, 12, .inl a_deep)), (a3, .inl (cyI, 12, .inl a_weight)), (a7, .inl (cyI, 12, .inl (u.2.2.1 1)))]) args s 0 0) [(r0, .inr (5, [.ref t0, .ref e0, .ref r1, .ref r2, .ref a0, .int r_habits, .int r_fault])), (e0, .inr (1, [.int e_size, .int e_nests, .ref e1, .ref e2, .ref e3])), (e1, .inl (cyI, 1000, .inl e_steps)), (e2, .inl (cyI, 4, .inl e_end)), (e3, .inl (cyI, 32, .inl g3_e3)), (a0, .inr (9, [.int a_wares, .int a_shelves, .int a_nests, .ref a1, .ref a2, .ref a3, .ref a4, .ref a5, .ref a6, .int a_lids, .int a_tops, .ref a7, .ref a8, .ref a9, .ref a10])), (a1, .inl (cyI, 12, .inl a_wide)), (a2, .inl (cyI, 12, .inl a_deep)), (a3, .inl (cyI, 12, .inl a_weight)), (a7, .inl (cyI, 12, .inl g3_a7))] 13 [(1, .int x3_1), (0, .ref r0)] [] := by
    intro k_3
    induction k_3 with
    | zero =>
      intro x3_1 g3_e3 g3_a7 hi_3_0 hq_3_0 hm_3
      exact absurd hm_3 (Nat.not_lt_zero _)
    | succ k_3 ih_3 =>
      intro x3_1 g3_e3 g3_a7 hi_3_0 hq_3_0 hm_3
      refine j_iload_n (pc := 13) C dX5_findMay_13 rfl 0 rfl ?_
      refine j_aload_n (pc := 14) C dX5_findMay_14 rfl 1 rfl ?_
      refine j_get (pc := 15) (ci := 5) (v := .ref a0) C inw_5 0 rfl rfl 4 (by decide) wd_299 rfl rfl dX5_findMay_15 ?_
      refine j_get (pc := 18) (ci := 9) (v := .int a_wares) C inw_9 5 rfl rfl 0 (by decide) wd_326 rfl rfl dX5_findMay_18 ?_
      refine j_icmp_ge (pc := 21) (tgt := 85) C dX5_findMay_21 (by decide) (fun c_4 => ?_) (fun c_4 => ?_)
      · skip
        rw [i_le] at c_4
        exact j_vret (pc := 85) C hr hk (fun i => [].getD i 0, fun i => [].getD i 0, fun i => [g3_e3, g3_a7].getD i (fun _ => 0), fun i => [].getD i (fun _ => 0)) rfl (show (MYC g3_a7 (mayC (a_wares).toInt (e_nests).toInt EM a_wide a_deep a_weight a_lids a_tops)) from ((MYI.fin hq_3_0 (by omega) (fun l u h => (mayC_lt h).1)))) [0, 1, 2, 3, 4, 5, 6, 7, 8, 9] (by decide) rfl (by decide) (by decide) dX5_findMay_85
      · skip
        rw [i_le] at c_4
        refine j_iconst (pc := 24) (v := 0) C dX5_findMay_24 (by decide) ?_
        refine j_istore_n (pc := 25) (lv' := [(2, .int 0), (1, .int x3_1), (0, .ref r0)]) C dX5_findMay_25 rfl (by decide) rfl ?_
        have loop_5 : ∀ (k_5 : Nat) (x5_2 : Int32) (g5_e3 : Nat → Int32) (g5_a7 : Nat → Int32), (0 ≤ (x5_2).toInt ∧ (x5_2).toInt ≤ 12) → (MYI g5_a7 (mayC (a_wares).toInt (e_nests).toInt EM a_wide a_deep a_weight a_lids a_tops) x3_1.toInt x5_2.toInt) → (12 - x5_2.toInt).toNat < k_5 → J p l e ({ frames := 3, cells := 0, slots := 0, locals := 76 } : Room) s m args below meth c D A 3 0 0 (QX below D (TY cyC cyI cyJ cyZ cyO) A (fun u => none) (fun u => (MYC (u.2.2.1 1) (mayC (a_wares).toInt (e_nests).toInt EM a_wide a_deep a_weight a_lids a_tops))) (fun u => [(r0, .inr (5, [.ref t0, .ref e0, .ref r1, .ref r2, .ref a0, .int r_habits, .int r_fault])), (e0, .inr (1, [.int e_size, .int e_nests, .ref e1, .ref e2, .ref e3])), (e1, .inl (cyI, 1000, .inl e_steps)), (e2, .inl (cyI, 4, .inl e_end)), (e3, .inl (cyI, 32, .inl (u.2.2.1 0))), (a0, .inr (9, [.int a_wares, .int a_shelves, .int a_nests, .ref a1, .ref a2, .ref a3, .ref a4, .ref a5, .ref a6, .int a_lids, .int a_tops, .ref a7, .ref a8, .ref a9, .ref a10])), (a1, .inl (cyI, 12, .inl a_wide)), (a2, .inl (cyI, 12, .inl a_deep)), (a3, .inl (cyI, 12, .inl a_weight)), (a7, .inl (cyI, 12, .inl (u.2.2.1 1)))]) args s 0 0) [(r0, .inr (5, [.ref t0, .ref e0, .ref r1, .ref r2, .ref a0, .int r_habits, .int r_fault])), (e0, .inr (1, [.int e_size, .int e_nests, .ref e1, .ref e2, .ref e3])), (e1, .inl (cyI, 1000, .inl e_steps)), (e2, .inl (cyI, 4, .inl e_end)), (e3, .inl (cyI, 32, .inl g5_e3)), (a0, .inr (9, [.int a_wares, .int a_shelves, .int a_nests, .ref a1, .ref a2, .ref a3, .ref a4, .ref a5, .ref a6, .int a_lids, .int a_tops, .ref a7, .ref a8, .ref a9, .ref a10])), (a1, .inl (cyI, 12, .inl a_wide)), (a2, .inl (cyI, 12, .inl a_deep)), (a3, .inl (cyI, 12, .inl a_weight)), (a7, .inl (cyI, 12, .inl g5_a7))] 26 [(2, .int x5_2), (1, .int x3_1), (0, .ref r0)] [] := by
          intro k_5
          induction k_5 with
          | zero =>
            intro x5_2 g5_e3 g5_a7 hi_5_0 hq_5_0 hm_5
            exact absurd hm_5 (Nat.not_lt_zero _)
          | succ k_5 ih_5 =>
            intro x5_2 g5_e3 g5_a7 hi_5_0 hq_5_0 hm_5
            refine j_iload_n (pc := 26) C dX5_findMay_26 rfl 0 rfl ?_
            refine j_aload_n (pc := 27) C dX5_findMay_27 rfl 2 rfl ?_
            refine j_get (pc := 28) (ci := 5) (v := .ref a0) C inw_5 0 rfl rfl 4 (by decide) wd_299 rfl rfl dX5_findMay_28 ?_
            refine j_get (pc := 31) (ci := 9) (v := .int a_wares) C inw_9 5 rfl rfl 0 (by decide) wd_326 rfl rfl dX5_findMay_31 ?_
            refine j_icmp_ge (pc := 34) (tgt := 79) C dX5_findMay_34 (by decide) (fun c_6 => ?_) (fun c_6 => ?_)
            · skip
              rw [i_le] at c_6
              obtain ⟨v_7, ev_7⟩ : ∃ z : Int32, x3_1 + 1 = z := ⟨_, rfl⟩
              have el_1 : (1 : Int32).toInt = 1 := rfl
              have hv_7 : v_7.toInt = x3_1.toInt + (1 : Int32).toInt := by rw [← ev_7]; exact fb_addI (by omega) (by omega)
              refine j_iinc (pc := 79) (v := v_7) (lv' := [(1, .int v_7), (2, .int x5_2), (0, .ref r0)]) C dX5_findMay_79 1 rfl ev_7 (by decide) rfl ?_
              refine j_goto (pc := 82) (tgt := 13) C dX5_findMay_82 (by decide) ?_
              exact j_lv [0, 2] rfl (ih_3 v_7 g5_e3 g5_a7 (by omega) (MYI.row hq_5_0 (by omega) (fun l u h => (mayC_lt h).2) (by omega) rfl) (by omega))
            · skip
              rw [i_le] at c_6
              refine j_iload_n (pc := 37) C dX5_findMay_37 rfl 0 rfl ?_
              refine j_iload_n (pc := 38) C dX5_findMay_38 rfl 1 rfl ?_
              refine j_icmp_eq (pc := 39) (tgt := 73) C dX5_findMay_39 (by decide) (fun c_8 => ?_) (fun c_8 => ?_)
              · skip
                rw [i_eq] at c_8
                obtain ⟨v_9, ev_9⟩ : ∃ z : Int32, x5_2 + 1 = z := ⟨_, rfl⟩
                have el_1 : (1 : Int32).toInt = 1 := rfl
                have hv_9 : v_9.toInt = x5_2.toInt + (1 : Int32).toInt := by rw [← ev_9]; exact fb_addI (by omega) (by omega)
                refine j_iinc (pc := 73) (v := v_9) (lv' := [(2, .int v_9), (1, .int x3_1), (0, .ref r0)]) C dX5_findMay_73 0 rfl ev_9 (by decide) rfl ?_
                refine j_goto (pc := 76) (tgt := 26) C dX5_findMay_76 (by decide) ?_
                exact j_lv [0, 1, 2] rfl (ih_5 v_9 g5_e3 g5_a7 (by omega) (MYI.skip hq_5_0 (by omega) (by omega) (by omega) (Bool.eq_false_iff.mpr (fun y => by have z := (mayC_iff.mp y).1; omega))) (by omega))
              · skip
                rw [i_eq] at c_8
                refine j_aload_n (pc := 42) C dX5_findMay_42 rfl 2 rfl ?_
                refine j_get (pc := 43) (ci := 5) (v := .ref e0) C inw_5 0 rfl rfl 1 (by decide) wd_344 rfl rfl dX5_findMay_43 ?_
                refine j_aload_n (pc := 46) C dX5_findMay_46 rfl 2 rfl ?_
                refine j_get (pc := 47) (ci := 5) (v := .ref a0) C inw_5 0 rfl rfl 4 (by decide) wd_299 rfl rfl dX5_findMay_47 ?_
                refine j_iload_n (pc := 50) C dX5_findMay_50 rfl 0 rfl ?_
                refine j_iload_n (pc := 51) C dX5_findMay_51 rfl 1 rfl ?_
                refine j_callV (pc := 52) (As := [.ref a0, .int x5_2, .int x3_1]) (rest := []) (wr := [(r0, .inr (5, [.ref t0, .ref e0, .ref r1, .ref r2, .ref a0, .int r_habits, .int r_fault])), (a7, .inl (cyI, 12, .inl g5_a7))]) C (c_X1_allow l D cyC cyI cyJ cyZ cyO e0 e1 e2 e3 a0 a1 a2 a3 a4 a5 a6 a7 a8 a9 a10 x5_2 x3_1 e_size e_nests a_wares a_shelves a_nests a_lids a_tops e_steps e_end g5_e3 a_wide a_deep a_weight EM h_e_size h_e_nests h_a_wares h_a_shelves h_a_nests (by omega) (by omega) h_e_end hCEM) wd_412 wd_200 wd_413 wd_414 wd_415 ⟨by decide, by decide, rfl⟩ rfl ⟨rfl, rfl, by decide, by decide⟩ ⟨by decide, by decide⟩ [1, 2, 3, 4, 5, 6, 7, 8] [0, 9] rfl rfl ⟨by decide, by decide, by decide⟩ 1 rfl rfl rfl (Nat.le_of_ble_eq_true rfl) dX5_findMay_52 (fun u_10 hw_11 => ?_)
                refine j_eq (ws2 := [(r0, .inr (5, [.ref t0, .ref e0, .ref r1, .ref r2, .ref a0, .int r_habits, .int r_fault])), (a7, .inl (cyI, 12, .inl g5_a7)), (e0, .inr (1, [.int e_size, .int e_nests, .ref e1, .ref e2, .ref e3])), (e1, .inl (cyI, 1000, .inl e_steps)), (e2, .inl (cyI, 4, .inl e_end)), (e3, .inl (cyI, 32, .inl (u_10.2.2.1 0))), (a0, .inr (9, [.int a_wares, .int a_shelves, .int a_nests, .ref a1, .ref a2, .ref a3, .ref a4, .ref a5, .ref a6, .int a_lids, .int a_tops, .ref a7, .ref a8, .ref a9, .ref a10])), (a1, .inl (cyI, 12, .inl a_wide)), (a2, .inl (cyI, 12, .inl a_deep)), (a3, .inl (cyI, 12, .inl a_weight))]) (pc2 := 55) (lv2 := [(2, .int x5_2), (1, .int x3_1), (0, .ref r0)]) (st2 := [.int (u_10.2.1 0)]) rfl rfl rfl rfl ?_
                obtain ⟨hw_11_0, hw_11_1⟩ := hw_11
                refine j_if_eq (pc := 55) (tgt := 73) C dX5_findMay_55 (by decide) (fun c_12 => ?_) (fun c_12 => ?_)
                · skip
                  have el_0 : (0 : Int32).toInt = 0 := rfl
                  rw [i_eq] at c_12
                  obtain ⟨v_13, ev_13⟩ : ∃ z : Int32, x5_2 + 1 = z := ⟨_, rfl⟩
                  have el_1 : (1 : Int32).toInt = 1 := rfl
                  have hv_13 : v_13.toInt = x5_2.toInt + (1 : Int32).toInt := by rw [← ev_13]; exact fb_addI (by omega) (by omega)
                  refine j_iinc (pc := 73) (v := v_13) (lv' := [(2, .int v_13), (1, .int x3_1), (0, .ref r0)]) C dX5_findMay_73 0 rfl ev_13 (by decide) rfl ?_
                  refine j_goto (pc := 76) (tgt := 26) C dX5_findMay_76 (by decide) ?_
                  refine j_subG (ws' := [(r0, .inr (5, [.ref t0, .ref e0, .ref r1, .ref r2, .ref a0, .int r_habits, .int r_fault])), (e0, .inr (1, [.int e_size, .int e_nests, .ref e1, .ref e2, .ref e3])), (e1, .inl (cyI, 1000, .inl e_steps)), (e2, .inl (cyI, 4, .inl e_end)), (e3, .inl (cyI, 32, .inl (u_10.2.2.1 0))), (a0, .inr (9, [.int a_wares, .int a_shelves, .int a_nests, .ref a1, .ref a2, .ref a3, .ref a4, .ref a5, .ref a6, .int a_lids, .int a_tops, .ref a7, .ref a8, .ref a9, .ref a10])), (a1, .inl (cyI, 12, .inl a_wide)), (a2, .inl (cyI, 12, .inl a_deep)), (a3, .inl (cyI, 12, .inl a_weight)), (a7, .inl (cyI, 12, .inl g5_a7))]) [0, 2, 3, 4, 5, 6, 7, 8, 9, 1] (by decide) rfl ?_
                  exact j_lv [0, 1, 2] rfl (ih_5 v_13 (u_10.2.2.1 0) g5_a7 (by omega) (MYI.skip hq_5_0 (by omega) (by omega) (by omega) (Bool.eq_false_iff.mpr (fun y => by have z := hw_11_1; rw [if_pos (mayC_iff.mp y).2] at z; omega))) (by omega))
                · skip
                  have el_0 : (0 : Int32).toInt = 0 := rfl
                  rw [i_eq] at c_12
                  have k0c_12 : ((u_10.2.1 0)).toInt = 1 := by omega
                  refine j_aload_n (pc := 58) C dX5_findMay_58 rfl 2 rfl ?_
                  refine j_get (pc := 59) (ci := 5) (v := .ref a0) C inw_5 0 rfl rfl 4 (by decide) wd_299 rfl rfl dX5_findMay_59 ?_
                  refine j_get (pc := 62) (ci := 9) (v := .ref a7) C inw_9 6 rfl rfl 11 (by decide) wd_410 rfl rfl dX5_findMay_62 ?_
                  refine j_iload_n (pc := 65) C dX5_findMay_65 rfl 1 rfl ?_
                  refine j_dup2 (pc := 66) C dX5_findMay_66 rfl rfl ?_
                  obtain ⟨v_14, ev_14⟩ : ∃ z, g5_a7 (x3_1).toInt.toNat = z := ⟨_, rfl⟩
                  have env_14 : (g5_a7 (x3_1).toInt.toNat).toInt = v_14.toInt := by rw [ev_14]
                  refine j_iald (pc := 67) (v := v_14) (k := (x3_1).toInt.toNat) C 1 1 rfl rfl (i_nn hi_3_0.1) rfl (i_lt_n hi_3_0.1 (by omega)) ev_14 dX5_findMay_67 ?_
                  refine j_iconst (pc := 68) (v := 1) C dX5_findMay_68 (by decide) ?_
                  refine j_iload_n (pc := 69) C dX5_findMay_69 rfl 0 rfl ?_
                  obtain ⟨v_15, ev_15⟩ : ∃ z : Int32, 1 <<< (x5_2 &&& 31) = z := ⟨_, rfl⟩
                  have el_1 : (1 : Int32).toInt = 1 := rfl
                  have hv_15 : 1 ≤ v_15.toInt ∧ v_15.toInt ≤ 2048 := by rw [← ev_15]; exact shl1_iv 0 11 (by omega) (by omega) (by omega)
                  refine j_ishl (pc := 70) (v := v_15) C dX5_findMay_70 ev_15 ?_
                  obtain ⟨v_16, ev_16⟩ : ∃ z : Int32, v_14 ||| v_15 = z := ⟨_, rfl⟩
                  refine j_ior (pc := 71) (v := v_16) C dX5_findMay_71 ev_16 ?_
                  obtain ⟨f_17, ef_17⟩ : ∃ z, z = upd g5_a7 (x3_1).toInt.toNat v_16 := ⟨_, rfl⟩
                  refine j_iast (pc := 72) (k := (x3_1).toInt.toNat) (ws' := [(r0, .inr (5, [.ref t0, .ref e0, .ref r1, .ref r2, .ref a0, .int r_habits, .int r_fault])), (a7, .inl (cyI, 12, .inl f_17)), (e0, .inr (1, [.int e_size, .int e_nests, .ref e1, .ref e2, .ref e3])), (e1, .inl (cyI, 1000, .inl e_steps)), (e2, .inl (cyI, 4, .inl e_end)), (e3, .inl (cyI, 32, .inl (u_10.2.2.1 0))), (a0, .inr (9, [.int a_wares, .int a_shelves, .int a_nests, .ref a1, .ref a2, .ref a3, .ref a4, .ref a5, .ref a6, .int a_lids, .int a_tops, .ref a7, .ref a8, .ref a9, .ref a10])), (a1, .inl (cyI, 12, .inl a_wide)), (a2, .inl (cyI, 12, .inl a_deep)), (a3, .inl (cyI, 12, .inl a_weight))]) C 1 1 rfl rfl (i_nn hi_3_0.1) rfl (i_lt_n hi_3_0.1 (by omega)) dX5_findMay_72 (by rw [ef_17]; rfl) ?_
                  obtain ⟨v_18, ev_18⟩ : ∃ z : Int32, x5_2 + 1 = z := ⟨_, rfl⟩
                  have el_1 : (1 : Int32).toInt = 1 := rfl
                  have hv_18 : v_18.toInt = x5_2.toInt + (1 : Int32).toInt := by rw [← ev_18]; exact fb_addI (by omega) (by omega)
                  refine j_iinc (pc := 73) (v := v_18) (lv' := [(2, .int v_18), (1, .int x3_1), (0, .ref r0)]) C dX5_findMay_73 0 rfl ev_18 (by decide) rfl ?_
                  refine j_goto (pc := 76) (tgt := 26) C dX5_findMay_76 (by decide) ?_
                  refine j_subG (ws' := [(r0, .inr (5, [.ref t0, .ref e0, .ref r1, .ref r2, .ref a0, .int r_habits, .int r_fault])), (e0, .inr (1, [.int e_size, .int e_nests, .ref e1, .ref e2, .ref e3])), (e1, .inl (cyI, 1000, .inl e_steps)), (e2, .inl (cyI, 4, .inl e_end)), (e3, .inl (cyI, 32, .inl (u_10.2.2.1 0))), (a0, .inr (9, [.int a_wares, .int a_shelves, .int a_nests, .ref a1, .ref a2, .ref a3, .ref a4, .ref a5, .ref a6, .int a_lids, .int a_tops, .ref a7, .ref a8, .ref a9, .ref a10])), (a1, .inl (cyI, 12, .inl a_wide)), (a2, .inl (cyI, 12, .inl a_deep)), (a3, .inl (cyI, 12, .inl a_weight)), (a7, .inl (cyI, 12, .inl f_17))]) [0, 2, 3, 4, 5, 6, 7, 8, 9, 1] (by decide) rfl ?_
                  exact j_lv [0, 1, 2] rfl (ih_5 v_18 (u_10.2.2.1 0) f_17 (by omega) (MYI.set (k := x5_2) hq_5_0 (by omega) (by omega) (by omega) rfl (by omega) (mayC_iff.mpr ⟨by omega, Decidable.byContradiction (fun y => by have z := hw_11_1; rw [if_neg y] at z; omega)⟩) (by rw [ef_17, ← ev_16, ← ev_15, ← ev_14])) (by omega))
        have el_0 : (0 : Int32).toInt = 0 := rfl
        exact j_lv [0, 1, 2] rfl (loop_5 4096 0 g3_e3 g3_a7 (by decide) (by rw [show ((0 : Int32).toInt) = 0 from rfl]; exact hq_3_0) (by omega))
  have el_0 : (0 : Int32).toInt = 0 := rfl
  exact j_lv [0, 1] rfl (loop_3 4096 0 e_values (fun _ => 0) (by decide) (MYI.zero rfl rfl) (by omega))
/-- the reading of all with the numbers, under way -/
def RDN (T : Nat → Int × Int64 × Nat) (wn sn : Nat → Int64) (wd dp wt br bk hb : Nat → Int32) (lids : Int32) (ht rc rm : Nat → Int32) (w s nn : Int) (tops habs : Int32) (k : Nat) (ret pl fa : Int) (F : Int) (SF : ((Nat → Int64) × Nat × (Nat → Int64) × Nat × (Nat → Bool) × (Nat → Bool) × Nat) × ((Nat → Nat → Int) × (Nat → Bool) × (Nat → Nat → Int))) : Prop := (ret = 1 → ∃ (S : ((Nat → Int64) × Nat × (Nat → Int64) × Nat × (Nat → Bool) × (Nat → Bool) × Nat)) (N : ((Nat → Nat → Int) × (Nat → Bool) × (Nat → Nat → Int))), CR wn sn w s nn tops habs S ∧ CW wd dp wt br bk hb lids ht rc rm w s N ∧ rAll T k S pl.toNat = F ∧ rFin T k S N pl.toNat = SF ∧ fa = 0) ∧ (ret = 0 → fa = F ∧ ¬ fa = 0)
theorem RDN.ex {T : Nat → Int × Int64 × Nat} {wn sn : Nat → Int64} {wd dp wt br bk hb : Nat → Int32} {lids : Int32} {ht rc rm : Nat → Int32} {w s nn : Int} {tops habs : Int32} {k : Nat} {ret pl fa F : Int} {SF : ((Nat → Int64) × Nat × (Nat → Int64) × Nat × (Nat → Bool) × (Nat → Bool) × Nat) × ((Nat → Nat → Int) × (Nat → Bool) × (Nat → Nat → Int))} (h : RDN T wn sn wd dp wt br bk hb lids ht rc rm w s nn tops habs k ret pl fa F SF) : ∃ (S : ((Nat → Int64) × Nat × (Nat → Int64) × Nat × (Nat → Bool) × (Nat → Bool) × Nat)) (N : ((Nat → Nat → Int) × (Nat → Bool) × (Nat → Nat → Int))), ret = 1 → CR wn sn w s nn tops habs S ∧ CW wd dp wt br bk hb lids ht rc rm w s N ∧ rAll T k S pl.toNat = F ∧ rFin T k S N pl.toNat = SF ∧ fa = 0 := by
  by_cases q : ret = 1
  · obtain ⟨S, N, hS⟩ := h.1 q
    exact ⟨S, N, fun _ => hS⟩
  · exact ⟨S0, N0, fun z => absurd z q⟩
theorem RDN.step {T : Nat → Int × Int64 × Nat} {wn sn wn' sn' : Nat → Int64} {wd dp wt br bk hb wd' dp' wt' br' bk' hb' : Nat → Int32} {lids lids' : Int32} {ht rc rm ht' rc' rm' : Nat → Int32} {w s nn w' s' nn' : Int} {tops habs tops' habs' : Int32} {k : Nat} {ret pl fa ret' pl' fa' F : Int} {SF : ((Nat → Int64) × Nat × (Nat → Int64) × Nat × (Nat → Bool) × (Nat → Bool) × Nat) × ((Nat → Nat → Int) × (Nat → Bool) × (Nat → Nat → Int))} {S : ((Nat → Int64) × Nat × (Nat → Int64) × Nat × (Nat → Bool) × (Nat → Bool) × Nat)} {N : ((Nat → Nat → Int) × (Nat → Bool) × (Nat → Nat → Int))} (h : ret = 1 → CR wn sn w s nn tops habs S ∧ CW wd dp wt br bk hb lids ht rc rm w s N ∧ rAll T (k + 1) S pl.toNat = F ∧ rFin T (k + 1) S N pl.toNat = SF ∧ fa = 0) (h1 : ret = 1) (hk : ¬ (T pl.toNat).1 = 0) (hc : CP ret' pl' fa' fa (rStm T S pl.toNat)) (hr : ret' = 1 → CR wn' sn' w' s' nn' tops' habs' (sLine T S pl.toNat)) (hn : ret' = 1 → CW wd' dp' wt' br' bk' hb' lids' ht' rc' rm' w' s' (nLine T S N pl.toNat)) : RDN T wn' sn' wd' dp' wt' br' bk' hb' lids' ht' rc' rm' w' s' nn' tops' habs' k ret' pl' fa' F SF := by
  obtain ⟨_, _, a, b, c⟩ := h h1
  refine ⟨fun z => ⟨sLine T S pl.toNat, nLine T S N pl.toNat, hr z, hn z, ?_, ?_, ?_⟩, fun z => ?_⟩
  · rw [← a, rAll_ok hk (hc.1 z).1]
  · rw [← b, rFin_ok hk (hc.1 z).1]
  · rw [(hc.1 z).2]; exact c
  · rw [rAll_bad hk (hc.2 z).2] at a
    have e := (hc.2 z).1
    exact ⟨e.symm.trans a, fun y => (hc.2 z).2 (e.trans y)⟩
theorem RDN.fin {T : Nat → Int × Int64 × Nat} {wn sn : Nat → Int64} {wd dp wt br bk hb : Nat → Int32} {lids : Int32} {ht rc rm : Nat → Int32} {w s nn : Int} {tops habs : Int32} {k : Nat} {ret pl fa F : Int} {SF : ((Nat → Int64) × Nat × (Nat → Int64) × Nat × (Nat → Bool) × (Nat → Bool) × Nat) × ((Nat → Nat → Int) × (Nat → Bool) × (Nat → Nat → Int))} (h : RDN T wn sn wd dp wt br bk hb lids ht rc rm w s nn tops habs k ret pl fa F SF) (h1 : ret = 0 ∨ ret = 1) (h2 : ret = 1 → k = 0 ∨ (T pl.toNat).1 = 0) : fa = F ∧ (fa = 0 → CR wn sn w s nn tops habs SF.1 ∧ CW wd dp wt br bk hb lids ht rc rm w s SF.2) := by
  rcases h1 with q | q
  · have a := h.2 q
    exact ⟨a.1, fun z => absurd z a.2⟩
  · obtain ⟨S, N, h3, h4, h5, h6, h7⟩ := h.1 q
    rcases h2 q with z | z
    · rw [z] at h5 h6
      rw [← h6, h7]; exact ⟨h5, fun _ => ⟨h3, h4⟩⟩
    · rw [rAll_end z] at h5
      rw [rFin_end z] at h6
      rw [← h6, h7]; exact ⟨h5, fun _ => ⟨h3, h4⟩⟩
/-- the reading of all with the numbers and the nests, under way -/
def RDE (T : Nat → Int × Int64 × Nat) (wn sn : Nat → Int64) (wd dp wt br bk hb : Nat → Int32) (lids : Int32) (ht rc rm : Nat → Int32) (f en : Nat → Int32) (w s nn ne sz : Int) (tops habs : Int32) (k : Nat) (ret pl fa : Int) (F : Int) (SF : ((Nat → Int64) × Nat × (Nat → Int64) × Nat × (Nat → Bool) × (Nat → Bool) × Nat) × ((Nat → Nat → Int) × (Nat → Bool) × (Nat → Nat → Int))) (EF : (Nat → (Nat → Int32) → Int32)) : Prop := (ret = 1 → ∃ (S : ((Nat → Int64) × Nat × (Nat → Int64) × Nat × (Nat → Bool) × (Nat → Bool) × Nat)) (N : ((Nat → Nat → Int) × (Nat → Bool) × (Nat → Nat → Int))) (E : (Nat → (Nat → Int32) → Int32)), CR wn sn w s nn tops habs S ∧ CW wd dp wt br bk hb lids ht rc rm w s N ∧ CE f en ne sz nn E ∧ sz ≤ pl ∧ rAll T k S pl.toNat = F ∧ rFin T k S N pl.toNat = SF ∧ eFin T k S E pl.toNat = EF ∧ fa = 0) ∧ (ret = 0 → fa = F ∧ ¬ fa = 0)
theorem RDE.ex {T : Nat → Int × Int64 × Nat} {wn sn : Nat → Int64} {wd dp wt br bk hb : Nat → Int32} {lids : Int32} {ht rc rm f en : Nat → Int32} {w s nn ne sz : Int} {tops habs : Int32} {k : Nat} {ret pl fa F : Int} {SF : ((Nat → Int64) × Nat × (Nat → Int64) × Nat × (Nat → Bool) × (Nat → Bool) × Nat) × ((Nat → Nat → Int) × (Nat → Bool) × (Nat → Nat → Int))} {EF : (Nat → (Nat → Int32) → Int32)} (h : RDE T wn sn wd dp wt br bk hb lids ht rc rm f en w s nn ne sz tops habs k ret pl fa F SF EF) : ∃ (S : ((Nat → Int64) × Nat × (Nat → Int64) × Nat × (Nat → Bool) × (Nat → Bool) × Nat)) (N : ((Nat → Nat → Int) × (Nat → Bool) × (Nat → Nat → Int))) (E : (Nat → (Nat → Int32) → Int32)), ret = 1 → CR wn sn w s nn tops habs S ∧ CW wd dp wt br bk hb lids ht rc rm w s N ∧ CE f en ne sz nn E ∧ sz ≤ pl ∧ rAll T k S pl.toNat = F ∧ rFin T k S N pl.toNat = SF ∧ eFin T k S E pl.toNat = EF ∧ fa = 0 := by
  by_cases q : ret = 1
  · obtain ⟨S, N, E, hS⟩ := h.1 q
    exact ⟨S, N, E, fun _ => hS⟩
  · exact ⟨S0, N0, E0, fun z => absurd z q⟩
theorem RDE.step {T : Nat → Int × Int64 × Nat} {wn sn wn' sn' : Nat → Int64} {wd dp wt br bk hb wd' dp' wt' br' bk' hb' : Nat → Int32} {lids lids' : Int32} {ht rc rm ht' rc' rm' f en f' en' : Nat → Int32} {w s nn ne sz w' s' nn' ne' sz' : Int} {tops habs tops' habs' : Int32} {k : Nat} {ret pl fa ret' pl' fa' F : Int} {SF : ((Nat → Int64) × Nat × (Nat → Int64) × Nat × (Nat → Bool) × (Nat → Bool) × Nat) × ((Nat → Nat → Int) × (Nat → Bool) × (Nat → Nat → Int))} {EF : (Nat → (Nat → Int32) → Int32)} {S : ((Nat → Int64) × Nat × (Nat → Int64) × Nat × (Nat → Bool) × (Nat → Bool) × Nat)} {N : ((Nat → Nat → Int) × (Nat → Bool) × (Nat → Nat → Int))} {E : (Nat → (Nat → Int32) → Int32)} (hT : PT T) (h0 : 0 ≤ pl) (h0' : 0 ≤ pl') (h : ret = 1 → CR wn sn w s nn tops habs S ∧ CW wd dp wt br bk hb lids ht rc rm w s N ∧ CE f en ne sz nn E ∧ sz ≤ pl ∧ rAll T (k + 1) S pl.toNat = F ∧ rFin T (k + 1) S N pl.toNat = SF ∧ eFin T (k + 1) S E pl.toNat = EF ∧ fa = 0) (h1 : ret = 1) (hk : ¬ (T pl.toNat).1 = 0) (hc : CP ret' pl' fa' fa (rStm T S pl.toNat)) (hr : ret' = 1 → CR wn' sn' w' s' nn' tops' habs' (sLine T S pl.toNat)) (hn : ret' = 1 → CW wd' dp' wt' br' bk' hb' lids' ht' rc' rm' w' s' (nLine T S N pl.toNat)) (he : ret' = 1 → CE f' en' ne' sz' nn' (eLine T S E pl.toNat)) (hz : ret' = 0 ∨ sz' ≤ sz ∨ sz' ≤ pl') : RDE T wn' sn' wd' dp' wt' br' bk' hb' lids' ht' rc' rm' f' en' w' s' nn' ne' sz' tops' habs' k ret' pl' fa' F SF EF := by
  obtain ⟨_, _, _, q1, a, b, e, c⟩ := h h1
  refine ⟨fun z => ⟨sLine T S pl.toNat, nLine T S N pl.toNat, eLine T S E pl.toNat, hr z, hn z, he z, ?_, ?_, ?_, ?_, ?_⟩, fun z => ?_⟩
  · have y := rStm_gt hT (S := S) pl.toNat (by rw [(hc.1 z).1])
    rw [(hc.1 z).1] at y
    have y2 : pl.toNat < pl'.toNat := y
    omega
  · rw [← a, rAll_ok hk (hc.1 z).1]
  · rw [← b, rFin_ok hk (hc.1 z).1]
  · rw [← e, eFin_ok hk (hc.1 z).1]
  · rw [(hc.1 z).2]; exact c
  · rw [rAll_bad hk (hc.2 z).2] at a
    have e := (hc.2 z).1
    exact ⟨e.symm.trans a, fun y => (hc.2 z).2 (e.trans y)⟩
theorem RDE.fin {T : Nat → Int × Int64 × Nat} {wn sn : Nat → Int64} {wd dp wt br bk hb : Nat → Int32} {lids : Int32} {ht rc rm f en : Nat → Int32} {w s nn ne sz : Int} {tops habs : Int32} {k : Nat} {ret pl fa F : Int} {SF : ((Nat → Int64) × Nat × (Nat → Int64) × Nat × (Nat → Bool) × (Nat → Bool) × Nat) × ((Nat → Nat → Int) × (Nat → Bool) × (Nat → Nat → Int))} {EF : (Nat → (Nat → Int32) → Int32)} (h : RDE T wn sn wd dp wt br bk hb lids ht rc rm f en w s nn ne sz tops habs k ret pl fa F SF EF) (h1 : ret = 0 ∨ ret = 1) (h2 : ret = 1 → k = 0 ∨ (T pl.toNat).1 = 0) : fa = F ∧ (fa = 0 → CR wn sn w s nn tops habs SF.1 ∧ CW wd dp wt br bk hb lids ht rc rm w s SF.2 ∧ CE f en ne sz nn EF) ∧ (ret = 1 → fa = 0) ∧ (ret = 0 → ¬ fa = 0) := by
  rcases h1 with q | q
  · have a := h.2 q
    exact ⟨a.1, fun z => absurd z a.2, fun z => by omega, fun _ => a.2⟩
  · obtain ⟨S, N, E, h3, h4, h4e, _, h5, h6, h6e, h7⟩ := h.1 q
    rcases h2 q with z | z
    · rw [z] at h5 h6 h6e
      rw [← h6, ← h6e, h7]; exact ⟨h5, fun _ => ⟨h3, h4, h4e⟩, fun _ => rfl, fun y => by omega⟩
    · rw [rAll_end z] at h5
      rw [rFin_end z] at h6
      rw [eFin_end z] at h6e
      rw [← h6, ← h6e, h7]; exact ⟨h5, fun _ => ⟨h3, h4, h4e⟩, fun _ => rfl, fun y => by omega⟩
theorem CW.zero {wd dp wt br bk ht rc rm : Nat → Int32} {w s : Int} (hw : w = 0) (hs : s = 0) : CW wd dp wt br bk (fun _ => 0) 0 ht rc rm w s N0 := by
  subst hw; subst hs
  exact ⟨fun j hj => absurd hj (by omega), fun j hj => rfl, fun j hj => bt_z j (by omega), fun j hj => absurd hj (by omega)⟩
set_option maxHeartbeats 4000000 in
set_option maxRecDepth 100000 in
theorem c_X5_read (l : Launch) (D : DG) (cyC cyI cyJ cyZ cyO : ClassId) (r0 : Nat) (r1 : Nat) (r2 : Nat) (t0 : Nat) (t1 : Nat) (e0 : Nat) (e1 : Nat) (e2 : Nat) (e3 : Nat) (a0 : Nat) (a1 : Nat) (a2 : Nat) (a3 : Nat) (a4 : Nat) (a5 : Nat) (a6 : Nat) (a7 : Nat) (a8 : Nat) (a9 : Nat) (a10 : Nat) (r_habits : Int32) (r_fault : Int32) (t_length : Int32) (t_next : Int32) (t_kind : Int32) (t_place : Int32) (t_number : Int32) (e_size : Int32) (e_nests : Int32) (a_wares : Int32) (a_shelves : Int32) (a_nests : Int32) (a_lids : Int32) (a_tops : Int32) (r_wn : Nat → Int64) (r_sn : Nat → Int64) (t_text : Nat → Int32) (e_steps : Nat → Int32) (e_end : Nat → Int32) (e_values : Nat → Int32) (a_wide : Nat → Int32) (a_deep : Nat → Int32) (a_weight : Nat → Int32) (a_bears : Nat → Int32) (a_breaks : Nat → Int32) (a_habit : Nat → Int32) (a_mayOn : Nat → Int32) (a_height : Nat → Int32) (a_reach : Nat → Int32) (a_room : Nat → Int32) (h_t_length : 0 ≤ (t_length).toInt ∧ (t_length).toInt ≤ 1000) (h_t_next : 0 ≤ (t_next).toInt ∧ (t_next).toInt ≤ 1000) (h_t_kind : 0 ≤ (t_kind).toInt ∧ (t_kind).toInt ≤ 4) (h_t_place : 0 ≤ (t_place).toInt ∧ (t_place).toInt ≤ 1000) (h_e_size : 0 ≤ (e_size).toInt ∧ (e_size).toInt ≤ 1000) (h_e_nests : 0 ≤ (e_nests).toInt ∧ (e_nests).toInt ≤ 4) (h_a_wares : 0 ≤ (a_wares).toInt ∧ (a_wares).toInt ≤ 12) (h_a_shelves : 0 ≤ (a_shelves).toInt ∧ (a_shelves).toInt ≤ 4) (h_a_nests : 0 ≤ (a_nests).toInt ∧ (a_nests).toInt ≤ 4) (h_t_text : Iv 1000 (0) (126) t_text) (h_e_end : Iv 4 (0) (1000) e_end) (h_a_room : Iv 4 (0) (8) a_room) (ht3 : ¬ (t_kind).toInt = 3 ∨ (t_place).toInt ≤ 999) : KK l D (TY cyC cyI cyJ cyZ cyO) yX5_read cX5_read 3 (some .int) ({ frames := 44, cells := 0, slots := 0, locals := 1097 } : Room) 0 0 [.ref r0] [(r0, .inr (5, [.ref t0, .ref e0, .ref r1, .ref r2, .ref a0, .int r_habits, .int r_fault])), (r1, .inl (cyJ, 12, .inr (.inl r_wn))), (r2, .inl (cyJ, 4, .inr (.inl r_sn))), (t0, .inr (8, [.ref t1, .int t_length, .int t_next, .int t_kind, .int t_place, .int t_number])), (t1, .inl (cyC, 1000, .inl t_text)), (e0, .inr (1, [.int e_size, .int e_nests, .ref e1, .ref e2, .ref e3])), (e1, .inl (cyI, 1000, .inl e_steps)), (e2, .inl (cyI, 4, .inl e_end)), (e3, .inl (cyI, 32, .inl e_values)), (a0, .inr (9, [.int a_wares, .int a_shelves, .int a_nests, .ref a1, .ref a2, .ref a3, .ref a4, .ref a5, .ref a6, .int a_lids, .int a_tops, .ref a7, .ref a8, .ref a9, .ref a10])), (a1, .inl (cyI, 12, .inl a_wide)), (a2, .inl (cyI, 12, .inl a_deep)), (a3, .inl (cyI, 12, .inl a_weight)), (a4, .inl (cyI, 12, .inl a_bears)), (a5, .inl (cyI, 12, .inl a_breaks)), (a6, .inl (cyI, 12, .inl a_habit)), (a7, .inl (cyI, 12, .inl a_mayOn)), (a8, .inl (cyI, 4, .inl a_height)), (a9, .inl (cyI, 4, .inl a_reach)), (a10, .inl (cyI, 4, .inl a_room))] (fun u => some (.int (u.2.1 0))) (fun u => (0 ≤ (u.2.1 3).toInt ∧ (u.2.1 3).toInt ≤ 1000) ∧ (0 ≤ (u.2.1 4).toInt ∧ (u.2.1 4).toInt ≤ 4) ∧ (0 ≤ (u.2.1 5).toInt ∧ (u.2.1 5).toInt ≤ 1000) ∧ (0 ≤ (u.2.1 7).toInt ∧ (u.2.1 7).toInt ≤ 1000) ∧ (0 ≤ (u.2.1 8).toInt ∧ (u.2.1 8).toInt ≤ 4) ∧ (Iv 4 (0) (1000) (u.2.2.1 1)) ∧ (0 ≤ (u.2.1 9).toInt ∧ (u.2.1 9).toInt ≤ 12) ∧ (0 ≤ (u.2.1 10).toInt ∧ (u.2.1 10).toInt ≤ 4) ∧ (0 ≤ (u.2.1 11).toInt ∧ (u.2.1 11).toInt ≤ 4) ∧ (Iv 4 (0) (8) (u.2.2.1 12)) ∧ (¬ ((u.2.1 4)).toInt = 3 ∨ ((u.2.1 5)).toInt ≤ 999) ∧ (IM (((u.2.1 0)).toInt = 0) (CR (u.2.2.2 0) (u.2.2.2 1) ((u.2.1 9)).toInt ((u.2.1 10)).toInt ((u.2.1 11)).toInt (u.2.1 13) (u.2.1 1) (cupN t_text (t_length).toInt.toNat).1 ∧ CW (u.2.2.1 3) (u.2.2.1 4) (u.2.2.1 5) (u.2.2.1 6) (u.2.2.1 7) (u.2.2.1 8) (u.2.1 12) (u.2.2.1 10) (u.2.2.1 11) (u.2.2.1 12) ((u.2.1 9)).toInt ((u.2.1 10)).toInt (cupN t_text (t_length).toInt.toNat).2)) ∧ (IM (((u.2.1 0)).toInt = 0) (MYC (u.2.2.1 9) (mayC ((u.2.1 9)).toInt ((u.2.1 11)).toInt (cupE t_text (t_length).toInt.toNat) (u.2.2.1 3) (u.2.2.1 4) (u.2.2.1 5) (u.2.1 12) (u.2.1 13)))) ∧ (((u.2.1 0)).toInt = cup t_text (t_length).toInt.toNat)) (fun u => [(r0, .inr (5, [.ref t0, .ref e0, .ref r1, .ref r2, .ref a0, .int (u.2.1 1), .int (u.2.1 2)])), (r1, .inl (cyJ, 12, .inr (.inl (u.2.2.2 0)))), (r2, .inl (cyJ, 4, .inr (.inl (u.2.2.2 1)))), (t0, .inr (8, [.ref t1, .int 0, .int (u.2.1 3), .int (u.2.1 4), .int (u.2.1 5), .int (u.2.1 6)])), (t1, .inl (cyC, 1000, .inl t_text)), (e0, .inr (1, [.int (u.2.1 7), .int (u.2.1 8), .ref e1, .ref e2, .ref e3])), (e1, .inl (cyI, 1000, .inl (u.2.2.1 0))), (e2, .inl (cyI, 4, .inl (u.2.2.1 1))), (e3, .inl (cyI, 32, .inl (u.2.2.1 2))), (a0, .inr (9, [.int (u.2.1 9), .int (u.2.1 10), .int (u.2.1 11), .ref a1, .ref a2, .ref a3, .ref a4, .ref a5, .ref a6, .int (u.2.1 12), .int (u.2.1 13), .ref a7, .ref a8, .ref a9, .ref a10])), (a1, .inl (cyI, 12, .inl (u.2.2.1 3))), (a2, .inl (cyI, 12, .inl (u.2.2.1 4))), (a3, .inl (cyI, 12, .inl (u.2.2.1 5))), (a4, .inl (cyI, 12, .inl (u.2.2.1 6))), (a5, .inl (cyI, 12, .inl (u.2.2.1 7))), (a6, .inl (cyI, 12, .inl (u.2.2.1 8))), (a7, .inl (cyI, 12, .inl (u.2.2.1 9))), (a8, .inl (cyI, 4, .inl (u.2.2.1 10))), (a9, .inl (cyI, 4, .inl (u.2.2.1 11))), (a10, .inl (cyI, 4, .inl (u.2.2.1 12)))]) := by
  refine KK.of (lv0 := [(0, .ref r0)]) (by decide) rfl (Nat.le_of_ble_eq_true rfl) ?_
  intro p e s m args below meth c A C hr hk hin
  refine j_aload_n (pc := 0) C dX5_read_0 rfl 0 rfl ?_
  refine j_get (pc := 1) (ci := 5) (v := .ref a0) C inw_5 0 rfl rfl 4 (by decide) wd_299 rfl rfl dX5_read_1 ?_
  refine j_callV (pc := 4) (As := []) (rest := []) (wr := [(r0, .inr (5, [.ref t0, .ref e0, .ref r1, .ref r2, .ref a0, .int r_habits, .int r_fault])), (r1, .inl (cyJ, 12, .inr (.inl r_wn))), (r2, .inl (cyJ, 4, .inr (.inl r_sn))), (t0, .inr (8, [.ref t1, .int t_length, .int t_next, .int t_kind, .int t_place, .int t_number])), (t1, .inl (cyC, 1000, .inl t_text)), (e0, .inr (1, [.int e_size, .int e_nests, .ref e1, .ref e2, .ref e3])), (e1, .inl (cyI, 1000, .inl e_steps)), (e2, .inl (cyI, 4, .inl e_end)), (e3, .inl (cyI, 32, .inl e_values)), (a1, .inl (cyI, 12, .inl a_wide)), (a2, .inl (cyI, 12, .inl a_deep)), (a3, .inl (cyI, 12, .inl a_weight)), (a4, .inl (cyI, 12, .inl a_bears)), (a5, .inl (cyI, 12, .inl a_breaks)), (a7, .inl (cyI, 12, .inl a_mayOn)), (a8, .inl (cyI, 4, .inl a_height)), (a9, .inl (cyI, 4, .inl a_reach)), (a10, .inl (cyI, 4, .inl a_room))]) C (c_X9_empty l D cyC cyI cyJ cyZ cyO a0 a6 a1 a2 a3 a4 a5 a7 a8 a9 a10 a_wares a_shelves a_nests a_lids a_tops a_habit h_a_wares h_a_shelves h_a_nests) wd_416 wd_33 wd_417 wd_418 wd_419 ⟨by decide, by decide, rfl⟩ rfl ⟨rfl, rfl, by decide, by decide⟩ ⟨by decide, by decide⟩ [9, 15] [0, 1, 2, 3, 4, 5, 6, 7, 8, 10, 11, 12, 13, 14, 16, 17, 18, 19] rfl rfl ⟨by decide, by decide, by decide⟩ 9 rfl rfl rfl (Nat.le_of_ble_eq_true rfl) dX5_read_4 (fun u_1 hw_2 => ?_)
  refine j_eq (ws2 := [(r0, .inr (5, [.ref t0, .ref e0, .ref r1, .ref r2, .ref a0, .int r_habits, .int r_fault])), (r1, .inl (cyJ, 12, .inr (.inl r_wn))), (r2, .inl (cyJ, 4, .inr (.inl r_sn))), (t0, .inr (8, [.ref t1, .int t_length, .int t_next, .int t_kind, .int t_place, .int t_number])), (t1, .inl (cyC, 1000, .inl t_text)), (e0, .inr (1, [.int e_size, .int e_nests, .ref e1, .ref e2, .ref e3])), (e1, .inl (cyI, 1000, .inl e_steps)), (e2, .inl (cyI, 4, .inl e_end)), (e3, .inl (cyI, 32, .inl e_values)), (a1, .inl (cyI, 12, .inl a_wide)), (a2, .inl (cyI, 12, .inl a_deep)), (a3, .inl (cyI, 12, .inl a_weight)), (a4, .inl (cyI, 12, .inl a_bears)), (a5, .inl (cyI, 12, .inl a_breaks)), (a7, .inl (cyI, 12, .inl a_mayOn)), (a8, .inl (cyI, 4, .inl a_height)), (a9, .inl (cyI, 4, .inl a_reach)), (a10, .inl (cyI, 4, .inl a_room)), (a0, .inr (9, [.int 0, .int 0, .int 0, .ref a1, .ref a2, .ref a3, .ref a4, .ref a5, .ref a6, .int 0, .int 0, .ref a7, .ref a8, .ref a9, .ref a10])), (a6, .inl (cyI, 12, .inl (fun _ => 0)))]) (pc2 := 7) (lv2 := [(0, .ref r0)]) (st2 := []) rfl rfl rfl rfl ?_
  refine j_aload_n (pc := 7) C dX5_read_7 rfl 0 rfl ?_
  refine j_get (pc := 8) (ci := 5) (v := .ref e0) C inw_5 0 rfl rfl 1 (by decide) wd_344 rfl rfl dX5_read_8 ?_
  refine j_callV (pc := 11) (As := []) (rest := []) (wr := [(r0, .inr (5, [.ref t0, .ref e0, .ref r1, .ref r2, .ref a0, .int r_habits, .int r_fault])), (r1, .inl (cyJ, 12, .inr (.inl r_wn))), (r2, .inl (cyJ, 4, .inr (.inl r_sn))), (t0, .inr (8, [.ref t1, .int t_length, .int t_next, .int t_kind, .int t_place, .int t_number])), (t1, .inl (cyC, 1000, .inl t_text)), (e1, .inl (cyI, 1000, .inl e_steps)), (e2, .inl (cyI, 4, .inl e_end)), (e3, .inl (cyI, 32, .inl e_values)), (a1, .inl (cyI, 12, .inl a_wide)), (a2, .inl (cyI, 12, .inl a_deep)), (a3, .inl (cyI, 12, .inl a_weight)), (a4, .inl (cyI, 12, .inl a_bears)), (a5, .inl (cyI, 12, .inl a_breaks)), (a7, .inl (cyI, 12, .inl a_mayOn)), (a8, .inl (cyI, 4, .inl a_height)), (a9, .inl (cyI, 4, .inl a_reach)), (a10, .inl (cyI, 4, .inl a_room)), (a0, .inr (9, [.int 0, .int 0, .int 0, .ref a1, .ref a2, .ref a3, .ref a4, .ref a5, .ref a6, .int 0, .int 0, .ref a7, .ref a8, .ref a9, .ref a10])), (a6, .inl (cyI, 12, .inl (fun _ => 0)))]) C (c_X1_empty l D cyC cyI cyJ cyZ cyO e0 e1 e2 e3 e_size e_nests h_e_size h_e_nests) wd_420 wd_200 wd_421 wd_422 wd_423 ⟨by decide, by decide, rfl⟩ rfl ⟨rfl, rfl, by decide, by decide⟩ ⟨by decide, by decide⟩ [5] [0, 1, 2, 3, 4, 6, 7, 8, 9, 10, 11, 12, 13, 14, 15, 16, 17, 18, 19] rfl rfl ⟨by decide, by decide, by decide⟩ 5 rfl rfl rfl (Nat.le_of_ble_eq_true rfl) dX5_read_11 (fun u_3 hw_4 => ?_)
  refine j_eq (ws2 := [(r0, .inr (5, [.ref t0, .ref e0, .ref r1, .ref r2, .ref a0, .int r_habits, .int r_fault])), (r1, .inl (cyJ, 12, .inr (.inl r_wn))), (r2, .inl (cyJ, 4, .inr (.inl r_sn))), (t0, .inr (8, [.ref t1, .int t_length, .int t_next, .int t_kind, .int t_place, .int t_number])), (t1, .inl (cyC, 1000, .inl t_text)), (e1, .inl (cyI, 1000, .inl e_steps)), (e2, .inl (cyI, 4, .inl e_end)), (e3, .inl (cyI, 32, .inl e_values)), (a1, .inl (cyI, 12, .inl a_wide)), (a2, .inl (cyI, 12, .inl a_deep)), (a3, .inl (cyI, 12, .inl a_weight)), (a4, .inl (cyI, 12, .inl a_bears)), (a5, .inl (cyI, 12, .inl a_breaks)), (a7, .inl (cyI, 12, .inl a_mayOn)), (a8, .inl (cyI, 4, .inl a_height)), (a9, .inl (cyI, 4, .inl a_reach)), (a10, .inl (cyI, 4, .inl a_room)), (a0, .inr (9, [.int 0, .int 0, .int 0, .ref a1, .ref a2, .ref a3, .ref a4, .ref a5, .ref a6, .int 0, .int 0, .ref a7, .ref a8, .ref a9, .ref a10])), (a6, .inl (cyI, 12, .inl (fun _ => 0))), (e0, .inr (1, [.int 0, .int 0, .ref e1, .ref e2, .ref e3]))]) (pc2 := 14) (lv2 := [(0, .ref r0)]) (st2 := []) rfl rfl rfl rfl ?_
  refine j_aload_n (pc := 14) C dX5_read_14 rfl 0 rfl ?_
  refine j_iconst (pc := 15) (v := 0) C dX5_read_15 (by decide) ?_
  refine j_put (pc := 16) (ci := 5) (v := .int 0) (ws' := [(r0, .inr (5, [.ref t0, .ref e0, .ref r1, .ref r2, .ref a0, .int 0, .int r_fault])), (r1, .inl (cyJ, 12, .inr (.inl r_wn))), (r2, .inl (cyJ, 4, .inr (.inl r_sn))), (t0, .inr (8, [.ref t1, .int t_length, .int t_next, .int t_kind, .int t_place, .int t_number])), (t1, .inl (cyC, 1000, .inl t_text)), (e1, .inl (cyI, 1000, .inl e_steps)), (e2, .inl (cyI, 4, .inl e_end)), (e3, .inl (cyI, 32, .inl e_values)), (a1, .inl (cyI, 12, .inl a_wide)), (a2, .inl (cyI, 12, .inl a_deep)), (a3, .inl (cyI, 12, .inl a_weight)), (a4, .inl (cyI, 12, .inl a_bears)), (a5, .inl (cyI, 12, .inl a_breaks)), (a7, .inl (cyI, 12, .inl a_mayOn)), (a8, .inl (cyI, 4, .inl a_height)), (a9, .inl (cyI, 4, .inl a_reach)), (a10, .inl (cyI, 4, .inl a_room)), (a0, .inr (9, [.int 0, .int 0, .int 0, .ref a1, .ref a2, .ref a3, .ref a4, .ref a5, .ref a6, .int 0, .int 0, .ref a7, .ref a8, .ref a9, .ref a10])), (a6, .inl (cyI, 12, .inl (fun _ => 0))), (e0, .inr (1, [.int 0, .int 0, .ref e1, .ref e2, .ref e3]))]) C inw_5 0 rfl rfl 5 (by decide) wd_379 rfl tyX5_ok nmX5 rfl (tyX5_ok 5 (by decide)) rfl rfl (Nat.le_of_ble_eq_true rfl) dX5_read_16 rfl ?_
  refine j_aload_n (pc := 19) C dX5_read_19 rfl 0 rfl ?_
  refine j_iconst (pc := 20) (v := 0) C dX5_read_20 (by decide) ?_
  refine j_put (pc := 21) (ci := 5) (v := .int 0) (ws' := [(r0, .inr (5, [.ref t0, .ref e0, .ref r1, .ref r2, .ref a0, .int 0, .int 0])), (r1, .inl (cyJ, 12, .inr (.inl r_wn))), (r2, .inl (cyJ, 4, .inr (.inl r_sn))), (t0, .inr (8, [.ref t1, .int t_length, .int t_next, .int t_kind, .int t_place, .int t_number])), (t1, .inl (cyC, 1000, .inl t_text)), (e1, .inl (cyI, 1000, .inl e_steps)), (e2, .inl (cyI, 4, .inl e_end)), (e3, .inl (cyI, 32, .inl e_values)), (a1, .inl (cyI, 12, .inl a_wide)), (a2, .inl (cyI, 12, .inl a_deep)), (a3, .inl (cyI, 12, .inl a_weight)), (a4, .inl (cyI, 12, .inl a_bears)), (a5, .inl (cyI, 12, .inl a_breaks)), (a7, .inl (cyI, 12, .inl a_mayOn)), (a8, .inl (cyI, 4, .inl a_height)), (a9, .inl (cyI, 4, .inl a_reach)), (a10, .inl (cyI, 4, .inl a_room)), (a0, .inr (9, [.int 0, .int 0, .int 0, .ref a1, .ref a2, .ref a3, .ref a4, .ref a5, .ref a6, .int 0, .int 0, .ref a7, .ref a8, .ref a9, .ref a10])), (a6, .inl (cyI, 12, .inl (fun _ => 0))), (e0, .inr (1, [.int 0, .int 0, .ref e1, .ref e2, .ref e3]))]) C inw_5 0 rfl rfl 6 (by decide) wd_298 rfl tyX5_ok nmX5 rfl (tyX5_ok 6 (by decide)) rfl rfl (Nat.le_of_ble_eq_true rfl) dX5_read_21 rfl ?_
  refine j_aload_n (pc := 24) C dX5_read_24 rfl 0 rfl ?_
  refine j_get (pc := 25) (ci := 5) (v := .ref t0) C inw_5 0 rfl rfl 0 (by decide) wd_296 rfl rfl dX5_read_25 ?_
  refine j_callV (pc := 28) (As := []) (rest := []) (wr := [(r0, .inr (5, [.ref t0, .ref e0, .ref r1, .ref r2, .ref a0, .int 0, .int 0])), (r1, .inl (cyJ, 12, .inr (.inl r_wn))), (r2, .inl (cyJ, 4, .inr (.inl r_sn))), (e1, .inl (cyI, 1000, .inl e_steps)), (e2, .inl (cyI, 4, .inl e_end)), (e3, .inl (cyI, 32, .inl e_values)), (a1, .inl (cyI, 12, .inl a_wide)), (a2, .inl (cyI, 12, .inl a_deep)), (a3, .inl (cyI, 12, .inl a_weight)), (a4, .inl (cyI, 12, .inl a_bears)), (a5, .inl (cyI, 12, .inl a_breaks)), (a7, .inl (cyI, 12, .inl a_mayOn)), (a8, .inl (cyI, 4, .inl a_height)), (a9, .inl (cyI, 4, .inl a_reach)), (a10, .inl (cyI, 4, .inl a_room)), (a0, .inr (9, [.int 0, .int 0, .int 0, .ref a1, .ref a2, .ref a3, .ref a4, .ref a5, .ref a6, .int 0, .int 0, .ref a7, .ref a8, .ref a9, .ref a10])), (a6, .inl (cyI, 12, .inl (fun _ => 0))), (e0, .inr (1, [.int 0, .int 0, .ref e1, .ref e2, .ref e3]))]) C (c_X8_start_f l D cyC cyI cyJ cyZ cyO t0 t1 t_length t_next t_kind t_place t_number t_text h_t_length h_t_next h_t_kind h_t_place h_t_text) wd_424 wd_258 wd_425 wd_426 wd_427 ⟨by decide, by decide, rfl⟩ rfl ⟨rfl, rfl, by decide, by decide⟩ ⟨by decide, by decide⟩ [3, 4] [0, 1, 2, 5, 6, 7, 8, 9, 10, 11, 12, 13, 14, 15, 16, 17, 18, 19] rfl rfl ⟨by decide, by decide, by decide⟩ 3 rfl rfl rfl (Nat.le_of_ble_eq_true rfl) dX5_read_28 (fun u_5 hw_6 => ?_)
  refine j_eq (ws2 := [(r0, .inr (5, [.ref t0, .ref e0, .ref r1, .ref r2, .ref a0, .int 0, .int 0])), (r1, .inl (cyJ, 12, .inr (.inl r_wn))), (r2, .inl (cyJ, 4, .inr (.inl r_sn))), (e1, .inl (cyI, 1000, .inl e_steps)), (e2, .inl (cyI, 4, .inl e_end)), (e3, .inl (cyI, 32, .inl e_values)), (a1, .inl (cyI, 12, .inl a_wide)), (a2, .inl (cyI, 12, .inl a_deep)), (a3, .inl (cyI, 12, .inl a_weight)), (a4, .inl (cyI, 12, .inl a_bears)), (a5, .inl (cyI, 12, .inl a_breaks)), (a7, .inl (cyI, 12, .inl a_mayOn)), (a8, .inl (cyI, 4, .inl a_height)), (a9, .inl (cyI, 4, .inl a_reach)), (a10, .inl (cyI, 4, .inl a_room)), (a0, .inr (9, [.int 0, .int 0, .int 0, .ref a1, .ref a2, .ref a3, .ref a4, .ref a5, .ref a6, .int 0, .int 0, .ref a7, .ref a8, .ref a9, .ref a10])), (a6, .inl (cyI, 12, .inl (fun _ => 0))), (e0, .inr (1, [.int 0, .int 0, .ref e1, .ref e2, .ref e3])), (t0, .inr (8, [.ref t1, .int t_length, .int (u_5.2.1 0), .int (u_5.2.1 1), .int (u_5.2.1 2), .int (u_5.2.1 3)])), (t1, .inl (cyC, 1000, .inl t_text))]) (pc2 := 31) (lv2 := [(0, .ref r0)]) (st2 := []) rfl rfl rfl rfl ?_
  obtain ⟨hw_6_0, hw_6_1, hw_6_2, hw_6_3, hw_6_4, hw_6_5⟩ := hw_6
  refine j_iconst (pc := 31) (v := 1) C dX5_read_31 (by decide) ?_
  refine j_istore_n (pc := 32) (lv' := [(1, .int 1), (0, .ref r0)]) C dX5_read_32 rfl (by decide) rfl ?_
  refine j_iconst (pc := 33) (v := 0) C dX5_read_33 (by decide) ?_
  refine j_istore_n (pc := 34) (lv' := [(2, .int 0), (1, .int 1), (0, .ref r0)]) C dX5_read_34 rfl (by decide) rfl ?_
  have loop_7 : ∀ (k_7 : Nat) (x7_2 : Int32) (x7_1 : Int32) (y7_r0_5 : Int32) (y7_r0_6 : Int32) (g7_r1 : Nat → Int64) (g7_r2 : Nat → Int64) (g7_e1 : Nat → Int32) (g7_e2 : Nat → Int32) (g7_a1 : Nat → Int32) (g7_a2 : Nat → Int32) (g7_a3 : Nat → Int32) (g7_a4 : Nat → Int32) (g7_a5 : Nat → Int32) (g7_a8 : Nat → Int32) (g7_a9 : Nat → Int32) (g7_a10 : Nat → Int32) (y7_a0_0 : Int32) (y7_a0_1 : Int32) (y7_a0_2 : Int32) (y7_a0_9 : Int32) (y7_a0_10 : Int32) (g7_a6 : Nat → Int32) (y7_e0_0 : Int32) (y7_e0_1 : Int32) (y7_t0_2 : Int32) (y7_t0_3 : Int32) (y7_t0_4 : Int32) (y7_t0_5 : Int32), (0 ≤ (x7_2).toInt ∧ (x7_2).toInt ≤ 1000) → (0 ≤ (x7_1).toInt ∧ (x7_1).toInt ≤ 1) → (Iv 4 (0) (1000) g7_e2) → (Iv 4 (0) (8) g7_a10) → (0 ≤ (y7_a0_0).toInt ∧ (y7_a0_0).toInt ≤ 12) → (0 ≤ (y7_a0_1).toInt ∧ (y7_a0_1).toInt ≤ 4) → (0 ≤ (y7_a0_2).toInt ∧ (y7_a0_2).toInt ≤ 4) → (0 ≤ (y7_e0_0).toInt ∧ (y7_e0_0).toInt ≤ 1000) → (0 ≤ (y7_e0_1).toInt ∧ (y7_e0_1).toInt ≤ 4) → (0 ≤ (y7_t0_2).toInt ∧ (y7_t0_2).toInt ≤ 1000) → (0 ≤ (y7_t0_3).toInt ∧ (y7_t0_3).toInt ≤ 4) → (0 ≤ (y7_t0_4).toInt ∧ (y7_t0_4).toInt ≤ 1000) → (¬ y7_t0_3.toInt = 3 ∨ y7_t0_4.toInt ≤ 999) → (TH t_text (t_length).toInt.toNat y7_t0_2.toInt y7_t0_3.toInt y7_t0_4.toInt y7_t0_5.toInt) → (RDE (TKS t_text (t_length).toInt.toNat) g7_r1 g7_r2 g7_a1 g7_a2 g7_a3 g7_a4 g7_a5 g7_a6 y7_a0_9 g7_a8 g7_a9 g7_a10 g7_e1 g7_e2 y7_a0_0.toInt y7_a0_1.toInt y7_a0_2.toInt y7_e0_1.toInt y7_e0_0.toInt y7_a0_10 y7_r0_5 (1000 - x7_2.toInt).toNat x7_1.toInt y7_t0_4.toInt y7_r0_6.toInt (cup t_text (t_length).toInt.toNat) (cupN t_text (t_length).toInt.toNat) (cupE t_text (t_length).toInt.toNat)) → (1000 - x7_2.toInt).toNat < k_7 → J p l e ({ frames := 44, cells := 0, slots := 0, locals := 1097 } : Room) s m args below meth c D A 3 0 0 (QX below D (TY cyC cyI cyJ cyZ cyO) A (fun u => some (.int (u.2.1 0))) (fun u => (0 ≤ (u.2.1 3).toInt ∧ (u.2.1 3).toInt ≤ 1000) ∧ (0 ≤ (u.2.1 4).toInt ∧ (u.2.1 4).toInt ≤ 4) ∧ (0 ≤ (u.2.1 5).toInt ∧ (u.2.1 5).toInt ≤ 1000) ∧ (0 ≤ (u.2.1 7).toInt ∧ (u.2.1 7).toInt ≤ 1000) ∧ (0 ≤ (u.2.1 8).toInt ∧ (u.2.1 8).toInt ≤ 4) ∧ (Iv 4 (0) (1000) (u.2.2.1 1)) ∧ (0 ≤ (u.2.1 9).toInt ∧ (u.2.1 9).toInt ≤ 12) ∧ (0 ≤ (u.2.1 10).toInt ∧ (u.2.1 10).toInt ≤ 4) ∧ (0 ≤ (u.2.1 11).toInt ∧ (u.2.1 11).toInt ≤ 4) ∧ (Iv 4 (0) (8) (u.2.2.1 12)) ∧ (¬ ((u.2.1 4)).toInt = 3 ∨ ((u.2.1 5)).toInt ≤ 999) ∧ (IM (((u.2.1 0)).toInt = 0) (CR (u.2.2.2 0) (u.2.2.2 1) ((u.2.1 9)).toInt ((u.2.1 10)).toInt ((u.2.1 11)).toInt (u.2.1 13) (u.2.1 1) (cupN t_text (t_length).toInt.toNat).1 ∧ CW (u.2.2.1 3) (u.2.2.1 4) (u.2.2.1 5) (u.2.2.1 6) (u.2.2.1 7) (u.2.2.1 8) (u.2.1 12) (u.2.2.1 10) (u.2.2.1 11) (u.2.2.1 12) ((u.2.1 9)).toInt ((u.2.1 10)).toInt (cupN t_text (t_length).toInt.toNat).2)) ∧ (IM (((u.2.1 0)).toInt = 0) (MYC (u.2.2.1 9) (mayC ((u.2.1 9)).toInt ((u.2.1 11)).toInt (cupE t_text (t_length).toInt.toNat) (u.2.2.1 3) (u.2.2.1 4) (u.2.2.1 5) (u.2.1 12) (u.2.1 13)))) ∧ (((u.2.1 0)).toInt = cup t_text (t_length).toInt.toNat)) (fun u => [(r0, .inr (5, [.ref t0, .ref e0, .ref r1, .ref r2, .ref a0, .int (u.2.1 1), .int (u.2.1 2)])), (r1, .inl (cyJ, 12, .inr (.inl (u.2.2.2 0)))), (r2, .inl (cyJ, 4, .inr (.inl (u.2.2.2 1)))), (t0, .inr (8, [.ref t1, .int 0, .int (u.2.1 3), .int (u.2.1 4), .int (u.2.1 5), .int (u.2.1 6)])), (t1, .inl (cyC, 1000, .inl t_text)), (e0, .inr (1, [.int (u.2.1 7), .int (u.2.1 8), .ref e1, .ref e2, .ref e3])), (e1, .inl (cyI, 1000, .inl (u.2.2.1 0))), (e2, .inl (cyI, 4, .inl (u.2.2.1 1))), (e3, .inl (cyI, 32, .inl (u.2.2.1 2))), (a0, .inr (9, [.int (u.2.1 9), .int (u.2.1 10), .int (u.2.1 11), .ref a1, .ref a2, .ref a3, .ref a4, .ref a5, .ref a6, .int (u.2.1 12), .int (u.2.1 13), .ref a7, .ref a8, .ref a9, .ref a10])), (a1, .inl (cyI, 12, .inl (u.2.2.1 3))), (a2, .inl (cyI, 12, .inl (u.2.2.1 4))), (a3, .inl (cyI, 12, .inl (u.2.2.1 5))), (a4, .inl (cyI, 12, .inl (u.2.2.1 6))), (a5, .inl (cyI, 12, .inl (u.2.2.1 7))), (a6, .inl (cyI, 12, .inl (u.2.2.1 8))), (a7, .inl (cyI, 12, .inl (u.2.2.1 9))), (a8, .inl (cyI, 4, .inl (u.2.2.1 10))), (a9, .inl (cyI, 4, .inl (u.2.2.1 11))), (a10, .inl (cyI, 4, .inl (u.2.2.1 12)))]) args s 0 0) [(r0, .inr (5, [.ref t0, .ref e0, .ref r1, .ref r2, .ref a0, .int y7_r0_5, .int y7_r0_6])), (r1, .inl (cyJ, 12, .inr (.inl g7_r1))), (r2, .inl (cyJ, 4, .inr (.inl g7_r2))), (e1, .inl (cyI, 1000, .inl g7_e1)), (e2, .inl (cyI, 4, .inl g7_e2)), (e3, .inl (cyI, 32, .inl e_values)), (a1, .inl (cyI, 12, .inl g7_a1)), (a2, .inl (cyI, 12, .inl g7_a2)), (a3, .inl (cyI, 12, .inl g7_a3)), (a4, .inl (cyI, 12, .inl g7_a4)), (a5, .inl (cyI, 12, .inl g7_a5)), (a7, .inl (cyI, 12, .inl a_mayOn)), (a8, .inl (cyI, 4, .inl g7_a8)), (a9, .inl (cyI, 4, .inl g7_a9)), (a10, .inl (cyI, 4, .inl g7_a10)), (a0, .inr (9, [.int y7_a0_0, .int y7_a0_1, .int y7_a0_2, .ref a1, .ref a2, .ref a3, .ref a4, .ref a5, .ref a6, .int y7_a0_9, .int y7_a0_10, .ref a7, .ref a8, .ref a9, .ref a10])), (a6, .inl (cyI, 12, .inl g7_a6)), (e0, .inr (1, [.int y7_e0_0, .int y7_e0_1, .ref e1, .ref e2, .ref e3])), (t0, .inr (8, [.ref t1, .int t_length, .int y7_t0_2, .int y7_t0_3, .int y7_t0_4, .int y7_t0_5])), (t1, .inl (cyC, 1000, .inl t_text))] 35 [(2, .int x7_2), (1, .int x7_1), (0, .ref r0)] [] := by
    intro k_7
    induction k_7 with
    | zero =>
      intro x7_2 x7_1 y7_r0_5 y7_r0_6 g7_r1 g7_r2 g7_e1 g7_e2 g7_a1 g7_a2 g7_a3 g7_a4 g7_a5 g7_a8 g7_a9 g7_a10 y7_a0_0 y7_a0_1 y7_a0_2 y7_a0_9 y7_a0_10 g7_a6 y7_e0_0 y7_e0_1 y7_t0_2 y7_t0_3 y7_t0_4 y7_t0_5 hi_7_0 hi_7_1 hi_7_7 hi_7_15 hi_7_16 hi_7_17 hi_7_18 hi_7_22 hi_7_23 hi_7_24 hi_7_25 hi_7_26 hr_7 hq_7_0 hq_7_1 hm_7
      exact absurd hm_7 (Nat.not_lt_zero _)
    | succ k_7 ih_7 =>
      intro x7_2 x7_1 y7_r0_5 y7_r0_6 g7_r1 g7_r2 g7_e1 g7_e2 g7_a1 g7_a2 g7_a3 g7_a4 g7_a5 g7_a8 g7_a9 g7_a10 y7_a0_0 y7_a0_1 y7_a0_2 y7_a0_9 y7_a0_10 g7_a6 y7_e0_0 y7_e0_1 y7_t0_2 y7_t0_3 y7_t0_4 y7_t0_5 hi_7_0 hi_7_1 hi_7_7 hi_7_15 hi_7_16 hi_7_17 hi_7_18 hi_7_22 hi_7_23 hi_7_24 hi_7_25 hi_7_26 hr_7 hq_7_0 hq_7_1 hm_7
      obtain ⟨S9, N9, E9, hS9⟩ := RDE.ex hq_7_1
      refine j_iload_n (pc := 35) C dX5_read_35 rfl 0 rfl ?_
      refine j_sipush (pc := 36) (v := 1000) C dX5_read_36 (by decide) ?_
      refine j_icmp_ge (pc := 39) (tgt := 67) C dX5_read_39 (by decide) (fun c_8 => ?_) (fun c_8 => ?_)
      · skip
        have el_1000 : (1000 : Int32).toInt = 1000 := rfl
        rw [i_le] at c_8
        have k0c_8 : x7_2.toInt = 1000 := by omega
        have hF9 := RDE.fin hq_7_1 (by omega) (fun z => Or.inl (by omega))
        refine j_aload_n (pc := 67) C dX5_read_67 rfl 2 rfl ?_
        refine j_get (pc := 68) (ci := 5) (v := .ref t0) C inw_5 0 rfl rfl 0 (by decide) wd_296 rfl rfl dX5_read_68 ?_
        refine j_iconst (pc := 71) (v := 0) C dX5_read_71 (by decide) ?_
        refine j_put (pc := 72) (ci := 8) (v := .int 0) (ws' := [(r0, .inr (5, [.ref t0, .ref e0, .ref r1, .ref r2, .ref a0, .int y7_r0_5, .int y7_r0_6])), (r1, .inl (cyJ, 12, .inr (.inl g7_r1))), (r2, .inl (cyJ, 4, .inr (.inl g7_r2))), (e1, .inl (cyI, 1000, .inl g7_e1)), (e2, .inl (cyI, 4, .inl g7_e2)), (e3, .inl (cyI, 32, .inl e_values)), (a1, .inl (cyI, 12, .inl g7_a1)), (a2, .inl (cyI, 12, .inl g7_a2)), (a3, .inl (cyI, 12, .inl g7_a3)), (a4, .inl (cyI, 12, .inl g7_a4)), (a5, .inl (cyI, 12, .inl g7_a5)), (a7, .inl (cyI, 12, .inl a_mayOn)), (a8, .inl (cyI, 4, .inl g7_a8)), (a9, .inl (cyI, 4, .inl g7_a9)), (a10, .inl (cyI, 4, .inl g7_a10)), (a0, .inr (9, [.int y7_a0_0, .int y7_a0_1, .int y7_a0_2, .ref a1, .ref a2, .ref a3, .ref a4, .ref a5, .ref a6, .int y7_a0_9, .int y7_a0_10, .ref a7, .ref a8, .ref a9, .ref a10])), (a6, .inl (cyI, 12, .inl g7_a6)), (e0, .inr (1, [.int y7_e0_0, .int y7_e0_1, .ref e1, .ref e2, .ref e3])), (t0, .inr (8, [.ref t1, .int 0, .int y7_t0_2, .int y7_t0_3, .int y7_t0_4, .int y7_t0_5])), (t1, .inl (cyC, 1000, .inl t_text))]) C inw_8 18 rfl rfl 1 (by decide) wd_428 rfl tyX8_ok nmX8 rfl (tyX8_ok 1 (by decide)) rfl rfl (Nat.le_of_ble_eq_true rfl) dX5_read_72 rfl ?_
        refine j_iload_n (pc := 75) C dX5_read_75 rfl 1 rfl ?_
        refine j_if_eq (pc := 76) (tgt := 83) C dX5_read_76 (by decide) (fun c_9 => ?_) (fun c_9 => ?_)
        · skip
          have el_0 : (0 : Int32).toInt = 0 := rfl
          rw [i_eq] at c_9
          refine j_aload_n (pc := 83) C dX5_read_83 rfl 2 rfl ?_
          refine j_get (pc := 84) (ci := 5) (v := .int y7_r0_6) C inw_5 0 rfl rfl 6 (by decide) wd_298 rfl rfl dX5_read_84 ?_
          exact j_iret (pc := 87) C hr hk (fun i => [].getD i 0, fun i => [y7_r0_6, y7_r0_5, y7_r0_6, y7_t0_2, y7_t0_3, y7_t0_4, y7_t0_5, y7_e0_0, y7_e0_1, y7_a0_0, y7_a0_1, y7_a0_2, y7_a0_9, y7_a0_10].getD i 0, fun i => [g7_e1, g7_e2, e_values, g7_a1, g7_a2, g7_a3, g7_a4, g7_a5, g7_a6, a_mayOn, g7_a8, g7_a9, g7_a10].getD i (fun _ => 0), fun i => [g7_r1, g7_r2].getD i (fun _ => 0)) rfl (show (0 ≤ (y7_t0_2).toInt ∧ (y7_t0_2).toInt ≤ 1000) ∧ (0 ≤ (y7_t0_3).toInt ∧ (y7_t0_3).toInt ≤ 4) ∧ (0 ≤ (y7_t0_4).toInt ∧ (y7_t0_4).toInt ≤ 1000) ∧ (0 ≤ (y7_e0_0).toInt ∧ (y7_e0_0).toInt ≤ 1000) ∧ (0 ≤ (y7_e0_1).toInt ∧ (y7_e0_1).toInt ≤ 4) ∧ (Iv 4 (0) (1000) g7_e2) ∧ (0 ≤ (y7_a0_0).toInt ∧ (y7_a0_0).toInt ≤ 12) ∧ (0 ≤ (y7_a0_1).toInt ∧ (y7_a0_1).toInt ≤ 4) ∧ (0 ≤ (y7_a0_2).toInt ∧ (y7_a0_2).toInt ≤ 4) ∧ (Iv 4 (0) (8) g7_a10) ∧ (¬ (y7_t0_3).toInt = 3 ∨ (y7_t0_4).toInt ≤ 999) ∧ (IM ((y7_r0_6).toInt = 0) (CR g7_r1 g7_r2 (y7_a0_0).toInt (y7_a0_1).toInt (y7_a0_2).toInt y7_a0_10 y7_r0_5 (cupN t_text (t_length).toInt.toNat).1 ∧ CW g7_a1 g7_a2 g7_a3 g7_a4 g7_a5 g7_a6 y7_a0_9 g7_a8 g7_a9 g7_a10 (y7_a0_0).toInt (y7_a0_1).toInt (cupN t_text (t_length).toInt.toNat).2)) ∧ (IM ((y7_r0_6).toInt = 0) (MYC a_mayOn (mayC (y7_a0_0).toInt (y7_a0_2).toInt (cupE t_text (t_length).toInt.toNat) g7_a1 g7_a2 g7_a3 y7_a0_9 y7_a0_10))) ∧ ((y7_r0_6).toInt = cup t_text (t_length).toInt.toNat) from ⟨hi_7_24, hi_7_25, hi_7_26, hi_7_22, hi_7_23, hi_7_7, hi_7_16, hi_7_17, hi_7_18, hi_7_15, by omega, (fun z9 => ⟨(hF9.2.1 z9).1, (hF9.2.1 z9).2.1⟩), (fun z9 => absurd z9 (hF9.2.2.2 (by omega))), hF9.1⟩) [0, 1, 2, 18, 19, 17, 3, 4, 5, 15, 6, 7, 8, 9, 10, 16, 11, 12, 13, 14] (by decide) rfl (by decide) (by decide) dX5_read_87
        · skip
          have el_0 : (0 : Int32).toInt = 0 := rfl
          rw [i_eq] at c_9
          have k0c_9 : x7_1.toInt = 1 := by omega
          refine j_aload_n (pc := 79) C dX5_read_79 rfl 2 rfl ?_
          refine j_callV (pc := 80) (As := []) (rest := []) (wr := [(r1, .inl (cyJ, 12, .inr (.inl g7_r1))), (r2, .inl (cyJ, 4, .inr (.inl g7_r2))), (a4, .inl (cyI, 12, .inl g7_a4)), (a5, .inl (cyI, 12, .inl g7_a5)), (a8, .inl (cyI, 4, .inl g7_a8)), (a9, .inl (cyI, 4, .inl g7_a9)), (a10, .inl (cyI, 4, .inl g7_a10)), (a6, .inl (cyI, 12, .inl g7_a6)), (t0, .inr (8, [.ref t1, .int 0, .int y7_t0_2, .int y7_t0_3, .int y7_t0_4, .int y7_t0_5])), (t1, .inl (cyC, 1000, .inl t_text))]) C (c_X5_findMay l D cyC cyI cyJ cyZ cyO r0 e0 e1 e2 e3 a0 a1 a2 a3 a7 t0 r1 r2 a4 a5 a6 a8 a9 a10 y7_r0_5 y7_r0_6 y7_e0_0 y7_e0_1 y7_a0_0 y7_a0_1 y7_a0_2 y7_a0_9 y7_a0_10 g7_e1 g7_e2 e_values g7_a1 g7_a2 g7_a3 a_mayOn (cupE t_text (t_length).toInt.toNat) hi_7_22 hi_7_23 hi_7_16 hi_7_17 hi_7_18 hi_7_7 (hF9.2.1 (hF9.2.2.1 (by omega))).2.2.1) wd_429 wd_306 wd_430 wd_431 wd_432 ⟨by decide, by decide, rfl⟩ rfl ⟨rfl, rfl, by decide, by decide⟩ ⟨by decide, by decide⟩ [0, 17, 3, 4, 5, 15, 6, 7, 8, 11] [1, 2, 9, 10, 12, 13, 14, 16, 18, 19] rfl rfl ⟨by decide, by decide, by decide⟩ 0 rfl rfl rfl (Nat.le_of_ble_eq_true rfl) dX5_read_80 (fun u_10 hw_11 => ?_)
          refine j_eq (ws2 := [(r1, .inl (cyJ, 12, .inr (.inl g7_r1))), (r2, .inl (cyJ, 4, .inr (.inl g7_r2))), (a4, .inl (cyI, 12, .inl g7_a4)), (a5, .inl (cyI, 12, .inl g7_a5)), (a8, .inl (cyI, 4, .inl g7_a8)), (a9, .inl (cyI, 4, .inl g7_a9)), (a10, .inl (cyI, 4, .inl g7_a10)), (a6, .inl (cyI, 12, .inl g7_a6)), (t0, .inr (8, [.ref t1, .int 0, .int y7_t0_2, .int y7_t0_3, .int y7_t0_4, .int y7_t0_5])), (t1, .inl (cyC, 1000, .inl t_text)), (r0, .inr (5, [.ref t0, .ref e0, .ref r1, .ref r2, .ref a0, .int y7_r0_5, .int y7_r0_6])), (e0, .inr (1, [.int y7_e0_0, .int y7_e0_1, .ref e1, .ref e2, .ref e3])), (e1, .inl (cyI, 1000, .inl g7_e1)), (e2, .inl (cyI, 4, .inl g7_e2)), (e3, .inl (cyI, 32, .inl (u_10.2.2.1 0))), (a0, .inr (9, [.int y7_a0_0, .int y7_a0_1, .int y7_a0_2, .ref a1, .ref a2, .ref a3, .ref a4, .ref a5, .ref a6, .int y7_a0_9, .int y7_a0_10, .ref a7, .ref a8, .ref a9, .ref a10])), (a1, .inl (cyI, 12, .inl g7_a1)), (a2, .inl (cyI, 12, .inl g7_a2)), (a3, .inl (cyI, 12, .inl g7_a3)), (a7, .inl (cyI, 12, .inl (u_10.2.2.1 1)))]) (pc2 := 83) (lv2 := [(2, .int x7_2), (1, .int x7_1), (0, .ref r0)]) (st2 := []) rfl rfl rfl rfl ?_
          have hw_11_0 : MYC (u_10.2.2.1 1) (mayC (y7_a0_0).toInt (y7_e0_1).toInt (cupE t_text (t_length).toInt.toNat) g7_a1 g7_a2 g7_a3 y7_a0_9 y7_a0_10) := hw_11
          refine j_aload_n (pc := 83) C dX5_read_83 rfl 2 rfl ?_
          refine j_get (pc := 84) (ci := 5) (v := .int y7_r0_6) C inw_5 10 rfl rfl 6 (by decide) wd_298 rfl rfl dX5_read_84 ?_
          exact j_iret (pc := 87) C hr hk (fun i => [].getD i 0, fun i => [y7_r0_6, y7_r0_5, y7_r0_6, y7_t0_2, y7_t0_3, y7_t0_4, y7_t0_5, y7_e0_0, y7_e0_1, y7_a0_0, y7_a0_1, y7_a0_2, y7_a0_9, y7_a0_10].getD i 0, fun i => [g7_e1, g7_e2, (u_10.2.2.1 0), g7_a1, g7_a2, g7_a3, g7_a4, g7_a5, g7_a6, (u_10.2.2.1 1), g7_a8, g7_a9, g7_a10].getD i (fun _ => 0), fun i => [g7_r1, g7_r2].getD i (fun _ => 0)) rfl (show (0 ≤ (y7_t0_2).toInt ∧ (y7_t0_2).toInt ≤ 1000) ∧ (0 ≤ (y7_t0_3).toInt ∧ (y7_t0_3).toInt ≤ 4) ∧ (0 ≤ (y7_t0_4).toInt ∧ (y7_t0_4).toInt ≤ 1000) ∧ (0 ≤ (y7_e0_0).toInt ∧ (y7_e0_0).toInt ≤ 1000) ∧ (0 ≤ (y7_e0_1).toInt ∧ (y7_e0_1).toInt ≤ 4) ∧ (Iv 4 (0) (1000) g7_e2) ∧ (0 ≤ (y7_a0_0).toInt ∧ (y7_a0_0).toInt ≤ 12) ∧ (0 ≤ (y7_a0_1).toInt ∧ (y7_a0_1).toInt ≤ 4) ∧ (0 ≤ (y7_a0_2).toInt ∧ (y7_a0_2).toInt ≤ 4) ∧ (Iv 4 (0) (8) g7_a10) ∧ (¬ (y7_t0_3).toInt = 3 ∨ (y7_t0_4).toInt ≤ 999) ∧ (IM ((y7_r0_6).toInt = 0) (CR g7_r1 g7_r2 (y7_a0_0).toInt (y7_a0_1).toInt (y7_a0_2).toInt y7_a0_10 y7_r0_5 (cupN t_text (t_length).toInt.toNat).1 ∧ CW g7_a1 g7_a2 g7_a3 g7_a4 g7_a5 g7_a6 y7_a0_9 g7_a8 g7_a9 g7_a10 (y7_a0_0).toInt (y7_a0_1).toInt (cupN t_text (t_length).toInt.toNat).2)) ∧ (IM ((y7_r0_6).toInt = 0) (MYC (u_10.2.2.1 1) (mayC (y7_a0_0).toInt (y7_a0_2).toInt (cupE t_text (t_length).toInt.toNat) g7_a1 g7_a2 g7_a3 y7_a0_9 y7_a0_10))) ∧ ((y7_r0_6).toInt = cup t_text (t_length).toInt.toNat) from ⟨hi_7_24, hi_7_25, hi_7_26, hi_7_22, hi_7_23, hi_7_7, hi_7_16, hi_7_17, hi_7_18, hi_7_15, by omega, (fun z9 => ⟨(hF9.2.1 z9).1, (hF9.2.1 z9).2.1⟩), (fun z9 => by have y9 := (hF9.2.1 z9).2.2.2.2.2.2; rw [← y9]; exact hw_11_0), hF9.1⟩) [10, 0, 1, 8, 9, 11, 12, 13, 14, 15, 16, 17, 18, 2, 3, 7, 19, 4, 5, 6] (by decide) rfl (by decide) (by decide) dX5_read_87
      · skip
        have el_1000 : (1000 : Int32).toInt = 1000 := rfl
        rw [i_le] at c_8
        refine j_iload_n (pc := 42) C dX5_read_42 rfl 1 rfl ?_
        refine j_if_eq (pc := 43) (tgt := 67) C dX5_read_43 (by decide) (fun c_12 => ?_) (fun c_12 => ?_)
        · skip
          have el_0 : (0 : Int32).toInt = 0 := rfl
          rw [i_eq] at c_12
          have hF9 := RDE.fin hq_7_1 (by omega) (fun z => absurd z (by omega))
          refine j_aload_n (pc := 67) C dX5_read_67 rfl 2 rfl ?_
          refine j_get (pc := 68) (ci := 5) (v := .ref t0) C inw_5 0 rfl rfl 0 (by decide) wd_296 rfl rfl dX5_read_68 ?_
          refine j_iconst (pc := 71) (v := 0) C dX5_read_71 (by decide) ?_
          refine j_put (pc := 72) (ci := 8) (v := .int 0) (ws' := [(r0, .inr (5, [.ref t0, .ref e0, .ref r1, .ref r2, .ref a0, .int y7_r0_5, .int y7_r0_6])), (r1, .inl (cyJ, 12, .inr (.inl g7_r1))), (r2, .inl (cyJ, 4, .inr (.inl g7_r2))), (e1, .inl (cyI, 1000, .inl g7_e1)), (e2, .inl (cyI, 4, .inl g7_e2)), (e3, .inl (cyI, 32, .inl e_values)), (a1, .inl (cyI, 12, .inl g7_a1)), (a2, .inl (cyI, 12, .inl g7_a2)), (a3, .inl (cyI, 12, .inl g7_a3)), (a4, .inl (cyI, 12, .inl g7_a4)), (a5, .inl (cyI, 12, .inl g7_a5)), (a7, .inl (cyI, 12, .inl a_mayOn)), (a8, .inl (cyI, 4, .inl g7_a8)), (a9, .inl (cyI, 4, .inl g7_a9)), (a10, .inl (cyI, 4, .inl g7_a10)), (a0, .inr (9, [.int y7_a0_0, .int y7_a0_1, .int y7_a0_2, .ref a1, .ref a2, .ref a3, .ref a4, .ref a5, .ref a6, .int y7_a0_9, .int y7_a0_10, .ref a7, .ref a8, .ref a9, .ref a10])), (a6, .inl (cyI, 12, .inl g7_a6)), (e0, .inr (1, [.int y7_e0_0, .int y7_e0_1, .ref e1, .ref e2, .ref e3])), (t0, .inr (8, [.ref t1, .int 0, .int y7_t0_2, .int y7_t0_3, .int y7_t0_4, .int y7_t0_5])), (t1, .inl (cyC, 1000, .inl t_text))]) C inw_8 18 rfl rfl 1 (by decide) wd_428 rfl tyX8_ok nmX8 rfl (tyX8_ok 1 (by decide)) rfl rfl (Nat.le_of_ble_eq_true rfl) dX5_read_72 rfl ?_
          refine j_iload_n (pc := 75) C dX5_read_75 rfl 1 rfl ?_
          have el_0 : (0 : Int32).toInt = 0 := rfl
          refine j_if_eq_t (pc := 76) (tgt := 83) C dX5_read_76 (by decide) (by rw [i_eq]; omega) ?_
          refine j_aload_n (pc := 83) C dX5_read_83 rfl 2 rfl ?_
          refine j_get (pc := 84) (ci := 5) (v := .int y7_r0_6) C inw_5 0 rfl rfl 6 (by decide) wd_298 rfl rfl dX5_read_84 ?_
          exact j_iret (pc := 87) C hr hk (fun i => [].getD i 0, fun i => [y7_r0_6, y7_r0_5, y7_r0_6, y7_t0_2, y7_t0_3, y7_t0_4, y7_t0_5, y7_e0_0, y7_e0_1, y7_a0_0, y7_a0_1, y7_a0_2, y7_a0_9, y7_a0_10].getD i 0, fun i => [g7_e1, g7_e2, e_values, g7_a1, g7_a2, g7_a3, g7_a4, g7_a5, g7_a6, a_mayOn, g7_a8, g7_a9, g7_a10].getD i (fun _ => 0), fun i => [g7_r1, g7_r2].getD i (fun _ => 0)) rfl (show (0 ≤ (y7_t0_2).toInt ∧ (y7_t0_2).toInt ≤ 1000) ∧ (0 ≤ (y7_t0_3).toInt ∧ (y7_t0_3).toInt ≤ 4) ∧ (0 ≤ (y7_t0_4).toInt ∧ (y7_t0_4).toInt ≤ 1000) ∧ (0 ≤ (y7_e0_0).toInt ∧ (y7_e0_0).toInt ≤ 1000) ∧ (0 ≤ (y7_e0_1).toInt ∧ (y7_e0_1).toInt ≤ 4) ∧ (Iv 4 (0) (1000) g7_e2) ∧ (0 ≤ (y7_a0_0).toInt ∧ (y7_a0_0).toInt ≤ 12) ∧ (0 ≤ (y7_a0_1).toInt ∧ (y7_a0_1).toInt ≤ 4) ∧ (0 ≤ (y7_a0_2).toInt ∧ (y7_a0_2).toInt ≤ 4) ∧ (Iv 4 (0) (8) g7_a10) ∧ (¬ (y7_t0_3).toInt = 3 ∨ (y7_t0_4).toInt ≤ 999) ∧ (IM ((y7_r0_6).toInt = 0) (CR g7_r1 g7_r2 (y7_a0_0).toInt (y7_a0_1).toInt (y7_a0_2).toInt y7_a0_10 y7_r0_5 (cupN t_text (t_length).toInt.toNat).1 ∧ CW g7_a1 g7_a2 g7_a3 g7_a4 g7_a5 g7_a6 y7_a0_9 g7_a8 g7_a9 g7_a10 (y7_a0_0).toInt (y7_a0_1).toInt (cupN t_text (t_length).toInt.toNat).2)) ∧ (IM ((y7_r0_6).toInt = 0) (MYC a_mayOn (mayC (y7_a0_0).toInt (y7_a0_2).toInt (cupE t_text (t_length).toInt.toNat) g7_a1 g7_a2 g7_a3 y7_a0_9 y7_a0_10))) ∧ ((y7_r0_6).toInt = cup t_text (t_length).toInt.toNat) from ⟨hi_7_24, hi_7_25, hi_7_26, hi_7_22, hi_7_23, hi_7_7, hi_7_16, hi_7_17, hi_7_18, hi_7_15, by omega, (fun z9 => ⟨(hF9.2.1 z9).1, (hF9.2.1 z9).2.1⟩), (fun z9 => absurd z9 (hF9.2.2.2 (by omega))), hF9.1⟩) [0, 1, 2, 18, 19, 17, 3, 4, 5, 15, 6, 7, 8, 9, 10, 16, 11, 12, 13, 14] (by decide) rfl (by decide) (by decide) dX5_read_87
        · skip
          have el_0 : (0 : Int32).toInt = 0 := rfl
          rw [i_eq] at c_12
          have k0c_12 : x7_1.toInt = 1 := by omega
          refine j_aload_n (pc := 46) C dX5_read_46 rfl 2 rfl ?_
          refine j_get (pc := 47) (ci := 5) (v := .ref t0) C inw_5 0 rfl rfl 0 (by decide) wd_296 rfl rfl dX5_read_47 ?_
          refine j_get (pc := 50) (ci := 8) (v := .int y7_t0_3) C inw_8 18 rfl rfl 3 (by decide) wd_310 rfl rfl dX5_read_50 ?_
          refine j_if_eq (pc := 53) (tgt := 67) C dX5_read_53 (by decide) (fun c_13 => ?_) (fun c_13 => ?_)
          · skip
            have el_0 : (0 : Int32).toInt = 0 := rfl
            rw [i_eq] at c_13
            have hF9 := RDE.fin hq_7_1 (by omega) (fun z => Or.inr (by have hk9 := hq_7_0.kind; omega))
            refine j_aload_n (pc := 67) C dX5_read_67 rfl 2 rfl ?_
            refine j_get (pc := 68) (ci := 5) (v := .ref t0) C inw_5 0 rfl rfl 0 (by decide) wd_296 rfl rfl dX5_read_68 ?_
            refine j_iconst (pc := 71) (v := 0) C dX5_read_71 (by decide) ?_
            refine j_put (pc := 72) (ci := 8) (v := .int 0) (ws' := [(r0, .inr (5, [.ref t0, .ref e0, .ref r1, .ref r2, .ref a0, .int y7_r0_5, .int y7_r0_6])), (r1, .inl (cyJ, 12, .inr (.inl g7_r1))), (r2, .inl (cyJ, 4, .inr (.inl g7_r2))), (e1, .inl (cyI, 1000, .inl g7_e1)), (e2, .inl (cyI, 4, .inl g7_e2)), (e3, .inl (cyI, 32, .inl e_values)), (a1, .inl (cyI, 12, .inl g7_a1)), (a2, .inl (cyI, 12, .inl g7_a2)), (a3, .inl (cyI, 12, .inl g7_a3)), (a4, .inl (cyI, 12, .inl g7_a4)), (a5, .inl (cyI, 12, .inl g7_a5)), (a7, .inl (cyI, 12, .inl a_mayOn)), (a8, .inl (cyI, 4, .inl g7_a8)), (a9, .inl (cyI, 4, .inl g7_a9)), (a10, .inl (cyI, 4, .inl g7_a10)), (a0, .inr (9, [.int y7_a0_0, .int y7_a0_1, .int y7_a0_2, .ref a1, .ref a2, .ref a3, .ref a4, .ref a5, .ref a6, .int y7_a0_9, .int y7_a0_10, .ref a7, .ref a8, .ref a9, .ref a10])), (a6, .inl (cyI, 12, .inl g7_a6)), (e0, .inr (1, [.int y7_e0_0, .int y7_e0_1, .ref e1, .ref e2, .ref e3])), (t0, .inr (8, [.ref t1, .int 0, .int y7_t0_2, .int y7_t0_3, .int y7_t0_4, .int y7_t0_5])), (t1, .inl (cyC, 1000, .inl t_text))]) C inw_8 18 rfl rfl 1 (by decide) wd_428 rfl tyX8_ok nmX8 rfl (tyX8_ok 1 (by decide)) rfl rfl (Nat.le_of_ble_eq_true rfl) dX5_read_72 rfl ?_
            refine j_iload_n (pc := 75) C dX5_read_75 rfl 1 rfl ?_
            have el_0 : (0 : Int32).toInt = 0 := rfl
            refine j_if_eq_f (pc := 76) (tgt := 83) C dX5_read_76 (by decide) (by rw [i_eq]; omega) ?_
            refine j_aload_n (pc := 79) C dX5_read_79 rfl 2 rfl ?_
            refine j_callV (pc := 80) (As := []) (rest := []) (wr := [(r1, .inl (cyJ, 12, .inr (.inl g7_r1))), (r2, .inl (cyJ, 4, .inr (.inl g7_r2))), (a4, .inl (cyI, 12, .inl g7_a4)), (a5, .inl (cyI, 12, .inl g7_a5)), (a8, .inl (cyI, 4, .inl g7_a8)), (a9, .inl (cyI, 4, .inl g7_a9)), (a10, .inl (cyI, 4, .inl g7_a10)), (a6, .inl (cyI, 12, .inl g7_a6)), (t0, .inr (8, [.ref t1, .int 0, .int y7_t0_2, .int y7_t0_3, .int y7_t0_4, .int y7_t0_5])), (t1, .inl (cyC, 1000, .inl t_text))]) C (c_X5_findMay l D cyC cyI cyJ cyZ cyO r0 e0 e1 e2 e3 a0 a1 a2 a3 a7 t0 r1 r2 a4 a5 a6 a8 a9 a10 y7_r0_5 y7_r0_6 y7_e0_0 y7_e0_1 y7_a0_0 y7_a0_1 y7_a0_2 y7_a0_9 y7_a0_10 g7_e1 g7_e2 e_values g7_a1 g7_a2 g7_a3 a_mayOn (cupE t_text (t_length).toInt.toNat) hi_7_22 hi_7_23 hi_7_16 hi_7_17 hi_7_18 hi_7_7 (hF9.2.1 (hF9.2.2.1 (by omega))).2.2.1) wd_429 wd_306 wd_430 wd_431 wd_432 ⟨by decide, by decide, rfl⟩ rfl ⟨rfl, rfl, by decide, by decide⟩ ⟨by decide, by decide⟩ [0, 17, 3, 4, 5, 15, 6, 7, 8, 11] [1, 2, 9, 10, 12, 13, 14, 16, 18, 19] rfl rfl ⟨by decide, by decide, by decide⟩ 0 rfl rfl rfl (Nat.le_of_ble_eq_true rfl) dX5_read_80 (fun u_14 hw_15 => ?_)
            refine j_eq (ws2 := [(r1, .inl (cyJ, 12, .inr (.inl g7_r1))), (r2, .inl (cyJ, 4, .inr (.inl g7_r2))), (a4, .inl (cyI, 12, .inl g7_a4)), (a5, .inl (cyI, 12, .inl g7_a5)), (a8, .inl (cyI, 4, .inl g7_a8)), (a9, .inl (cyI, 4, .inl g7_a9)), (a10, .inl (cyI, 4, .inl g7_a10)), (a6, .inl (cyI, 12, .inl g7_a6)), (t0, .inr (8, [.ref t1, .int 0, .int y7_t0_2, .int y7_t0_3, .int y7_t0_4, .int y7_t0_5])), (t1, .inl (cyC, 1000, .inl t_text)), (r0, .inr (5, [.ref t0, .ref e0, .ref r1, .ref r2, .ref a0, .int y7_r0_5, .int y7_r0_6])), (e0, .inr (1, [.int y7_e0_0, .int y7_e0_1, .ref e1, .ref e2, .ref e3])), (e1, .inl (cyI, 1000, .inl g7_e1)), (e2, .inl (cyI, 4, .inl g7_e2)), (e3, .inl (cyI, 32, .inl (u_14.2.2.1 0))), (a0, .inr (9, [.int y7_a0_0, .int y7_a0_1, .int y7_a0_2, .ref a1, .ref a2, .ref a3, .ref a4, .ref a5, .ref a6, .int y7_a0_9, .int y7_a0_10, .ref a7, .ref a8, .ref a9, .ref a10])), (a1, .inl (cyI, 12, .inl g7_a1)), (a2, .inl (cyI, 12, .inl g7_a2)), (a3, .inl (cyI, 12, .inl g7_a3)), (a7, .inl (cyI, 12, .inl (u_14.2.2.1 1)))]) (pc2 := 83) (lv2 := [(2, .int x7_2), (1, .int x7_1), (0, .ref r0)]) (st2 := []) rfl rfl rfl rfl ?_
            have hw_15_0 : MYC (u_14.2.2.1 1) (mayC (y7_a0_0).toInt (y7_e0_1).toInt (cupE t_text (t_length).toInt.toNat) g7_a1 g7_a2 g7_a3 y7_a0_9 y7_a0_10) := hw_15
            refine j_aload_n (pc := 83) C dX5_read_83 rfl 2 rfl ?_
            refine j_get (pc := 84) (ci := 5) (v := .int y7_r0_6) C inw_5 10 rfl rfl 6 (by decide) wd_298 rfl rfl dX5_read_84 ?_
            exact j_iret (pc := 87) C hr hk (fun i => [].getD i 0, fun i => [y7_r0_6, y7_r0_5, y7_r0_6, y7_t0_2, y7_t0_3, y7_t0_4, y7_t0_5, y7_e0_0, y7_e0_1, y7_a0_0, y7_a0_1, y7_a0_2, y7_a0_9, y7_a0_10].getD i 0, fun i => [g7_e1, g7_e2, (u_14.2.2.1 0), g7_a1, g7_a2, g7_a3, g7_a4, g7_a5, g7_a6, (u_14.2.2.1 1), g7_a8, g7_a9, g7_a10].getD i (fun _ => 0), fun i => [g7_r1, g7_r2].getD i (fun _ => 0)) rfl (show (0 ≤ (y7_t0_2).toInt ∧ (y7_t0_2).toInt ≤ 1000) ∧ (0 ≤ (y7_t0_3).toInt ∧ (y7_t0_3).toInt ≤ 4) ∧ (0 ≤ (y7_t0_4).toInt ∧ (y7_t0_4).toInt ≤ 1000) ∧ (0 ≤ (y7_e0_0).toInt ∧ (y7_e0_0).toInt ≤ 1000) ∧ (0 ≤ (y7_e0_1).toInt ∧ (y7_e0_1).toInt ≤ 4) ∧ (Iv 4 (0) (1000) g7_e2) ∧ (0 ≤ (y7_a0_0).toInt ∧ (y7_a0_0).toInt ≤ 12) ∧ (0 ≤ (y7_a0_1).toInt ∧ (y7_a0_1).toInt ≤ 4) ∧ (0 ≤ (y7_a0_2).toInt ∧ (y7_a0_2).toInt ≤ 4) ∧ (Iv 4 (0) (8) g7_a10) ∧ (¬ (y7_t0_3).toInt = 3 ∨ (y7_t0_4).toInt ≤ 999) ∧ (IM ((y7_r0_6).toInt = 0) (CR g7_r1 g7_r2 (y7_a0_0).toInt (y7_a0_1).toInt (y7_a0_2).toInt y7_a0_10 y7_r0_5 (cupN t_text (t_length).toInt.toNat).1 ∧ CW g7_a1 g7_a2 g7_a3 g7_a4 g7_a5 g7_a6 y7_a0_9 g7_a8 g7_a9 g7_a10 (y7_a0_0).toInt (y7_a0_1).toInt (cupN t_text (t_length).toInt.toNat).2)) ∧ (IM ((y7_r0_6).toInt = 0) (MYC (u_14.2.2.1 1) (mayC (y7_a0_0).toInt (y7_a0_2).toInt (cupE t_text (t_length).toInt.toNat) g7_a1 g7_a2 g7_a3 y7_a0_9 y7_a0_10))) ∧ ((y7_r0_6).toInt = cup t_text (t_length).toInt.toNat) from ⟨hi_7_24, hi_7_25, hi_7_26, hi_7_22, hi_7_23, hi_7_7, hi_7_16, hi_7_17, hi_7_18, hi_7_15, by omega, (fun z9 => ⟨(hF9.2.1 z9).1, (hF9.2.1 z9).2.1⟩), (fun z9 => by have y9 := (hF9.2.1 z9).2.2.2.2.2.2; rw [← y9]; exact hw_15_0), hF9.1⟩) [10, 0, 1, 8, 9, 11, 12, 13, 14, 15, 16, 17, 18, 2, 3, 7, 19, 4, 5, 6] (by decide) rfl (by decide) (by decide) dX5_read_87
          · skip
            have el_0 : (0 : Int32).toInt = 0 := rfl
            rw [i_eq] at c_13
            refine j_aload_n (pc := 56) C dX5_read_56 rfl 2 rfl ?_
            refine j_callV (pc := 57) (As := []) (rest := []) (wr := [(e3, .inl (cyI, 32, .inl e_values)), (a7, .inl (cyI, 12, .inl a_mayOn))]) C (c_X5_readStatement l D cyC cyI cyJ cyZ cyO r0 r1 r2 t0 t1 e0 e1 e2 a0 a1 a2 a3 a4 a5 a6 a8 a9 a10 e3 a7 y7_r0_5 y7_r0_6 t_length y7_t0_2 y7_t0_3 y7_t0_4 y7_t0_5 y7_e0_0 y7_e0_1 y7_a0_0 y7_a0_1 y7_a0_2 y7_a0_9 y7_a0_10 g7_r1 g7_r2 t_text g7_e1 g7_e2 g7_a1 g7_a2 g7_a3 g7_a4 g7_a5 g7_a6 g7_a8 g7_a9 g7_a10 S9 N9 E9 h_t_length hi_7_24 hi_7_25 hi_7_26 hi_7_22 hi_7_23 hi_7_16 hi_7_17 hi_7_18 h_t_text hi_7_7 hi_7_15 (by omega) hq_7_0 (hS9 (by omega)).1 (hS9 (by omega)).2.1 (hS9 (by omega)).2.2.1 (hS9 (by omega)).2.2.2.1) wd_433 wd_306 wd_434 wd_435 wd_436 ⟨by decide, by decide, rfl⟩ rfl ⟨rfl, rfl, by decide, by decide⟩ ⟨by decide, by decide⟩ [0, 1, 2, 18, 19, 17, 3, 4, 15, 6, 7, 8, 9, 10, 16, 12, 13, 14] [5, 11] rfl rfl ⟨by decide, by decide, by decide⟩ 0 rfl rfl rfl (Nat.le_of_ble_eq_true rfl) dX5_read_57 (fun u_16 hw_17 => ?_)
            refine j_eq (ws2 := [(e3, .inl (cyI, 32, .inl e_values)), (a7, .inl (cyI, 12, .inl a_mayOn)), (r0, .inr (5, [.ref t0, .ref e0, .ref r1, .ref r2, .ref a0, .int (u_16.2.1 1), .int (u_16.2.1 2)])), (r1, .inl (cyJ, 12, .inr (.inl (u_16.2.2.2 0)))), (r2, .inl (cyJ, 4, .inr (.inl (u_16.2.2.2 1)))), (t0, .inr (8, [.ref t1, .int t_length, .int (u_16.2.1 3), .int (u_16.2.1 4), .int (u_16.2.1 5), .int (u_16.2.1 6)])), (t1, .inl (cyC, 1000, .inl t_text)), (e0, .inr (1, [.int (u_16.2.1 7), .int (u_16.2.1 8), .ref e1, .ref e2, .ref e3])), (e1, .inl (cyI, 1000, .inl (u_16.2.2.1 0))), (e2, .inl (cyI, 4, .inl (u_16.2.2.1 1))), (a0, .inr (9, [.int (u_16.2.1 9), .int (u_16.2.1 10), .int (u_16.2.1 11), .ref a1, .ref a2, .ref a3, .ref a4, .ref a5, .ref a6, .int (u_16.2.1 12), .int (u_16.2.1 13), .ref a7, .ref a8, .ref a9, .ref a10])), (a1, .inl (cyI, 12, .inl (u_16.2.2.1 2))), (a2, .inl (cyI, 12, .inl (u_16.2.2.1 3))), (a3, .inl (cyI, 12, .inl (u_16.2.2.1 4))), (a4, .inl (cyI, 12, .inl (u_16.2.2.1 5))), (a5, .inl (cyI, 12, .inl (u_16.2.2.1 6))), (a6, .inl (cyI, 12, .inl (u_16.2.2.1 7))), (a8, .inl (cyI, 4, .inl (u_16.2.2.1 8))), (a9, .inl (cyI, 4, .inl (u_16.2.2.1 9))), (a10, .inl (cyI, 4, .inl (u_16.2.2.1 10)))]) (pc2 := 60) (lv2 := [(2, .int x7_2), (1, .int x7_1), (0, .ref r0)]) (st2 := [.int (u_16.2.1 0)]) rfl rfl rfl rfl ?_
            obtain ⟨hw_17_0, hw_17_1, hw_17_2, hw_17_3, hw_17_4, hw_17_5, hw_17_6, hw_17_7, hw_17_8, hw_17_9, hw_17_10, hw_17_11, hw_17_12, hw_17_13, hw_17_14, hw_17_15, hw_17_16, hw_17_17⟩ := hw_17
            refine j_istore_n (pc := 60) (lv' := [(1, .int (u_16.2.1 0)), (2, .int x7_2), (0, .ref r0)]) C dX5_read_60 rfl (by decide) rfl ?_
            obtain ⟨v_18, ev_18⟩ : ∃ z : Int32, x7_2 + 1 = z := ⟨_, rfl⟩
            have el_1 : (1 : Int32).toInt = 1 := rfl
            have hv_18 : v_18.toInt = x7_2.toInt + (1 : Int32).toInt := by rw [← ev_18]; exact fb_addI (by omega) (by omega)
            refine j_iinc (pc := 61) (v := v_18) (lv' := [(2, .int v_18), (1, .int (u_16.2.1 0)), (0, .ref r0)]) C dX5_read_61 1 rfl ev_18 (by decide) rfl ?_
            refine j_goto (pc := 64) (tgt := 35) C dX5_read_64 (by decide) ?_
            refine j_subG (ws' := [(r0, .inr (5, [.ref t0, .ref e0, .ref r1, .ref r2, .ref a0, .int (u_16.2.1 1), .int (u_16.2.1 2)])), (r1, .inl (cyJ, 12, .inr (.inl (u_16.2.2.2 0)))), (r2, .inl (cyJ, 4, .inr (.inl (u_16.2.2.2 1)))), (e1, .inl (cyI, 1000, .inl (u_16.2.2.1 0))), (e2, .inl (cyI, 4, .inl (u_16.2.2.1 1))), (e3, .inl (cyI, 32, .inl e_values)), (a1, .inl (cyI, 12, .inl (u_16.2.2.1 2))), (a2, .inl (cyI, 12, .inl (u_16.2.2.1 3))), (a3, .inl (cyI, 12, .inl (u_16.2.2.1 4))), (a4, .inl (cyI, 12, .inl (u_16.2.2.1 5))), (a5, .inl (cyI, 12, .inl (u_16.2.2.1 6))), (a7, .inl (cyI, 12, .inl a_mayOn)), (a8, .inl (cyI, 4, .inl (u_16.2.2.1 8))), (a9, .inl (cyI, 4, .inl (u_16.2.2.1 9))), (a10, .inl (cyI, 4, .inl (u_16.2.2.1 10))), (a0, .inr (9, [.int (u_16.2.1 9), .int (u_16.2.1 10), .int (u_16.2.1 11), .ref a1, .ref a2, .ref a3, .ref a4, .ref a5, .ref a6, .int (u_16.2.1 12), .int (u_16.2.1 13), .ref a7, .ref a8, .ref a9, .ref a10])), (a6, .inl (cyI, 12, .inl (u_16.2.2.1 7))), (e0, .inr (1, [.int (u_16.2.1 7), .int (u_16.2.1 8), .ref e1, .ref e2, .ref e3])), (t0, .inr (8, [.ref t1, .int t_length, .int (u_16.2.1 3), .int (u_16.2.1 4), .int (u_16.2.1 5), .int (u_16.2.1 6)])), (t1, .inl (cyC, 1000, .inl t_text))]) [2, 3, 4, 8, 9, 0, 11, 12, 13, 14, 15, 1, 17, 18, 19, 10, 16, 7, 5, 6] (by decide) rfl ?_
            exact j_lv [0, 1, 2] rfl (ih_7 v_18 (u_16.2.1 0) (u_16.2.1 1) (u_16.2.1 2) (u_16.2.2.2 0) (u_16.2.2.2 1) (u_16.2.2.1 0) (u_16.2.2.1 1) (u_16.2.2.1 2) (u_16.2.2.1 3) (u_16.2.2.1 4) (u_16.2.2.1 5) (u_16.2.2.1 6) (u_16.2.2.1 8) (u_16.2.2.1 9) (u_16.2.2.1 10) (u_16.2.1 9) (u_16.2.1 10) (u_16.2.1 11) (u_16.2.1 12) (u_16.2.1 13) (u_16.2.2.1 7) (u_16.2.1 7) (u_16.2.1 8) (u_16.2.1 3) (u_16.2.1 4) (u_16.2.1 5) (u_16.2.1 6) (by omega) hw_17_0 hw_17_6 hw_17_10 hw_17_7 hw_17_8 hw_17_9 hw_17_4 hw_17_5 hw_17_1 hw_17_2 hw_17_3 (by omega) hw_17_14 (RDE.step (k := (1000 - (v_18).toInt).toNat) (PT_TKS (f := t_text) (n := (t_length).toInt.toNat) (by omega)) (by omega) (by omega) (by rw [show (1000 - (v_18).toInt).toNat + 1 = (1000 - (x7_2).toInt).toNat from (by omega)]; exact hS9) (by omega) (by have hk9 := hq_7_0.kind; omega) hw_17_16 hw_17_17 hw_17_15 hw_17_13 hw_17_12) (by omega))
  have el_0 : (0 : Int32).toInt = 0 := rfl
  have el_1 : (1 : Int32).toInt = 1 := rfl
  have el_0 : (0 : Int32).toInt = 0 := rfl
  have el_0 : (0 : Int32).toInt = 0 := rfl
  have el_0 : (0 : Int32).toInt = 0 := rfl
  have el_0 : (0 : Int32).toInt = 0 := rfl
  have el_0 : (0 : Int32).toInt = 0 := rfl
  have el_0 : (0 : Int32).toInt = 0 := rfl
  have el_0 : (0 : Int32).toInt = 0 := rfl
  have el_0 : (0 : Int32).toInt = 0 := rfl
  have el_0 : (0 : Int32).toInt = 0 := rfl
  exact j_lv [0, 1, 2] rfl (loop_7 4096 0 1 0 0 r_wn r_sn e_steps e_end a_wide a_deep a_weight a_bears a_breaks a_height a_reach a_room 0 0 0 0 0 (fun _ => 0) 0 0 (u_5.2.1 0) (u_5.2.1 1) (u_5.2.1 2) (u_5.2.1 3) (by decide) (by decide) h_e_end h_a_room (by decide) (by decide) (by decide) (by decide) (by decide) hw_6_0 hw_6_1 hw_6_2 (by omega) hw_6_4 ⟨fun _ => ⟨S0, N0, E0, CR.zero' rfl rfl rfl, CW.zero rfl rfl, CE.zero rfl rfl rfl, by omega, by rw [show (1000 - (0 : Int32).toInt).toNat = 1000 from by decide, hw_6_5]; rfl, by rw [show (1000 - (0 : Int32).toInt).toNat = 1000 from by decide, hw_6_5]; rfl, by rw [show (1000 - (0 : Int32).toInt).toNat = 1000 from by decide, hw_6_5]; rfl, rfl⟩, fun h => absurd h (by decide)⟩ (by omega))
/-- the first place with the number 0 in the row of sorts, at most 1001 -/
def eF (f : Nat → Int32) : Nat → Nat → Nat
  | 0, i => i
  | n + 1, i => if f i = 0 then i else eF f n (i + 1)
def eN (f : Nat → Int32) : Nat := eF f 1001 0
theorem eF_le {f : Nat → Int32} {m : Nat} (h : f m = 0) : ∀ n i, i ≤ m → m ≤ i + n → eF f n i ≤ m := by
  intro n
  induction n with
  | zero => intro i h1 h2; show i ≤ m; omega
  | succ n ih =>
    intro i h1 h2
    show (if f i = 0 then i else eF f n (i + 1)) ≤ m
    by_cases q : f i = 0
    · rw [if_pos q]; exact h1
    · rw [if_neg q]
      have : i ≠ m := fun z => q (z ▸ h)
      exact ih (i + 1) (by omega) (by omega)
theorem eN_le {f : Nat → Int32} {m : Nat} (h : f m = 0) (hm : m ≤ 1000) : eN f ≤ 1000 := Nat.le_trans (eF_le h 1001 0 (by omega) (by omega)) hm
theorem eF_at {f : Nat → Int32} : ∀ n i, eF f n i < i + n → f (eF f n i) = 0 := by
  intro n
  induction n with
  | zero => intro i h; exact absurd (show i < i + 0 from h) (by omega)
  | succ n ih =>
    intro i h
    by_cases q : f i = 0
    · have e : eF f (n + 1) i = i := by show (if f i = 0 then i else eF f n (i + 1)) = i; rw [if_pos q]
      rw [e]; exact q
    · have e : eF f (n + 1) i = eF f n (i + 1) := by show (if f i = 0 then i else eF f n (i + 1)) = _; rw [if_neg q]
      rw [e] at h ⊢; exact ih (i + 1) (by omega)
theorem eN_rd {f : Nat → Int32} {x v : Int32} (e : f x.toInt.toNat = v) (h0 : eN f ≤ 1000) (h : 0 ≤ x.toInt ∧ x.toInt ≤ ((eN f : Nat) : Int)) : v.toInt = 0 ∨ x.toInt < ((eN f : Nat) : Int) := by
  rcases Int.lt_or_le x.toInt ((eN f : Nat) : Int) with q | q
  · exact Or.inr q
  · have h1 : x.toInt.toNat = eN f := by omega
    have h2 : f (eN f) = 0 := eF_at 1001 0 (by show eN f < 0 + 1001; omega)
    rw [h1, h2] at e
    rw [← e]; exact Or.inl rfl
def hiT (j : Nat) : Int := if j % 120 = 0 then 12 else if j % 120 < 3 then 4 else if j % 120 < 99 then 999 else if j % 120 < 111 then (if (j % 120 - 99) % 3 = 2 then 8 else 999) else 1000
/-- what is told: each place has its bound -/
def TV (f : Nat → Int32) : Prop := ∀ j, j < 240 → 0 ≤ (f j).toInt ∧ (f j).toInt ≤ hiT j
theorem hiT_0 (j : Nat) : 0 ≤ hiT j := by unfold hiT; (repeat' split) <;> omega
theorem hiT_any (j : Nat) : hiT j ≤ 1000 := by unfold hiT; (repeat' split) <;> omega
theorem TV_const : TV (fun _ => 0) := fun j _ => ⟨(show (0 : Int) ≤ (0 : Int32).toInt by decide), hiT_0 j⟩
theorem TV.any {f : Nat → Int32} (h : TV f) {j : Nat} (hj : j < 240) : 0 ≤ (f j).toInt ∧ (f j).toInt ≤ 1000 := ⟨(h j hj).1, Int.le_trans (h j hj).2 (hiT_any j)⟩
theorem hiT_k {j : Nat} (hj : 3 ≤ j % 120 ∧ (j % 120 < 99 ∨ j % 120 < 111 ∧ (j % 120 - 99) % 3 < 2)) : 999 ≤ hiT j := by unfold hiT; (repeat' split) <;> omega
theorem hiT_k2 {j : Nat} (hj : 3 ≤ j % 120 ∧ j % 120 < 111) : hiT j ≤ 999 := by unfold hiT; (repeat' split) <;> omega
theorem TV.k {f : Nat → Int32} (h : TV f) {j : Nat} (hj : j < 240) (hk : 3 ≤ j % 120 ∧ j % 120 < 111) : 0 ≤ (f j).toInt ∧ (f j).toInt ≤ 999 := ⟨(h j hj).1, Int.le_trans (h j hj).2 (hiT_k2 hk)⟩
theorem hiT_room {j : Nat} (hj : 99 ≤ j % 120 ∧ j % 120 < 111 ∧ (j % 120 - 99) % 3 = 2) : hiT j = 8 := by unfold hiT; (repeat' split) <;> omega
theorem hiT_nest {j : Nat} (hj : 111 ≤ j % 120) : hiT j = 1000 := by unfold hiT; (repeat' split) <;> omega
theorem TV.room {f : Nat → Int32} (h : TV f) {j : Nat} (hj : j < 240) (hk : 99 ≤ j % 120 ∧ j % 120 < 111 ∧ (j % 120 - 99) % 3 = 2) : 0 ≤ (f j).toInt ∧ (f j).toInt ≤ 8 := by have := h j hj; rw [hiT_room hk] at this; exact this
theorem TV.upd {f : Nat → Int32} {k : Nat} {x : Int32} (h : TV f) (h1 : 0 ≤ x.toInt) (h2 : x.toInt ≤ hiT k) : TV (upd f k x) := fun j hj => by
  by_cases e : j = k
  · subst e; rw [pk_us]; exact ⟨h1, h2⟩
  · rw [pk_un e]; exact h j hj
theorem l2i_rng {x : Int64} {lo hi : Int32} (h1 : ¬ x < lo.toInt64) (h2 : x < hi.toInt64 ∨ x = hi.toInt64) : lo.toInt ≤ x.toInt32.toInt ∧ x.toInt32.toInt ≤ hi.toInt := by
  have a1 : ¬ x.toInt < lo.toInt := fun q => h1 (Int64.lt_iff_toInt_lt.mpr (by rw [Int32.toInt_toInt64]; exact q))
  have a2 : x.toInt ≤ hi.toInt := by
    rcases h2 with q | q
    · have := Int64.lt_iff_toInt_lt.mp q; rw [Int32.toInt_toInt64] at this; omega
    · rw [q, Int32.toInt_toInt64]; exact Int.le_refl _
  have b1 := i_bd lo; have b2 := i_bd hi
  have e : x.toInt32.toInt = x.toInt := by rw [Int64.toInt_toInt32]; exact fb_bmod (by omega) (by omega)
  rw [e]; omega
/-- whether a sign, or a word, is at hand -/
def sgnI (fa so : Int32) (va : Int64) (c : Int32) : Int := if fa = 0 ∧ so = 3 ∧ va = c.toInt64 then 1 else 0
def wrdI (fa so : Int32) (va wd : Int64) : Int := if fa = 0 ∧ so = 1 ∧ va = wd then 1 else 0
theorem sgnI_01 (fa so : Int32) (va : Int64) (c : Int32) : 0 ≤ sgnI fa so va c ∧ sgnI fa so va c ≤ 1 := by unfold sgnI; split <;> omega
theorem wrdI_01 (fa so : Int32) (va wd : Int64) : 0 ≤ wrdI fa so va wd ∧ wrdI fa so va wd ≤ 1 := by unfold wrdI; split <;> omega

/-- the rows of tokens hold the table T -/
def RWS (so pl : Nat → Int32) (va : Nat → Int64) (T : Nat → Int × Int64 × Nat) : Prop := ∀ a, a ≤ eN so → (so a).toInt = (T (pl a).toInt.toNat).1 ∧ ((so a).toInt = 1 ∨ (so a).toInt = 2 ∨ (so a).toInt = 3 → va a = (T (pl a).toInt.toNat).2.1) ∧ (a < eN so → (pl (a + 1)).toInt = (((T (pl a).toInt.toNat).2.2 : Nat) : Int))
def WRD (w : Nat → Int64) : Prop := ∀ k, k < 23 → w k = WN k
def FWN (k : Nat) : Nat := [17, 18, 19, 7, 20, 21, 1, 22].getD k 0
def FWD (f : Nat → Int32) : Prop := ∀ k, k < 8 → (f k).toInt = ((FWN k : Nat) : Int)
/-- a sign, a word at hand if there is no FAULT -/
def gE (fa : Int) (T : Nat → Int × Int64 × Nat) (p : Nat) (c : Int32) : Int := if fa = 0 then gI T p c else 0
def wE (fa : Int) (T : Nat → Int × Int64 × Nat) (p k : Nat) : Int := if fa = 0 then wI T p (WN k) else 0
theorem gE_z {fa : Int} {T : Nat → Int × Int64 × Nat} {p : Nat} {c : Int32} (h : fa = 0) : gE fa T p c = gI T p c := if_pos h
theorem wE_z {fa : Int} {T : Nat → Int × Int64 × Nat} {p k : Nat} (h : fa = 0) : wE fa T p k = wI T p (WN k) := if_pos h
theorem gE_n {fa : Int} {T : Nat → Int × Int64 × Nat} {p : Nat} {c : Int32} (h : ¬ fa = 0) : gE fa T p c = 0 := if_neg h
theorem wE_n {fa : Int} {T : Nat → Int × Int64 × Nat} {p k : Nat} (h : ¬ fa = 0) : wE fa T p k = 0 := if_neg h
theorem wE_01 {fa : Int} {T : Nat → Int × Int64 × Nat} {p k : Nat} : wE fa T p k = 0 ∨ wE fa T p k = 1 := by
  by_cases q : fa = 0
  · rw [wE_z q]; exact wI_01 _ _ _
  · exact Or.inl (wE_n q)
theorem sg_T {so pl : Nat → Int32} {va : Nat → Int64} {T : Nat → Int × Int64 × Nat} {fa at_ c : Int32} (h : RWS so pl va T) (h0 : 0 ≤ at_.toInt) (h1 : at_.toInt ≤ ((eN so : Nat) : Int)) : sgnI fa (so at_.toInt.toNat) (va at_.toInt.toNat) c = gE fa.toInt T (pl at_.toInt.toNat).toInt.toNat c := by
  obtain ⟨a, b, _⟩ := h at_.toInt.toNat (by omega)
  unfold sgnI gE gI
  by_cases q0 : fa = 0
  · rw [if_pos (show fa.toInt = 0 by rw [q0]; rfl)]
    by_cases q1 : so at_.toInt.toNat = 3
    · have a3 : (so at_.toInt.toNat).toInt = 3 := by rw [q1]; rfl
      have b3 := b (Or.inr (Or.inr a3))
      by_cases q2 : va at_.toInt.toNat = c.toInt64
      · rw [if_pos ⟨q0, q1, q2⟩, if_pos (show isG T (pl at_.toInt.toNat).toInt.toNat c = true from decide_eq_true ⟨a.symm.trans a3, b3.symm.trans q2⟩)]
      · rw [if_neg (fun z => q2 z.2.2), if_neg (fun z => q2 (b3.trans (of_decide_eq_true z).2))]
    · rw [if_neg (fun z => q1 z.2.1), if_neg (fun z => q1 ((i_eq _ _).mpr (a.trans (of_decide_eq_true z).1)))]
  · rw [if_neg (fun z => q0 z.1), if_neg (show ¬ fa.toInt = 0 from fun z => q0 ((i_eq _ _).mpr z))]
theorem wd_T {so pl : Nat → Int32} {va : Nat → Int64} {T : Nat → Int × Int64 × Nat} {fa at_ : Int32} {wd : Int64} {k : Nat} (h : RWS so pl va T) (h0 : 0 ≤ at_.toInt) (h1 : at_.toInt ≤ ((eN so : Nat) : Int)) (hw : wd = WN k) : wrdI fa (so at_.toInt.toNat) (va at_.toInt.toNat) wd = wE fa.toInt T (pl at_.toInt.toNat).toInt.toNat k := by
  obtain ⟨a, b, _⟩ := h at_.toInt.toNat (by omega)
  unfold wrdI wE wI
  rw [hw]
  by_cases q0 : fa = 0
  · rw [if_pos (show fa.toInt = 0 by rw [q0]; rfl)]
    by_cases q1 : so at_.toInt.toNat = 1
    · have a3 : (so at_.toInt.toNat).toInt = 1 := by rw [q1]; rfl
      have b3 := b (Or.inl a3)
      by_cases q2 : va at_.toInt.toNat = WN k
      · rw [if_pos ⟨q0, q1, q2⟩, if_pos (show isW T (pl at_.toInt.toNat).toInt.toNat (WN k) = true from decide_eq_true ⟨a.symm.trans a3, b3.symm.trans q2⟩)]
      · rw [if_neg (fun z => q2 z.2.2), if_neg (fun z => q2 (b3.trans (of_decide_eq_true z).2))]
    · rw [if_neg (fun z => q1 z.2.1), if_neg (fun z => q1 ((i_eq _ _).mpr (a.trans (of_decide_eq_true z).1)))]
  · rw [if_neg (fun z => q0 z.1), if_neg (show ¬ fa.toInt = 0 from fun z => q0 ((i_eq _ _).mpr z))]
/-- a step of the reference's reader, and the pure one -/
def RP (pl : Nat → Int32) (fa at_ fa' at' : Int) (g : Nat → Nat × Int) : Prop := (fa = 0 → fa' = (g (pl at_.toNat).toInt.toNat).2 ∧ (fa' = 0 → (pl at'.toNat).toInt = (((g (pl at_.toNat).toInt.toNat).1 : Nat) : Int))) ∧ (¬ fa = 0 → fa' = fa)
theorem RP.wr {pl : Nat → Int32} {fa at_ fa' at' : Int} {g : Nat → Nat × Int} (k : Int) (h1 : fa = 0 → fa' = k + 16 * (pl at_.toNat).toInt) (h2 : ¬ fa = 0 → fa' = fa) (h0 : 0 ≤ (pl at_.toNat).toInt) (hk : 1 ≤ k) (hg : fa = 0 → g (pl at_.toNat).toInt.toNat = flt k (pl at_.toNat).toInt.toNat) : RP pl fa at_ fa' at' g := ⟨fun z => by
  rw [hg z]
  have e : (flt k (pl at_.toNat).toInt.toNat).2 = k + 16 * (((pl at_.toNat).toInt.toNat : Nat) : Int) := rfl
  rw [e]
  have h3 := h1 z
  exact ⟨by omega, fun q => absurd q (by omega)⟩, h2⟩
theorem RP.go {so pl : Nat → Int32} {va : Nat → Int64} {T : Nat → Int × Int64 × Nat} {fa at_ fa' at' : Int} {g : Nat → Nat × Int} (hR : RWS so pl va T) (h0 : 0 ≤ at_) (hb : at_ < ((eN so : Nat) : Int)) (hf : fa' = fa) (ha : at' = at_ + 1) (hg : fa = 0 → g (pl at_.toNat).toInt.toNat = (nx T (pl at_.toNat).toInt.toNat, 0)) : RP pl fa at_ fa' at' g := ⟨fun z => by
  rw [hg z]
  have e : at'.toNat = at_.toNat + 1 := by omega
  exact ⟨hf.trans z, fun _ => by rw [e]; exact (hR at_.toNat (by omega)).2.2 (by omega)⟩, fun _ => hf⟩
theorem RP.bind {pl : Nat → Int32} {fa at_ fa1 at1 fa2 at2 : Int} {g h : Nat → Nat × Int} (h1 : RP pl fa at_ fa1 at1 g) (h2 : RP pl fa1 at1 fa2 at2 h) : RP pl fa at_ fa2 at2 (fun p => bnd (g p) h) := by
  refine ⟨fun z => ?_, fun z => ?_⟩
  · obtain ⟨a, b⟩ := h1.1 z
    by_cases q : fa1 = 0
    · have e : g (pl at_.toNat).toInt.toNat = ((pl at1.toNat).toInt.toNat, 0) := by
        have b' := b q
        have e2 : (pl at1.toNat).toInt.toNat = (g (pl at_.toNat).toInt.toNat).1 := by omega
        rw [e2]; exact Prod.ext rfl (a.symm.trans q)
      show fa2 = (bnd (g (pl at_.toNat).toInt.toNat) h).2 ∧ (fa2 = 0 → _ = (((bnd (g (pl at_.toNat).toInt.toNat) h).1 : Nat) : Int))
      rw [bnd_ok e]; exact h2.1 q
    · have e := h2.2 q
      have n : ¬ (g (pl at_.toNat).toInt.toNat).2 = 0 := fun z2 => q (a.trans z2)
      show fa2 = (bnd (g (pl at_.toNat).toInt.toNat) h).2 ∧ (fa2 = 0 → _ = (((bnd (g (pl at_.toNat).toInt.toNat) h).1 : Nat) : Int))
      rw [bnd_bad n]; exact ⟨e.trans a, fun z2 => absurd (e.symm.trans z2) q⟩
  · have a := h1.2 z
    exact (h2.2 (by omega)).trans a
theorem RP.mv {pl : Nat → Int32} {fa at_ fa' at' : Int} {g g' : Nat → Nat × Int} (h : RP pl fa at_ fa' at' g) (e : fa = 0 → g' (pl at_.toNat).toInt.toNat = g (pl at_.toNat).toInt.toNat) : RP pl fa at_ fa' at' g' := ⟨fun z => by rw [e z]; exact h.1 z, h.2⟩
theorem RP.to {pl : Nat → Int32} {fa at_ fa' at' at2 : Int} {g : Nat → Nat × Int} (h : RP pl fa at_ fa' at' g) (e : at2 = at') : RP pl fa at_ fa' at2 g := e ▸ h
theorem RP.bad {pl : Nat → Int32} {fa at_ fa' at' : Int} {g : Nat → Nat × Int} (h : ¬ fa = 0) (e : fa' = fa) : RP pl fa at_ fa' at' g := ⟨fun z => absurd z h, fun _ => e⟩
theorem RP.id {pl : Nat → Int32} {fa at_ fa' at' : Int} {g : Nat → Nat × Int} (e : fa' = fa) (ea : at' = at_) (hg : fa = 0 → g (pl at_.toNat).toInt.toNat = ((pl at_.toNat).toInt.toNat, 0)) (h0 : 0 ≤ (pl at_.toNat).toInt) : RP pl fa at_ fa' at' g := ⟨fun z => by rw [hg z, ea]; exact ⟨e.trans z, fun _ => by show _ = (((pl at_.toNat).toInt.toNat : Nat) : Int); omega⟩, fun _ => e⟩
def rWrd (T : Nat → Int × Int64 × Nat) (k p : Nat) : Nat × Int := if isW T p (WN k) = true then (nx T p, 0) else flt 1 p
theorem rAmt_b {T : Nat → Int × Int64 × Nat} {k p : Nat} {lo hi : Int} : rAmt T (WN k) lo hi p = bnd (rWrd T k p) (rNum T lo hi) := by
  unfold rAmt rWrd
  by_cases q : isW T p (WN k) = true
  · rw [if_pos q, if_pos q, bnd_ok rfl]
  · rw [if_neg q, if_neg q, bnd_bad (flt_ne (by decide))]
/-- a chain of the reference under way -/
def CK (T : Nat → Int × Int64 × Nat) (sub : Nat → Nat × Int) (jn : Nat → Bool) (p : Nat) (R : Nat × Int) : Prop := ∃ k, 1000 ≤ k + p ∧ chn sub (nx T) jn k (p, 0) = R
def RH (T : Nat → Int × Int64 × Nat) (sub : Nat → Nat × Int) (jn : Nat → Bool) (pl : Nat → Int32) (fa0 fa at_ : Int) (R : Nat × Int) : Prop := (fa0 = 0 → (fa = 0 → CK T sub jn (pl at_.toNat).toInt.toNat R) ∧ (¬ fa = 0 → R.2 = fa)) ∧ (¬ fa0 = 0 → fa = fa0)
theorem RH.start {T : Nat → Int × Int64 × Nat} {sub : Nat → Nat × Int} {jn : Nat → Bool} {pl : Nat → Int32} {fa0 at0 fa at_ : Int} (h : RP pl fa0 at0 fa at_ sub) : RH T sub jn pl fa0 fa at_ (chn sub (nx T) jn 1000 (sub (pl at0.toNat).toInt.toNat)) := ⟨fun z => by
  obtain ⟨a, b⟩ := h.1 z
  refine ⟨fun q => ⟨1000, by omega, ?_⟩, fun q => ?_⟩
  · have e : sub (pl at0.toNat).toInt.toNat = ((pl at_.toNat).toInt.toNat, 0) := by
      have b' := b q
      have e2 : (pl at_.toNat).toInt.toNat = (sub (pl at0.toNat).toInt.toNat).1 := by omega
      rw [e2]; exact Prod.ext rfl (a.symm.trans q)
    rw [e]
  · rw [chn_bad (fun z2 => q (a.trans z2))]; exact a.symm, h.2⟩
theorem RH.step {T : Nat → Int × Int64 × Nat} {sub : Nat → Nat × Int} {jn : Nat → Bool} {pl : Nat → Int32} {fa0 fa at_ fa1 at1 fa' at' : Int} {R : Nat × Int} (hT : PT T) (hs : ∀ q, (sub q).2 = 0 → q < (sub q).1) (hj : ∀ q, jn q = true → q < 1000 ∧ q < nx T q) (h : RH T sub jn pl fa0 fa at_ R) (hf : fa = 0) (hjn : jn (pl at_.toNat).toInt.toNat = true) (h1 : RP pl fa at_ fa1 at1 (fun p => (nx T p, 0))) (h2 : RP pl fa1 at1 fa' at' sub) : RH T sub jn pl fa0 fa' at' R := by
  refine ⟨fun z => ?_, fun z => absurd (hf.symm.trans (h.2 z)) (fun e => z e.symm)⟩
  obtain ⟨k, k1, k2⟩ := (h.1 z).1 hf
  obtain ⟨a, b⟩ := h1.1 hf
  have a0 : fa1 = 0 := a
  obtain ⟨c, d⟩ := h2.1 a0
  have e1 : (pl at1.toNat).toInt.toNat = nx T (pl at_.toNat).toInt.toNat := by
    have b' := b a0
    have b2 : (pl at1.toNat).toInt = ((nx T (pl at_.toNat).toInt.toNat : Nat) : Int) := b'
    omega
  have j1 := hj _ hjn
  obtain ⟨m, rfl⟩ : ∃ m, k = m + 1 := ⟨k - 1, by omega⟩
  rw [chn_go hjn, ← e1] at k2
  refine ⟨fun q => ?_, fun q => ?_⟩
  · have d' := d q
    have g : (sub (pl at1.toNat).toInt.toNat).2 = 0 := c.symm.trans q
    have g2 := hs _ g
    have e2 : sub (pl at1.toNat).toInt.toNat = ((pl at'.toNat).toInt.toNat, 0) := by
      have e3 : (pl at'.toNat).toInt.toNat = (sub (pl at1.toNat).toInt.toNat).1 := by omega
      rw [e3]; exact Prod.ext rfl g
    rw [e2] at k2
    exact ⟨m, by omega, k2⟩
  · rw [chn_bad (fun z2 => q (c.trans z2))] at k2
    rw [← k2]; exact c.symm
theorem RH.stop {T : Nat → Int × Int64 × Nat} {sub : Nat → Nat × Int} {jn : Nat → Bool} {pl : Nat → Int32} {fa0 at0 fa at_ at' : Int} {g : Nat → Nat × Int} (h : RH T sub jn pl fa0 fa at_ (g (pl at0.toNat).toInt.toNat)) (ha : at' = at_) (h0 : 0 ≤ (pl at_.toNat).toInt) (hj : fa = 0 → ¬ jn (pl at_.toNat).toInt.toNat = true) : RP pl fa0 at0 fa at' g := by
  subst ha
  refine ⟨fun z => ?_, h.2⟩
  by_cases q : fa = 0
  · obtain ⟨k, _, k2⟩ := (h.1 z).1 q
    rw [chn_end (r := ((pl at'.toNat).toInt.toNat, 0)) (hj q)] at k2
    rw [← k2]
    exact ⟨q, fun _ => by show _ = (((pl at'.toNat).toInt.toNat : Nat) : Int); omega⟩
  · exact ⟨((h.1 z).2 q).symm, fun z2 => absurd z2 q⟩
theorem RP.one {T : Nat → Int × Int64 × Nat} {sub : Nat → Nat × Int} {jn : Nat → Bool} {pl : Nat → Int32} {fa0 at0 fa at_ fa1 at1 fa' at' : Int} (h : RP pl fa0 at0 fa at_ sub) (hf : fa = 0) (hjn : jn (pl at_.toNat).toInt.toNat = true) (h1 : RP pl fa at_ fa1 at1 (fun p => (nx T p, 0))) (h2 : RP pl fa1 at1 fa' at' sub) : RP pl fa0 at0 fa' at' (fun p => chn sub (nx T) jn 1 (sub p)) := by
  refine ⟨fun z => ?_, fun z => absurd (hf.symm.trans (h.2 z)) (fun e => z e.symm)⟩
  obtain ⟨a, b⟩ := h.1 z
  have b' := b hf
  have e : sub (pl at0.toNat).toInt.toNat = ((pl at_.toNat).toInt.toNat, 0) := by
    have e2 : (pl at_.toNat).toInt.toNat = (sub (pl at0.toNat).toInt.toNat).1 := by omega
    rw [e2]; exact Prod.ext rfl (a.symm.trans hf)
  obtain ⟨c, d⟩ := h1.1 hf
  have c0 : fa1 = 0 := c
  have e1 : (pl at1.toNat).toInt.toNat = nx T (pl at_.toNat).toInt.toNat := by
    have d2 : (pl at1.toNat).toInt = ((nx T (pl at_.toNat).toInt.toNat : Nat) : Int) := d c0
    omega
  show fa' = (chn sub (nx T) jn 1 (sub (pl at0.toNat).toInt.toNat)).2 ∧ (fa' = 0 → (pl at'.toNat).toInt = (((chn sub (nx T) jn 1 (sub (pl at0.toNat).toInt.toNat)).1 : Nat) : Int))
  have e5 : chn sub (nx T) jn 1 (sub (pl at0.toNat).toInt.toNat) = sub (pl at1.toNat).toInt.toNat := by rw [e, chn_go (k := 0) hjn, ← e1]; rfl
  rw [e5]; exact h2.1 c0
theorem RP.none {T : Nat → Int × Int64 × Nat} {sub : Nat → Nat × Int} {jn : Nat → Bool} {pl : Nat → Int32} {fa0 at0 fa at_ at' : Int} (h : RP pl fa0 at0 fa at_ sub) (ha : at' = at_) (hj : fa = 0 → ¬ jn (pl at_.toNat).toInt.toNat = true) : RP pl fa0 at0 fa at' (fun p => chn sub (nx T) jn 1 (sub p)) := by
  subst ha
  refine h.mv (fun z => ?_)
  obtain ⟨a, b⟩ := h.1 z
  by_cases q : fa = 0
  · have b' := b q
    have e : sub (pl at0.toNat).toInt.toNat = ((pl at'.toNat).toInt.toNat, 0) := by
      have e2 : (pl at'.toNat).toInt.toNat = (sub (pl at0.toNat).toInt.toNat).1 := by omega
      rw [e2]; exact Prod.ext rfl (a.symm.trans q)
    show chn sub (nx T) jn 1 (sub (pl at0.toNat).toInt.toNat) = _
    rw [e]; exact chn_end (r := ((pl at'.toNat).toInt.toNat, 0)) (hj q) 1
  · exact chn_bad (fun z2 => q (a.trans z2)) 1
theorem WN_ne_all : ∀ j, j < 23 → ∀ k, k < 23 → (decide (j = k) || !decide (WN j = WN k)) = true := by decide +kernel
theorem WN_ne (j : Nat) (hj : j < 23) (k : Nat) (hk : k < 23) (hne : ¬ j = k) : ¬ WN j = WN k := fun e => by
  have a := WN_ne_all j hj k hk
  rw [decide_eq_false hne, decide_eq_true e] at a
  exact absurd a (by decide)
theorem wI_uq {T : Nat → Int × Int64 × Nat} {p j k : Nat} (hj : j < 23) (hk : k < 23) (h : wI T p (WN j) = 1) (hne : ¬ j = k) : wI T p (WN k) = 0 := wI_0.mpr (fun q => WN_ne j hj k hk hne ((of_decide_eq_true (wI_1.mp h)).2.symm.trans (of_decide_eq_true q).2))
theorem wI_gI {T : Nat → Int × Int64 × Nat} {p : Nat} {w : Int64} {c : Int32} (h : wI T p w = 1) : ¬ isG T p c = true := fun q => by
  have a := (of_decide_eq_true (wI_1.mp h)).1
  rw [(of_decide_eq_true q).1] at a
  exact absurd a (by decide)
/-- what the reference has told and what is told purely -/
def MN (nm : Nat → Int64) (t : Nat → Int32) (S : ((Nat → Int64) × Nat × (Nat → Int64) × Nat × (Nat → Bool) × (Nat → Bool) × Nat)) : Prop := (t 120).toInt = ((S.2.1 : Nat) : Int) ∧ (t 121).toInt = ((S.2.2.2.1 : Nat) : Int) ∧ (∀ j, j < S.2.1 → nm j = S.1 j) ∧ (∀ j, j < S.2.2.2.1 → nm (12 + j) = S.2.2.1 j)
def MR (nm : Nat → Int64) (t hb : Nat → Int32) (S : ((Nat → Int64) × Nat × (Nat → Int64) × Nat × (Nat → Bool) × (Nat → Bool) × Nat)) : Prop := MN nm t S ∧ (t 122).toInt = ((S.2.2.2.2.2.2 : Nat) : Int) ∧ (∀ j, j < 12 → ((t (130 + 8 * j)).toInt = 1 ↔ S.2.2.2.2.1 j = true)) ∧ (∀ j, j < 12 → ((hb j).toInt = 1 ↔ S.2.2.2.2.2.1 j = true))
/-- the first of the names, wares ahead of shelves -/
def nmOf (S : ((Nat → Int64) × Nat × (Nat → Int64) × Nat × (Nat → Bool) × (Nat → Bool) × Nat)) (v : Int64) : Int := if fnd S.1 S.2.1 v < S.2.1 then ((fnd S.1 S.2.1 v : Nat) : Int) else if fnd S.2.2.1 S.2.2.2.1 v < S.2.2.2.1 then 12 + ((fnd S.2.2.1 S.2.2.2.1 v : Nat) : Int) else -1
theorem nmOf_w {nm : Nat → Int64} {t : Nat → Int32} {S : ((Nat → Int64) × Nat × (Nat → Int64) × Nat × (Nat → Bool) × (Nat → Bool) × Nat)} {v : Int64} {k : Nat} (h : MN nm t S) (hk : k < S.2.1) (h1 : nm k = v) (h2 : ∀ j, j < k → ¬ nm j = v) : nmOf S v = (k : Int) := by
  have e : fnd S.1 S.2.1 v = k := fnd_eq hk ((h.2.2.1 k hk).symm.trans h1) (fun j hj z => h2 j hj ((h.2.2.1 j (by omega)).trans z))
  unfold nmOf; rw [if_pos (by omega), e]
theorem nmOf_s {nm : Nat → Int64} {t : Nat → Int32} {S : ((Nat → Int64) × Nat × (Nat → Int64) × Nat × (Nat → Bool) × (Nat → Bool) × Nat)} {v : Int64} {k : Nat} (h : MN nm t S) (hk : k < S.2.2.2.1) (h1 : nm (12 + k) = v) (h2 : ∀ j, j < S.2.1 → ¬ nm j = v) (h3 : ∀ j, j < k → ¬ nm (12 + j) = v) : nmOf S v = 12 + (k : Int) := by
  have e0 : fnd S.1 S.2.1 v = S.2.1 := fnd_no (fun j hj z => h2 j hj ((h.2.2.1 j hj).trans z))
  have e : fnd S.2.2.1 S.2.2.2.1 v = k := fnd_eq hk ((h.2.2.2 k hk).symm.trans h1) (fun j hj z => h3 j hj ((h.2.2.2 j (by omega)).trans z))
  unfold nmOf; rw [if_neg (by omega), if_pos (by omega), e]
theorem nmOf_n {nm : Nat → Int64} {t : Nat → Int32} {S : ((Nat → Int64) × Nat × (Nat → Int64) × Nat × (Nat → Bool) × (Nat → Bool) × Nat)} {v : Int64} (h : MN nm t S) (h2 : ∀ j, j < S.2.1 → ¬ nm j = v) (h3 : ∀ j, j < S.2.2.2.1 → ¬ nm (12 + j) = v) : nmOf S v = -1 := by
  have e0 : fnd S.1 S.2.1 v = S.2.1 := fnd_no (fun j hj z => h2 j hj ((h.2.2.1 j hj).trans z))
  have e : fnd S.2.2.1 S.2.2.2.1 v = S.2.2.2.1 := fnd_no (fun j hj z => h3 j hj ((h.2.2.2 j hj).trans z))
  unfold nmOf; rw [if_neg (by omega), if_neg (by omega)]
theorem nmOf_new {S : ((Nat → Int64) × Nat × (Nat → Int64) × Nat × (Nat → Bool) × (Nat → Bool) × Nat)} {v : Int64} : (fnd S.1 S.2.1 v < S.2.1 ∨ fnd S.2.2.1 S.2.2.2.1 v < S.2.2.2.1) ↔ 0 ≤ nmOf S v := by
  unfold nmOf
  by_cases q : fnd S.1 S.2.1 v < S.2.1
  · rw [if_pos q]; exact ⟨fun _ => by omega, fun _ => Or.inl q⟩
  · rw [if_neg q]
    by_cases q2 : fnd S.2.2.1 S.2.2.2.1 v < S.2.2.2.1
    · rw [if_pos q2]; exact ⟨fun _ => by omega, fun _ => Or.inr q2⟩
    · rw [if_neg q2]; exact ⟨fun z => by omega, fun z => absurd z (by decide)⟩
theorem nmOf_old {S : ((Nat → Int64) × Nat × (Nat → Int64) × Nat × (Nat → Bool) × (Nat → Bool) × Nat)} {v : Int64} (hS : S.2.1 ≤ 12) : (0 ≤ nmOf S v ∧ nmOf S v < 12 → fnd S.1 S.2.1 v < S.2.1 ∧ nmOf S v = ((fnd S.1 S.2.1 v : Nat) : Int)) ∧ (nmOf S v < 0 ∨ 12 ≤ nmOf S v → ¬ fnd S.1 S.2.1 v < S.2.1) := by
  unfold nmOf
  by_cases q : fnd S.1 S.2.1 v < S.2.1
  · rw [if_pos q]; exact ⟨fun _ => ⟨q, rfl⟩, fun z => by omega⟩
  · rw [if_neg q]
    by_cases q2 : fnd S.2.2.1 S.2.2.2.1 v < S.2.2.2.1
    · rw [if_pos q2]; exact ⟨fun z => by omega, fun _ => q⟩
    · rw [if_neg q2]; exact ⟨fun z => by omega, fun _ => q⟩
theorem MR.ware {T : Nat → Int × Int64 × Nat} {nm nm' : Nat → Int64} {t t' hb : Nat → Int32} {S : ((Nat → Int64) × Nat × (Nat → Int64) × Nat × (Nat → Bool) × (Nat → Bool) × Nat)} {p n : Nat} {v : Int64} (h : MR nm t hb S) (hn : (t 120).toInt = (n : Int)) (h1 : (t' 120).toInt = (t 120).toInt + 1) (h2 : ∀ j, (j = 121 ∨ j = 122 ∨ 130 ≤ j ∧ j % 8 = 2) → t' j = t j) (e : nm' = vp_updL nm n v) (hv : v = (T (nx T p)).2.1) (h12 : n < 12) : MR nm' t' hb (sWare T S p) := by
  obtain ⟨⟨a1, a2, b, c⟩, a3, d, f⟩ := h
  have en : n = S.2.1 := by omega
  subst e
  refine ⟨⟨?_, ?_, ?_, ?_⟩, (by rw [h2 122 (Or.inr (Or.inl rfl))]; exact a3), ?_, f⟩
  · show _ = ((S.2.1 + 1 : Nat) : Int); omega
  · rw [h2 121 (Or.inl rfl)]; exact a2
  · intro j hj
    have hj2 : j < S.2.1 + 1 := hj
    show vp_updL nm n v j = vp_updL S.1 S.2.1 (T (nx T p)).2.1 j
    rw [← en]
    by_cases q : j = n
    · rw [q, pk_uLs, pk_uLs, hv]
    · rw [pk_uLn q, pk_uLn q]; exact b j (by omega)
  · intro j hj
    rw [pk_uLn (show ¬ 12 + j = n by omega)]; exact c j hj
  · intro j hj
    rw [h2 (130 + 8 * j) (Or.inr (Or.inr (by omega)))]; exact d j hj
theorem MR.shelf {T : Nat → Int × Int64 × Nat} {nm nm' : Nat → Int64} {t t' hb : Nat → Int32} {S : ((Nat → Int64) × Nat × (Nat → Int64) × Nat × (Nat → Bool) × (Nat → Bool) × Nat)} {p n : Nat} {v : Int64} (h : MR nm t hb S) (hn : (t 121).toInt = (n : Int)) (h1 : (t' 121).toInt = (t 121).toInt + 1) (h2 : ∀ j, (j = 120 ∨ j = 122 ∨ 130 ≤ j ∧ j < 219 ∧ j % 8 = 2) → t' j = t j) (e : nm' = vp_updL nm (12 + n) v) (hv : v = (T (nx T p)).2.1) (hw : S.2.1 ≤ 12) : MR nm' t' hb (sShelf T S p) := by
  obtain ⟨⟨a1, a2, b, c⟩, a3, d, f⟩ := h
  have en : n = S.2.2.2.1 := by omega
  subst e
  refine ⟨⟨?_, ?_, ?_, ?_⟩, (by rw [h2 122 (Or.inr (Or.inl rfl))]; exact a3), ?_, f⟩
  · rw [h2 120 (Or.inl rfl)]; exact a1
  · show _ = ((S.2.2.2.1 + 1 : Nat) : Int); omega
  · intro j hj
    have hj2 : j < S.2.1 := hj
    rw [pk_uLn (show ¬ j = 12 + n by omega)]; exact b j hj
  · intro j hj
    have hj2 : j < S.2.2.2.1 + 1 := hj
    show vp_updL nm (12 + n) v (12 + j) = vp_updL S.2.2.1 S.2.2.2.1 (T (nx T p)).2.1 j
    rw [← en]
    by_cases q : j = n
    · rw [q, pk_uLs, pk_uLs, hv]
    · rw [pk_uLn (show ¬ 12 + j = 12 + n by omega), pk_uLn q]; exact c j (by omega)
  · intro j hj
    rw [h2 (130 + 8 * j) (Or.inr (Or.inr (by omega)))]; exact d j hj
theorem MR.top {T : Nat → Int × Int64 × Nat} {nm : Nat → Int64} {t t' hb : Nat → Int32} {S : ((Nat → Int64) × Nat × (Nat → Int64) × Nat × (Nat → Bool) × (Nat → Bool) × Nat)} {p k : Nat} (h : MR nm t hb S) (hk : k = fnd S.1 S.2.1 (T (nx T p)).2.1) (h12 : k < 12) (e : t' = upd t (130 + 8 * k) 1) : MR nm t' hb (sTop T S p) := by
  obtain ⟨⟨a1, a2, b, c⟩, a3, d, f⟩ := h
  subst e
  refine ⟨⟨?_, ?_, b, c⟩, (by rw [pk_un (show ¬ 122 = 130 + 8 * k by omega)]; exact a3), ?_, f⟩
  · rw [pk_un (show ¬ 120 = 130 + 8 * k by omega)]; exact a1
  · rw [pk_un (show ¬ 121 = 130 + 8 * k by omega)]; exact a2
  · intro j hj
    show _ ↔ updB S.2.2.2.2.1 (fnd S.1 S.2.1 (T (nx T p)).2.1) j = true
    rw [← hk]; unfold updB
    by_cases q : j = k
    · rw [q, pk_us, if_pos rfl]; exact ⟨fun _ => rfl, fun _ => rfl⟩
    · rw [pk_un (show ¬ 130 + 8 * j = 130 + 8 * k by omega), if_neg q]; exact d j hj
theorem MR.hab {T : Nat → Int × Int64 × Nat} {nm : Nat → Int64} {t t' hb hb' : Nat → Int32} {S : ((Nat → Int64) × Nat × (Nat → Int64) × Nat × (Nat → Bool) × (Nat → Bool) × Nat)} {p k : Nat} (h : MR nm t hb S) (hk : k = fnd S.1 S.2.1 (T (nx T p)).2.1) (h12 : k < 12) (e : hb' = upd hb k (vp_nar .boolean 1)) (h2 : ∀ j, (j = 120 ∨ j = 121 ∨ j = 122 ∨ 130 ≤ j ∧ j % 8 = 2) → t' j = t j) : MR nm t' hb' (sHab T S p) := by
  obtain ⟨⟨a1, a2, b, c⟩, a3, d, f⟩ := h
  subst e
  refine ⟨⟨?_, ?_, b, c⟩, (by rw [h2 122 (Or.inr (Or.inr (Or.inl rfl)))]; exact a3), ?_, ?_⟩
  · rw [h2 120 (Or.inl rfl)]; exact a1
  · rw [h2 121 (Or.inr (Or.inl rfl))]; exact a2
  · intro j hj
    rw [h2 (130 + 8 * j) (Or.inr (Or.inr (Or.inr (by omega))))]; exact d j hj
  · intro j hj
    show _ ↔ updB S.2.2.2.2.2.1 (fnd S.1 S.2.1 (T (nx T p)).2.1) j = true
    rw [← hk]; unfold updB
    by_cases q : j = k
    · rw [q, pk_us, if_pos rfl]; exact ⟨fun _ => rfl, fun _ => rfl⟩
    · rw [pk_un q, if_neg q]; exact f j hj
theorem MR.nest {nm : Nat → Int64} {t t' hb : Nat → Int32} {S : ((Nat → Int64) × Nat × (Nat → Int64) × Nat × (Nat → Bool) × (Nat → Bool) × Nat)} (h : MR nm t hb S) (h1 : (t' 122).toInt = (t 122).toInt + 1) (h2 : ∀ j, (j = 120 ∨ j = 121 ∨ 130 ≤ j ∧ j < 219 ∧ j % 8 = 2) → t' j = t j) : MR nm t' hb (sNest S) := by
  obtain ⟨⟨a1, a2, b, c⟩, a3, d, f⟩ := h
  refine ⟨⟨?_, ?_, b, c⟩, ?_, ?_, f⟩
  · rw [h2 120 (Or.inl rfl)]; exact a1
  · rw [h2 121 (Or.inr (Or.inl rfl))]; exact a2
  · show _ = ((S.2.2.2.2.2.2 + 1 : Nat) : Int); omega
  · intro j hj
    rw [h2 (130 + 8 * j) (Or.inr (Or.inr (by omega)))]; exact d j hj
theorem lc_int {x y : Int64} {v : Int32} (h : lc x y = v) : v.toInt < 0 ∧ x.toInt < y.toInt ∨ v.toInt = 0 ∧ x.toInt = y.toInt ∨ 0 < v.toInt ∧ y.toInt < x.toInt := by
  obtain ⟨a, b, c1, c2⟩ := lc_eq h
  have l0 : (0 : Int32).toInt = 0 := rfl
  have a' : v.toInt = 0 ↔ x.toInt = y.toInt := by
    constructor
    · intro z; rw [a.mp ((i_eq _ _).mpr z)]
    · intro z; rw [a.mpr (Int64.toInt_inj.mp z)]; rfl
  have b' : v.toInt < 0 ↔ x.toInt < y.toInt := by
    constructor
    · intro z; exact Int64.lt_iff_toInt_lt.mp (b.mp ((i_lt _ _).mpr (by omega)))
    · intro z; have := (i_lt _ _).mp (b.mpr (Int64.lt_iff_toInt_lt.mpr z)); omega
  omega
/-- the search for a word that isn't a name -/
def NQ (fa so : Int) (v : Int64) (r k : Int) : Prop := (r = 1 → (fa = 0 ∧ so = 1) ∧ ∀ j : Nat, (j : Int) < k → ¬ v = WN j) ∧ (r = 0 → ¬ ((fa = 0 ∧ so = 1) ∧ ∀ j : Nat, (j : Int) < k → ¬ v = WN j))
def nE (fa : Int) (T : Nat → Int × Int64 × Nat) (p : Nat) : Int := if fa = 0 then nmI T p else 0
theorem nE_z {fa : Int} {T : Nat → Int × Int64 × Nat} {p : Nat} (h : fa = 0) : nE fa T p = nmI T p := if_pos h
theorem nE_1 {fa : Int} {T : Nat → Int × Int64 × Nat} {p : Nat} (h : nE fa T p = 1) : fa = 0 ∧ isNm T p = true := by
  by_cases q : fa = 0
  · rw [nE_z q] at h; exact ⟨q, nmI_1.mp h⟩
  · unfold nE at h; rw [if_neg q] at h; exact absurd h (by decide)
theorem nE_0 {fa : Int} {T : Nat → Int × Int64 × Nat} {p : Nat} (h : nE fa T p = 0) (hf : fa = 0) : ¬ isNm T p = true := by rw [nE_z hf] at h; exact nmI_0.mp h
theorem NQ.fin {so pl : Nat → Int32} {va : Nat → Int64} {T : Nat → Int × Int64 × Nat} {fa at_ : Int32} {r : Int} (hR : RWS so pl va T) (h0 : 0 ≤ at_.toInt) (h1 : at_.toInt ≤ ((eN so : Nat) : Int)) (h : NQ fa.toInt (so at_.toInt.toNat).toInt (va at_.toInt.toNat) r 17) (hr : r = 0 ∨ r = 1) : r = nE fa.toInt T (pl at_.toInt.toNat).toInt.toNat := by
  obtain ⟨a, b, _⟩ := hR at_.toInt.toNat (by omega)
  rcases hr with q | q
  · rw [q]
    by_cases z : fa.toInt = 0
    · rw [nE_z z]
      refine (nmI_0.mpr (fun y => ?_)).symm
      have y2 := isNm_iff.mp y
      have s1 := a.trans y2.1
      refine h.2 q ⟨⟨z, s1⟩, fun j hj => ?_⟩
      rw [b (Or.inl s1)]; exact y2.2 j (by omega)
    · unfold nE; rw [if_neg z]
  · rw [q]
    obtain ⟨⟨z, s1⟩, y⟩ := h.1 q
    rw [nE_z z]
    refine (nmI_1.mpr (isNm_iff.mpr ⟨a.symm.trans s1, fun j hj => ?_⟩)).symm
    rw [← b (Or.inl s1)]; exact y j (by omega)


theorem eN_eq {f : Nat → Int32} {n : Nat} (hn : n ≤ 1000) (h0 : f n = 0) (h : ∀ a, a < n → ¬ (f a).toInt = 0) : eN f = n := by
  have a : eN f ≤ n := eF_le h0 1001 0 (by omega) (by omega)
  rcases Nat.lt_or_ge (eN f) n with q | q
  · have b : f (eN f) = 0 := eF_at 1001 0 (by show eN f < 0 + 1001; omega)
    exact absurd (by rw [b]; rfl) (h _ q)
  · omega
theorem tP_bl {f : Nat → Int32} {N k : Nat} (hk : k < N) (hb : isB (f k) = true) : tP f N k = tP f N (k + 1) := by
  have h := rn_RE isB f N (k + 1)
  have h1 := h.1
  refine (RE.rn (P := isB) (f := f) (n := N) (i := k) (e := rn isB f N (k + 1)) ⟨by omega, fun j j1 j2 => ?_, h.2.2⟩).symm
  rcases Nat.lt_or_ge k j with q | q
  · exact h.2.1 j (by omega) j2
  · have e : j = k := by omega
    rw [e]; exact ⟨hk, hb⟩
theorem tP_nb {f : Nat → Int32} {N k : Nat} (h : ¬ (k < N ∧ isB (f k) = true)) : tP f N k = k := (RE.rn (P := isB) (f := f) (n := N) (i := k) (e := k) ⟨Nat.le_refl _, fun j h1 h2 => absurd h2 (by omega), h⟩).symm
theorem tok_w {f : Nat → Int32} {N k e : Nat} (hk : k < N) (hP : tP f N k = k) (hR : RE (isR 97 122) f N k e) (he : k < e) : tE f N k = e ∧ tK f N k = if e ≤ k + 8 then 1 else 4 := by
  have eW : tW f N k = e := by unfold tW; rw [hP]; exact hR.rn.symm
  constructor
  · unfold tE; rw [hP, if_neg (by omega), eW, if_pos he]
  · unfold tK; rw [hP, if_neg (by omega), eW, if_pos he]
theorem tok_d {f : Nat → Int32} {N k e : Nat} (hk : k < N) (hP : tP f N k = k) (hl : ¬ isR 97 122 (f k) = true) (hR : RE (isR 48 57) f N k e) (he : k < e) : tE f N k = e ∧ tK f N k = if e ≤ k + 4 then 2 else 4 := by
  have eW : tW f N k = k := by unfold tW; rw [hP]; exact (RE.rn (P := isR 97 122) (f := f) (n := N) (i := k) (e := k) ⟨Nat.le_refl _, fun j h1 h2 => absurd h2 (by omega), fun z => hl z.2⟩).symm
  have eD : tD f N k = e := by unfold tD; rw [hP]; exact hR.rn.symm
  constructor
  · unfold tE; rw [hP, if_neg (by omega), eW, if_neg (by omega), eD, if_pos he]
  · unfold tK; rw [hP, if_neg (by omega), eW, if_neg (by omega), eD, if_pos he]
theorem tok_s {f : Nat → Int32} {N k : Nat} (hk : k < N) (hP : tP f N k = k) (hl : ¬ isR 97 122 (f k) = true) (hd : ¬ isR 48 57 (f k) = true) : tE f N k = k + 1 ∧ tK f N k = if isS (f k) = true then 3 else 4 := by
  have eW : tW f N k = k := by unfold tW; rw [hP]; exact (RE.rn (P := isR 97 122) (f := f) (n := N) (i := k) (e := k) ⟨Nat.le_refl _, fun j h1 h2 => absurd h2 (by omega), fun z => hl z.2⟩).symm
  have eD : tD f N k = k := by unfold tD; rw [hP]; exact (RE.rn (P := isR 48 57) (f := f) (n := N) (i := k) (e := k) ⟨Nat.le_refl _, fun j h1 h2 => absurd h2 (by omega), fun z => hd z.2⟩).symm
  constructor
  · unfold tE; rw [hP, if_neg (by omega), eW, if_neg (by omega), eD, if_neg (by omega)]
  · unfold tK; rw [hP, if_neg (by omega), eW, if_neg (by omega), eD, if_neg (by omega)]
/-- the cutting under way: n tokens stand, the text is looked at from k on -/
def CA (so pl : Nat → Int32) (va : Nat → Int64) (f : Nat → Int32) (N : Nat) (n k : Int) : Prop :=
  (∀ a : Nat, (a : Int) < n → ¬ (so a).toInt = 0 ∧ (so a).toInt = tK f N (pl a).toInt.toNat ∧ ((so a).toInt = 1 ∨ (so a).toInt = 2 ∨ (so a).toInt = 3 → va a = tV0 f N (pl a).toInt.toNat) ∧ ((a : Int) + 1 < n → (pl (a + 1)).toInt = ((tP f N (tE f N (pl a).toInt.toNat) : Nat) : Int))) ∧ (n = 0 → tP f N k.toNat = tP f N 0) ∧ (0 < n → (pl 0).toInt = ((tP f N 0 : Nat) : Int) ∧ tP f N k.toNat = tP f N (tE f N (pl (n.toNat - 1)).toInt.toNat)) ∧ k ≤ (N : Int)
theorem CA.zero {so pl : Nat → Int32} {va : Nat → Int64} {f : Nat → Int32} {N : Nat} {n k : Int} (hn : n = 0) (hk : k = 0) : CA so pl va f N n k := by
  subst hn; subst hk
  exact ⟨fun a ha => absurd ha (by omega), fun _ => rfl, fun h => absurd h (by omega), by omega⟩
theorem CA.blank {so pl : Nat → Int32} {va : Nat → Int64} {f : Nat → Int32} {N : Nat} {n k k' : Int} (h : CA so pl va f N n k) (h0 : 0 ≤ k) (h1 : k < (N : Int)) (hb : isB (f k.toNat) = true) (hk : k' = k + 1) : CA so pl va f N n k' := by
  subst hk
  have e : tP f N (k + 1).toNat = tP f N k.toNat := by
    rw [show (k + 1).toNat = k.toNat + 1 by omega]; exact (tP_bl (by omega) hb).symm
  exact ⟨h.1, fun z => by rw [e]; exact h.2.1 z, fun z => by rw [e]; exact h.2.2.1 z, by omega⟩
theorem CA.tok {so pl so' pl' : Nat → Int32} {va va' : Nat → Int64} {f : Nat → Int32} {N : Nat} {n k n' k' : Int} {s q : Int32} {v : Int64} (h : CA so pl va f N n k) (h0 : 0 ≤ k) (h1 : k < (N : Int)) (hn : 0 ≤ n) (hP : tP f N k.toNat = k.toNat) (e1 : so' = upd so n.toNat s) (e2 : pl' = upd pl n.toNat q) (hq : q.toInt = k) (e3 : va' = vp_updL va n.toNat v) (hs : s.toInt = tK f N k.toNat) (hE : k' = ((tE f N k.toNat : Nat) : Int)) (hv : s.toInt = 1 ∨ s.toInt = 2 ∨ s.toInt = 3 → v = tV0 f N k.toNat) (hn' : n' = n + 1) : CA so' pl' va' f N n' k' := by
  subst e1; subst e2; subst e3; subst hn'
  have hK : ¬ tK f N k.toNat = 0 := fun z => by
    unfold tK at z
    rw [hP, if_neg (by omega)] at z
    revert z
    repeat' split
    all_goals (intro z; exact absurd z (by decide))
  have hE2 : tE f N k.toNat ≤ N := tE_le (by rw [hP]; omega)
  refine ⟨fun a ha => ?_, fun z => absurd z (by omega), fun _ => ⟨?_, ?_⟩, by omega⟩
  · by_cases qa : a = n.toNat
    · rw [qa, pk_us, pk_us, pk_uLs, hq]
      exact ⟨by rw [hs]; exact hK, hs, hv, fun z => absurd z (by omega)⟩
    · rw [pk_un qa, pk_un qa, pk_uLn qa]
      have ha2 := h.1 a (by omega)
      refine ⟨ha2.1, ha2.2.1, ha2.2.2.1, fun z => ?_⟩
      by_cases qb : a + 1 = n.toNat
      · rw [qb, pk_us, hq]
        have c := (h.2.2.1 (by omega)).2
        rw [show n.toNat - 1 = a by omega, hP] at c
        rw [← c]; omega
      · rw [pk_un qb]; exact ha2.2.2.2 (by omega)
  · by_cases qa : (0 : Nat) = n.toNat
    · rw [qa, pk_us, hq]
      have c := h.2.1 (by omega)
      rw [hP] at c
      rw [← qa, ← c]; omega
    · rw [pk_un qa]; exact (h.2.2.1 (by omega)).1
  · rw [show (n + 1).toNat - 1 = n.toNat by omega, pk_us, hq, hE, Int.toNat_natCast]
theorem CA.word {so pl so' pl' : Nat → Int32} {va va' : Nat → Int64} {f : Nat → Int32} {N : Nat} {n k n' k' : Int} {s q : Int32} {v : Int64} (h : CA so pl va f N n k) (h0 : 0 ≤ k) (h1 : k < (N : Int)) (hn : 0 ≤ n) (hb : ¬ isB (f k.toNat) = true) (e1 : so' = upd so n.toNat s) (e2 : pl' = upd pl n.toNat q) (hq : q.toInt = k) (e3 : va' = vp_updL va n.toNat v) (hR : RE (isR 97 122) f N k.toNat k'.toNat) (he : k < k') (hs : k' ≤ k + 8 ∧ s.toInt = 1 ∨ k + 8 < k' ∧ s.toInt = 4) (hv : v = e37 f k.toNat (min (k' - k) 8).toNat) (hn' : n' = n + 1) : CA so' pl' va' f N n' k' := by
  have hP : tP f N k.toNat = k.toNat := tP_nb (fun z => hb z.2)
  obtain ⟨a, b⟩ := tok_w (by omega) hP hR (by omega)
  refine h.tok h0 h1 hn hP e1 e2 hq e3 ?_ (by rw [a]; omega) (fun z => ?_) hn'
  · rw [b]; rcases hs with z | z
    · rw [if_pos (by omega)]; exact z.2
    · rw [if_neg (by omega)]; exact z.2
  · rcases hs with y | y
    · have k1 : tK f N k.toNat = 1 := by rw [b, if_pos (by omega)]
      unfold tV0 tV
      rw [k1, if_pos (Or.inl rfl), if_pos rfl, hP, a, hv, show (min (k' - k) 8).toNat = k'.toNat - k.toNat by omega]
    · omega
theorem CA.dig {so pl so' pl' : Nat → Int32} {va va' : Nat → Int64} {f : Nat → Int32} {N : Nat} {n k n' k' : Int} {s q : Int32} {v : Int64} (h : CA so pl va f N n k) (h0 : 0 ≤ k) (h1 : k < (N : Int)) (hn : 0 ≤ n) (hb : ¬ isB (f k.toNat) = true) (hl : ¬ isR 97 122 (f k.toNat) = true) (e1 : so' = upd so n.toNat s) (e2 : pl' = upd pl n.toNat q) (hq : q.toInt = k) (e3 : va' = vp_updL va n.toNat v) (hR : RE (isR 48 57) f N k.toNat k'.toNat) (he : k < k') (hs : k' ≤ k + 4 ∧ s.toInt = 2 ∨ k + 4 < k' ∧ s.toInt = 4) (hv : v = e10 f k.toNat (min (k' - k) 4).toNat) (hn' : n' = n + 1) : CA so' pl' va' f N n' k' := by
  have hP : tP f N k.toNat = k.toNat := tP_nb (fun z => hb z.2)
  obtain ⟨a, b⟩ := tok_d (by omega) hP hl hR (by omega)
  refine h.tok h0 h1 hn hP e1 e2 hq e3 ?_ (by rw [a]; omega) (fun z => ?_) hn'
  · rw [b]; rcases hs with z | z
    · rw [if_pos (by omega)]; exact z.2
    · rw [if_neg (by omega)]; exact z.2
  · rcases hs with y | y
    · have k1 : tK f N k.toNat = 2 := by rw [b, if_pos (by omega)]
      unfold tV0 tV
      rw [k1, if_pos (Or.inr (Or.inl rfl)), if_neg (by decide), if_pos rfl, hP, a, hv, show (min (k' - k) 4).toNat = k'.toNat - k.toNat by omega]
    · omega
theorem CA.sgn {so pl so' pl' : Nat → Int32} {va va' : Nat → Int64} {f : Nat → Int32} {N : Nat} {n k n' k' : Int} {s q c : Int32} {v : Int64} (h : CA so pl va f N n k) (h0 : 0 ≤ k) (h1 : k < (N : Int)) (hn : 0 ≤ n) (hb : ¬ isB (f k.toNat) = true) (hl : ¬ isR 97 122 (f k.toNat) = true) (hd : ¬ isR 48 57 (f k.toNat) = true) (e1 : so' = upd so n.toNat s) (e2 : pl' = upd pl n.toNat q) (hq : q.toInt = k) (e3 : va' = vp_updL va n.toNat v) (hk : k' = k + 1) (hc : f k.toNat = c) (hs : isS c = true ∧ s.toInt = 3 ∨ isS c = false ∧ s.toInt = 4) (hv : v = c.toInt64) (hn' : n' = n + 1) : CA so' pl' va' f N n' k' := by
  have hP : tP f N k.toNat = k.toNat := tP_nb (fun z => hb z.2)
  obtain ⟨a, b⟩ := tok_s (by omega) hP hl hd
  rw [hc] at b
  refine h.tok h0 h1 hn hP e1 e2 hq e3 ?_ (by rw [a]; omega) (fun z => ?_) hn'
  · rw [b]; rcases hs with z | z
    · rw [if_pos z.1]; exact z.2
    · rw [z.1]; exact z.2
  · rcases hs with y | y
    · have k1 : tK f N k.toNat = 3 := by rw [b, if_pos y.1]
      unfold tV0 tV
      rw [k1, if_pos (Or.inr (Or.inr rfl)), if_neg (by decide), if_neg (by decide), hP, hc, hv]
    · omega
theorem CA.fin {so pl so' pl' : Nat → Int32} {va : Nat → Int64} {f : Nat → Int32} {N : Nat} {n k : Int} {q : Int32} (h : CA so pl va f N n k) (hk : (N : Int) ≤ k) (hn : 0 ≤ n) (hN : n ≤ 1000) (e1 : so' = upd so n.toNat 0) (e2 : pl' = upd pl n.toNat q) (hq : q.toInt = (N : Int)) : RWS so' pl' va (TKS f N) ∧ (pl' 0).toInt = ((tP f N 0 : Nat) : Int) := by
  subst e1; subst e2
  have hk2 := h.2.2.2
  have ek : k.toNat = N := by omega
  have eP : tP f N N = N := tP_nb (fun z => absurd z.1 (by omega))
  have eE : eN (upd so n.toNat 0) = n.toNat := eN_eq (by omega) pk_us (fun a ha => by rw [pk_un (show ¬ a = n.toNat by omega)]; exact (h.1 a (by omega)).1)
  obtain ⟨c1, c2, c3, _⟩ := h
  rw [ek, eP] at c2 c3
  refine ⟨fun a ha => ?_, ?_⟩
  · rw [eE] at ha ⊢
    by_cases qa : a = n.toNat
    · rw [qa, pk_us, pk_us, hq]
      refine ⟨?_, fun z => ?_, fun z => absurd z (by omega)⟩
      · show (0 : Int32).toInt = tK f N (N : Int).toNat
        rw [Int.toNat_natCast]; unfold tK; rw [eP, if_pos (Nat.le_refl _)]; rfl
      · have z0 : (0 : Int32).toInt = 0 := rfl
        omega
    · rw [pk_un qa, pk_un qa]
      have ha2 := c1 a (by omega)
      refine ⟨ha2.2.1, ha2.2.2.1, fun z => ?_⟩
      by_cases qb : a + 1 = n.toNat
      · rw [qb, pk_us, hq]
        have c := (c3 (by omega)).2
        rw [show n.toNat - 1 = a by omega] at c
        show (N : Int) = ((tP f N (tE f N (pl a).toInt.toNat) : Nat) : Int)
        rw [← c]
      · rw [pk_un qb]; exact ha2.2.2.2 (by omega)
  · by_cases qa : (0 : Nat) = n.toNat
    · rw [qa, pk_us, hq]
      have c := c2 (by omega)
      rw [← qa, ← c]
    · rw [pk_un qa]; exact (c3 (by omega)).1
/-- one sign more, if it is one and there is room -/
def ladd (n : Int) (c : Int32) : Int := if (c.toInt = 10 ∨ 32 ≤ c.toInt ∧ c.toInt ≤ 126) ∧ n < 1000 then n + 1 else n
def bytU (v : Int64) (x : Int32) : Int32 := ((v.toUInt64 >>> (x.toInt64.toUInt64 &&& Int64.toUInt64 63)).toInt64).toInt32 &&& 255
def bytS (v : Int64) (x : Int32) : Int32 := (v >>> (x.toInt64 &&& 63)).toInt32 &&& 255
theorem by_cu : ∀ k, k < 64 → (((nI k).toInt64.toUInt64 &&& Int64.toUInt64 63).toBitVec % 64).toNat = k := by decide +kernel
theorem by_cs : ∀ k, k < 64 → (((nI k).toInt64 &&& 63).toBitVec.smod 64).toNat = k := by decide +kernel
theorem by_255 : ∀ i, i < 32 → 8 ≤ i → (255 : Int32).toBitVec.getLsbD i = false := by decide +kernel
theorem by_U {v : Int64} {n i : Nat} (hn : n < 57) (hi : i < 8) : (((v.toUInt64 >>> ((nI n).toInt64.toUInt64 &&& Int64.toUInt64 63)).toInt64).toInt32).toBitVec.getLsbD i = v.toBitVec.getLsbD (n + i) := by
  rw [Int64.toBitVec_toInt32, BitVec.getLsbD_signExtend, decide_eq_true (show i < 32 from by omega), Bool.true_and, if_pos (show i < 64 from by omega)]
  show (v.toUInt64 >>> ((nI n).toInt64.toUInt64 &&& Int64.toUInt64 63)).toBitVec.getLsbD i = v.toUInt64.toBitVec.getLsbD (n + i)
  rw [UInt64.toBitVec_shiftRight]
  show (v.toUInt64.toBitVec >>> (((nI n).toInt64.toUInt64 &&& Int64.toUInt64 63).toBitVec % 64).toNat).getLsbD i = _
  rw [by_cu n (by omega), BitVec.getLsbD_ushiftRight]
theorem by_S {v : Int64} {n i : Nat} (hn : n < 57) (hi : i < 8) : ((v >>> ((nI n).toInt64 &&& 63)).toInt32).toBitVec.getLsbD i = v.toBitVec.getLsbD (n + i) := by
  rw [Int64.toBitVec_toInt32, BitVec.getLsbD_signExtend, decide_eq_true (show i < 32 from by omega), Bool.true_and, if_pos (show i < 64 from by omega), Int64.toBitVec_shiftRight]
  show (v.toBitVec.sshiftRight (((nI n).toInt64 &&& 63).toBitVec.smod 64).toNat).getLsbD i = _
  rw [by_cs n (by omega), BitVec.getLsbD_sshiftRight, if_pos (show n + i < 64 from by omega), decide_eq_false (show ¬ 64 ≤ i from by omega)]
  rfl
theorem byt_eq {v : Int64} {x : Int32} (h0 : 0 ≤ x.toInt) (h1 : x.toInt ≤ 56) : bytU v x = bytS v x := by
  obtain ⟨n, e, hn, _⟩ := nI_ofI h0
  have hn2 : n < 57 := by omega
  subst e
  unfold bytU bytS
  apply Int32.toBitVec_inj.mp
  apply BitVec.eq_of_getLsbD_eq
  intro i hi
  rw [Int32.toBitVec_and, Int32.toBitVec_and, BitVec.getLsbD_and, BitVec.getLsbD_and]
  rcases Nat.lt_or_ge i 8 with q | q
  · rw [by_U hn2 q, by_S hn2 q]
  · rw [by_255 i hi q, Bool.and_false, Bool.and_false]
/-- how many there are behind the first k bytes of a long -/
def layN (n : Int) (v : Int64) : Nat → Int
  | 0 => n
  | k + 1 => ladd (layN n v k) (bytS v (nI (56 - 8 * k)))
theorem nI_bk {x : Int32} (h : 0 ≤ x.toInt) : nI x.toInt.toNat = x := by
  obtain ⟨n, e, hn, _⟩ := nI_ofI h
  rw [show x.toInt.toNat = n from (by omega)]; exact e.symm
/-- the text behind one sign more -/
def lrow (f : Nat → Int32) (n : Int) (c : Int32) : Nat → Int32 := if (c.toInt = 10 ∨ 32 ≤ c.toInt ∧ c.toInt ≤ 126) ∧ n < 1000 then upd f n.toNat c else f
def layF (f : Nat → Int32) (n : Int) (v : Int64) : Nat → Nat → Int32
  | 0 => f
  | k + 1 => lrow (layF f n v k) (layN n v k) (bytS v (nI (56 - 8 * k)))
theorem ladd_ge {n : Int} {c : Int32} : n ≤ ladd n c := by unfold ladd; split <;> omega
theorem layN_ge {n : Int} {v : Int64} : ∀ k, n ≤ layN n v k := by
  intro k
  induction k with
  | zero => exact Int.le_refl _
  | succ k ih => exact Int.le_trans ih ladd_ge
theorem lrow_cong {f g : Nat → Int32} {n : Int} {c : Int32} (h0 : 0 ≤ n) (h : ∀ j : Nat, (j : Int) < n → g j = f j) : ∀ j : Nat, (j : Int) < ladd n c → lrow g n c j = lrow f n c j := by
  intro j hj
  unfold ladd at hj
  unfold lrow
  by_cases q : (c.toInt = 10 ∨ 32 ≤ c.toInt ∧ c.toInt ≤ 126) ∧ n < 1000
  · rw [if_pos q] at hj
    rw [if_pos q, if_pos q]
    by_cases e : j = n.toNat
    · rw [e, pk_us, pk_us]
    · rw [pk_un e, pk_un e]; exact h j (by omega)
  · rw [if_neg q] at hj
    rw [if_neg q, if_neg q]; exact h j hj
theorem layF_cong {f g : Nat → Int32} {n : Int} {v : Int64} (h0 : 0 ≤ n) (h : ∀ j : Nat, (j : Int) < n → g j = f j) : ∀ k (j : Nat), (j : Int) < layN n v k → layF g n v k j = layF f n v k j := by
  intro k
  induction k with
  | zero => exact h
  | succ k ih => exact lrow_cong (Int.le_trans h0 (layN_ge k)) ih
theorem lay3_cong {f g : Nat → Int32} {n : Int} {a b c : Int64} (h0 : 0 ≤ n) (h : ∀ j : Nat, (j : Int) < n → g j = f j) : ∀ j : Nat, (j : Int) < layN (layN (layN n a 8) b 8) c 8 → layF (layF (layF g n a 8) (layN n a 8) b 8) (layN (layN n a 8) b 8) c 8 j = layF (layF (layF f n a 8) (layN n a 8) b 8) (layN (layN n a 8) b 8) c 8 j :=
  layF_cong (Int.le_trans (Int.le_trans h0 (layN_ge 8)) (layN_ge 8)) (layF_cong (Int.le_trans h0 (layN_ge 8)) (layF_cong h0 h 8) 8) 8
theorem vp_nar_c {x : Int32} (h0 : 0 ≤ x.toInt) (h1 : x.toInt ≤ 65535) : vp_nar .char x = x := by
  unfold vp_nar; rw [nc_16 h0 h1]

theorem RP.ok {pl : Nat → Int32} {fa a fa1 a1 : Int} {g : Nat → Nat × Int} (h : RP pl fa a fa1 a1 g) (h0 : fa = 0) (h1 : fa1 = 0) : g (pl a.toNat).toInt.toNat = ((pl a1.toNat).toInt.toNat, 0) := by
  obtain ⟨x, y⟩ := h.1 h0
  have y' := y h1
  have e2 : (pl a1.toNat).toInt.toNat = (g (pl a.toNat).toInt.toNat).1 := by omega
  rw [e2]; exact Prod.ext rfl (x.symm.trans h1)
theorem rWrd_ok {T : Nat → Int × Int64 × Nat} {k p q : Nat} (h : rWrd T k p = (q, 0)) : q = nx T p := by
  unfold rWrd at h
  by_cases q1 : isW T p (WN k) = true
  · rw [if_pos q1] at h; exact (congrArg Prod.fst h).symm
  · rw [if_neg q1] at h; exact absurd (congrArg Prod.snd h) (flt_ne (by decide))
theorem l2i_eq {x : Int64} {lo hi : Int32} (h1 : lo.toInt ≤ x.toInt) (h2 : x.toInt ≤ hi.toInt) : x.toInt32.toInt = x.toInt := by
  have b1 := i_bd lo; have b2 := i_bd hi
  rw [Int64.toInt_toInt32]; exact fb_bmod (by omega) (by omega)
/-- the reference's rows hold the numbers told -/
def MW (t : Nat → Int32) (N : ((Nat → Nat → Int) × (Nat → Bool) × (Nat → Nat → Int))) : Prop := (∀ j : Nat, (j : Int) < (t 120).toInt → ∀ k, k < 5 → (t (123 + 8 * j + k)).toInt = N.1 j k) ∧ (∀ j, j < 12 → (t (128 + 8 * j)).toInt = N.1 j 5) ∧ (∀ j, j < 12 → (t (129 + 8 * j)).toInt = if N.2.1 j = true then 1 else 0) ∧ (∀ j : Nat, (j : Int) < (t 121).toInt → ∀ k, k < 3 → (t (219 + 3 * j + k)).toInt = N.2.2 j k) ∧ (∀ j : Nat, (t 120).toInt ≤ (j : Int) → N.2.1 j = false) ∧ (∀ j, j < 12 → 0 ≤ (t (130 + 8 * j)).toInt ∧ (t (130 + 8 * j)).toInt ≤ 1)
theorem row5_k {a b c d e h : Int} {k : Nat} (hk : k < 5) {x : Nat → Int} (h0 : x 0 = a) (h1 : x 1 = b) (h2 : x 2 = c) (h3 : x 3 = d) (h4 : x 4 = e) : x k = row5 a b c d e h k := by
  have h5 : k = 0 ∨ k = 1 ∨ k = 2 ∨ k = 3 ∨ k = 4 := by omega
  rcases h5 with rfl | rfl | rfl | rfl | rfl
  · exact h0
  · exact h1
  · exact h2
  · exact h3
  · exact h4
theorem MW.row {t t' : Nat → Int32} {N : ((Nat → Nat → Int) × (Nat → Bool) × (Nat → Nat → Int))} {n : Nat} {a b c d e : Int} {L : Nat → Bool} (h : MW t N) (hn : (t 120).toInt = (n : Int)) (h12 : n < 12) (h1 : (t' 120).toInt = (t 120).toInt + 1) (h2 : t' 121 = t 121) (hf : ∀ j, 121 ≤ j → (j < 123 + 8 * n ∨ 130 + 8 * n ≤ j ∨ j = 128 + 8 * n) → t' j = t j) (v0 : (t' (123 + 8 * n)).toInt = a) (v1 : (t' (123 + 8 * n + 1)).toInt = b) (v2 : (t' (123 + 8 * n + 2)).toInt = c) (v3 : (t' (123 + 8 * n + 3)).toInt = d) (v4 : (t' (123 + 8 * n + 4)).toInt = e) (vl : (t' (129 + 8 * n)).toInt = if L n = true then 1 else 0) (hL : ∀ j, ¬ j = n → L j = N.2.1 j) : MW t' (rowU N.1 n (row5 a b c d e (N.1 n 5)), L, N.2.2) := by
  obtain ⟨x1, x2, x3, x4, x5, x6⟩ := h
  refine ⟨fun j hj k hk => ?_, fun j hj => ?_, fun j hj => ?_, fun j hj k hk => ?_, fun j hj => ?_, fun j hj => ?_⟩
  · show _ = rowU N.1 n _ j k
    by_cases q : j = n
    · rw [q, rowU_s]
      exact row5_k (x := fun k => (t' (123 + 8 * n + k)).toInt) hk v0 v1 v2 v3 v4
    · rw [rowU_n q, hf (123 + 8 * j + k) (by omega) (by omega)]; exact x1 j (by omega) k hk
  · show _ = rowU N.1 n _ j 5
    by_cases q : j = n
    · rw [q, rowU_s, hf (128 + 8 * n) (by omega) (by omega)]; exact x2 n h12
    · rw [rowU_n q, hf (128 + 8 * j) (by omega) (by omega)]; exact x2 j hj
  · show _ = if L j = true then 1 else 0
    by_cases q : j = n
    · rw [q]; exact vl
    · rw [hf (129 + 8 * j) (by omega) (by omega), hL j q]; exact x3 j hj
  · have hj2 : (j : Int) < (t 121).toInt := by rw [← h2]; exact hj
    rw [hf (219 + 3 * j + k) (by omega) (by omega)]; exact x4 j hj2 k hk
  · show L j = false
    rw [hL j (by omega)]; exact x5 j (by omega)
  · rw [hf (130 + 8 * j) (by omega) (by omega)]; exact x6 j hj
theorem MW.bowl {T : Nat → Int × Int64 × Nat} {t t' : Nat → Int32} {S : ((Nat → Int64) × Nat × (Nat → Int64) × Nat × (Nat → Bool) × (Nat → Bool) × Nat)} {N : ((Nat → Nat → Int) × (Nat → Bool) × (Nat → Nat → Int))} {p n : Nat} (h : MW t N) (hn : (t 120).toInt = (n : Int)) (hS : (t 120).toInt = ((S.2.1 : Nat) : Int)) (h12 : n < 12) (h1 : (t' 120).toInt = (t 120).toInt + 1) (h2 : t' 121 = t 121) (hf : ∀ j, 121 ≤ j → (j < 123 + 8 * n ∨ 130 + 8 * n ≤ j ∨ j = 128 + 8 * n) → t' j = t j) (v0 : (t' (123 + 8 * n)).toInt = nb T (nx T (nx T (nx T p)))) (v1 : (t' (123 + 8 * n + 1)).toInt = nb T (nx T (nx T (nx T (nx T (nx T p)))))) (v2 : (t' (123 + 8 * n + 2)).toInt = nb T (nx T (nx T (nx T (nx T (nx T (nx T (nx T p)))))))) (v3 : (t' (123 + 8 * n + 3)).toInt = nb T (nx T (nx T (nx T (nx T (nx T (nx T (nx T (nx T (nx T p)))))))))) (v4 : (t' (123 + 8 * n + 4)).toInt = nb T (nx T (nx T (nx T (nx T (nx T (nx T (nx T (nx T (nx T (nx T (nx T p)))))))))))) (vl : (t' (129 + 8 * n)).toInt = 0) : MW t' (nBowl T S N p) := by
  have en : n = S.2.1 := by omega
  have e : nBowl T S N p = (rowU N.1 n (row5 (nb T (nx T (nx T (nx T p)))) (nb T (nx T (nx T (nx T (nx T (nx T p)))))) (nb T (nx T (nx T (nx T (nx T (nx T (nx T (nx T p)))))))) (nb T (nx T (nx T (nx T (nx T (nx T (nx T (nx T (nx T (nx T p)))))))))) (nb T (nx T (nx T (nx T (nx T (nx T (nx T (nx T (nx T (nx T (nx T (nx T p)))))))))))) (N.1 n 5)), N.2.1, N.2.2) := by rw [en]; rfl
  rw [e]
  exact h.row hn h12 h1 h2 hf v0 v1 v2 v3 v4 (by rw [h.2.2.2.2.1 n (by omega)]; exact vl) (fun j _ => rfl)
theorem MW.lid {T : Nat → Int × Int64 × Nat} {t t' : Nat → Int32} {S : ((Nat → Int64) × Nat × (Nat → Int64) × Nat × (Nat → Bool) × (Nat → Bool) × Nat)} {N : ((Nat → Nat → Int) × (Nat → Bool) × (Nat → Nat → Int))} {p n : Nat} (h : MW t N) (hn : (t 120).toInt = (n : Int)) (hS : (t 120).toInt = ((S.2.1 : Nat) : Int)) (h12 : n < 12) (h1 : (t' 120).toInt = (t 120).toInt + 1) (h2 : t' 121 = t 121) (hf : ∀ j, 121 ≤ j → (j < 123 + 8 * n ∨ 130 + 8 * n ≤ j ∨ j = 128 + 8 * n) → t' j = t j) (v0 : (t' (123 + 8 * n)).toInt = nb T (nx T (nx T (nx T p)))) (v1 : (t' (123 + 8 * n + 1)).toInt = 1) (v2 : (t' (123 + 8 * n + 2)).toInt = nb T (nx T (nx T (nx T (nx T (nx T p)))))) (v3 : (t' (123 + 8 * n + 3)).toInt = 0) (v4 : (t' (123 + 8 * n + 4)).toInt = nb T (nx T (nx T (nx T (nx T (nx T (nx T (nx T p)))))))) (vl : (t' (129 + 8 * n)).toInt = 1) : MW t' (nLid T S N p) := by
  have en : n = S.2.1 := by omega
  have e : nLid T S N p = (rowU N.1 n (row5 (nb T (nx T (nx T (nx T p)))) 1 (nb T (nx T (nx T (nx T (nx T (nx T p)))))) 0 (nb T (nx T (nx T (nx T (nx T (nx T (nx T (nx T p)))))))) (N.1 n 5)), updB N.2.1 n, N.2.2) := by rw [en]; rfl
  rw [e]
  exact h.row hn h12 h1 h2 hf v0 v1 v2 v3 v4 (by unfold updB; rw [if_pos rfl]; exact vl) (fun j q => by unfold updB; rw [if_neg q])
theorem MW.shelf {T : Nat → Int × Int64 × Nat} {t t' : Nat → Int32} {S : ((Nat → Int64) × Nat × (Nat → Int64) × Nat × (Nat → Bool) × (Nat → Bool) × Nat)} {N : ((Nat → Nat → Int) × (Nat → Bool) × (Nat → Nat → Int))} {p n : Nat} (h : MW t N) (hn : (t 121).toInt = (n : Int)) (hS : (t 121).toInt = ((S.2.2.2.1 : Nat) : Int)) (h4 : n < 4) (h1 : (t' 121).toInt = (t 121).toInt + 1) (hf : ∀ j, (j = 120 ∨ 122 ≤ j) → (j < 219 + 3 * n ∨ 222 + 3 * n ≤ j) → t' j = t j) (hw : (t 120).toInt ≤ 12) (v0 : (t' (219 + 3 * n)).toInt = nb T (nx T (nx T (nx T p)))) (v1 : (t' (219 + 3 * n + 1)).toInt = nb T (nx T (nx T (nx T (nx T (nx T p)))))) (v2 : (t' (219 + 3 * n + 2)).toInt = nb T (nx T (nx T (nx T (nx T (nx T (nx T (nx T p)))))))) : MW t' (nShelf T S N p) := by
  obtain ⟨x1, x2, x3, x4, x5, x6⟩ := h
  have en : n = S.2.2.2.1 := by omega
  have e120 : t' 120 = t 120 := hf 120 (Or.inl rfl) (by omega)
  refine ⟨fun j hj k hk => ?_, fun j hj => ?_, fun j hj => ?_, fun j hj k hk => ?_, fun j hj => ?_, fun j hj => ?_⟩
  · rw [e120] at hj
    rw [hf (123 + 8 * j + k) (by omega) (by omega)]; exact x1 j hj k hk
  · rw [hf (128 + 8 * j) (by omega) (by omega)]; exact x2 j hj
  · rw [hf (129 + 8 * j) (by omega) (by omega)]; exact x3 j hj
  · show _ = rowU N.2.2 S.2.2.2.1 _ j k
    rw [← en]
    by_cases q : j = n
    · rw [q, rowU_s]
      have h5 : k = 0 ∨ k = 1 ∨ k = 2 := by omega
      rcases h5 with rfl | rfl | rfl
      · exact v0
      · exact v1
      · exact v2
    · rw [rowU_n q, hf (219 + 3 * j + k) (by omega) (by omega)]; exact x4 j (by omega) k hk
  · rw [e120] at hj; exact x5 j hj
  · rw [hf (130 + 8 * j) (by omega) (by omega)]; exact x6 j hj
theorem MW.fr {t t' : Nat → Int32} {N : ((Nat → Nat → Int) × (Nat → Bool) × (Nat → Nat → Int))} (h : MW t N) (hw : (t 120).toInt ≤ 12) (hs : (t 121).toInt ≤ 4) (hf : ∀ j, (j = 120 ∨ j = 121 ∨ 123 ≤ j ∧ j < 219 ∧ ¬ j % 8 = 2 ∨ 219 ≤ j ∧ j < 231) → t' j = t j) (h6 : ∀ j, j < 12 → 0 ≤ (t' (130 + 8 * j)).toInt ∧ (t' (130 + 8 * j)).toInt ≤ 1) : MW t' N := by
  obtain ⟨x1, x2, x3, x4, x5, _⟩ := h
  have e120 : t' 120 = t 120 := hf 120 (Or.inl rfl)
  have e121 : t' 121 = t 121 := hf 121 (Or.inr (Or.inl rfl))
  refine ⟨fun j hj k hk => ?_, fun j hj => ?_, fun j hj => ?_, fun j hj k hk => ?_, fun j hj => ?_, h6⟩
  · rw [e120] at hj
    rw [hf (123 + 8 * j + k) (by omega)]; exact x1 j hj k hk
  · rw [hf (128 + 8 * j) (by omega)]; exact x2 j hj
  · rw [hf (129 + 8 * j) (by omega)]; exact x3 j hj
  · rw [e121] at hj
    rw [hf (219 + 3 * j + k) (by omega)]; exact x4 j hj k hk
  · rw [e120] at hj; exact x5 j hj
theorem MW.hab {T : Nat → Int × Int64 × Nat} {t t' : Nat → Int32} {S : ((Nat → Int64) × Nat × (Nat → Int64) × Nat × (Nat → Bool) × (Nat → Bool) × Nat)} {N : ((Nat → Nat → Int) × (Nat → Bool) × (Nat → Nat → Int))} {p k : Nat} (h : MW t N) (hk : k = fnd S.1 S.2.1 (T (nx T p)).2.1) (h12 : k < 12) (hw : (t 120).toInt ≤ 12) (hs : (t 121).toInt ≤ 4) (hf : ∀ j, ¬ j = 128 + 8 * k → t' j = t j) (v0 : (t' (128 + 8 * k)).toInt = nb T (nx T (nx T p))) : MW t' (nHab T S N p) := by
  obtain ⟨x1, x2, x3, x4, x5, x6⟩ := h
  have e120 : t' 120 = t 120 := hf 120 (by omega)
  have e121 : t' 121 = t 121 := hf 121 (by omega)
  refine ⟨fun j hj m hm => ?_, fun j hj => ?_, fun j hj => ?_, fun j hj m hm => ?_, fun j hj => ?_, fun j hj => ?_⟩
  · show _ = rowU N.1 (fnd S.1 S.2.1 (T (nx T p)).2.1) _ j m
    rw [e120] at hj
    rw [hf (123 + 8 * j + m) (by omega), ← hk]
    by_cases q : j = k
    · rw [q, rowU_s, if_neg (show ¬ m = 5 by omega)]; rw [q] at hj; exact x1 k hj m hm
    · rw [rowU_n q]; exact x1 j hj m hm
  · show _ = rowU N.1 (fnd S.1 S.2.1 (T (nx T p)).2.1) _ j 5
    rw [← hk]
    by_cases q : j = k
    · rw [q, rowU_s]; exact v0
    · rw [rowU_n q, hf (128 + 8 * j) (by omega)]; exact x2 j hj
  · rw [hf (129 + 8 * j) (by omega)]; exact x3 j hj
  · rw [e121] at hj
    rw [hf (219 + 3 * j + m) (by omega)]; exact x4 j hj m hm
  · rw [e120] at hj; exact x5 j hj
  · rw [hf (130 + 8 * j) (by omega)]; exact x6 j hj
