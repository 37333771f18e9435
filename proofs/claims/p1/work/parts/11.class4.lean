theorem wd_298 : Cond.methodLink RX7 34 arraycopyName ∈ WALL := wl_in (by decide +kernel) (by decide +kernel)
theorem wd_299 : Cond.fieldLink RX7 40 "BowlShelf$Standing" "cost" "I" ∈ WALL := wl_in (by decide +kernel) (by decide +kernel)
theorem wd_300 : Cond.code yX7_copy cX7_copy 2 none ∈ WALL := wl_in (by decide +kernel) (by decide +kernel)
theorem wd_301 : Cond.methodLink RX10 269 yX7_copy ∈ WALL := wl_in (by decide +kernel) (by decide +kernel)
theorem wd_302 : Cond.instanceMethod yX7_copy ∈ WALL := wl_in (by decide +kernel) (by decide +kernel)
theorem wd_303 : Cond.selects RX7 yX7_copy yX7_copy ∈ WALL := wl_in (by decide +kernel) (by decide +kernel)
theorem wd_304 : Cond.fieldLink RX10 266 "BowlShelf$Told" "shelves" "I" ∈ WALL := wl_in (by decide +kernel) (by decide +kernel)
theorem wd_305 : Cond.fieldLink RX10 322 "BowlShelf$Told" "nests" "I" ∈ WALL := wl_in (by decide +kernel) (by decide +kernel)
theorem wd_306 : Cond.code yX7_outOf cX7_outOf 4 (some .int) ∈ WALL := wl_in (by decide +kernel) (by decide +kernel)
theorem wd_307 : Cond.methodLink RX10 325 yX7_outOf ∈ WALL := wl_in (by decide +kernel) (by decide +kernel)
theorem wd_308 : Cond.instanceMethod yX7_outOf ∈ WALL := wl_in (by decide +kernel) (by decide +kernel)
theorem wd_309 : Cond.selects RX7 yX7_outOf yX7_outOf ∈ WALL := wl_in (by decide +kernel) (by decide +kernel)
theorem wd_310 : Cond.fieldLink RX10 76 "BowlShelf$Reader" "tape" "LBowlShelf$Tape;" ∈ WALL := wl_in (by decide +kernel) (by decide +kernel)
theorem wd_311 : Cond.fieldLink RX10 80 "BowlShelf$Tape" "length" "I" ∈ WALL := wl_in (by decide +kernel) (by decide +kernel)
theorem dX7_copy_0 : decode cX7_copy 0 = .ok (.aload_n 1, 1) := by decide +kernel
theorem dX7_copy_1 : decode cX7_copy 1 = .ok (.getfield 9, 3) := by decide +kernel
theorem dX7_copy_4 : decode cX7_copy 4 = .ok (.iconst 0, 1) := by decide +kernel
theorem dX7_copy_5 : decode cX7_copy 5 = .ok (.aload_n 0, 1) := by decide +kernel
theorem dX7_copy_6 : decode cX7_copy 6 = .ok (.getfield 9, 3) := by decide +kernel
theorem dX7_copy_9 : decode cX7_copy 9 = .ok (.iconst 0, 1) := by decide +kernel
theorem dX7_copy_10 : decode cX7_copy 10 = .ok (.bipush 12, 2) := by decide +kernel
theorem dX7_copy_12 : decode cX7_copy 12 = .ok (.invokestatic 34, 3) := by decide +kernel
theorem dX7_copy_15 : decode cX7_copy 15 = .ok (.aload_n 1, 1) := by decide +kernel
theorem dX7_copy_16 : decode cX7_copy 16 = .ok (.getfield 15, 3) := by decide +kernel
theorem dX7_copy_19 : decode cX7_copy 19 = .ok (.iconst 0, 1) := by decide +kernel
theorem dX7_copy_20 : decode cX7_copy 20 = .ok (.aload_n 0, 1) := by decide +kernel
theorem dX7_copy_21 : decode cX7_copy 21 = .ok (.getfield 15, 3) := by decide +kernel
theorem dX7_copy_24 : decode cX7_copy 24 = .ok (.iconst 0, 1) := by decide +kernel
theorem dX7_copy_25 : decode cX7_copy 25 = .ok (.bipush 12, 2) := by decide +kernel
theorem dX7_copy_27 : decode cX7_copy 27 = .ok (.invokestatic 34, 3) := by decide +kernel
theorem dX7_copy_30 : decode cX7_copy 30 = .ok (.aload_n 1, 1) := by decide +kernel
theorem dX7_copy_31 : decode cX7_copy 31 = .ok (.getfield 18, 3) := by decide +kernel
theorem dX7_copy_34 : decode cX7_copy 34 = .ok (.iconst 0, 1) := by decide +kernel
theorem dX7_copy_35 : decode cX7_copy 35 = .ok (.aload_n 0, 1) := by decide +kernel
theorem dX7_copy_36 : decode cX7_copy 36 = .ok (.getfield 18, 3) := by decide +kernel
theorem dX7_copy_39 : decode cX7_copy 39 = .ok (.iconst 0, 1) := by decide +kernel
theorem dX7_copy_40 : decode cX7_copy 40 = .ok (.bipush 12, 2) := by decide +kernel
theorem dX7_copy_42 : decode cX7_copy 42 = .ok (.invokestatic 34, 3) := by decide +kernel
theorem dX7_copy_45 : decode cX7_copy 45 = .ok (.aload_n 1, 1) := by decide +kernel
theorem dX7_copy_46 : decode cX7_copy 46 = .ok (.getfield 21, 3) := by decide +kernel
theorem dX7_copy_49 : decode cX7_copy 49 = .ok (.iconst 0, 1) := by decide +kernel
theorem dX7_copy_50 : decode cX7_copy 50 = .ok (.aload_n 0, 1) := by decide +kernel
theorem dX7_copy_51 : decode cX7_copy 51 = .ok (.getfield 21, 3) := by decide +kernel
theorem dX7_copy_54 : decode cX7_copy 54 = .ok (.iconst 0, 1) := by decide +kernel
theorem dX7_copy_55 : decode cX7_copy 55 = .ok (.bipush 30, 2) := by decide +kernel
theorem dX7_copy_57 : decode cX7_copy 57 = .ok (.invokestatic 34, 3) := by decide +kernel
theorem dX7_copy_60 : decode cX7_copy 60 = .ok (.aload_n 0, 1) := by decide +kernel
theorem dX7_copy_61 : decode cX7_copy 61 = .ok (.aload_n 1, 1) := by decide +kernel
theorem dX7_copy_62 : decode cX7_copy 62 = .ok (.getfield 30, 3) := by decide +kernel
theorem dX7_copy_65 : decode cX7_copy 65 = .ok (.putfield 30, 3) := by decide +kernel
theorem dX7_copy_68 : decode cX7_copy 68 = .ok (.aload_n 0, 1) := by decide +kernel
theorem dX7_copy_69 : decode cX7_copy 69 = .ok (.aload_n 1, 1) := by decide +kernel
theorem dX7_copy_70 : decode cX7_copy 70 = .ok (.getfield 40, 3) := by decide +kernel
theorem dX7_copy_73 : decode cX7_copy 73 = .ok (.putfield 40, 3) := by decide +kernel
theorem dX7_copy_76 : decode cX7_copy 76 = .ok (.return_, 1) := by decide +kernel
theorem dX10_onTop_0 : decode cX10_onTop 0 = .ok (.aload_n 0, 1) := by decide +kernel
theorem dX10_onTop_1 : decode cX10_onTop 1 = .ok (.getfield 30, 3) := by decide +kernel
theorem dX10_onTop_4 : decode cX10_onTop 4 = .ok (.aload_n 0, 1) := by decide +kernel
theorem dX10_onTop_5 : decode cX10_onTop 5 = .ok (.getfield 26, 3) := by decide +kernel
theorem dX10_onTop_8 : decode cX10_onTop 8 = .ok (.invokevirtual 269, 3) := by decide +kernel
theorem dX10_onTop_11 : decode cX10_onTop 11 = .ok (.iconst 0, 1) := by decide +kernel
theorem dX10_onTop_12 : decode cX10_onTop 12 = .ok (.istore_n 1, 1) := by decide +kernel
theorem dX10_onTop_13 : decode cX10_onTop 13 = .ok (.iconst 0, 1) := by decide +kernel
theorem dX10_onTop_14 : decode cX10_onTop 14 = .ok (.istore_n 2, 1) := by decide +kernel
theorem dX10_onTop_15 : decode cX10_onTop 15 = .ok (.iload_n 2, 1) := by decide +kernel
theorem dX10_onTop_16 : decode cX10_onTop 16 = .ok (.aload_n 0, 1) := by decide +kernel
theorem dX10_onTop_17 : decode cX10_onTop 17 = .ok (.getfield 30, 3) := by decide +kernel
theorem dX10_onTop_20 : decode cX10_onTop 20 = .ok (.getfield 281, 3) := by decide +kernel
theorem dX10_onTop_23 : decode cX10_onTop 23 = .ok (.if_icmp .ge 47, 3) := by decide +kernel
theorem dX10_onTop_70 : decode cX10_onTop 70 = .ok (.iload_n 1, 1) := by decide +kernel
theorem dX10_onTop_71 : decode cX10_onTop 71 = .ok (.ireturn, 1) := by decide +kernel
theorem dX10_habit_0 : decode cX10_habit 0 = .ok (.iconst 0, 1) := by decide +kernel
theorem dX10_habit_1 : decode cX10_habit 1 = .ok (.istore_n 2, 1) := by decide +kernel
theorem dX10_habit_2 : decode cX10_habit 2 = .ok (.iconst 0, 1) := by decide +kernel
theorem dX10_habit_3 : decode cX10_habit 3 = .ok (.istore_n 3, 1) := by decide +kernel
theorem dX10_habit_4 : decode cX10_habit 4 = .ok (.iconst 0, 1) := by decide +kernel
theorem dX10_habit_5 : decode cX10_habit 5 = .ok (.istore 4, 2) := by decide +kernel
theorem dX10_habit_7 : decode cX10_habit 7 = .ok (.iload 4, 2) := by decide +kernel
theorem dX10_habit_9 : decode cX10_habit 9 = .ok (.aload_n 0, 1) := by decide +kernel
theorem dX10_habit_10 : decode cX10_habit 10 = .ok (.getfield 19, 3) := by decide +kernel
theorem dX10_habit_13 : decode cX10_habit 13 = .ok (.getfield 246, 3) := by decide +kernel
theorem dX10_habit_16 : decode cX10_habit 16 = .ok (.if_icmp .ge 58, 3) := by decide +kernel
theorem dX10_habit_74 : decode cX10_habit 74 = .ok (.iload_n 3, 1) := by decide +kernel
theorem dX10_habit_75 : decode cX10_habit 75 = .ok (.ifCond .eq 12, 3) := by decide +kernel
theorem dX10_habit_87 : decode cX10_habit 87 = .ok (.iconst (-1), 1) := by decide +kernel
theorem dX10_habit_88 : decode cX10_habit 88 = .ok (.ireturn, 1) := by decide +kernel
theorem dX7_outOf_0 : decode cX7_outOf 0 = .ok (.iconst 0, 1) := by decide +kernel
theorem dX7_outOf_1 : decode cX7_outOf 1 = .ok (.istore_n 2, 1) := by decide +kernel
theorem dX7_outOf_2 : decode cX7_outOf 2 = .ok (.iconst 0, 1) := by decide +kernel
theorem dX7_outOf_3 : decode cX7_outOf 3 = .ok (.istore_n 3, 1) := by decide +kernel
theorem dX7_outOf_4 : decode cX7_outOf 4 = .ok (.iload_n 3, 1) := by decide +kernel
theorem dX7_outOf_5 : decode cX7_outOf 5 = .ok (.iload_n 1, 1) := by decide +kernel
theorem dX7_outOf_6 : decode cX7_outOf 6 = .ok (.if_icmp .ge 25, 3) := by decide +kernel
theorem dX7_outOf_31 : decode cX7_outOf 31 = .ok (.iload_n 2, 1) := by decide +kernel
theorem dX7_outOf_32 : decode cX7_outOf 32 = .ok (.ireturn, 1) := by decide +kernel
theorem dX10_count_0 : decode cX10_count 0 = .ok (.iload_n 1, 1) := by decide +kernel
theorem dX10_count_1 : decode cX10_count 1 = .ok (.tableswitch 97 0 5 #[39, 47, 55, 63, 78, 86], 39) := by decide +kernel
theorem dX10_count_40 : decode cX10_count 40 = .ok (.aload_n 0, 1) := by decide +kernel
theorem dX10_count_41 : decode cX10_count 41 = .ok (.getfield 19, 3) := by decide +kernel
theorem dX10_count_44 : decode cX10_count 44 = .ok (.getfield 246, 3) := by decide +kernel
theorem dX10_count_47 : decode cX10_count 47 = .ok (.ireturn, 1) := by decide +kernel
theorem dX10_count_48 : decode cX10_count 48 = .ok (.aload_n 0, 1) := by decide +kernel
theorem dX10_count_49 : decode cX10_count 49 = .ok (.getfield 19, 3) := by decide +kernel
theorem dX10_count_52 : decode cX10_count 52 = .ok (.getfield 266, 3) := by decide +kernel
theorem dX10_count_55 : decode cX10_count 55 = .ok (.ireturn, 1) := by decide +kernel
theorem dX10_count_56 : decode cX10_count 56 = .ok (.aload_n 0, 1) := by decide +kernel
theorem dX10_count_57 : decode cX10_count 57 = .ok (.getfield 19, 3) := by decide +kernel
theorem dX10_count_60 : decode cX10_count 60 = .ok (.getfield 322, 3) := by decide +kernel
theorem dX10_count_63 : decode cX10_count 63 = .ok (.ireturn, 1) := by decide +kernel
theorem dX10_count_64 : decode cX10_count 64 = .ok (.aload_n 0, 1) := by decide +kernel
theorem dX10_count_65 : decode cX10_count 65 = .ok (.getfield 26, 3) := by decide +kernel
theorem dX10_count_68 : decode cX10_count 68 = .ok (.aload_n 0, 1) := by decide +kernel
theorem dX10_count_69 : decode cX10_count 69 = .ok (.getfield 19, 3) := by decide +kernel
theorem dX10_count_72 : decode cX10_count 72 = .ok (.getfield 246, 3) := by decide +kernel
theorem dX10_count_75 : decode cX10_count 75 = .ok (.invokevirtual 325, 3) := by decide +kernel
theorem dX10_count_78 : decode cX10_count 78 = .ok (.ireturn, 1) := by decide +kernel
theorem dX10_count_79 : decode cX10_count 79 = .ok (.aload_n 0, 1) := by decide +kernel
theorem dX10_count_80 : decode cX10_count 80 = .ok (.getfield 26, 3) := by decide +kernel
theorem dX10_count_83 : decode cX10_count 83 = .ok (.getfield 281, 3) := by decide +kernel
theorem dX10_count_86 : decode cX10_count 86 = .ok (.ireturn, 1) := by decide +kernel
theorem dX10_count_87 : decode cX10_count 87 = .ok (.aload_n 0, 1) := by decide +kernel
theorem dX10_count_88 : decode cX10_count 88 = .ok (.getfield 10, 3) := by decide +kernel
theorem dX10_count_91 : decode cX10_count 91 = .ok (.getfield 76, 3) := by decide +kernel
theorem dX10_count_94 : decode cX10_count 94 = .ok (.getfield 80, 3) := by decide +kernel
theorem dX10_count_97 : decode cX10_count 97 = .ok (.ireturn, 1) := by decide +kernel
theorem dX10_count_98 : decode cX10_count 98 = .ok (.iconst (-1), 1) := by decide +kernel
theorem dX10_count_99 : decode cX10_count 99 = .ok (.ireturn, 1) := by decide +kernel
theorem dX10_mark_0 : decode cX10_mark 0 = .ok (.iload_n 1, 1) := by decide +kernel
theorem dX10_mark_1 : decode cX10_mark 1 = .ok (.ifCond .lt 24, 3) := by decide +kernel
theorem dX10_mark_4 : decode cX10_mark 4 = .ok (.iload_n 1, 1) := by decide +kernel
theorem dX10_mark_5 : decode cX10_mark 5 = .ok (.iconst 4, 1) := by decide +kernel
theorem dX10_mark_6 : decode cX10_mark 6 = .ok (.if_icmp .ge 19, 3) := by decide +kernel
theorem dX10_mark_9 : decode cX10_mark 9 = .ok (.iload_n 2, 1) := by decide +kernel
theorem dX10_mark_10 : decode cX10_mark 10 = .ok (.ifCond .eq 17, 3) := by decide +kernel
theorem dX10_mark_13 : decode cX10_mark 13 = .ok (.aload_n 0, 1) := by decide +kernel
theorem dX10_mark_14 : decode cX10_mark 14 = .ok (.getfield 33, 3) := by decide +kernel
theorem dX10_mark_17 : decode cX10_mark 17 = .ok (.iload_n 1, 1) := by decide +kernel
theorem dX10_mark_18 : decode cX10_mark 18 = .ok (.aaload, 1) := by decide +kernel
theorem dX10_mark_19 : decode cX10_mark 19 = .ok (.getfield 101, 3) := by decide +kernel
theorem dX10_mark_22 : decode cX10_mark 22 = .ok (.ifCond .ne 5, 3) := by decide +kernel
theorem dX10_mark_25 : decode cX10_mark 25 = .ok (.iconst 0, 1) := by decide +kernel
theorem dX10_mark_26 : decode cX10_mark 26 = .ok (.ireturn, 1) := by decide +kernel
theorem dX10_mark_27 : decode cX10_mark 27 = .ok (.iload_n 2, 1) := by decide +kernel
theorem dX10_mark_28 : decode cX10_mark 28 = .ok (.ifCond .eq 19, 3) := by decide +kernel
theorem dX10_mark_47 : decode cX10_mark 47 = .ok (.aload_n 0, 1) := by decide +kernel
theorem dX10_mark_48 : decode cX10_mark 48 = .ok (.getfield 33, 3) := by decide +kernel
theorem dX10_mark_51 : decode cX10_mark 51 = .ok (.iload_n 1, 1) := by decide +kernel
theorem dX10_mark_52 : decode cX10_mark 52 = .ok (.aaload, 1) := by decide +kernel
theorem dX10_mark_53 : decode cX10_mark 53 = .ok (.aload_n 0, 1) := by decide +kernel
theorem dX10_mark_54 : decode cX10_mark 54 = .ok (.getfield 26, 3) := by decide +kernel
theorem dX10_mark_57 : decode cX10_mark 57 = .ok (.invokevirtual 269, 3) := by decide +kernel
theorem dX10_mark_60 : decode cX10_mark 60 = .ok (.aload_n 0, 1) := by decide +kernel
theorem dX10_mark_61 : decode cX10_mark 61 = .ok (.getfield 33, 3) := by decide +kernel
theorem dX10_mark_64 : decode cX10_mark 64 = .ok (.iload_n 1, 1) := by decide +kernel
theorem dX10_mark_65 : decode cX10_mark 65 = .ok (.aaload, 1) := by decide +kernel
theorem dX10_mark_66 : decode cX10_mark 66 = .ok (.iconst 1, 1) := by decide +kernel
theorem dX10_mark_67 : decode cX10_mark 67 = .ok (.putfield 101, 3) := by decide +kernel
theorem dX10_mark_70 : decode cX10_mark 70 = .ok (.iconst 1, 1) := by decide +kernel
theorem dX10_mark_71 : decode cX10_mark 71 = .ok (.ireturn, 1) := by decide +kernel
set_option maxHeartbeats 4000000 in
set_option maxRecDepth 100000 in
theorem c_X7_copy (l : Launch) (D : va_G) (cyC cyI cyJ cyZ cyO : ClassId) (t37 : Nat) (t32 : Nat) (t33 : Nat) (t34 : Nat) (t35 : Nat) (t36 : Nat) (t38 : Nat) (t39 : Nat) (t40 : Nat) (t41 : Nat) : KK l D (TY cyC cyI cyJ cyZ cyO) yX7_copy cX7_copy 2 none ({ frames := 1, cells := 0, slots := 0, locals := 18 } : Room) 0 0 [.ref t37, .ref t32] [(t32, .inr (7, [.ref t33, .ref t34, .ref t35, .ref t36, .int 0, .int 0, .int 0])), (t33, .inl (cyI, 12, .inl (fun _ => (-1)))), (t34, .inl (cyI, 12, .inl (fun _ => 0))), (t35, .inl (cyI, 12, .inl (fun _ => 0))), (t36, .inl (cyI, 30, .inl (fun _ => 0))), (t37, .inr (7, [.ref t38, .ref t39, .ref t40, .ref t41, .int 0, .int 0, .int 0])), (t38, .inl (cyI, 12, .inl (fun _ => (-1)))), (t39, .inl (cyI, 12, .inl (fun _ => 0))), (t40, .inl (cyI, 12, .inl (fun _ => 0))), (t41, .inl (cyI, 30, .inl (fun _ => 0)))] (fun u => none) (fun u => True) (fun u => [(t32, .inr (7, [.ref t33, .ref t34, .ref t35, .ref t36, .int 0, .int 0, .int 0])), (t33, .inl (cyI, 12, .inl (fun _ => (-1)))), (t34, .inl (cyI, 12, .inl (fun _ => 0))), (t35, .inl (cyI, 12, .inl (fun _ => 0))), (t36, .inl (cyI, 30, .inl (fun _ => 0))), (t37, .inr (7, [.ref t38, .ref t39, .ref t40, .ref t41, .int 0, .int 0, .int 0])), (t38, .inl (cyI, 12, .inl (va_cpy (fun _ => (-1)) (fun _ => (-1)) 0 0 12))), (t39, .inl (cyI, 12, .inl (va_cpy (fun _ => 0) (fun _ => 0) 0 0 12))), (t40, .inl (cyI, 12, .inl (va_cpy (fun _ => 0) (fun _ => 0) 0 0 12))), (t41, .inl (cyI, 30, .inl (va_cpy (fun _ => 0) (fun _ => 0) 0 0 30)))]) := by
  refine KK.of (lv0 := [(0, .ref t37), (1, .ref t32)]) (by decide) rfl (Nat.le_of_ble_eq_true rfl) ?_
  intro p e s m args below meth c A C hr hk hin
  refine j_aload_n (pc := 0) C dX7_copy_0 rfl 1 rfl ?_
  refine j_get (pc := 1) (ci := 7) (v := .ref t33) C inw_7 0 rfl rfl 0 (by decide) wd_44 rfl rfl dX7_copy_1 ?_
  refine j_iconst (pc := 4) (v := 0) C dX7_copy_4 (by decide) ?_
  refine j_aload_n (pc := 5) C dX7_copy_5 rfl 0 rfl ?_
  refine j_get (pc := 6) (ci := 7) (v := .ref t38) C inw_7 5 rfl rfl 0 (by decide) wd_44 rfl rfl dX7_copy_6 ?_
  refine j_iconst (pc := 9) (v := 0) C dX7_copy_9 (by decide) ?_
  refine j_bipush (pc := 10) (v := 12) C dX7_copy_10 (by decide) ?_
  refine j_acpy (pc := 12) (ks := 0) (kd := 0) (kn := 12) (ws' := [(t32, .inr (7, [.ref t33, .ref t34, .ref t35, .ref t36, .int 0, .int 0, .int 0])), (t33, .inl (cyI, 12, .inl (fun _ => (-1)))), (t34, .inl (cyI, 12, .inl (fun _ => 0))), (t35, .inl (cyI, 12, .inl (fun _ => 0))), (t36, .inl (cyI, 30, .inl (fun _ => 0))), (t37, .inr (7, [.ref t38, .ref t39, .ref t40, .ref t41, .int 0, .int 0, .int 0])), (t38, .inl (cyI, 12, .inl (va_cpy (fun _ => (-1)) (fun _ => (-1)) 0 0 12))), (t39, .inl (cyI, 12, .inl (fun _ => 0))), (t40, .inl (cyI, 12, .inl (fun _ => 0))), (t41, .inl (cyI, 30, .inl (fun _ => 0)))]) C wd_298 wd_237 wd_238 wd_239 1 6 1 rfl rfl rfl (by decide) (by decide) (by decide) (by decide) (by decide) (by decide) (by decide) (by decide) (by decide) (Nat.le_of_ble_eq_true rfl) dX7_copy_12 rfl ?_
  refine j_aload_n (pc := 15) C dX7_copy_15 rfl 1 rfl ?_
  refine j_get (pc := 16) (ci := 7) (v := .ref t34) C inw_7 0 rfl rfl 1 (by decide) wd_45 rfl rfl dX7_copy_16 ?_
  refine j_iconst (pc := 19) (v := 0) C dX7_copy_19 (by decide) ?_
  refine j_aload_n (pc := 20) C dX7_copy_20 rfl 0 rfl ?_
  refine j_get (pc := 21) (ci := 7) (v := .ref t39) C inw_7 5 rfl rfl 1 (by decide) wd_45 rfl rfl dX7_copy_21 ?_
  refine j_iconst (pc := 24) (v := 0) C dX7_copy_24 (by decide) ?_
  refine j_bipush (pc := 25) (v := 12) C dX7_copy_25 (by decide) ?_
  refine j_acpy (pc := 27) (ks := 0) (kd := 0) (kn := 12) (ws' := [(t32, .inr (7, [.ref t33, .ref t34, .ref t35, .ref t36, .int 0, .int 0, .int 0])), (t33, .inl (cyI, 12, .inl (fun _ => (-1)))), (t34, .inl (cyI, 12, .inl (fun _ => 0))), (t35, .inl (cyI, 12, .inl (fun _ => 0))), (t36, .inl (cyI, 30, .inl (fun _ => 0))), (t37, .inr (7, [.ref t38, .ref t39, .ref t40, .ref t41, .int 0, .int 0, .int 0])), (t38, .inl (cyI, 12, .inl (va_cpy (fun _ => (-1)) (fun _ => (-1)) 0 0 12))), (t39, .inl (cyI, 12, .inl (va_cpy (fun _ => 0) (fun _ => 0) 0 0 12))), (t40, .inl (cyI, 12, .inl (fun _ => 0))), (t41, .inl (cyI, 30, .inl (fun _ => 0)))]) C wd_298 wd_237 wd_238 wd_239 2 7 1 rfl rfl rfl (by decide) (by decide) (by decide) (by decide) (by decide) (by decide) (by decide) (by decide) (by decide) (Nat.le_of_ble_eq_true rfl) dX7_copy_27 rfl ?_
  refine j_aload_n (pc := 30) C dX7_copy_30 rfl 1 rfl ?_
  refine j_get (pc := 31) (ci := 7) (v := .ref t35) C inw_7 0 rfl rfl 2 (by decide) wd_46 rfl rfl dX7_copy_31 ?_
  refine j_iconst (pc := 34) (v := 0) C dX7_copy_34 (by decide) ?_
  refine j_aload_n (pc := 35) C dX7_copy_35 rfl 0 rfl ?_
  refine j_get (pc := 36) (ci := 7) (v := .ref t40) C inw_7 5 rfl rfl 2 (by decide) wd_46 rfl rfl dX7_copy_36 ?_
  refine j_iconst (pc := 39) (v := 0) C dX7_copy_39 (by decide) ?_
  refine j_bipush (pc := 40) (v := 12) C dX7_copy_40 (by decide) ?_
  refine j_acpy (pc := 42) (ks := 0) (kd := 0) (kn := 12) (ws' := [(t32, .inr (7, [.ref t33, .ref t34, .ref t35, .ref t36, .int 0, .int 0, .int 0])), (t33, .inl (cyI, 12, .inl (fun _ => (-1)))), (t34, .inl (cyI, 12, .inl (fun _ => 0))), (t35, .inl (cyI, 12, .inl (fun _ => 0))), (t36, .inl (cyI, 30, .inl (fun _ => 0))), (t37, .inr (7, [.ref t38, .ref t39, .ref t40, .ref t41, .int 0, .int 0, .int 0])), (t38, .inl (cyI, 12, .inl (va_cpy (fun _ => (-1)) (fun _ => (-1)) 0 0 12))), (t39, .inl (cyI, 12, .inl (va_cpy (fun _ => 0) (fun _ => 0) 0 0 12))), (t40, .inl (cyI, 12, .inl (va_cpy (fun _ => 0) (fun _ => 0) 0 0 12))), (t41, .inl (cyI, 30, .inl (fun _ => 0)))]) C wd_298 wd_237 wd_238 wd_239 3 8 1 rfl rfl rfl (by decide) (by decide) (by decide) (by decide) (by decide) (by decide) (by decide) (by decide) (by decide) (Nat.le_of_ble_eq_true rfl) dX7_copy_42 rfl ?_
  refine j_aload_n (pc := 45) C dX7_copy_45 rfl 1 rfl ?_
  refine j_get (pc := 46) (ci := 7) (v := .ref t36) C inw_7 0 rfl rfl 3 (by decide) wd_47 rfl rfl dX7_copy_46 ?_
  refine j_iconst (pc := 49) (v := 0) C dX7_copy_49 (by decide) ?_
  refine j_aload_n (pc := 50) C dX7_copy_50 rfl 0 rfl ?_
  refine j_get (pc := 51) (ci := 7) (v := .ref t41) C inw_7 5 rfl rfl 3 (by decide) wd_47 rfl rfl dX7_copy_51 ?_
  refine j_iconst (pc := 54) (v := 0) C dX7_copy_54 (by decide) ?_
  refine j_bipush (pc := 55) (v := 30) C dX7_copy_55 (by decide) ?_
  refine j_acpy (pc := 57) (ks := 0) (kd := 0) (kn := 30) (ws' := [(t32, .inr (7, [.ref t33, .ref t34, .ref t35, .ref t36, .int 0, .int 0, .int 0])), (t33, .inl (cyI, 12, .inl (fun _ => (-1)))), (t34, .inl (cyI, 12, .inl (fun _ => 0))), (t35, .inl (cyI, 12, .inl (fun _ => 0))), (t36, .inl (cyI, 30, .inl (fun _ => 0))), (t37, .inr (7, [.ref t38, .ref t39, .ref t40, .ref t41, .int 0, .int 0, .int 0])), (t38, .inl (cyI, 12, .inl (va_cpy (fun _ => (-1)) (fun _ => (-1)) 0 0 12))), (t39, .inl (cyI, 12, .inl (va_cpy (fun _ => 0) (fun _ => 0) 0 0 12))), (t40, .inl (cyI, 12, .inl (va_cpy (fun _ => 0) (fun _ => 0) 0 0 12))), (t41, .inl (cyI, 30, .inl (va_cpy (fun _ => 0) (fun _ => 0) 0 0 30)))]) C wd_298 wd_237 wd_238 wd_239 4 9 1 rfl rfl rfl (by decide) (by decide) (by decide) (by decide) (by decide) (by decide) (by decide) (by decide) (by decide) (Nat.le_of_ble_eq_true rfl) dX7_copy_57 rfl ?_
  refine j_aload_n (pc := 60) C dX7_copy_60 rfl 0 rfl ?_
  refine j_aload_n (pc := 61) C dX7_copy_61 rfl 1 rfl ?_
  refine j_get (pc := 62) (ci := 7) (v := .int 0) C inw_7 0 rfl rfl 4 (by decide) wd_231 rfl rfl dX7_copy_62 ?_
  refine j_put (pc := 65) (ci := 7) (v := .int 0) (ws' := [(t32, .inr (7, [.ref t33, .ref t34, .ref t35, .ref t36, .int 0, .int 0, .int 0])), (t33, .inl (cyI, 12, .inl (fun _ => (-1)))), (t34, .inl (cyI, 12, .inl (fun _ => 0))), (t35, .inl (cyI, 12, .inl (fun _ => 0))), (t36, .inl (cyI, 30, .inl (fun _ => 0))), (t37, .inr (7, [.ref t38, .ref t39, .ref t40, .ref t41, .int 0, .int 0, .int 0])), (t38, .inl (cyI, 12, .inl (va_cpy (fun _ => (-1)) (fun _ => (-1)) 0 0 12))), (t39, .inl (cyI, 12, .inl (va_cpy (fun _ => 0) (fun _ => 0) 0 0 12))), (t40, .inl (cyI, 12, .inl (va_cpy (fun _ => 0) (fun _ => 0) 0 0 12))), (t41, .inl (cyI, 30, .inl (va_cpy (fun _ => 0) (fun _ => 0) 0 0 30)))]) C inw_7 5 rfl rfl 4 (by decide) wd_231 rfl tyX7_ok nmX7 rfl (tyX7_ok 4 (by decide)) rfl rfl (Nat.le_of_ble_eq_true rfl) dX7_copy_65 rfl ?_
  refine j_aload_n (pc := 68) C dX7_copy_68 rfl 0 rfl ?_
  refine j_aload_n (pc := 69) C dX7_copy_69 rfl 1 rfl ?_
  refine j_get (pc := 70) (ci := 7) (v := .int 0) C inw_7 0 rfl rfl 5 (by decide) wd_299 rfl rfl dX7_copy_70 ?_
  refine j_put (pc := 73) (ci := 7) (v := .int 0) (ws' := [(t32, .inr (7, [.ref t33, .ref t34, .ref t35, .ref t36, .int 0, .int 0, .int 0])), (t33, .inl (cyI, 12, .inl (fun _ => (-1)))), (t34, .inl (cyI, 12, .inl (fun _ => 0))), (t35, .inl (cyI, 12, .inl (fun _ => 0))), (t36, .inl (cyI, 30, .inl (fun _ => 0))), (t37, .inr (7, [.ref t38, .ref t39, .ref t40, .ref t41, .int 0, .int 0, .int 0])), (t38, .inl (cyI, 12, .inl (va_cpy (fun _ => (-1)) (fun _ => (-1)) 0 0 12))), (t39, .inl (cyI, 12, .inl (va_cpy (fun _ => 0) (fun _ => 0) 0 0 12))), (t40, .inl (cyI, 12, .inl (va_cpy (fun _ => 0) (fun _ => 0) 0 0 12))), (t41, .inl (cyI, 30, .inl (va_cpy (fun _ => 0) (fun _ => 0) 0 0 30)))]) C inw_7 5 rfl rfl 5 (by decide) wd_299 rfl tyX7_ok nmX7 rfl (tyX7_ok 5 (by decide)) rfl rfl (Nat.le_of_ble_eq_true rfl) dX7_copy_73 rfl ?_
  exact j_vret (pc := 76) C hr hk (fun i => [].getD i 0, fun _ => 0, fun _ _ => 0) rfl trivial [0, 1, 2, 3, 4, 5, 6, 7, 8, 9] (by decide) rfl (by decide) (by decide) dX7_copy_76
set_option maxHeartbeats 4000000 in
set_option maxRecDepth 100000 in
theorem c_X10_onTop (l : Launch) (D : va_G) (cyC cyI cyJ cyZ cyO : ClassId) (t0 : Nat) (t1 : Nat) (t21 : Nat) (t32 : Nat) (t37 : Nat) (t42 : Nat) (t43 : Nat) (t45 : Nat) (t50 : Nat) (t54 : Nat) (t58 : Nat) (t33 : Nat) (t34 : Nat) (t35 : Nat) (t36 : Nat) (t38 : Nat) (t39 : Nat) (t40 : Nat) (t41 : Nat) : KK l D (TY cyC cyI cyJ cyZ cyO) yX10_onTop cX10_onTop 4 (some .int) ({ frames := 2, cells := 0, slots := 0, locals := 39 } : Room) 0 0 [.ref t0] [(t0, .inr (10, [.ref t1, .ref t21, .ref t32, .ref t37, .ref t42, .ref t43, .ref t45, .ref t50, .ref t54, .ref t58])), (t32, .inr (7, [.ref t33, .ref t34, .ref t35, .ref t36, .int 0, .int 0, .int 0])), (t33, .inl (cyI, 12, .inl (fun _ => (-1)))), (t34, .inl (cyI, 12, .inl (fun _ => 0))), (t35, .inl (cyI, 12, .inl (fun _ => 0))), (t36, .inl (cyI, 30, .inl (fun _ => 0))), (t37, .inr (7, [.ref t38, .ref t39, .ref t40, .ref t41, .int 0, .int 0, .int 0])), (t38, .inl (cyI, 12, .inl (fun _ => (-1)))), (t39, .inl (cyI, 12, .inl (fun _ => 0))), (t40, .inl (cyI, 12, .inl (fun _ => 0))), (t41, .inl (cyI, 30, .inl (fun _ => 0)))] (fun u => some (.int 0)) (fun u => True) (fun u => []) := by
  refine KK.of (lv0 := [(0, .ref t0)]) (by decide) rfl (Nat.le_of_ble_eq_true rfl) ?_
  intro p e s m args below meth c A C hr hk hin
  refine j_aload_n (pc := 0) C dX10_onTop_0 rfl 0 rfl ?_
  refine j_get (pc := 1) (ci := 10) (v := .ref t37) C inw_10 0 rfl rfl 3 (by decide) wd_85 rfl rfl dX10_onTop_1 ?_
  refine j_aload_n (pc := 4) C dX10_onTop_4 rfl 0 rfl ?_
  refine j_get (pc := 5) (ci := 10) (v := .ref t32) C inw_10 0 rfl rfl 2 (by decide) wd_84 rfl rfl dX10_onTop_5 ?_
  refine j_callV (pc := 8) (As := [.ref t32]) (rest := []) (wr := [(t0, .inr (10, [.ref t1, .ref t21, .ref t32, .ref t37, .ref t42, .ref t43, .ref t45, .ref t50, .ref t54, .ref t58]))]) C (c_X7_copy l D cyC cyI cyJ cyZ cyO t37 t32 t33 t34 t35 t36 t38 t39 t40 t41) wd_300 wd_80 wd_301 wd_302 wd_303 ⟨by decide, by decide, rfl⟩ rfl ⟨rfl, rfl, by decide, by decide⟩ ⟨by decide, by decide⟩ [1, 2, 3, 4, 5, 6, 7, 8, 9, 10] [0] rfl rfl ⟨by decide, by decide, by decide⟩ 6 rfl rfl rfl (Nat.le_of_ble_eq_true rfl) dX10_onTop_8 (fun u_1 hw_2 => ?_)
  refine j_eq (ws2 := [(t0, .inr (10, [.ref t1, .ref t21, .ref t32, .ref t37, .ref t42, .ref t43, .ref t45, .ref t50, .ref t54, .ref t58])), (t32, .inr (7, [.ref t33, .ref t34, .ref t35, .ref t36, .int 0, .int 0, .int 0])), (t33, .inl (cyI, 12, .inl (fun _ => (-1)))), (t34, .inl (cyI, 12, .inl (fun _ => 0))), (t35, .inl (cyI, 12, .inl (fun _ => 0))), (t36, .inl (cyI, 30, .inl (fun _ => 0))), (t37, .inr (7, [.ref t38, .ref t39, .ref t40, .ref t41, .int 0, .int 0, .int 0])), (t38, .inl (cyI, 12, .inl (va_cpy (fun _ => (-1)) (fun _ => (-1)) 0 0 12))), (t39, .inl (cyI, 12, .inl (va_cpy (fun _ => 0) (fun _ => 0) 0 0 12))), (t40, .inl (cyI, 12, .inl (va_cpy (fun _ => 0) (fun _ => 0) 0 0 12))), (t41, .inl (cyI, 30, .inl (va_cpy (fun _ => 0) (fun _ => 0) 0 0 30)))]) (pc2 := 11) (lv2 := [(0, .ref t0)]) (st2 := []) rfl rfl rfl rfl ?_
  refine j_iconst (pc := 11) (v := 0) C dX10_onTop_11 (by decide) ?_
  refine j_istore_n (pc := 12) (lv' := [(1, .int 0), (0, .ref t0)]) C dX10_onTop_12 rfl (by decide) rfl ?_
  refine j_iconst (pc := 13) (v := 0) C dX10_onTop_13 (by decide) ?_
  refine j_istore_n (pc := 14) (lv' := [(2, .int 0), (1, .int 0), (0, .ref t0)]) C dX10_onTop_14 rfl (by decide) rfl ?_
  refine j_iload_n (pc := 15) C dX10_onTop_15 rfl 0 rfl ?_
  refine j_aload_n (pc := 16) C dX10_onTop_16 rfl 2 rfl ?_
  refine j_get (pc := 17) (ci := 10) (v := .ref t37) C inw_10 0 rfl rfl 3 (by decide) wd_85 rfl rfl dX10_onTop_17 ?_
  refine j_get (pc := 20) (ci := 7) (v := .int 0) C inw_7 6 rfl rfl 4 (by decide) wd_185 rfl rfl dX10_onTop_20 ?_
  refine j_icmp_ge_t (pc := 23) (tgt := 70) C dX10_onTop_23 (by decide) (by decide) ?_
  refine j_iload_n (pc := 70) C dX10_onTop_70 rfl 1 rfl ?_
  exact j_iret (pc := 71) C hr hk (fun i => [].getD i 0, fun _ => 0, fun _ _ => 0) rfl trivial [] (by decide) rfl (by decide) (by decide) dX10_onTop_71
set_option maxHeartbeats 4000000 in
set_option maxRecDepth 100000 in
theorem c_X10_habit (l : Launch) (D : va_G) (cyC cyI cyJ cyZ cyO : ClassId) (p0 : Int32) (t0 : Nat) (t1 : Nat) (t21 : Nat) (t32 : Nat) (t37 : Nat) (t42 : Nat) (t43 : Nat) (t45 : Nat) (t50 : Nat) (t54 : Nat) (t58 : Nat) (t22 : Nat) (t23 : Nat) (t24 : Nat) (t25 : Nat) (t26 : Nat) (t27 : Nat) (t28 : Nat) (t29 : Nat) (t30 : Nat) (t31 : Nat) : KK l D (TY cyC cyI cyJ cyZ cyO) yX10_habit cX10_habit 5 (some .int) ({ frames := 0, cells := 0, slots := 0, locals := 0 } : Room) 0 0 [.ref t0, .int p0] [(t0, .inr (10, [.ref t1, .ref t21, .ref t32, .ref t37, .ref t42, .ref t43, .ref t45, .ref t50, .ref t54, .ref t58])), (t21, .inr (9, [.int 0, .int 0, .int 0, .ref t22, .ref t23, .ref t24, .ref t25, .ref t26, .ref t27, .int 0, .int 0, .ref t28, .ref t29, .ref t30, .ref t31]))] (fun u => some (.int (-1))) (fun u => True) (fun u => []) := by
  refine KK.of (lv0 := [(0, .ref t0), (1, .int p0)]) (by decide) rfl (Nat.le_of_ble_eq_true rfl) ?_
  intro p e s m args below meth c A C hr hk hin
  refine j_iconst (pc := 0) (v := 0) C dX10_habit_0 (by decide) ?_
  refine j_istore_n (pc := 1) (lv' := [(2, .int 0), (0, .ref t0), (1, .int p0)]) C dX10_habit_1 rfl (by decide) rfl ?_
  refine j_iconst (pc := 2) (v := 0) C dX10_habit_2 (by decide) ?_
  refine j_istore_n (pc := 3) (lv' := [(3, .int 0), (2, .int 0), (0, .ref t0), (1, .int p0)]) C dX10_habit_3 rfl (by decide) rfl ?_
  refine j_iconst (pc := 4) (v := 0) C dX10_habit_4 (by decide) ?_
  refine j_istore (pc := 5) (lv' := [(4, .int 0), (3, .int 0), (2, .int 0), (0, .ref t0), (1, .int p0)]) C dX10_habit_5 (by decide) rfl ?_
  refine j_iload (pc := 7) C dX10_habit_7 0 rfl ?_
  refine j_aload_n (pc := 9) C dX10_habit_9 rfl 3 rfl ?_
  refine j_get (pc := 10) (ci := 10) (v := .ref t21) C inw_10 0 rfl rfl 1 (by decide) wd_77 rfl rfl dX10_habit_10 ?_
  refine j_get (pc := 13) (ci := 9) (v := .int 0) C inw_9 1 rfl rfl 0 (by decide) wd_286 rfl rfl dX10_habit_13 ?_
  refine j_icmp_ge_t (pc := 16) (tgt := 74) C dX10_habit_16 (by decide) (by decide) ?_
  refine j_iload_n (pc := 74) C dX10_habit_74 rfl 1 rfl ?_
  refine j_if_eq_t (pc := 75) (tgt := 87) C dX10_habit_75 (by decide) (by decide) ?_
  refine j_iconst (pc := 87) (v := (-1)) C dX10_habit_87 (by decide) ?_
  exact j_iret (pc := 88) C hr hk (fun i => [].getD i 0, fun _ => 0, fun _ _ => 0) rfl trivial [] (by decide) rfl (by decide) (by decide) dX10_habit_88
set_option maxHeartbeats 4000000 in
set_option maxRecDepth 100000 in
theorem c_X7_outOf (l : Launch) (D : va_G) (cyC cyI cyJ cyZ cyO : ClassId) (t32 : Nat) : KK l D (TY cyC cyI cyJ cyZ cyO) yX7_outOf cX7_outOf 4 (some .int) ({ frames := 0, cells := 0, slots := 0, locals := 0 } : Room) 0 0 [.ref t32, .int 0] [] (fun u => some (.int 0)) (fun u => True) (fun u => []) := by
  refine KK.of (lv0 := [(0, .ref t32), (1, .int 0)]) (by decide) rfl (Nat.le_of_ble_eq_true rfl) ?_
  intro p e s m args below meth c A C hr hk hin
  refine j_iconst (pc := 0) (v := 0) C dX7_outOf_0 (by decide) ?_
  refine j_istore_n (pc := 1) (lv' := [(2, .int 0), (0, .ref t32), (1, .int 0)]) C dX7_outOf_1 rfl (by decide) rfl ?_
  refine j_iconst (pc := 2) (v := 0) C dX7_outOf_2 (by decide) ?_
  refine j_istore_n (pc := 3) (lv' := [(3, .int 0), (2, .int 0), (0, .ref t32), (1, .int 0)]) C dX7_outOf_3 rfl (by decide) rfl ?_
  refine j_iload_n (pc := 4) C dX7_outOf_4 rfl 0 rfl ?_
  refine j_iload_n (pc := 5) C dX7_outOf_5 rfl 3 rfl ?_
  refine j_icmp_ge_t (pc := 6) (tgt := 31) C dX7_outOf_6 (by decide) (by decide) ?_
  refine j_iload_n (pc := 31) C dX7_outOf_31 rfl 1 rfl ?_
  exact j_iret (pc := 32) C hr hk (fun i => [].getD i 0, fun _ => 0, fun _ _ => 0) rfl trivial [] (by decide) rfl (by decide) (by decide) dX7_outOf_32
set_option maxHeartbeats 4000000 in
set_option maxRecDepth 100000 in
theorem c_X10_count (l : Launch) (D : va_G) (cyC cyI cyJ cyZ cyO : ClassId) (p0 : Int32) (t0 : Nat) (t1 : Nat) (t21 : Nat) (t32 : Nat) (t37 : Nat) (t42 : Nat) (t43 : Nat) (t45 : Nat) (t50 : Nat) (t54 : Nat) (t58 : Nat) (t2 : Nat) (t4 : Nat) (t8 : Nat) (t9 : Nat) (t10 : Nat) (t3 : Nat) (t22 : Nat) (t23 : Nat) (t24 : Nat) (t25 : Nat) (t26 : Nat) (t27 : Nat) (t28 : Nat) (t29 : Nat) (t30 : Nat) (t31 : Nat) (t33 : Nat) (t34 : Nat) (t35 : Nat) (t36 : Nat) : KK l D (TY cyC cyI cyJ cyZ cyO) yX10_count cX10_count 2 (some .int) ({ frames := 1, cells := 0, slots := 0, locals := 23 } : Room) 0 0 [.ref t0, .int p0] [(t0, .inr (10, [.ref t1, .ref t21, .ref t32, .ref t37, .ref t42, .ref t43, .ref t45, .ref t50, .ref t54, .ref t58])), (t1, .inr (5, [.ref t2, .ref t4, .ref t8, .ref t9, .ref t10, .int 0, .int 0])), (t2, .inr (8, [.ref t3, .int 0, .int 0, .int 0, .int 0, .int 0])), (t21, .inr (9, [.int 0, .int 0, .int 0, .ref t22, .ref t23, .ref t24, .ref t25, .ref t26, .ref t27, .int 0, .int 0, .ref t28, .ref t29, .ref t30, .ref t31])), (t32, .inr (7, [.ref t33, .ref t34, .ref t35, .ref t36, .int 0, .int 0, .int 0]))] (fun u => some (.int (u.2.1 0))) (fun u => u.2.1 0 = (if 0 ≤ p0 ∧ p0 ≤ 5 then 0 else -1)) (fun u => []) := by
  refine KK.of (lv0 := [(0, .ref t0), (1, .int p0)]) (by decide) rfl (Nat.le_of_ble_eq_true rfl) ?_
  intro p e s m args below meth c A C hr hk hin
  refine j_iload_n (pc := 0) C dX10_count_0 rfl 1 rfl ?_
  rcases sw_6 p0 with sw_1 | sw_1 | sw_1 | sw_1 | sw_1 | sw_1 | sw_1
  · skip
    refine j_tout (pc := 1) (tgt := 98) C dX10_count_1 sw_1 (by decide) ?_
    refine j_iconst (pc := 98) (v := (-1)) C dX10_count_98 (by decide) ?_
    exact j_iret (pc := 99) C hr hk (fun _ => 0, fun _ => (-1), fun _ _ => 0) rfl (by show ((-1) : Int32) = (if 0 ≤ p0 ∧ p0 ≤ 5 then 0 else -1); have e0 : (0 : Int32).toInt = 0 := rfl; have e5 : (5 : Int32).toInt = 5 := rfl; exact if hE : 0 ≤ p0 ∧ p0 ≤ 5 then (by first | exact (if_pos hE).symm | (exfalso; simp only [i_lt, i_le, i_eq] at hE sw_1; omega)) else (by first | exact (if_neg hE).symm | (exfalso; simp only [i_lt, i_le, i_eq] at hE sw_1; omega))) [] (by decide) rfl (by decide) (by decide) dX10_count_99
  · skip
    refine j_tin (pc := 1) (off := 39) (tgt := 40) C dX10_count_1 (by rw [sw_1]; decide) (by rw [sw_1]; decide) (by rw [sw_1]; decide) (by decide) ?_
    refine j_aload_n (pc := 40) C dX10_count_40 rfl 0 rfl ?_
    refine j_get (pc := 41) (ci := 10) (v := .ref t21) C inw_10 0 rfl rfl 1 (by decide) wd_77 rfl rfl dX10_count_41 ?_
    refine j_get (pc := 44) (ci := 9) (v := .int 0) C inw_9 3 rfl rfl 0 (by decide) wd_286 rfl rfl dX10_count_44 ?_
    exact j_iret (pc := 47) C hr hk (fun _ => 0, fun _ => 0, fun _ _ => 0) rfl (by show (0 : Int32) = (if 0 ≤ p0 ∧ p0 ≤ 5 then 0 else -1); have e0 : (0 : Int32).toInt = 0 := rfl; have e5 : (5 : Int32).toInt = 5 := rfl; exact if hE : 0 ≤ p0 ∧ p0 ≤ 5 then (by first | exact (if_pos hE).symm | (exfalso; simp only [i_lt, i_le, i_eq] at hE sw_1; omega)) else (by first | exact (if_neg hE).symm | (exfalso; simp only [i_lt, i_le, i_eq] at hE sw_1; omega))) [] (by decide) rfl (by decide) (by decide) dX10_count_47
  · skip
    refine j_tin (pc := 1) (off := 47) (tgt := 48) C dX10_count_1 (by rw [sw_1]; decide) (by rw [sw_1]; decide) (by rw [sw_1]; decide) (by decide) ?_
    refine j_aload_n (pc := 48) C dX10_count_48 rfl 0 rfl ?_
    refine j_get (pc := 49) (ci := 10) (v := .ref t21) C inw_10 0 rfl rfl 1 (by decide) wd_77 rfl rfl dX10_count_49 ?_
    refine j_get (pc := 52) (ci := 9) (v := .int 0) C inw_9 3 rfl rfl 1 (by decide) wd_304 rfl rfl dX10_count_52 ?_
    exact j_iret (pc := 55) C hr hk (fun _ => 0, fun _ => 0, fun _ _ => 0) rfl (by show (0 : Int32) = (if 0 ≤ p0 ∧ p0 ≤ 5 then 0 else -1); have e0 : (0 : Int32).toInt = 0 := rfl; have e1 : (1 : Int32).toInt = 1 := rfl; have e5 : (5 : Int32).toInt = 5 := rfl; exact if hE : 0 ≤ p0 ∧ p0 ≤ 5 then (by first | exact (if_pos hE).symm | (exfalso; simp only [i_lt, i_le, i_eq] at hE sw_1; omega)) else (by first | exact (if_neg hE).symm | (exfalso; simp only [i_lt, i_le, i_eq] at hE sw_1; omega))) [] (by decide) rfl (by decide) (by decide) dX10_count_55
  · skip
    refine j_tin (pc := 1) (off := 55) (tgt := 56) C dX10_count_1 (by rw [sw_1]; decide) (by rw [sw_1]; decide) (by rw [sw_1]; decide) (by decide) ?_
    refine j_aload_n (pc := 56) C dX10_count_56 rfl 0 rfl ?_
    refine j_get (pc := 57) (ci := 10) (v := .ref t21) C inw_10 0 rfl rfl 1 (by decide) wd_77 rfl rfl dX10_count_57 ?_
    refine j_get (pc := 60) (ci := 9) (v := .int 0) C inw_9 3 rfl rfl 2 (by decide) wd_305 rfl rfl dX10_count_60 ?_
    exact j_iret (pc := 63) C hr hk (fun _ => 0, fun _ => 0, fun _ _ => 0) rfl (by show (0 : Int32) = (if 0 ≤ p0 ∧ p0 ≤ 5 then 0 else -1); have e0 : (0 : Int32).toInt = 0 := rfl; have e2 : (2 : Int32).toInt = 2 := rfl; have e5 : (5 : Int32).toInt = 5 := rfl; exact if hE : 0 ≤ p0 ∧ p0 ≤ 5 then (by first | exact (if_pos hE).symm | (exfalso; simp only [i_lt, i_le, i_eq] at hE sw_1; omega)) else (by first | exact (if_neg hE).symm | (exfalso; simp only [i_lt, i_le, i_eq] at hE sw_1; omega))) [] (by decide) rfl (by decide) (by decide) dX10_count_63
  · skip
    refine j_tin (pc := 1) (off := 63) (tgt := 64) C dX10_count_1 (by rw [sw_1]; decide) (by rw [sw_1]; decide) (by rw [sw_1]; decide) (by decide) ?_
    refine j_aload_n (pc := 64) C dX10_count_64 rfl 0 rfl ?_
    refine j_get (pc := 65) (ci := 10) (v := .ref t32) C inw_10 0 rfl rfl 2 (by decide) wd_84 rfl rfl dX10_count_65 ?_
    refine j_aload_n (pc := 68) C dX10_count_68 rfl 0 rfl ?_
    refine j_get (pc := 69) (ci := 10) (v := .ref t21) C inw_10 0 rfl rfl 1 (by decide) wd_77 rfl rfl dX10_count_69 ?_
    refine j_get (pc := 72) (ci := 9) (v := .int 0) C inw_9 3 rfl rfl 0 (by decide) wd_286 rfl rfl dX10_count_72 ?_
    refine j_callV (pc := 75) (As := [.int 0]) (rest := []) (wr := [(t0, .inr (10, [.ref t1, .ref t21, .ref t32, .ref t37, .ref t42, .ref t43, .ref t45, .ref t50, .ref t54, .ref t58])), (t1, .inr (5, [.ref t2, .ref t4, .ref t8, .ref t9, .ref t10, .int 0, .int 0])), (t2, .inr (8, [.ref t3, .int 0, .int 0, .int 0, .int 0, .int 0])), (t21, .inr (9, [.int 0, .int 0, .int 0, .ref t22, .ref t23, .ref t24, .ref t25, .ref t26, .ref t27, .int 0, .int 0, .ref t28, .ref t29, .ref t30, .ref t31])), (t32, .inr (7, [.ref t33, .ref t34, .ref t35, .ref t36, .int 0, .int 0, .int 0]))]) C (c_X7_outOf l D cyC cyI cyJ cyZ cyO t32) wd_306 wd_80 wd_307 wd_308 wd_309 ⟨by decide, by decide, rfl⟩ rfl ⟨rfl, rfl, by decide, by decide⟩ ⟨by decide, by decide⟩ [] [0, 1, 2, 3, 4] rfl rfl ⟨by decide, by decide, by decide⟩ 4 rfl rfl rfl (Nat.le_of_ble_eq_true rfl) dX10_count_75 (fun u_2 hw_3 => ?_)
    refine j_eq (ws2 := [(t0, .inr (10, [.ref t1, .ref t21, .ref t32, .ref t37, .ref t42, .ref t43, .ref t45, .ref t50, .ref t54, .ref t58])), (t1, .inr (5, [.ref t2, .ref t4, .ref t8, .ref t9, .ref t10, .int 0, .int 0])), (t2, .inr (8, [.ref t3, .int 0, .int 0, .int 0, .int 0, .int 0])), (t21, .inr (9, [.int 0, .int 0, .int 0, .ref t22, .ref t23, .ref t24, .ref t25, .ref t26, .ref t27, .int 0, .int 0, .ref t28, .ref t29, .ref t30, .ref t31])), (t32, .inr (7, [.ref t33, .ref t34, .ref t35, .ref t36, .int 0, .int 0, .int 0]))]) (pc2 := 78) (lv2 := [(0, .ref t0), (1, .int p0)]) (st2 := [.int 0]) rfl rfl rfl rfl ?_
    exact j_iret (pc := 78) C hr hk (fun _ => 0, fun _ => 0, fun _ _ => 0) rfl (by show (0 : Int32) = (if 0 ≤ p0 ∧ p0 ≤ 5 then 0 else -1); have e0 : (0 : Int32).toInt = 0 := rfl; have e3 : (3 : Int32).toInt = 3 := rfl; have e5 : (5 : Int32).toInt = 5 := rfl; exact if hE : 0 ≤ p0 ∧ p0 ≤ 5 then (by first | exact (if_pos hE).symm | (exfalso; simp only [i_lt, i_le, i_eq] at hE sw_1; omega)) else (by first | exact (if_neg hE).symm | (exfalso; simp only [i_lt, i_le, i_eq] at hE sw_1; omega))) [] (by decide) rfl (by decide) (by decide) dX10_count_78
  · skip
    refine j_tin (pc := 1) (off := 78) (tgt := 79) C dX10_count_1 (by rw [sw_1]; decide) (by rw [sw_1]; decide) (by rw [sw_1]; decide) (by decide) ?_
    refine j_aload_n (pc := 79) C dX10_count_79 rfl 0 rfl ?_
    refine j_get (pc := 80) (ci := 10) (v := .ref t32) C inw_10 0 rfl rfl 2 (by decide) wd_84 rfl rfl dX10_count_80 ?_
    refine j_get (pc := 83) (ci := 7) (v := .int 0) C inw_7 4 rfl rfl 4 (by decide) wd_185 rfl rfl dX10_count_83 ?_
    exact j_iret (pc := 86) C hr hk (fun _ => 0, fun _ => 0, fun _ _ => 0) rfl (by show (0 : Int32) = (if 0 ≤ p0 ∧ p0 ≤ 5 then 0 else -1); have e0 : (0 : Int32).toInt = 0 := rfl; have e4 : (4 : Int32).toInt = 4 := rfl; have e5 : (5 : Int32).toInt = 5 := rfl; exact if hE : 0 ≤ p0 ∧ p0 ≤ 5 then (by first | exact (if_pos hE).symm | (exfalso; simp only [i_lt, i_le, i_eq] at hE sw_1; omega)) else (by first | exact (if_neg hE).symm | (exfalso; simp only [i_lt, i_le, i_eq] at hE sw_1; omega))) [] (by decide) rfl (by decide) (by decide) dX10_count_86
  · skip
    refine j_tin (pc := 1) (off := 86) (tgt := 87) C dX10_count_1 (by rw [sw_1]; decide) (by rw [sw_1]; decide) (by rw [sw_1]; decide) (by decide) ?_
    refine j_aload_n (pc := 87) C dX10_count_87 rfl 0 rfl ?_
    refine j_get (pc := 88) (ci := 10) (v := .ref t1) C inw_10 0 rfl rfl 0 (by decide) wd_75 rfl rfl dX10_count_88 ?_
    refine j_get (pc := 91) (ci := 5) (v := .ref t2) C inw_5 1 rfl rfl 0 (by decide) wd_310 rfl rfl dX10_count_91 ?_
    refine j_get (pc := 94) (ci := 8) (v := .int 0) C inw_8 2 rfl rfl 1 (by decide) wd_311 rfl rfl dX10_count_94 ?_
    exact j_iret (pc := 97) C hr hk (fun _ => 0, fun _ => 0, fun _ _ => 0) rfl (by show (0 : Int32) = (if 0 ≤ p0 ∧ p0 ≤ 5 then 0 else -1); have e0 : (0 : Int32).toInt = 0 := rfl; have e5 : (5 : Int32).toInt = 5 := rfl; exact if hE : 0 ≤ p0 ∧ p0 ≤ 5 then (by first | exact (if_pos hE).symm | (exfalso; simp only [i_lt, i_le, i_eq] at hE sw_1; omega)) else (by first | exact (if_neg hE).symm | (exfalso; simp only [i_lt, i_le, i_eq] at hE sw_1; omega))) [] (by decide) rfl (by decide) (by decide) dX10_count_97
set_option maxHeartbeats 4000000 in
set_option maxRecDepth 100000 in
theorem c_X7_copy_0 (l : Launch) (D : va_G) (cyC cyI cyJ cyZ cyO : ClassId) (t60 : Nat) (t32 : Nat) (t33 : Nat) (t34 : Nat) (t35 : Nat) (t36 : Nat) (t61 : Nat) (t62 : Nat) (t63 : Nat) (t64 : Nat) : KK l D (TY cyC cyI cyJ cyZ cyO) yX7_copy cX7_copy 2 none ({ frames := 1, cells := 0, slots := 0, locals := 18 } : Room) 0 0 [.ref t60, .ref t32] [(t32, .inr (7, [.ref t33, .ref t34, .ref t35, .ref t36, .int 0, .int 0, .int 0])), (t33, .inl (cyI, 12, .inl (fun _ => (-1)))), (t34, .inl (cyI, 12, .inl (fun _ => 0))), (t35, .inl (cyI, 12, .inl (fun _ => 0))), (t36, .inl (cyI, 30, .inl (fun _ => 0))), (t60, .inr (7, [.ref t61, .ref t62, .ref t63, .ref t64, .int 0, .int 0, .int 0])), (t61, .inl (cyI, 12, .inl (fun _ => (-1)))), (t62, .inl (cyI, 12, .inl (fun _ => 0))), (t63, .inl (cyI, 12, .inl (fun _ => 0))), (t64, .inl (cyI, 30, .inl (fun _ => 0)))] (fun u => none) (fun u => True) (fun u => [(t32, .inr (7, [.ref t33, .ref t34, .ref t35, .ref t36, .int 0, .int 0, .int 0])), (t33, .inl (cyI, 12, .inl (fun _ => (-1)))), (t34, .inl (cyI, 12, .inl (fun _ => 0))), (t35, .inl (cyI, 12, .inl (fun _ => 0))), (t36, .inl (cyI, 30, .inl (fun _ => 0))), (t60, .inr (7, [.ref t61, .ref t62, .ref t63, .ref t64, .int 0, .int 0, .int 0])), (t61, .inl (cyI, 12, .inl (va_cpy (fun _ => (-1)) (fun _ => (-1)) 0 0 12))), (t62, .inl (cyI, 12, .inl (va_cpy (fun _ => 0) (fun _ => 0) 0 0 12))), (t63, .inl (cyI, 12, .inl (va_cpy (fun _ => 0) (fun _ => 0) 0 0 12))), (t64, .inl (cyI, 30, .inl (va_cpy (fun _ => 0) (fun _ => 0) 0 0 30)))]) := by
  refine KK.of (lv0 := [(0, .ref t60), (1, .ref t32)]) (by decide) rfl (Nat.le_of_ble_eq_true rfl) ?_
  intro p e s m args below meth c A C hr hk hin
  refine j_aload_n (pc := 0) C dX7_copy_0 rfl 1 rfl ?_
  refine j_get (pc := 1) (ci := 7) (v := .ref t33) C inw_7 0 rfl rfl 0 (by decide) wd_44 rfl rfl dX7_copy_1 ?_
  refine j_iconst (pc := 4) (v := 0) C dX7_copy_4 (by decide) ?_
  refine j_aload_n (pc := 5) C dX7_copy_5 rfl 0 rfl ?_
  refine j_get (pc := 6) (ci := 7) (v := .ref t61) C inw_7 5 rfl rfl 0 (by decide) wd_44 rfl rfl dX7_copy_6 ?_
  refine j_iconst (pc := 9) (v := 0) C dX7_copy_9 (by decide) ?_
  refine j_bipush (pc := 10) (v := 12) C dX7_copy_10 (by decide) ?_
  refine j_acpy (pc := 12) (ks := 0) (kd := 0) (kn := 12) (ws' := [(t32, .inr (7, [.ref t33, .ref t34, .ref t35, .ref t36, .int 0, .int 0, .int 0])), (t33, .inl (cyI, 12, .inl (fun _ => (-1)))), (t34, .inl (cyI, 12, .inl (fun _ => 0))), (t35, .inl (cyI, 12, .inl (fun _ => 0))), (t36, .inl (cyI, 30, .inl (fun _ => 0))), (t60, .inr (7, [.ref t61, .ref t62, .ref t63, .ref t64, .int 0, .int 0, .int 0])), (t61, .inl (cyI, 12, .inl (va_cpy (fun _ => (-1)) (fun _ => (-1)) 0 0 12))), (t62, .inl (cyI, 12, .inl (fun _ => 0))), (t63, .inl (cyI, 12, .inl (fun _ => 0))), (t64, .inl (cyI, 30, .inl (fun _ => 0)))]) C wd_298 wd_237 wd_238 wd_239 1 6 1 rfl rfl rfl (by decide) (by decide) (by decide) (by decide) (by decide) (by decide) (by decide) (by decide) (by decide) (Nat.le_of_ble_eq_true rfl) dX7_copy_12 rfl ?_
  refine j_aload_n (pc := 15) C dX7_copy_15 rfl 1 rfl ?_
  refine j_get (pc := 16) (ci := 7) (v := .ref t34) C inw_7 0 rfl rfl 1 (by decide) wd_45 rfl rfl dX7_copy_16 ?_
  refine j_iconst (pc := 19) (v := 0) C dX7_copy_19 (by decide) ?_
  refine j_aload_n (pc := 20) C dX7_copy_20 rfl 0 rfl ?_
  refine j_get (pc := 21) (ci := 7) (v := .ref t62) C inw_7 5 rfl rfl 1 (by decide) wd_45 rfl rfl dX7_copy_21 ?_
  refine j_iconst (pc := 24) (v := 0) C dX7_copy_24 (by decide) ?_
  refine j_bipush (pc := 25) (v := 12) C dX7_copy_25 (by decide) ?_
  refine j_acpy (pc := 27) (ks := 0) (kd := 0) (kn := 12) (ws' := [(t32, .inr (7, [.ref t33, .ref t34, .ref t35, .ref t36, .int 0, .int 0, .int 0])), (t33, .inl (cyI, 12, .inl (fun _ => (-1)))), (t34, .inl (cyI, 12, .inl (fun _ => 0))), (t35, .inl (cyI, 12, .inl (fun _ => 0))), (t36, .inl (cyI, 30, .inl (fun _ => 0))), (t60, .inr (7, [.ref t61, .ref t62, .ref t63, .ref t64, .int 0, .int 0, .int 0])), (t61, .inl (cyI, 12, .inl (va_cpy (fun _ => (-1)) (fun _ => (-1)) 0 0 12))), (t62, .inl (cyI, 12, .inl (va_cpy (fun _ => 0) (fun _ => 0) 0 0 12))), (t63, .inl (cyI, 12, .inl (fun _ => 0))), (t64, .inl (cyI, 30, .inl (fun _ => 0)))]) C wd_298 wd_237 wd_238 wd_239 2 7 1 rfl rfl rfl (by decide) (by decide) (by decide) (by decide) (by decide) (by decide) (by decide) (by decide) (by decide) (Nat.le_of_ble_eq_true rfl) dX7_copy_27 rfl ?_
  refine j_aload_n (pc := 30) C dX7_copy_30 rfl 1 rfl ?_
  refine j_get (pc := 31) (ci := 7) (v := .ref t35) C inw_7 0 rfl rfl 2 (by decide) wd_46 rfl rfl dX7_copy_31 ?_
  refine j_iconst (pc := 34) (v := 0) C dX7_copy_34 (by decide) ?_
  refine j_aload_n (pc := 35) C dX7_copy_35 rfl 0 rfl ?_
  refine j_get (pc := 36) (ci := 7) (v := .ref t63) C inw_7 5 rfl rfl 2 (by decide) wd_46 rfl rfl dX7_copy_36 ?_
  refine j_iconst (pc := 39) (v := 0) C dX7_copy_39 (by decide) ?_
  refine j_bipush (pc := 40) (v := 12) C dX7_copy_40 (by decide) ?_
  refine j_acpy (pc := 42) (ks := 0) (kd := 0) (kn := 12) (ws' := [(t32, .inr (7, [.ref t33, .ref t34, .ref t35, .ref t36, .int 0, .int 0, .int 0])), (t33, .inl (cyI, 12, .inl (fun _ => (-1)))), (t34, .inl (cyI, 12, .inl (fun _ => 0))), (t35, .inl (cyI, 12, .inl (fun _ => 0))), (t36, .inl (cyI, 30, .inl (fun _ => 0))), (t60, .inr (7, [.ref t61, .ref t62, .ref t63, .ref t64, .int 0, .int 0, .int 0])), (t61, .inl (cyI, 12, .inl (va_cpy (fun _ => (-1)) (fun _ => (-1)) 0 0 12))), (t62, .inl (cyI, 12, .inl (va_cpy (fun _ => 0) (fun _ => 0) 0 0 12))), (t63, .inl (cyI, 12, .inl (va_cpy (fun _ => 0) (fun _ => 0) 0 0 12))), (t64, .inl (cyI, 30, .inl (fun _ => 0)))]) C wd_298 wd_237 wd_238 wd_239 3 8 1 rfl rfl rfl (by decide) (by decide) (by decide) (by decide) (by decide) (by decide) (by decide) (by decide) (by decide) (Nat.le_of_ble_eq_true rfl) dX7_copy_42 rfl ?_
  refine j_aload_n (pc := 45) C dX7_copy_45 rfl 1 rfl ?_
  refine j_get (pc := 46) (ci := 7) (v := .ref t36) C inw_7 0 rfl rfl 3 (by decide) wd_47 rfl rfl dX7_copy_46 ?_
  refine j_iconst (pc := 49) (v := 0) C dX7_copy_49 (by decide) ?_
  refine j_aload_n (pc := 50) C dX7_copy_50 rfl 0 rfl ?_
  refine j_get (pc := 51) (ci := 7) (v := .ref t64) C inw_7 5 rfl rfl 3 (by decide) wd_47 rfl rfl dX7_copy_51 ?_
  refine j_iconst (pc := 54) (v := 0) C dX7_copy_54 (by decide) ?_
  refine j_bipush (pc := 55) (v := 30) C dX7_copy_55 (by decide) ?_
  refine j_acpy (pc := 57) (ks := 0) (kd := 0) (kn := 30) (ws' := [(t32, .inr (7, [.ref t33, .ref t34, .ref t35, .ref t36, .int 0, .int 0, .int 0])), (t33, .inl (cyI, 12, .inl (fun _ => (-1)))), (t34, .inl (cyI, 12, .inl (fun _ => 0))), (t35, .inl (cyI, 12, .inl (fun _ => 0))), (t36, .inl (cyI, 30, .inl (fun _ => 0))), (t60, .inr (7, [.ref t61, .ref t62, .ref t63, .ref t64, .int 0, .int 0, .int 0])), (t61, .inl (cyI, 12, .inl (va_cpy (fun _ => (-1)) (fun _ => (-1)) 0 0 12))), (t62, .inl (cyI, 12, .inl (va_cpy (fun _ => 0) (fun _ => 0) 0 0 12))), (t63, .inl (cyI, 12, .inl (va_cpy (fun _ => 0) (fun _ => 0) 0 0 12))), (t64, .inl (cyI, 30, .inl (va_cpy (fun _ => 0) (fun _ => 0) 0 0 30)))]) C wd_298 wd_237 wd_238 wd_239 4 9 1 rfl rfl rfl (by decide) (by decide) (by decide) (by decide) (by decide) (by decide) (by decide) (by decide) (by decide) (Nat.le_of_ble_eq_true rfl) dX7_copy_57 rfl ?_
  refine j_aload_n (pc := 60) C dX7_copy_60 rfl 0 rfl ?_
  refine j_aload_n (pc := 61) C dX7_copy_61 rfl 1 rfl ?_
  refine j_get (pc := 62) (ci := 7) (v := .int 0) C inw_7 0 rfl rfl 4 (by decide) wd_231 rfl rfl dX7_copy_62 ?_
  refine j_put (pc := 65) (ci := 7) (v := .int 0) (ws' := [(t32, .inr (7, [.ref t33, .ref t34, .ref t35, .ref t36, .int 0, .int 0, .int 0])), (t33, .inl (cyI, 12, .inl (fun _ => (-1)))), (t34, .inl (cyI, 12, .inl (fun _ => 0))), (t35, .inl (cyI, 12, .inl (fun _ => 0))), (t36, .inl (cyI, 30, .inl (fun _ => 0))), (t60, .inr (7, [.ref t61, .ref t62, .ref t63, .ref t64, .int 0, .int 0, .int 0])), (t61, .inl (cyI, 12, .inl (va_cpy (fun _ => (-1)) (fun _ => (-1)) 0 0 12))), (t62, .inl (cyI, 12, .inl (va_cpy (fun _ => 0) (fun _ => 0) 0 0 12))), (t63, .inl (cyI, 12, .inl (va_cpy (fun _ => 0) (fun _ => 0) 0 0 12))), (t64, .inl (cyI, 30, .inl (va_cpy (fun _ => 0) (fun _ => 0) 0 0 30)))]) C inw_7 5 rfl rfl 4 (by decide) wd_231 rfl tyX7_ok nmX7 rfl (tyX7_ok 4 (by decide)) rfl rfl (Nat.le_of_ble_eq_true rfl) dX7_copy_65 rfl ?_
  refine j_aload_n (pc := 68) C dX7_copy_68 rfl 0 rfl ?_
  refine j_aload_n (pc := 69) C dX7_copy_69 rfl 1 rfl ?_
  refine j_get (pc := 70) (ci := 7) (v := .int 0) C inw_7 0 rfl rfl 5 (by decide) wd_299 rfl rfl dX7_copy_70 ?_
  refine j_put (pc := 73) (ci := 7) (v := .int 0) (ws' := [(t32, .inr (7, [.ref t33, .ref t34, .ref t35, .ref t36, .int 0, .int 0, .int 0])), (t33, .inl (cyI, 12, .inl (fun _ => (-1)))), (t34, .inl (cyI, 12, .inl (fun _ => 0))), (t35, .inl (cyI, 12, .inl (fun _ => 0))), (t36, .inl (cyI, 30, .inl (fun _ => 0))), (t60, .inr (7, [.ref t61, .ref t62, .ref t63, .ref t64, .int 0, .int 0, .int 0])), (t61, .inl (cyI, 12, .inl (va_cpy (fun _ => (-1)) (fun _ => (-1)) 0 0 12))), (t62, .inl (cyI, 12, .inl (va_cpy (fun _ => 0) (fun _ => 0) 0 0 12))), (t63, .inl (cyI, 12, .inl (va_cpy (fun _ => 0) (fun _ => 0) 0 0 12))), (t64, .inl (cyI, 30, .inl (va_cpy (fun _ => 0) (fun _ => 0) 0 0 30)))]) C inw_7 5 rfl rfl 5 (by decide) wd_299 rfl tyX7_ok nmX7 rfl (tyX7_ok 5 (by decide)) rfl rfl (Nat.le_of_ble_eq_true rfl) dX7_copy_73 rfl ?_
  exact j_vret (pc := 76) C hr hk (fun i => [].getD i 0, fun _ => 0, fun _ _ => 0) rfl trivial [0, 1, 2, 3, 4, 5, 6, 7, 8, 9] (by decide) rfl (by decide) (by decide) dX7_copy_76
set_option maxHeartbeats 4000000 in
set_option maxRecDepth 100000 in
theorem c_X7_copy_1 (l : Launch) (D : va_G) (cyC cyI cyJ cyZ cyO : ClassId) (t65 : Nat) (t32 : Nat) (t33 : Nat) (t34 : Nat) (t35 : Nat) (t36 : Nat) (t66 : Nat) (t67 : Nat) (t68 : Nat) (t69 : Nat) : KK l D (TY cyC cyI cyJ cyZ cyO) yX7_copy cX7_copy 2 none ({ frames := 1, cells := 0, slots := 0, locals := 18 } : Room) 0 0 [.ref t65, .ref t32] [(t32, .inr (7, [.ref t33, .ref t34, .ref t35, .ref t36, .int 0, .int 0, .int 0])), (t33, .inl (cyI, 12, .inl (fun _ => (-1)))), (t34, .inl (cyI, 12, .inl (fun _ => 0))), (t35, .inl (cyI, 12, .inl (fun _ => 0))), (t36, .inl (cyI, 30, .inl (fun _ => 0))), (t65, .inr (7, [.ref t66, .ref t67, .ref t68, .ref t69, .int 0, .int 0, .int 0])), (t66, .inl (cyI, 12, .inl (fun _ => (-1)))), (t67, .inl (cyI, 12, .inl (fun _ => 0))), (t68, .inl (cyI, 12, .inl (fun _ => 0))), (t69, .inl (cyI, 30, .inl (fun _ => 0)))] (fun u => none) (fun u => True) (fun u => [(t32, .inr (7, [.ref t33, .ref t34, .ref t35, .ref t36, .int 0, .int 0, .int 0])), (t33, .inl (cyI, 12, .inl (fun _ => (-1)))), (t34, .inl (cyI, 12, .inl (fun _ => 0))), (t35, .inl (cyI, 12, .inl (fun _ => 0))), (t36, .inl (cyI, 30, .inl (fun _ => 0))), (t65, .inr (7, [.ref t66, .ref t67, .ref t68, .ref t69, .int 0, .int 0, .int 0])), (t66, .inl (cyI, 12, .inl (va_cpy (fun _ => (-1)) (fun _ => (-1)) 0 0 12))), (t67, .inl (cyI, 12, .inl (va_cpy (fun _ => 0) (fun _ => 0) 0 0 12))), (t68, .inl (cyI, 12, .inl (va_cpy (fun _ => 0) (fun _ => 0) 0 0 12))), (t69, .inl (cyI, 30, .inl (va_cpy (fun _ => 0) (fun _ => 0) 0 0 30)))]) := by
  refine KK.of (lv0 := [(0, .ref t65), (1, .ref t32)]) (by decide) rfl (Nat.le_of_ble_eq_true rfl) ?_
  intro p e s m args below meth c A C hr hk hin
  refine j_aload_n (pc := 0) C dX7_copy_0 rfl 1 rfl ?_
  refine j_get (pc := 1) (ci := 7) (v := .ref t33) C inw_7 0 rfl rfl 0 (by decide) wd_44 rfl rfl dX7_copy_1 ?_
  refine j_iconst (pc := 4) (v := 0) C dX7_copy_4 (by decide) ?_
  refine j_aload_n (pc := 5) C dX7_copy_5 rfl 0 rfl ?_
  refine j_get (pc := 6) (ci := 7) (v := .ref t66) C inw_7 5 rfl rfl 0 (by decide) wd_44 rfl rfl dX7_copy_6 ?_
  refine j_iconst (pc := 9) (v := 0) C dX7_copy_9 (by decide) ?_
  refine j_bipush (pc := 10) (v := 12) C dX7_copy_10 (by decide) ?_
  refine j_acpy (pc := 12) (ks := 0) (kd := 0) (kn := 12) (ws' := [(t32, .inr (7, [.ref t33, .ref t34, .ref t35, .ref t36, .int 0, .int 0, .int 0])), (t33, .inl (cyI, 12, .inl (fun _ => (-1)))), (t34, .inl (cyI, 12, .inl (fun _ => 0))), (t35, .inl (cyI, 12, .inl (fun _ => 0))), (t36, .inl (cyI, 30, .inl (fun _ => 0))), (t65, .inr (7, [.ref t66, .ref t67, .ref t68, .ref t69, .int 0, .int 0, .int 0])), (t66, .inl (cyI, 12, .inl (va_cpy (fun _ => (-1)) (fun _ => (-1)) 0 0 12))), (t67, .inl (cyI, 12, .inl (fun _ => 0))), (t68, .inl (cyI, 12, .inl (fun _ => 0))), (t69, .inl (cyI, 30, .inl (fun _ => 0)))]) C wd_298 wd_237 wd_238 wd_239 1 6 1 rfl rfl rfl (by decide) (by decide) (by decide) (by decide) (by decide) (by decide) (by decide) (by decide) (by decide) (Nat.le_of_ble_eq_true rfl) dX7_copy_12 rfl ?_
  refine j_aload_n (pc := 15) C dX7_copy_15 rfl 1 rfl ?_
  refine j_get (pc := 16) (ci := 7) (v := .ref t34) C inw_7 0 rfl rfl 1 (by decide) wd_45 rfl rfl dX7_copy_16 ?_
  refine j_iconst (pc := 19) (v := 0) C dX7_copy_19 (by decide) ?_
  refine j_aload_n (pc := 20) C dX7_copy_20 rfl 0 rfl ?_
  refine j_get (pc := 21) (ci := 7) (v := .ref t67) C inw_7 5 rfl rfl 1 (by decide) wd_45 rfl rfl dX7_copy_21 ?_
  refine j_iconst (pc := 24) (v := 0) C dX7_copy_24 (by decide) ?_
  refine j_bipush (pc := 25) (v := 12) C dX7_copy_25 (by decide) ?_
  refine j_acpy (pc := 27) (ks := 0) (kd := 0) (kn := 12) (ws' := [(t32, .inr (7, [.ref t33, .ref t34, .ref t35, .ref t36, .int 0, .int 0, .int 0])), (t33, .inl (cyI, 12, .inl (fun _ => (-1)))), (t34, .inl (cyI, 12, .inl (fun _ => 0))), (t35, .inl (cyI, 12, .inl (fun _ => 0))), (t36, .inl (cyI, 30, .inl (fun _ => 0))), (t65, .inr (7, [.ref t66, .ref t67, .ref t68, .ref t69, .int 0, .int 0, .int 0])), (t66, .inl (cyI, 12, .inl (va_cpy (fun _ => (-1)) (fun _ => (-1)) 0 0 12))), (t67, .inl (cyI, 12, .inl (va_cpy (fun _ => 0) (fun _ => 0) 0 0 12))), (t68, .inl (cyI, 12, .inl (fun _ => 0))), (t69, .inl (cyI, 30, .inl (fun _ => 0)))]) C wd_298 wd_237 wd_238 wd_239 2 7 1 rfl rfl rfl (by decide) (by decide) (by decide) (by decide) (by decide) (by decide) (by decide) (by decide) (by decide) (Nat.le_of_ble_eq_true rfl) dX7_copy_27 rfl ?_
  refine j_aload_n (pc := 30) C dX7_copy_30 rfl 1 rfl ?_
  refine j_get (pc := 31) (ci := 7) (v := .ref t35) C inw_7 0 rfl rfl 2 (by decide) wd_46 rfl rfl dX7_copy_31 ?_
  refine j_iconst (pc := 34) (v := 0) C dX7_copy_34 (by decide) ?_
  refine j_aload_n (pc := 35) C dX7_copy_35 rfl 0 rfl ?_
  refine j_get (pc := 36) (ci := 7) (v := .ref t68) C inw_7 5 rfl rfl 2 (by decide) wd_46 rfl rfl dX7_copy_36 ?_
  refine j_iconst (pc := 39) (v := 0) C dX7_copy_39 (by decide) ?_
  refine j_bipush (pc := 40) (v := 12) C dX7_copy_40 (by decide) ?_
  refine j_acpy (pc := 42) (ks := 0) (kd := 0) (kn := 12) (ws' := [(t32, .inr (7, [.ref t33, .ref t34, .ref t35, .ref t36, .int 0, .int 0, .int 0])), (t33, .inl (cyI, 12, .inl (fun _ => (-1)))), (t34, .inl (cyI, 12, .inl (fun _ => 0))), (t35, .inl (cyI, 12, .inl (fun _ => 0))), (t36, .inl (cyI, 30, .inl (fun _ => 0))), (t65, .inr (7, [.ref t66, .ref t67, .ref t68, .ref t69, .int 0, .int 0, .int 0])), (t66, .inl (cyI, 12, .inl (va_cpy (fun _ => (-1)) (fun _ => (-1)) 0 0 12))), (t67, .inl (cyI, 12, .inl (va_cpy (fun _ => 0) (fun _ => 0) 0 0 12))), (t68, .inl (cyI, 12, .inl (va_cpy (fun _ => 0) (fun _ => 0) 0 0 12))), (t69, .inl (cyI, 30, .inl (fun _ => 0)))]) C wd_298 wd_237 wd_238 wd_239 3 8 1 rfl rfl rfl (by decide) (by decide) (by decide) (by decide) (by decide) (by decide) (by decide) (by decide) (by decide) (Nat.le_of_ble_eq_true rfl) dX7_copy_42 rfl ?_
  refine j_aload_n (pc := 45) C dX7_copy_45 rfl 1 rfl ?_
  refine j_get (pc := 46) (ci := 7) (v := .ref t36) C inw_7 0 rfl rfl 3 (by decide) wd_47 rfl rfl dX7_copy_46 ?_
  refine j_iconst (pc := 49) (v := 0) C dX7_copy_49 (by decide) ?_
  refine j_aload_n (pc := 50) C dX7_copy_50 rfl 0 rfl ?_
  refine j_get (pc := 51) (ci := 7) (v := .ref t69) C inw_7 5 rfl rfl 3 (by decide) wd_47 rfl rfl dX7_copy_51 ?_
  refine j_iconst (pc := 54) (v := 0) C dX7_copy_54 (by decide) ?_
  refine j_bipush (pc := 55) (v := 30) C dX7_copy_55 (by decide) ?_
  refine j_acpy (pc := 57) (ks := 0) (kd := 0) (kn := 30) (ws' := [(t32, .inr (7, [.ref t33, .ref t34, .ref t35, .ref t36, .int 0, .int 0, .int 0])), (t33, .inl (cyI, 12, .inl (fun _ => (-1)))), (t34, .inl (cyI, 12, .inl (fun _ => 0))), (t35, .inl (cyI, 12, .inl (fun _ => 0))), (t36, .inl (cyI, 30, .inl (fun _ => 0))), (t65, .inr (7, [.ref t66, .ref t67, .ref t68, .ref t69, .int 0, .int 0, .int 0])), (t66, .inl (cyI, 12, .inl (va_cpy (fun _ => (-1)) (fun _ => (-1)) 0 0 12))), (t67, .inl (cyI, 12, .inl (va_cpy (fun _ => 0) (fun _ => 0) 0 0 12))), (t68, .inl (cyI, 12, .inl (va_cpy (fun _ => 0) (fun _ => 0) 0 0 12))), (t69, .inl (cyI, 30, .inl (va_cpy (fun _ => 0) (fun _ => 0) 0 0 30)))]) C wd_298 wd_237 wd_238 wd_239 4 9 1 rfl rfl rfl (by decide) (by decide) (by decide) (by decide) (by decide) (by decide) (by decide) (by decide) (by decide) (Nat.le_of_ble_eq_true rfl) dX7_copy_57 rfl ?_
  refine j_aload_n (pc := 60) C dX7_copy_60 rfl 0 rfl ?_
  refine j_aload_n (pc := 61) C dX7_copy_61 rfl 1 rfl ?_
  refine j_get (pc := 62) (ci := 7) (v := .int 0) C inw_7 0 rfl rfl 4 (by decide) wd_231 rfl rfl dX7_copy_62 ?_
  refine j_put (pc := 65) (ci := 7) (v := .int 0) (ws' := [(t32, .inr (7, [.ref t33, .ref t34, .ref t35, .ref t36, .int 0, .int 0, .int 0])), (t33, .inl (cyI, 12, .inl (fun _ => (-1)))), (t34, .inl (cyI, 12, .inl (fun _ => 0))), (t35, .inl (cyI, 12, .inl (fun _ => 0))), (t36, .inl (cyI, 30, .inl (fun _ => 0))), (t65, .inr (7, [.ref t66, .ref t67, .ref t68, .ref t69, .int 0, .int 0, .int 0])), (t66, .inl (cyI, 12, .inl (va_cpy (fun _ => (-1)) (fun _ => (-1)) 0 0 12))), (t67, .inl (cyI, 12, .inl (va_cpy (fun _ => 0) (fun _ => 0) 0 0 12))), (t68, .inl (cyI, 12, .inl (va_cpy (fun _ => 0) (fun _ => 0) 0 0 12))), (t69, .inl (cyI, 30, .inl (va_cpy (fun _ => 0) (fun _ => 0) 0 0 30)))]) C inw_7 5 rfl rfl 4 (by decide) wd_231 rfl tyX7_ok nmX7 rfl (tyX7_ok 4 (by decide)) rfl rfl (Nat.le_of_ble_eq_true rfl) dX7_copy_65 rfl ?_
  refine j_aload_n (pc := 68) C dX7_copy_68 rfl 0 rfl ?_
  refine j_aload_n (pc := 69) C dX7_copy_69 rfl 1 rfl ?_
  refine j_get (pc := 70) (ci := 7) (v := .int 0) C inw_7 0 rfl rfl 5 (by decide) wd_299 rfl rfl dX7_copy_70 ?_
  refine j_put (pc := 73) (ci := 7) (v := .int 0) (ws' := [(t32, .inr (7, [.ref t33, .ref t34, .ref t35, .ref t36, .int 0, .int 0, .int 0])), (t33, .inl (cyI, 12, .inl (fun _ => (-1)))), (t34, .inl (cyI, 12, .inl (fun _ => 0))), (t35, .inl (cyI, 12, .inl (fun _ => 0))), (t36, .inl (cyI, 30, .inl (fun _ => 0))), (t65, .inr (7, [.ref t66, .ref t67, .ref t68, .ref t69, .int 0, .int 0, .int 0])), (t66, .inl (cyI, 12, .inl (va_cpy (fun _ => (-1)) (fun _ => (-1)) 0 0 12))), (t67, .inl (cyI, 12, .inl (va_cpy (fun _ => 0) (fun _ => 0) 0 0 12))), (t68, .inl (cyI, 12, .inl (va_cpy (fun _ => 0) (fun _ => 0) 0 0 12))), (t69, .inl (cyI, 30, .inl (va_cpy (fun _ => 0) (fun _ => 0) 0 0 30)))]) C inw_7 5 rfl rfl 5 (by decide) wd_299 rfl tyX7_ok nmX7 rfl (tyX7_ok 5 (by decide)) rfl rfl (Nat.le_of_ble_eq_true rfl) dX7_copy_73 rfl ?_
  exact j_vret (pc := 76) C hr hk (fun i => [].getD i 0, fun _ => 0, fun _ _ => 0) rfl trivial [0, 1, 2, 3, 4, 5, 6, 7, 8, 9] (by decide) rfl (by decide) (by decide) dX7_copy_76
set_option maxHeartbeats 4000000 in
set_option maxRecDepth 100000 in
theorem c_X7_copy_2 (l : Launch) (D : va_G) (cyC cyI cyJ cyZ cyO : ClassId) (t70 : Nat) (t32 : Nat) (t33 : Nat) (t34 : Nat) (t35 : Nat) (t36 : Nat) (t71 : Nat) (t72 : Nat) (t73 : Nat) (t74 : Nat) : KK l D (TY cyC cyI cyJ cyZ cyO) yX7_copy cX7_copy 2 none ({ frames := 1, cells := 0, slots := 0, locals := 18 } : Room) 0 0 [.ref t70, .ref t32] [(t32, .inr (7, [.ref t33, .ref t34, .ref t35, .ref t36, .int 0, .int 0, .int 0])), (t33, .inl (cyI, 12, .inl (fun _ => (-1)))), (t34, .inl (cyI, 12, .inl (fun _ => 0))), (t35, .inl (cyI, 12, .inl (fun _ => 0))), (t36, .inl (cyI, 30, .inl (fun _ => 0))), (t70, .inr (7, [.ref t71, .ref t72, .ref t73, .ref t74, .int 0, .int 0, .int 0])), (t71, .inl (cyI, 12, .inl (fun _ => (-1)))), (t72, .inl (cyI, 12, .inl (fun _ => 0))), (t73, .inl (cyI, 12, .inl (fun _ => 0))), (t74, .inl (cyI, 30, .inl (fun _ => 0)))] (fun u => none) (fun u => True) (fun u => [(t32, .inr (7, [.ref t33, .ref t34, .ref t35, .ref t36, .int 0, .int 0, .int 0])), (t33, .inl (cyI, 12, .inl (fun _ => (-1)))), (t34, .inl (cyI, 12, .inl (fun _ => 0))), (t35, .inl (cyI, 12, .inl (fun _ => 0))), (t36, .inl (cyI, 30, .inl (fun _ => 0))), (t70, .inr (7, [.ref t71, .ref t72, .ref t73, .ref t74, .int 0, .int 0, .int 0])), (t71, .inl (cyI, 12, .inl (va_cpy (fun _ => (-1)) (fun _ => (-1)) 0 0 12))), (t72, .inl (cyI, 12, .inl (va_cpy (fun _ => 0) (fun _ => 0) 0 0 12))), (t73, .inl (cyI, 12, .inl (va_cpy (fun _ => 0) (fun _ => 0) 0 0 12))), (t74, .inl (cyI, 30, .inl (va_cpy (fun _ => 0) (fun _ => 0) 0 0 30)))]) := by
  refine KK.of (lv0 := [(0, .ref t70), (1, .ref t32)]) (by decide) rfl (Nat.le_of_ble_eq_true rfl) ?_
  intro p e s m args below meth c A C hr hk hin
  refine j_aload_n (pc := 0) C dX7_copy_0 rfl 1 rfl ?_
  refine j_get (pc := 1) (ci := 7) (v := .ref t33) C inw_7 0 rfl rfl 0 (by decide) wd_44 rfl rfl dX7_copy_1 ?_
  refine j_iconst (pc := 4) (v := 0) C dX7_copy_4 (by decide) ?_
  refine j_aload_n (pc := 5) C dX7_copy_5 rfl 0 rfl ?_
  refine j_get (pc := 6) (ci := 7) (v := .ref t71) C inw_7 5 rfl rfl 0 (by decide) wd_44 rfl rfl dX7_copy_6 ?_
  refine j_iconst (pc := 9) (v := 0) C dX7_copy_9 (by decide) ?_
  refine j_bipush (pc := 10) (v := 12) C dX7_copy_10 (by decide) ?_
  refine j_acpy (pc := 12) (ks := 0) (kd := 0) (kn := 12) (ws' := [(t32, .inr (7, [.ref t33, .ref t34, .ref t35, .ref t36, .int 0, .int 0, .int 0])), (t33, .inl (cyI, 12, .inl (fun _ => (-1)))), (t34, .inl (cyI, 12, .inl (fun _ => 0))), (t35, .inl (cyI, 12, .inl (fun _ => 0))), (t36, .inl (cyI, 30, .inl (fun _ => 0))), (t70, .inr (7, [.ref t71, .ref t72, .ref t73, .ref t74, .int 0, .int 0, .int 0])), (t71, .inl (cyI, 12, .inl (va_cpy (fun _ => (-1)) (fun _ => (-1)) 0 0 12))), (t72, .inl (cyI, 12, .inl (fun _ => 0))), (t73, .inl (cyI, 12, .inl (fun _ => 0))), (t74, .inl (cyI, 30, .inl (fun _ => 0)))]) C wd_298 wd_237 wd_238 wd_239 1 6 1 rfl rfl rfl (by decide) (by decide) (by decide) (by decide) (by decide) (by decide) (by decide) (by decide) (by decide) (Nat.le_of_ble_eq_true rfl) dX7_copy_12 rfl ?_
  refine j_aload_n (pc := 15) C dX7_copy_15 rfl 1 rfl ?_
  refine j_get (pc := 16) (ci := 7) (v := .ref t34) C inw_7 0 rfl rfl 1 (by decide) wd_45 rfl rfl dX7_copy_16 ?_
  refine j_iconst (pc := 19) (v := 0) C dX7_copy_19 (by decide) ?_
  refine j_aload_n (pc := 20) C dX7_copy_20 rfl 0 rfl ?_
  refine j_get (pc := 21) (ci := 7) (v := .ref t72) C inw_7 5 rfl rfl 1 (by decide) wd_45 rfl rfl dX7_copy_21 ?_
  refine j_iconst (pc := 24) (v := 0) C dX7_copy_24 (by decide) ?_
  refine j_bipush (pc := 25) (v := 12) C dX7_copy_25 (by decide) ?_
  refine j_acpy (pc := 27) (ks := 0) (kd := 0) (kn := 12) (ws' := [(t32, .inr (7, [.ref t33, .ref t34, .ref t35, .ref t36, .int 0, .int 0, .int 0])), (t33, .inl (cyI, 12, .inl (fun _ => (-1)))), (t34, .inl (cyI, 12, .inl (fun _ => 0))), (t35, .inl (cyI, 12, .inl (fun _ => 0))), (t36, .inl (cyI, 30, .inl (fun _ => 0))), (t70, .inr (7, [.ref t71, .ref t72, .ref t73, .ref t74, .int 0, .int 0, .int 0])), (t71, .inl (cyI, 12, .inl (va_cpy (fun _ => (-1)) (fun _ => (-1)) 0 0 12))), (t72, .inl (cyI, 12, .inl (va_cpy (fun _ => 0) (fun _ => 0) 0 0 12))), (t73, .inl (cyI, 12, .inl (fun _ => 0))), (t74, .inl (cyI, 30, .inl (fun _ => 0)))]) C wd_298 wd_237 wd_238 wd_239 2 7 1 rfl rfl rfl (by decide) (by decide) (by decide) (by decide) (by decide) (by decide) (by decide) (by decide) (by decide) (Nat.le_of_ble_eq_true rfl) dX7_copy_27 rfl ?_
  refine j_aload_n (pc := 30) C dX7_copy_30 rfl 1 rfl ?_
  refine j_get (pc := 31) (ci := 7) (v := .ref t35) C inw_7 0 rfl rfl 2 (by decide) wd_46 rfl rfl dX7_copy_31 ?_
  refine j_iconst (pc := 34) (v := 0) C dX7_copy_34 (by decide) ?_
  refine j_aload_n (pc := 35) C dX7_copy_35 rfl 0 rfl ?_
  refine j_get (pc := 36) (ci := 7) (v := .ref t73) C inw_7 5 rfl rfl 2 (by decide) wd_46 rfl rfl dX7_copy_36 ?_
  refine j_iconst (pc := 39) (v := 0) C dX7_copy_39 (by decide) ?_
  refine j_bipush (pc := 40) (v := 12) C dX7_copy_40 (by decide) ?_
  refine j_acpy (pc := 42) (ks := 0) (kd := 0) (kn := 12) (ws' := [(t32, .inr (7, [.ref t33, .ref t34, .ref t35, .ref t36, .int 0, .int 0, .int 0])), (t33, .inl (cyI, 12, .inl (fun _ => (-1)))), (t34, .inl (cyI, 12, .inl (fun _ => 0))), (t35, .inl (cyI, 12, .inl (fun _ => 0))), (t36, .inl (cyI, 30, .inl (fun _ => 0))), (t70, .inr (7, [.ref t71, .ref t72, .ref t73, .ref t74, .int 0, .int 0, .int 0])), (t71, .inl (cyI, 12, .inl (va_cpy (fun _ => (-1)) (fun _ => (-1)) 0 0 12))), (t72, .inl (cyI, 12, .inl (va_cpy (fun _ => 0) (fun _ => 0) 0 0 12))), (t73, .inl (cyI, 12, .inl (va_cpy (fun _ => 0) (fun _ => 0) 0 0 12))), (t74, .inl (cyI, 30, .inl (fun _ => 0)))]) C wd_298 wd_237 wd_238 wd_239 3 8 1 rfl rfl rfl (by decide) (by decide) (by decide) (by decide) (by decide) (by decide) (by decide) (by decide) (by decide) (Nat.le_of_ble_eq_true rfl) dX7_copy_42 rfl ?_
  refine j_aload_n (pc := 45) C dX7_copy_45 rfl 1 rfl ?_
  refine j_get (pc := 46) (ci := 7) (v := .ref t36) C inw_7 0 rfl rfl 3 (by decide) wd_47 rfl rfl dX7_copy_46 ?_
  refine j_iconst (pc := 49) (v := 0) C dX7_copy_49 (by decide) ?_
  refine j_aload_n (pc := 50) C dX7_copy_50 rfl 0 rfl ?_
  refine j_get (pc := 51) (ci := 7) (v := .ref t74) C inw_7 5 rfl rfl 3 (by decide) wd_47 rfl rfl dX7_copy_51 ?_
  refine j_iconst (pc := 54) (v := 0) C dX7_copy_54 (by decide) ?_
  refine j_bipush (pc := 55) (v := 30) C dX7_copy_55 (by decide) ?_
  refine j_acpy (pc := 57) (ks := 0) (kd := 0) (kn := 30) (ws' := [(t32, .inr (7, [.ref t33, .ref t34, .ref t35, .ref t36, .int 0, .int 0, .int 0])), (t33, .inl (cyI, 12, .inl (fun _ => (-1)))), (t34, .inl (cyI, 12, .inl (fun _ => 0))), (t35, .inl (cyI, 12, .inl (fun _ => 0))), (t36, .inl (cyI, 30, .inl (fun _ => 0))), (t70, .inr (7, [.ref t71, .ref t72, .ref t73, .ref t74, .int 0, .int 0, .int 0])), (t71, .inl (cyI, 12, .inl (va_cpy (fun _ => (-1)) (fun _ => (-1)) 0 0 12))), (t72, .inl (cyI, 12, .inl (va_cpy (fun _ => 0) (fun _ => 0) 0 0 12))), (t73, .inl (cyI, 12, .inl (va_cpy (fun _ => 0) (fun _ => 0) 0 0 12))), (t74, .inl (cyI, 30, .inl (va_cpy (fun _ => 0) (fun _ => 0) 0 0 30)))]) C wd_298 wd_237 wd_238 wd_239 4 9 1 rfl rfl rfl (by decide) (by decide) (by decide) (by decide) (by decide) (by decide) (by decide) (by decide) (by decide) (Nat.le_of_ble_eq_true rfl) dX7_copy_57 rfl ?_
  refine j_aload_n (pc := 60) C dX7_copy_60 rfl 0 rfl ?_
  refine j_aload_n (pc := 61) C dX7_copy_61 rfl 1 rfl ?_
  refine j_get (pc := 62) (ci := 7) (v := .int 0) C inw_7 0 rfl rfl 4 (by decide) wd_231 rfl rfl dX7_copy_62 ?_
  refine j_put (pc := 65) (ci := 7) (v := .int 0) (ws' := [(t32, .inr (7, [.ref t33, .ref t34, .ref t35, .ref t36, .int 0, .int 0, .int 0])), (t33, .inl (cyI, 12, .inl (fun _ => (-1)))), (t34, .inl (cyI, 12, .inl (fun _ => 0))), (t35, .inl (cyI, 12, .inl (fun _ => 0))), (t36, .inl (cyI, 30, .inl (fun _ => 0))), (t70, .inr (7, [.ref t71, .ref t72, .ref t73, .ref t74, .int 0, .int 0, .int 0])), (t71, .inl (cyI, 12, .inl (va_cpy (fun _ => (-1)) (fun _ => (-1)) 0 0 12))), (t72, .inl (cyI, 12, .inl (va_cpy (fun _ => 0) (fun _ => 0) 0 0 12))), (t73, .inl (cyI, 12, .inl (va_cpy (fun _ => 0) (fun _ => 0) 0 0 12))), (t74, .inl (cyI, 30, .inl (va_cpy (fun _ => 0) (fun _ => 0) 0 0 30)))]) C inw_7 5 rfl rfl 4 (by decide) wd_231 rfl tyX7_ok nmX7 rfl (tyX7_ok 4 (by decide)) rfl rfl (Nat.le_of_ble_eq_true rfl) dX7_copy_65 rfl ?_
  refine j_aload_n (pc := 68) C dX7_copy_68 rfl 0 rfl ?_
  refine j_aload_n (pc := 69) C dX7_copy_69 rfl 1 rfl ?_
  refine j_get (pc := 70) (ci := 7) (v := .int 0) C inw_7 0 rfl rfl 5 (by decide) wd_299 rfl rfl dX7_copy_70 ?_
  refine j_put (pc := 73) (ci := 7) (v := .int 0) (ws' := [(t32, .inr (7, [.ref t33, .ref t34, .ref t35, .ref t36, .int 0, .int 0, .int 0])), (t33, .inl (cyI, 12, .inl (fun _ => (-1)))), (t34, .inl (cyI, 12, .inl (fun _ => 0))), (t35, .inl (cyI, 12, .inl (fun _ => 0))), (t36, .inl (cyI, 30, .inl (fun _ => 0))), (t70, .inr (7, [.ref t71, .ref t72, .ref t73, .ref t74, .int 0, .int 0, .int 0])), (t71, .inl (cyI, 12, .inl (va_cpy (fun _ => (-1)) (fun _ => (-1)) 0 0 12))), (t72, .inl (cyI, 12, .inl (va_cpy (fun _ => 0) (fun _ => 0) 0 0 12))), (t73, .inl (cyI, 12, .inl (va_cpy (fun _ => 0) (fun _ => 0) 0 0 12))), (t74, .inl (cyI, 30, .inl (va_cpy (fun _ => 0) (fun _ => 0) 0 0 30)))]) C inw_7 5 rfl rfl 5 (by decide) wd_299 rfl tyX7_ok nmX7 rfl (tyX7_ok 5 (by decide)) rfl rfl (Nat.le_of_ble_eq_true rfl) dX7_copy_73 rfl ?_
  exact j_vret (pc := 76) C hr hk (fun i => [].getD i 0, fun _ => 0, fun _ _ => 0) rfl trivial [0, 1, 2, 3, 4, 5, 6, 7, 8, 9] (by decide) rfl (by decide) (by decide) dX7_copy_76
set_option maxHeartbeats 4000000 in
set_option maxRecDepth 100000 in
theorem c_X7_copy_3 (l : Launch) (D : va_G) (cyC cyI cyJ cyZ cyO : ClassId) (t75 : Nat) (t32 : Nat) (t33 : Nat) (t34 : Nat) (t35 : Nat) (t36 : Nat) (t76 : Nat) (t77 : Nat) (t78 : Nat) (t79 : Nat) : KK l D (TY cyC cyI cyJ cyZ cyO) yX7_copy cX7_copy 2 none ({ frames := 1, cells := 0, slots := 0, locals := 18 } : Room) 0 0 [.ref t75, .ref t32] [(t32, .inr (7, [.ref t33, .ref t34, .ref t35, .ref t36, .int 0, .int 0, .int 0])), (t33, .inl (cyI, 12, .inl (fun _ => (-1)))), (t34, .inl (cyI, 12, .inl (fun _ => 0))), (t35, .inl (cyI, 12, .inl (fun _ => 0))), (t36, .inl (cyI, 30, .inl (fun _ => 0))), (t75, .inr (7, [.ref t76, .ref t77, .ref t78, .ref t79, .int 0, .int 0, .int 0])), (t76, .inl (cyI, 12, .inl (fun _ => (-1)))), (t77, .inl (cyI, 12, .inl (fun _ => 0))), (t78, .inl (cyI, 12, .inl (fun _ => 0))), (t79, .inl (cyI, 30, .inl (fun _ => 0)))] (fun u => none) (fun u => True) (fun u => [(t32, .inr (7, [.ref t33, .ref t34, .ref t35, .ref t36, .int 0, .int 0, .int 0])), (t33, .inl (cyI, 12, .inl (fun _ => (-1)))), (t34, .inl (cyI, 12, .inl (fun _ => 0))), (t35, .inl (cyI, 12, .inl (fun _ => 0))), (t36, .inl (cyI, 30, .inl (fun _ => 0))), (t75, .inr (7, [.ref t76, .ref t77, .ref t78, .ref t79, .int 0, .int 0, .int 0])), (t76, .inl (cyI, 12, .inl (va_cpy (fun _ => (-1)) (fun _ => (-1)) 0 0 12))), (t77, .inl (cyI, 12, .inl (va_cpy (fun _ => 0) (fun _ => 0) 0 0 12))), (t78, .inl (cyI, 12, .inl (va_cpy (fun _ => 0) (fun _ => 0) 0 0 12))), (t79, .inl (cyI, 30, .inl (va_cpy (fun _ => 0) (fun _ => 0) 0 0 30)))]) := by
  refine KK.of (lv0 := [(0, .ref t75), (1, .ref t32)]) (by decide) rfl (Nat.le_of_ble_eq_true rfl) ?_
  intro p e s m args below meth c A C hr hk hin
  refine j_aload_n (pc := 0) C dX7_copy_0 rfl 1 rfl ?_
  refine j_get (pc := 1) (ci := 7) (v := .ref t33) C inw_7 0 rfl rfl 0 (by decide) wd_44 rfl rfl dX7_copy_1 ?_
  refine j_iconst (pc := 4) (v := 0) C dX7_copy_4 (by decide) ?_
  refine j_aload_n (pc := 5) C dX7_copy_5 rfl 0 rfl ?_
  refine j_get (pc := 6) (ci := 7) (v := .ref t76) C inw_7 5 rfl rfl 0 (by decide) wd_44 rfl rfl dX7_copy_6 ?_
  refine j_iconst (pc := 9) (v := 0) C dX7_copy_9 (by decide) ?_
  refine j_bipush (pc := 10) (v := 12) C dX7_copy_10 (by decide) ?_
  refine j_acpy (pc := 12) (ks := 0) (kd := 0) (kn := 12) (ws' := [(t32, .inr (7, [.ref t33, .ref t34, .ref t35, .ref t36, .int 0, .int 0, .int 0])), (t33, .inl (cyI, 12, .inl (fun _ => (-1)))), (t34, .inl (cyI, 12, .inl (fun _ => 0))), (t35, .inl (cyI, 12, .inl (fun _ => 0))), (t36, .inl (cyI, 30, .inl (fun _ => 0))), (t75, .inr (7, [.ref t76, .ref t77, .ref t78, .ref t79, .int 0, .int 0, .int 0])), (t76, .inl (cyI, 12, .inl (va_cpy (fun _ => (-1)) (fun _ => (-1)) 0 0 12))), (t77, .inl (cyI, 12, .inl (fun _ => 0))), (t78, .inl (cyI, 12, .inl (fun _ => 0))), (t79, .inl (cyI, 30, .inl (fun _ => 0)))]) C wd_298 wd_237 wd_238 wd_239 1 6 1 rfl rfl rfl (by decide) (by decide) (by decide) (by decide) (by decide) (by decide) (by decide) (by decide) (by decide) (Nat.le_of_ble_eq_true rfl) dX7_copy_12 rfl ?_
  refine j_aload_n (pc := 15) C dX7_copy_15 rfl 1 rfl ?_
  refine j_get (pc := 16) (ci := 7) (v := .ref t34) C inw_7 0 rfl rfl 1 (by decide) wd_45 rfl rfl dX7_copy_16 ?_
  refine j_iconst (pc := 19) (v := 0) C dX7_copy_19 (by decide) ?_
  refine j_aload_n (pc := 20) C dX7_copy_20 rfl 0 rfl ?_
  refine j_get (pc := 21) (ci := 7) (v := .ref t77) C inw_7 5 rfl rfl 1 (by decide) wd_45 rfl rfl dX7_copy_21 ?_
  refine j_iconst (pc := 24) (v := 0) C dX7_copy_24 (by decide) ?_
  refine j_bipush (pc := 25) (v := 12) C dX7_copy_25 (by decide) ?_
  refine j_acpy (pc := 27) (ks := 0) (kd := 0) (kn := 12) (ws' := [(t32, .inr (7, [.ref t33, .ref t34, .ref t35, .ref t36, .int 0, .int 0, .int 0])), (t33, .inl (cyI, 12, .inl (fun _ => (-1)))), (t34, .inl (cyI, 12, .inl (fun _ => 0))), (t35, .inl (cyI, 12, .inl (fun _ => 0))), (t36, .inl (cyI, 30, .inl (fun _ => 0))), (t75, .inr (7, [.ref t76, .ref t77, .ref t78, .ref t79, .int 0, .int 0, .int 0])), (t76, .inl (cyI, 12, .inl (va_cpy (fun _ => (-1)) (fun _ => (-1)) 0 0 12))), (t77, .inl (cyI, 12, .inl (va_cpy (fun _ => 0) (fun _ => 0) 0 0 12))), (t78, .inl (cyI, 12, .inl (fun _ => 0))), (t79, .inl (cyI, 30, .inl (fun _ => 0)))]) C wd_298 wd_237 wd_238 wd_239 2 7 1 rfl rfl rfl (by decide) (by decide) (by decide) (by decide) (by decide) (by decide) (by decide) (by decide) (by decide) (Nat.le_of_ble_eq_true rfl) dX7_copy_27 rfl ?_
  refine j_aload_n (pc := 30) C dX7_copy_30 rfl 1 rfl ?_
  refine j_get (pc := 31) (ci := 7) (v := .ref t35) C inw_7 0 rfl rfl 2 (by decide) wd_46 rfl rfl dX7_copy_31 ?_
  refine j_iconst (pc := 34) (v := 0) C dX7_copy_34 (by decide) ?_
  refine j_aload_n (pc := 35) C dX7_copy_35 rfl 0 rfl ?_
  refine j_get (pc := 36) (ci := 7) (v := .ref t78) C inw_7 5 rfl rfl 2 (by decide) wd_46 rfl rfl dX7_copy_36 ?_
  refine j_iconst (pc := 39) (v := 0) C dX7_copy_39 (by decide) ?_
  refine j_bipush (pc := 40) (v := 12) C dX7_copy_40 (by decide) ?_
  refine j_acpy (pc := 42) (ks := 0) (kd := 0) (kn := 12) (ws' := [(t32, .inr (7, [.ref t33, .ref t34, .ref t35, .ref t36, .int 0, .int 0, .int 0])), (t33, .inl (cyI, 12, .inl (fun _ => (-1)))), (t34, .inl (cyI, 12, .inl (fun _ => 0))), (t35, .inl (cyI, 12, .inl (fun _ => 0))), (t36, .inl (cyI, 30, .inl (fun _ => 0))), (t75, .inr (7, [.ref t76, .ref t77, .ref t78, .ref t79, .int 0, .int 0, .int 0])), (t76, .inl (cyI, 12, .inl (va_cpy (fun _ => (-1)) (fun _ => (-1)) 0 0 12))), (t77, .inl (cyI, 12, .inl (va_cpy (fun _ => 0) (fun _ => 0) 0 0 12))), (t78, .inl (cyI, 12, .inl (va_cpy (fun _ => 0) (fun _ => 0) 0 0 12))), (t79, .inl (cyI, 30, .inl (fun _ => 0)))]) C wd_298 wd_237 wd_238 wd_239 3 8 1 rfl rfl rfl (by decide) (by decide) (by decide) (by decide) (by decide) (by decide) (by decide) (by decide) (by decide) (Nat.le_of_ble_eq_true rfl) dX7_copy_42 rfl ?_
  refine j_aload_n (pc := 45) C dX7_copy_45 rfl 1 rfl ?_
  refine j_get (pc := 46) (ci := 7) (v := .ref t36) C inw_7 0 rfl rfl 3 (by decide) wd_47 rfl rfl dX7_copy_46 ?_
  refine j_iconst (pc := 49) (v := 0) C dX7_copy_49 (by decide) ?_
  refine j_aload_n (pc := 50) C dX7_copy_50 rfl 0 rfl ?_
  refine j_get (pc := 51) (ci := 7) (v := .ref t79) C inw_7 5 rfl rfl 3 (by decide) wd_47 rfl rfl dX7_copy_51 ?_
  refine j_iconst (pc := 54) (v := 0) C dX7_copy_54 (by decide) ?_
  refine j_bipush (pc := 55) (v := 30) C dX7_copy_55 (by decide) ?_
  refine j_acpy (pc := 57) (ks := 0) (kd := 0) (kn := 30) (ws' := [(t32, .inr (7, [.ref t33, .ref t34, .ref t35, .ref t36, .int 0, .int 0, .int 0])), (t33, .inl (cyI, 12, .inl (fun _ => (-1)))), (t34, .inl (cyI, 12, .inl (fun _ => 0))), (t35, .inl (cyI, 12, .inl (fun _ => 0))), (t36, .inl (cyI, 30, .inl (fun _ => 0))), (t75, .inr (7, [.ref t76, .ref t77, .ref t78, .ref t79, .int 0, .int 0, .int 0])), (t76, .inl (cyI, 12, .inl (va_cpy (fun _ => (-1)) (fun _ => (-1)) 0 0 12))), (t77, .inl (cyI, 12, .inl (va_cpy (fun _ => 0) (fun _ => 0) 0 0 12))), (t78, .inl (cyI, 12, .inl (va_cpy (fun _ => 0) (fun _ => 0) 0 0 12))), (t79, .inl (cyI, 30, .inl (va_cpy (fun _ => 0) (fun _ => 0) 0 0 30)))]) C wd_298 wd_237 wd_238 wd_239 4 9 1 rfl rfl rfl (by decide) (by decide) (by decide) (by decide) (by decide) (by decide) (by decide) (by decide) (by decide) (Nat.le_of_ble_eq_true rfl) dX7_copy_57 rfl ?_
  refine j_aload_n (pc := 60) C dX7_copy_60 rfl 0 rfl ?_
  refine j_aload_n (pc := 61) C dX7_copy_61 rfl 1 rfl ?_
  refine j_get (pc := 62) (ci := 7) (v := .int 0) C inw_7 0 rfl rfl 4 (by decide) wd_231 rfl rfl dX7_copy_62 ?_
  refine j_put (pc := 65) (ci := 7) (v := .int 0) (ws' := [(t32, .inr (7, [.ref t33, .ref t34, .ref t35, .ref t36, .int 0, .int 0, .int 0])), (t33, .inl (cyI, 12, .inl (fun _ => (-1)))), (t34, .inl (cyI, 12, .inl (fun _ => 0))), (t35, .inl (cyI, 12, .inl (fun _ => 0))), (t36, .inl (cyI, 30, .inl (fun _ => 0))), (t75, .inr (7, [.ref t76, .ref t77, .ref t78, .ref t79, .int 0, .int 0, .int 0])), (t76, .inl (cyI, 12, .inl (va_cpy (fun _ => (-1)) (fun _ => (-1)) 0 0 12))), (t77, .inl (cyI, 12, .inl (va_cpy (fun _ => 0) (fun _ => 0) 0 0 12))), (t78, .inl (cyI, 12, .inl (va_cpy (fun _ => 0) (fun _ => 0) 0 0 12))), (t79, .inl (cyI, 30, .inl (va_cpy (fun _ => 0) (fun _ => 0) 0 0 30)))]) C inw_7 5 rfl rfl 4 (by decide) wd_231 rfl tyX7_ok nmX7 rfl (tyX7_ok 4 (by decide)) rfl rfl (Nat.le_of_ble_eq_true rfl) dX7_copy_65 rfl ?_
  refine j_aload_n (pc := 68) C dX7_copy_68 rfl 0 rfl ?_
  refine j_aload_n (pc := 69) C dX7_copy_69 rfl 1 rfl ?_
  refine j_get (pc := 70) (ci := 7) (v := .int 0) C inw_7 0 rfl rfl 5 (by decide) wd_299 rfl rfl dX7_copy_70 ?_
  refine j_put (pc := 73) (ci := 7) (v := .int 0) (ws' := [(t32, .inr (7, [.ref t33, .ref t34, .ref t35, .ref t36, .int 0, .int 0, .int 0])), (t33, .inl (cyI, 12, .inl (fun _ => (-1)))), (t34, .inl (cyI, 12, .inl (fun _ => 0))), (t35, .inl (cyI, 12, .inl (fun _ => 0))), (t36, .inl (cyI, 30, .inl (fun _ => 0))), (t75, .inr (7, [.ref t76, .ref t77, .ref t78, .ref t79, .int 0, .int 0, .int 0])), (t76, .inl (cyI, 12, .inl (va_cpy (fun _ => (-1)) (fun _ => (-1)) 0 0 12))), (t77, .inl (cyI, 12, .inl (va_cpy (fun _ => 0) (fun _ => 0) 0 0 12))), (t78, .inl (cyI, 12, .inl (va_cpy (fun _ => 0) (fun _ => 0) 0 0 12))), (t79, .inl (cyI, 30, .inl (va_cpy (fun _ => 0) (fun _ => 0) 0 0 30)))]) C inw_7 5 rfl rfl 5 (by decide) wd_299 rfl tyX7_ok nmX7 rfl (tyX7_ok 5 (by decide)) rfl rfl (Nat.le_of_ble_eq_true rfl) dX7_copy_73 rfl ?_
  exact j_vret (pc := 76) C hr hk (fun i => [].getD i 0, fun _ => 0, fun _ _ => 0) rfl trivial [0, 1, 2, 3, 4, 5, 6, 7, 8, 9] (by decide) rfl (by decide) (by decide) dX7_copy_76
theorem br_lef_le2 {x : Int32} (h : ¬ 4 ≤ x) : x ≤ 3 := by
  simp only [i_le] at *; have h4 : (4 : Int32).toInt = 4 := rfl; have h3 : (3 : Int32).toInt = 3 := rfl; omega
set_option maxHeartbeats 4000000 in
set_option maxRecDepth 100000 in
theorem c_X10_mark (l : Launch) (D : va_G) (cyC cyI cyJ cyZ cyO : ClassId) (p0 : Int32) (p1 : Int32) (t0 : Nat) (t1 : Nat) (t21 : Nat) (t32 : Nat) (t37 : Nat) (t42 : Nat) (t43 : Nat) (t45 : Nat) (t50 : Nat) (t54 : Nat) (t58 : Nat) (t33 : Nat) (t34 : Nat) (t35 : Nat) (t36 : Nat) (t60 : Nat) (t65 : Nat) (t70 : Nat) (t75 : Nat) (t61 : Nat) (t62 : Nat) (t63 : Nat) (t64 : Nat) (t66 : Nat) (t67 : Nat) (t68 : Nat) (t69 : Nat) (t71 : Nat) (t72 : Nat) (t73 : Nat) (t74 : Nat) (t76 : Nat) (t77 : Nat) (t78 : Nat) (t79 : Nat) : KK l D (TY cyC cyI cyJ cyZ cyO) yX10_mark cX10_mark 3 (some .boolean) ({ frames := 2, cells := 0, slots := 0, locals := 39 } : Room) 0 0 [.ref t0, .int p0, .int p1] [(t0, .inr (10, [.ref t1, .ref t21, .ref t32, .ref t37, .ref t42, .ref t43, .ref t45, .ref t50, .ref t54, .ref t58])), (t32, .inr (7, [.ref t33, .ref t34, .ref t35, .ref t36, .int 0, .int 0, .int 0])), (t33, .inl (cyI, 12, .inl (fun _ => (-1)))), (t34, .inl (cyI, 12, .inl (fun _ => 0))), (t35, .inl (cyI, 12, .inl (fun _ => 0))), (t36, .inl (cyI, 30, .inl (fun _ => 0))), (t42, .inl (cyO, 4, .inr (.inr (.inr (.inr (va_up (va_up (va_up (va_up (fun _ => none) 0 (some t60)) 1 (some t65)) 2 (some t70)) 3 (some t75))))))), (t60, .inr (7, [.ref t61, .ref t62, .ref t63, .ref t64, .int 0, .int 0, .int 0])), (t61, .inl (cyI, 12, .inl (fun _ => (-1)))), (t62, .inl (cyI, 12, .inl (fun _ => 0))), (t63, .inl (cyI, 12, .inl (fun _ => 0))), (t64, .inl (cyI, 30, .inl (fun _ => 0))), (t65, .inr (7, [.ref t66, .ref t67, .ref t68, .ref t69, .int 0, .int 0, .int 0])), (t66, .inl (cyI, 12, .inl (fun _ => (-1)))), (t67, .inl (cyI, 12, .inl (fun _ => 0))), (t68, .inl (cyI, 12, .inl (fun _ => 0))), (t69, .inl (cyI, 30, .inl (fun _ => 0))), (t70, .inr (7, [.ref t71, .ref t72, .ref t73, .ref t74, .int 0, .int 0, .int 0])), (t71, .inl (cyI, 12, .inl (fun _ => (-1)))), (t72, .inl (cyI, 12, .inl (fun _ => 0))), (t73, .inl (cyI, 12, .inl (fun _ => 0))), (t74, .inl (cyI, 30, .inl (fun _ => 0))), (t75, .inr (7, [.ref t76, .ref t77, .ref t78, .ref t79, .int 0, .int 0, .int 0])), (t76, .inl (cyI, 12, .inl (fun _ => (-1)))), (t77, .inl (cyI, 12, .inl (fun _ => 0))), (t78, .inl (cyI, 12, .inl (fun _ => 0))), (t79, .inl (cyI, 30, .inl (fun _ => 0)))] (fun u => some (.int (u.2.1 0))) (fun u => u.2.1 0 = (if 0 ≤ p0 ∧ p0 ≤ 3 ∧ p1 = 0 then 1 else 0)) (fun u => []) := by
  refine KK.of (lv0 := [(0, .ref t0), (1, .int p0), (2, .int p1)]) (by decide) rfl (Nat.le_of_ble_eq_true rfl) ?_
  intro p e s m args below meth c A C hr hk hin
  refine j_iload_n (pc := 0) C dX10_mark_0 rfl 1 rfl ?_
  refine j_if_lt (pc := 1) (tgt := 25) C dX10_mark_1 (by decide) (fun c_1 => ?_) (fun c_1 => ?_)
  · skip
    refine j_iconst (pc := 25) (v := 0) C dX10_mark_25 (by decide) ?_
    exact j_zret (pc := 26) C hr rfl hk (fun _ => 0, fun _ => 0, fun _ _ => 0) rfl (by show (0 : Int32) = (if 0 ≤ p0 ∧ p0 ≤ 3 ∧ p1 = 0 then 1 else 0); have e0 : (0 : Int32).toInt = 0 := rfl; have e3 : (3 : Int32).toInt = 3 := rfl; exact if hE : 0 ≤ p0 ∧ p0 ≤ 3 ∧ p1 = 0 then (by first | exact (if_pos hE).symm | (exfalso; simp only [i_lt, i_le, i_eq] at hE c_1; omega)) else (by first | exact (if_neg hE).symm | (exfalso; simp only [i_lt, i_le, i_eq] at hE c_1; omega))) [] (by decide) rfl (by decide) (by decide) dX10_mark_26
  · skip
    refine j_iload_n (pc := 4) C dX10_mark_4 rfl 1 rfl ?_
    refine j_iconst (pc := 5) (v := 4) C dX10_mark_5 (by decide) ?_
    refine j_icmp_ge (pc := 6) (tgt := 25) C dX10_mark_6 (by decide) (fun c_2 => ?_) (fun c_2 => ?_)
    · skip
      refine j_iconst (pc := 25) (v := 0) C dX10_mark_25 (by decide) ?_
      exact j_zret (pc := 26) C hr rfl hk (fun _ => 0, fun _ => 0, fun _ _ => 0) rfl (by show (0 : Int32) = (if 0 ≤ p0 ∧ p0 ≤ 3 ∧ p1 = 0 then 1 else 0); have e0 : (0 : Int32).toInt = 0 := rfl; have e3 : (3 : Int32).toInt = 3 := rfl; have e4 : (4 : Int32).toInt = 4 := rfl; exact if hE : 0 ≤ p0 ∧ p0 ≤ 3 ∧ p1 = 0 then (by first | exact (if_pos hE).symm | (exfalso; simp only [i_lt, i_le, i_eq] at hE c_1 c_2; omega)) else (by first | exact (if_neg hE).symm | (exfalso; simp only [i_lt, i_le, i_eq] at hE c_1 c_2; omega))) [] (by decide) rfl (by decide) (by decide) dX10_mark_26
    · skip
      rcases four p0 ⟨br_ltf_ge c_1, br_lef_le2 c_2⟩ with rfl | rfl | rfl | rfl
      · skip
        refine j_iload_n (pc := 9) C dX10_mark_9 rfl 2 rfl ?_
        refine j_if_eq (pc := 10) (tgt := 27) C dX10_mark_10 (by decide) (fun c_3 => ?_) (fun c_3 => ?_)
        · skip
          refine j_iload_n (pc := 27) C dX10_mark_27 rfl 2 rfl ?_
          refine j_if_eq_t (pc := 28) (tgt := 47) C dX10_mark_28 (by decide) (br_eqt_eq c_3) ?_
          refine j_aload_n (pc := 47) C dX10_mark_47 rfl 0 rfl ?_
          refine j_get (pc := 48) (ci := 10) (v := .ref t42) C inw_10 0 rfl rfl 4 (by decide) wd_86 rfl rfl dX10_mark_48 ?_
          refine j_iload_n (pc := 51) C dX10_mark_51 rfl 1 rfl ?_
          refine j_aald (pc := 52) (v := .ref t60) (k := 0) C 6 4 rfl rfl (by decide) (by decide) (by decide) rfl dX10_mark_52 ?_
          refine j_aload_n (pc := 53) C dX10_mark_53 rfl 0 rfl ?_
          refine j_get (pc := 54) (ci := 10) (v := .ref t32) C inw_10 0 rfl rfl 2 (by decide) wd_84 rfl rfl dX10_mark_54 ?_
          refine j_callV (pc := 57) (As := [.ref t32]) (rest := []) (wr := [(t0, .inr (10, [.ref t1, .ref t21, .ref t32, .ref t37, .ref t42, .ref t43, .ref t45, .ref t50, .ref t54, .ref t58])), (t42, .inl (cyO, 4, .inr (.inr (.inr (.inr (va_up (va_up (va_up (va_up (fun _ => none) 0 (some t60)) 1 (some t65)) 2 (some t70)) 3 (some t75))))))), (t65, .inr (7, [.ref t66, .ref t67, .ref t68, .ref t69, .int 0, .int 0, .int 0])), (t66, .inl (cyI, 12, .inl (fun _ => (-1)))), (t67, .inl (cyI, 12, .inl (fun _ => 0))), (t68, .inl (cyI, 12, .inl (fun _ => 0))), (t69, .inl (cyI, 30, .inl (fun _ => 0))), (t70, .inr (7, [.ref t71, .ref t72, .ref t73, .ref t74, .int 0, .int 0, .int 0])), (t71, .inl (cyI, 12, .inl (fun _ => (-1)))), (t72, .inl (cyI, 12, .inl (fun _ => 0))), (t73, .inl (cyI, 12, .inl (fun _ => 0))), (t74, .inl (cyI, 30, .inl (fun _ => 0))), (t75, .inr (7, [.ref t76, .ref t77, .ref t78, .ref t79, .int 0, .int 0, .int 0])), (t76, .inl (cyI, 12, .inl (fun _ => (-1)))), (t77, .inl (cyI, 12, .inl (fun _ => 0))), (t78, .inl (cyI, 12, .inl (fun _ => 0))), (t79, .inl (cyI, 30, .inl (fun _ => 0)))]) C (c_X7_copy_3 l D cyC cyI cyJ cyZ cyO t60 t32 t33 t34 t35 t36 t61 t62 t63 t64) wd_300 wd_80 wd_301 wd_302 wd_303 ⟨by decide, by decide, rfl⟩ rfl ⟨rfl, rfl, by decide, by decide⟩ ⟨by decide, by decide⟩ [1, 2, 3, 4, 5, 7, 8, 9, 10, 11] [0, 6, 12, 13, 14, 15, 16, 17, 18, 19, 20, 21, 22, 23, 24, 25, 26] rfl rfl ⟨by decide, by decide, by decide⟩ 7 rfl rfl rfl (Nat.le_of_ble_eq_true rfl) dX10_mark_57 (fun u_4 hw_5 => ?_)
          refine j_eq (ws2 := [(t0, .inr (10, [.ref t1, .ref t21, .ref t32, .ref t37, .ref t42, .ref t43, .ref t45, .ref t50, .ref t54, .ref t58])), (t42, .inl (cyO, 4, .inr (.inr (.inr (.inr (va_up (va_up (va_up (va_up (fun _ => none) 0 (some t60)) 1 (some t65)) 2 (some t70)) 3 (some t75))))))), (t65, .inr (7, [.ref t66, .ref t67, .ref t68, .ref t69, .int 0, .int 0, .int 0])), (t66, .inl (cyI, 12, .inl (fun _ => (-1)))), (t67, .inl (cyI, 12, .inl (fun _ => 0))), (t68, .inl (cyI, 12, .inl (fun _ => 0))), (t69, .inl (cyI, 30, .inl (fun _ => 0))), (t70, .inr (7, [.ref t71, .ref t72, .ref t73, .ref t74, .int 0, .int 0, .int 0])), (t71, .inl (cyI, 12, .inl (fun _ => (-1)))), (t72, .inl (cyI, 12, .inl (fun _ => 0))), (t73, .inl (cyI, 12, .inl (fun _ => 0))), (t74, .inl (cyI, 30, .inl (fun _ => 0))), (t75, .inr (7, [.ref t76, .ref t77, .ref t78, .ref t79, .int 0, .int 0, .int 0])), (t76, .inl (cyI, 12, .inl (fun _ => (-1)))), (t77, .inl (cyI, 12, .inl (fun _ => 0))), (t78, .inl (cyI, 12, .inl (fun _ => 0))), (t79, .inl (cyI, 30, .inl (fun _ => 0))), (t32, .inr (7, [.ref t33, .ref t34, .ref t35, .ref t36, .int 0, .int 0, .int 0])), (t33, .inl (cyI, 12, .inl (fun _ => (-1)))), (t34, .inl (cyI, 12, .inl (fun _ => 0))), (t35, .inl (cyI, 12, .inl (fun _ => 0))), (t36, .inl (cyI, 30, .inl (fun _ => 0))), (t60, .inr (7, [.ref t61, .ref t62, .ref t63, .ref t64, .int 0, .int 0, .int 0])), (t61, .inl (cyI, 12, .inl (va_cpy (fun _ => (-1)) (fun _ => (-1)) 0 0 12))), (t62, .inl (cyI, 12, .inl (va_cpy (fun _ => 0) (fun _ => 0) 0 0 12))), (t63, .inl (cyI, 12, .inl (va_cpy (fun _ => 0) (fun _ => 0) 0 0 12))), (t64, .inl (cyI, 30, .inl (va_cpy (fun _ => 0) (fun _ => 0) 0 0 30)))]) (pc2 := 60) (lv2 := [(0, .ref t0), (1, .int 0), (2, .int p1)]) (st2 := []) rfl rfl rfl rfl ?_
          refine j_aload_n (pc := 60) C dX10_mark_60 rfl 0 rfl ?_
          refine j_get (pc := 61) (ci := 10) (v := .ref t42) C inw_10 0 rfl rfl 4 (by decide) wd_86 rfl rfl dX10_mark_61 ?_
          refine j_iload_n (pc := 64) C dX10_mark_64 rfl 1 rfl ?_
          refine j_aald (pc := 65) (v := .ref t60) (k := 0) C 1 4 rfl rfl (by decide) (by decide) (by decide) rfl dX10_mark_65 ?_
          refine j_iconst (pc := 66) (v := 1) C dX10_mark_66 (by decide) ?_
          refine j_put (pc := 67) (ci := 7) (v := .int 1) (ws' := [(t0, .inr (10, [.ref t1, .ref t21, .ref t32, .ref t37, .ref t42, .ref t43, .ref t45, .ref t50, .ref t54, .ref t58])), (t42, .inl (cyO, 4, .inr (.inr (.inr (.inr (va_up (va_up (va_up (va_up (fun _ => none) 0 (some t60)) 1 (some t65)) 2 (some t70)) 3 (some t75))))))), (t65, .inr (7, [.ref t66, .ref t67, .ref t68, .ref t69, .int 0, .int 0, .int 0])), (t66, .inl (cyI, 12, .inl (fun _ => (-1)))), (t67, .inl (cyI, 12, .inl (fun _ => 0))), (t68, .inl (cyI, 12, .inl (fun _ => 0))), (t69, .inl (cyI, 30, .inl (fun _ => 0))), (t70, .inr (7, [.ref t71, .ref t72, .ref t73, .ref t74, .int 0, .int 0, .int 0])), (t71, .inl (cyI, 12, .inl (fun _ => (-1)))), (t72, .inl (cyI, 12, .inl (fun _ => 0))), (t73, .inl (cyI, 12, .inl (fun _ => 0))), (t74, .inl (cyI, 30, .inl (fun _ => 0))), (t75, .inr (7, [.ref t76, .ref t77, .ref t78, .ref t79, .int 0, .int 0, .int 0])), (t76, .inl (cyI, 12, .inl (fun _ => (-1)))), (t77, .inl (cyI, 12, .inl (fun _ => 0))), (t78, .inl (cyI, 12, .inl (fun _ => 0))), (t79, .inl (cyI, 30, .inl (fun _ => 0))), (t32, .inr (7, [.ref t33, .ref t34, .ref t35, .ref t36, .int 0, .int 0, .int 0])), (t33, .inl (cyI, 12, .inl (fun _ => (-1)))), (t34, .inl (cyI, 12, .inl (fun _ => 0))), (t35, .inl (cyI, 12, .inl (fun _ => 0))), (t36, .inl (cyI, 30, .inl (fun _ => 0))), (t60, .inr (7, [.ref t61, .ref t62, .ref t63, .ref t64, .int 0, .int 0, .int 1])), (t61, .inl (cyI, 12, .inl (va_cpy (fun _ => (-1)) (fun _ => (-1)) 0 0 12))), (t62, .inl (cyI, 12, .inl (va_cpy (fun _ => 0) (fun _ => 0) 0 0 12))), (t63, .inl (cyI, 12, .inl (va_cpy (fun _ => 0) (fun _ => 0) 0 0 12))), (t64, .inl (cyI, 30, .inl (va_cpy (fun _ => 0) (fun _ => 0) 0 0 30)))]) C inw_7 22 rfl rfl 6 (by decide) wd_252 rfl tyX7_ok nmX7 rfl (tyX7_ok 6 (by decide)) rfl rfl (Nat.le_of_ble_eq_true rfl) dX10_mark_67 rfl ?_
          refine j_iconst (pc := 70) (v := 1) C dX10_mark_70 (by decide) ?_
          exact j_zret (pc := 71) C hr rfl hk (fun _ => 0, fun _ => 1, fun _ _ => 0) rfl (by show (1 : Int32) = (if 0 ≤ (0 : Int32) ∧ (0 : Int32) ≤ 3 ∧ p1 = 0 then 1 else 0); have e0 : (0 : Int32).toInt = 0 := rfl; have e3 : (3 : Int32).toInt = 3 := rfl; exact if hE : 0 ≤ (0 : Int32) ∧ (0 : Int32) ≤ 3 ∧ p1 = 0 then (by first | exact (if_pos hE).symm | (exfalso; simp only [i_lt, i_le, i_eq] at hE c_3; omega)) else (by first | exact (if_neg hE).symm | (exfalso; simp only [i_lt, i_le, i_eq] at hE c_3; omega))) [] (by decide) rfl (by decide) (by decide) dX10_mark_71
        · skip
          refine j_aload_n (pc := 13) C dX10_mark_13 rfl 0 rfl ?_
          refine j_get (pc := 14) (ci := 10) (v := .ref t42) C inw_10 0 rfl rfl 4 (by decide) wd_86 rfl rfl dX10_mark_14 ?_
          refine j_iload_n (pc := 17) C dX10_mark_17 rfl 1 rfl ?_
          refine j_aald (pc := 18) (v := .ref t60) (k := 0) C 6 4 rfl rfl (by decide) (by decide) (by decide) rfl dX10_mark_18 ?_
          refine j_get (pc := 19) (ci := 7) (v := .int 0) C inw_7 7 rfl rfl 6 (by decide) wd_252 rfl rfl dX10_mark_19 ?_
          refine j_if_ne_f (pc := 22) (tgt := 27) C dX10_mark_22 (by decide) (by decide) ?_
          refine j_iconst (pc := 25) (v := 0) C dX10_mark_25 (by decide) ?_
          exact j_zret (pc := 26) C hr rfl hk (fun _ => 0, fun _ => 0, fun _ _ => 0) rfl (by show (0 : Int32) = (if 0 ≤ (0 : Int32) ∧ (0 : Int32) ≤ 3 ∧ p1 = 0 then 1 else 0); have e0 : (0 : Int32).toInt = 0 := rfl; have e3 : (3 : Int32).toInt = 3 := rfl; exact if hE : 0 ≤ (0 : Int32) ∧ (0 : Int32) ≤ 3 ∧ p1 = 0 then (by first | exact (if_pos hE).symm | (exfalso; simp only [i_lt, i_le, i_eq] at hE c_3; omega)) else (by first | exact (if_neg hE).symm | (exfalso; simp only [i_lt, i_le, i_eq] at hE c_3; omega))) [] (by decide) rfl (by decide) (by decide) dX10_mark_26
      · skip
        refine j_iload_n (pc := 9) C dX10_mark_9 rfl 2 rfl ?_
        refine j_if_eq (pc := 10) (tgt := 27) C dX10_mark_10 (by decide) (fun c_6 => ?_) (fun c_6 => ?_)
        · skip
          refine j_iload_n (pc := 27) C dX10_mark_27 rfl 2 rfl ?_
          refine j_if_eq_t (pc := 28) (tgt := 47) C dX10_mark_28 (by decide) (br_eqt_eq c_6) ?_
          refine j_aload_n (pc := 47) C dX10_mark_47 rfl 0 rfl ?_
          refine j_get (pc := 48) (ci := 10) (v := .ref t42) C inw_10 0 rfl rfl 4 (by decide) wd_86 rfl rfl dX10_mark_48 ?_
          refine j_iload_n (pc := 51) C dX10_mark_51 rfl 1 rfl ?_
          refine j_aald (pc := 52) (v := .ref t65) (k := 1) C 6 4 rfl rfl (by decide) (by decide) (by decide) rfl dX10_mark_52 ?_
          refine j_aload_n (pc := 53) C dX10_mark_53 rfl 0 rfl ?_
          refine j_get (pc := 54) (ci := 10) (v := .ref t32) C inw_10 0 rfl rfl 2 (by decide) wd_84 rfl rfl dX10_mark_54 ?_
          refine j_callV (pc := 57) (As := [.ref t32]) (rest := []) (wr := [(t0, .inr (10, [.ref t1, .ref t21, .ref t32, .ref t37, .ref t42, .ref t43, .ref t45, .ref t50, .ref t54, .ref t58])), (t42, .inl (cyO, 4, .inr (.inr (.inr (.inr (va_up (va_up (va_up (va_up (fun _ => none) 0 (some t60)) 1 (some t65)) 2 (some t70)) 3 (some t75))))))), (t60, .inr (7, [.ref t61, .ref t62, .ref t63, .ref t64, .int 0, .int 0, .int 0])), (t61, .inl (cyI, 12, .inl (fun _ => (-1)))), (t62, .inl (cyI, 12, .inl (fun _ => 0))), (t63, .inl (cyI, 12, .inl (fun _ => 0))), (t64, .inl (cyI, 30, .inl (fun _ => 0))), (t70, .inr (7, [.ref t71, .ref t72, .ref t73, .ref t74, .int 0, .int 0, .int 0])), (t71, .inl (cyI, 12, .inl (fun _ => (-1)))), (t72, .inl (cyI, 12, .inl (fun _ => 0))), (t73, .inl (cyI, 12, .inl (fun _ => 0))), (t74, .inl (cyI, 30, .inl (fun _ => 0))), (t75, .inr (7, [.ref t76, .ref t77, .ref t78, .ref t79, .int 0, .int 0, .int 0])), (t76, .inl (cyI, 12, .inl (fun _ => (-1)))), (t77, .inl (cyI, 12, .inl (fun _ => 0))), (t78, .inl (cyI, 12, .inl (fun _ => 0))), (t79, .inl (cyI, 30, .inl (fun _ => 0)))]) C (c_X7_copy_3 l D cyC cyI cyJ cyZ cyO t65 t32 t33 t34 t35 t36 t66 t67 t68 t69) wd_300 wd_80 wd_301 wd_302 wd_303 ⟨by decide, by decide, rfl⟩ rfl ⟨rfl, rfl, by decide, by decide⟩ ⟨by decide, by decide⟩ [1, 2, 3, 4, 5, 12, 13, 14, 15, 16] [0, 6, 7, 8, 9, 10, 11, 17, 18, 19, 20, 21, 22, 23, 24, 25, 26] rfl rfl ⟨by decide, by decide, by decide⟩ 12 rfl rfl rfl (Nat.le_of_ble_eq_true rfl) dX10_mark_57 (fun u_7 hw_8 => ?_)
          refine j_eq (ws2 := [(t0, .inr (10, [.ref t1, .ref t21, .ref t32, .ref t37, .ref t42, .ref t43, .ref t45, .ref t50, .ref t54, .ref t58])), (t42, .inl (cyO, 4, .inr (.inr (.inr (.inr (va_up (va_up (va_up (va_up (fun _ => none) 0 (some t60)) 1 (some t65)) 2 (some t70)) 3 (some t75))))))), (t60, .inr (7, [.ref t61, .ref t62, .ref t63, .ref t64, .int 0, .int 0, .int 0])), (t61, .inl (cyI, 12, .inl (fun _ => (-1)))), (t62, .inl (cyI, 12, .inl (fun _ => 0))), (t63, .inl (cyI, 12, .inl (fun _ => 0))), (t64, .inl (cyI, 30, .inl (fun _ => 0))), (t70, .inr (7, [.ref t71, .ref t72, .ref t73, .ref t74, .int 0, .int 0, .int 0])), (t71, .inl (cyI, 12, .inl (fun _ => (-1)))), (t72, .inl (cyI, 12, .inl (fun _ => 0))), (t73, .inl (cyI, 12, .inl (fun _ => 0))), (t74, .inl (cyI, 30, .inl (fun _ => 0))), (t75, .inr (7, [.ref t76, .ref t77, .ref t78, .ref t79, .int 0, .int 0, .int 0])), (t76, .inl (cyI, 12, .inl (fun _ => (-1)))), (t77, .inl (cyI, 12, .inl (fun _ => 0))), (t78, .inl (cyI, 12, .inl (fun _ => 0))), (t79, .inl (cyI, 30, .inl (fun _ => 0))), (t32, .inr (7, [.ref t33, .ref t34, .ref t35, .ref t36, .int 0, .int 0, .int 0])), (t33, .inl (cyI, 12, .inl (fun _ => (-1)))), (t34, .inl (cyI, 12, .inl (fun _ => 0))), (t35, .inl (cyI, 12, .inl (fun _ => 0))), (t36, .inl (cyI, 30, .inl (fun _ => 0))), (t65, .inr (7, [.ref t66, .ref t67, .ref t68, .ref t69, .int 0, .int 0, .int 0])), (t66, .inl (cyI, 12, .inl (va_cpy (fun _ => (-1)) (fun _ => (-1)) 0 0 12))), (t67, .inl (cyI, 12, .inl (va_cpy (fun _ => 0) (fun _ => 0) 0 0 12))), (t68, .inl (cyI, 12, .inl (va_cpy (fun _ => 0) (fun _ => 0) 0 0 12))), (t69, .inl (cyI, 30, .inl (va_cpy (fun _ => 0) (fun _ => 0) 0 0 30)))]) (pc2 := 60) (lv2 := [(0, .ref t0), (1, .int 1), (2, .int p1)]) (st2 := []) rfl rfl rfl rfl ?_
          refine j_aload_n (pc := 60) C dX10_mark_60 rfl 0 rfl ?_
          refine j_get (pc := 61) (ci := 10) (v := .ref t42) C inw_10 0 rfl rfl 4 (by decide) wd_86 rfl rfl dX10_mark_61 ?_
          refine j_iload_n (pc := 64) C dX10_mark_64 rfl 1 rfl ?_
          refine j_aald (pc := 65) (v := .ref t65) (k := 1) C 1 4 rfl rfl (by decide) (by decide) (by decide) rfl dX10_mark_65 ?_
          refine j_iconst (pc := 66) (v := 1) C dX10_mark_66 (by decide) ?_
          refine j_put (pc := 67) (ci := 7) (v := .int 1) (ws' := [(t0, .inr (10, [.ref t1, .ref t21, .ref t32, .ref t37, .ref t42, .ref t43, .ref t45, .ref t50, .ref t54, .ref t58])), (t42, .inl (cyO, 4, .inr (.inr (.inr (.inr (va_up (va_up (va_up (va_up (fun _ => none) 0 (some t60)) 1 (some t65)) 2 (some t70)) 3 (some t75))))))), (t60, .inr (7, [.ref t61, .ref t62, .ref t63, .ref t64, .int 0, .int 0, .int 0])), (t61, .inl (cyI, 12, .inl (fun _ => (-1)))), (t62, .inl (cyI, 12, .inl (fun _ => 0))), (t63, .inl (cyI, 12, .inl (fun _ => 0))), (t64, .inl (cyI, 30, .inl (fun _ => 0))), (t70, .inr (7, [.ref t71, .ref t72, .ref t73, .ref t74, .int 0, .int 0, .int 0])), (t71, .inl (cyI, 12, .inl (fun _ => (-1)))), (t72, .inl (cyI, 12, .inl (fun _ => 0))), (t73, .inl (cyI, 12, .inl (fun _ => 0))), (t74, .inl (cyI, 30, .inl (fun _ => 0))), (t75, .inr (7, [.ref t76, .ref t77, .ref t78, .ref t79, .int 0, .int 0, .int 0])), (t76, .inl (cyI, 12, .inl (fun _ => (-1)))), (t77, .inl (cyI, 12, .inl (fun _ => 0))), (t78, .inl (cyI, 12, .inl (fun _ => 0))), (t79, .inl (cyI, 30, .inl (fun _ => 0))), (t32, .inr (7, [.ref t33, .ref t34, .ref t35, .ref t36, .int 0, .int 0, .int 0])), (t33, .inl (cyI, 12, .inl (fun _ => (-1)))), (t34, .inl (cyI, 12, .inl (fun _ => 0))), (t35, .inl (cyI, 12, .inl (fun _ => 0))), (t36, .inl (cyI, 30, .inl (fun _ => 0))), (t65, .inr (7, [.ref t66, .ref t67, .ref t68, .ref t69, .int 0, .int 0, .int 1])), (t66, .inl (cyI, 12, .inl (va_cpy (fun _ => (-1)) (fun _ => (-1)) 0 0 12))), (t67, .inl (cyI, 12, .inl (va_cpy (fun _ => 0) (fun _ => 0) 0 0 12))), (t68, .inl (cyI, 12, .inl (va_cpy (fun _ => 0) (fun _ => 0) 0 0 12))), (t69, .inl (cyI, 30, .inl (va_cpy (fun _ => 0) (fun _ => 0) 0 0 30)))]) C inw_7 22 rfl rfl 6 (by decide) wd_252 rfl tyX7_ok nmX7 rfl (tyX7_ok 6 (by decide)) rfl rfl (Nat.le_of_ble_eq_true rfl) dX10_mark_67 rfl ?_
          refine j_iconst (pc := 70) (v := 1) C dX10_mark_70 (by decide) ?_
          exact j_zret (pc := 71) C hr rfl hk (fun _ => 0, fun _ => 1, fun _ _ => 0) rfl (by show (1 : Int32) = (if 0 ≤ (1 : Int32) ∧ (1 : Int32) ≤ 3 ∧ p1 = 0 then 1 else 0); have e0 : (0 : Int32).toInt = 0 := rfl; have e1 : (1 : Int32).toInt = 1 := rfl; have e3 : (3 : Int32).toInt = 3 := rfl; exact if hE : 0 ≤ (1 : Int32) ∧ (1 : Int32) ≤ 3 ∧ p1 = 0 then (by first | exact (if_pos hE).symm | (exfalso; simp only [i_lt, i_le, i_eq] at hE c_6; omega)) else (by first | exact (if_neg hE).symm | (exfalso; simp only [i_lt, i_le, i_eq] at hE c_6; omega))) [] (by decide) rfl (by decide) (by decide) dX10_mark_71
        · skip
          refine j_aload_n (pc := 13) C dX10_mark_13 rfl 0 rfl ?_
          refine j_get (pc := 14) (ci := 10) (v := .ref t42) C inw_10 0 rfl rfl 4 (by decide) wd_86 rfl rfl dX10_mark_14 ?_
          refine j_iload_n (pc := 17) C dX10_mark_17 rfl 1 rfl ?_
          refine j_aald (pc := 18) (v := .ref t65) (k := 1) C 6 4 rfl rfl (by decide) (by decide) (by decide) rfl dX10_mark_18 ?_
          refine j_get (pc := 19) (ci := 7) (v := .int 0) C inw_7 12 rfl rfl 6 (by decide) wd_252 rfl rfl dX10_mark_19 ?_
          refine j_if_ne_f (pc := 22) (tgt := 27) C dX10_mark_22 (by decide) (by decide) ?_
          refine j_iconst (pc := 25) (v := 0) C dX10_mark_25 (by decide) ?_
          exact j_zret (pc := 26) C hr rfl hk (fun _ => 0, fun _ => 0, fun _ _ => 0) rfl (by show (0 : Int32) = (if 0 ≤ (1 : Int32) ∧ (1 : Int32) ≤ 3 ∧ p1 = 0 then 1 else 0); have e0 : (0 : Int32).toInt = 0 := rfl; have e1 : (1 : Int32).toInt = 1 := rfl; have e3 : (3 : Int32).toInt = 3 := rfl; exact if hE : 0 ≤ (1 : Int32) ∧ (1 : Int32) ≤ 3 ∧ p1 = 0 then (by first | exact (if_pos hE).symm | (exfalso; simp only [i_lt, i_le, i_eq] at hE c_6; omega)) else (by first | exact (if_neg hE).symm | (exfalso; simp only [i_lt, i_le, i_eq] at hE c_6; omega))) [] (by decide) rfl (by decide) (by decide) dX10_mark_26
      · skip
        refine j_iload_n (pc := 9) C dX10_mark_9 rfl 2 rfl ?_
        refine j_if_eq (pc := 10) (tgt := 27) C dX10_mark_10 (by decide) (fun c_9 => ?_) (fun c_9 => ?_)
        · skip
          refine j_iload_n (pc := 27) C dX10_mark_27 rfl 2 rfl ?_
          refine j_if_eq_t (pc := 28) (tgt := 47) C dX10_mark_28 (by decide) (br_eqt_eq c_9) ?_
          refine j_aload_n (pc := 47) C dX10_mark_47 rfl 0 rfl ?_
          refine j_get (pc := 48) (ci := 10) (v := .ref t42) C inw_10 0 rfl rfl 4 (by decide) wd_86 rfl rfl dX10_mark_48 ?_
          refine j_iload_n (pc := 51) C dX10_mark_51 rfl 1 rfl ?_
          refine j_aald (pc := 52) (v := .ref t70) (k := 2) C 6 4 rfl rfl (by decide) (by decide) (by decide) rfl dX10_mark_52 ?_
          refine j_aload_n (pc := 53) C dX10_mark_53 rfl 0 rfl ?_
          refine j_get (pc := 54) (ci := 10) (v := .ref t32) C inw_10 0 rfl rfl 2 (by decide) wd_84 rfl rfl dX10_mark_54 ?_
          refine j_callV (pc := 57) (As := [.ref t32]) (rest := []) (wr := [(t0, .inr (10, [.ref t1, .ref t21, .ref t32, .ref t37, .ref t42, .ref t43, .ref t45, .ref t50, .ref t54, .ref t58])), (t42, .inl (cyO, 4, .inr (.inr (.inr (.inr (va_up (va_up (va_up (va_up (fun _ => none) 0 (some t60)) 1 (some t65)) 2 (some t70)) 3 (some t75))))))), (t60, .inr (7, [.ref t61, .ref t62, .ref t63, .ref t64, .int 0, .int 0, .int 0])), (t61, .inl (cyI, 12, .inl (fun _ => (-1)))), (t62, .inl (cyI, 12, .inl (fun _ => 0))), (t63, .inl (cyI, 12, .inl (fun _ => 0))), (t64, .inl (cyI, 30, .inl (fun _ => 0))), (t65, .inr (7, [.ref t66, .ref t67, .ref t68, .ref t69, .int 0, .int 0, .int 0])), (t66, .inl (cyI, 12, .inl (fun _ => (-1)))), (t67, .inl (cyI, 12, .inl (fun _ => 0))), (t68, .inl (cyI, 12, .inl (fun _ => 0))), (t69, .inl (cyI, 30, .inl (fun _ => 0))), (t75, .inr (7, [.ref t76, .ref t77, .ref t78, .ref t79, .int 0, .int 0, .int 0])), (t76, .inl (cyI, 12, .inl (fun _ => (-1)))), (t77, .inl (cyI, 12, .inl (fun _ => 0))), (t78, .inl (cyI, 12, .inl (fun _ => 0))), (t79, .inl (cyI, 30, .inl (fun _ => 0)))]) C (c_X7_copy_3 l D cyC cyI cyJ cyZ cyO t70 t32 t33 t34 t35 t36 t71 t72 t73 t74) wd_300 wd_80 wd_301 wd_302 wd_303 ⟨by decide, by decide, rfl⟩ rfl ⟨rfl, rfl, by decide, by decide⟩ ⟨by decide, by decide⟩ [1, 2, 3, 4, 5, 17, 18, 19, 20, 21] [0, 6, 7, 8, 9, 10, 11, 12, 13, 14, 15, 16, 22, 23, 24, 25, 26] rfl rfl ⟨by decide, by decide, by decide⟩ 17 rfl rfl rfl (Nat.le_of_ble_eq_true rfl) dX10_mark_57 (fun u_10 hw_11 => ?_)
          refine j_eq (ws2 := [(t0, .inr (10, [.ref t1, .ref t21, .ref t32, .ref t37, .ref t42, .ref t43, .ref t45, .ref t50, .ref t54, .ref t58])), (t42, .inl (cyO, 4, .inr (.inr (.inr (.inr (va_up (va_up (va_up (va_up (fun _ => none) 0 (some t60)) 1 (some t65)) 2 (some t70)) 3 (some t75))))))), (t60, .inr (7, [.ref t61, .ref t62, .ref t63, .ref t64, .int 0, .int 0, .int 0])), (t61, .inl (cyI, 12, .inl (fun _ => (-1)))), (t62, .inl (cyI, 12, .inl (fun _ => 0))), (t63, .inl (cyI, 12, .inl (fun _ => 0))), (t64, .inl (cyI, 30, .inl (fun _ => 0))), (t65, .inr (7, [.ref t66, .ref t67, .ref t68, .ref t69, .int 0, .int 0, .int 0])), (t66, .inl (cyI, 12, .inl (fun _ => (-1)))), (t67, .inl (cyI, 12, .inl (fun _ => 0))), (t68, .inl (cyI, 12, .inl (fun _ => 0))), (t69, .inl (cyI, 30, .inl (fun _ => 0))), (t75, .inr (7, [.ref t76, .ref t77, .ref t78, .ref t79, .int 0, .int 0, .int 0])), (t76, .inl (cyI, 12, .inl (fun _ => (-1)))), (t77, .inl (cyI, 12, .inl (fun _ => 0))), (t78, .inl (cyI, 12, .inl (fun _ => 0))), (t79, .inl (cyI, 30, .inl (fun _ => 0))), (t32, .inr (7, [.ref t33, .ref t34, .ref t35, .ref t36, .int 0, .int 0, .int 0])), (t33, .inl (cyI, 12, .inl (fun _ => (-1)))), (t34, .inl (cyI, 12, .inl (fun _ => 0))), (t35, .inl (cyI, 12, .inl (fun _ => 0))), (t36, .inl (cyI, 30, .inl (fun _ => 0))), (t70, .inr (7, [.ref t71, .ref t72, .ref t73, .ref t74, .int 0, .int 0, .int 0])), (t71, .inl (cyI, 12, .inl (va_cpy (fun _ => (-1)) (fun _ => (-1)) 0 0 12))), (t72, .inl (cyI, 12, .inl (va_cpy (fun _ => 0) (fun _ => 0) 0 0 12))), (t73, .inl (cyI, 12, .inl (va_cpy (fun _ => 0) (fun _ => 0) 0 0 12))), (t74, .inl (cyI, 30, .inl (va_cpy (fun _ => 0) (fun _ => 0) 0 0 30)))]) (pc2 := 60) (lv2 := [(0, .ref t0), (1, .int 2), (2, .int p1)]) (st2 := []) rfl rfl rfl rfl ?_
          refine j_aload_n (pc := 60) C dX10_mark_60 rfl 0 rfl ?_
          refine j_get (pc := 61) (ci := 10) (v := .ref t42) C inw_10 0 rfl rfl 4 (by decide) wd_86 rfl rfl dX10_mark_61 ?_
          refine j_iload_n (pc := 64) C dX10_mark_64 rfl 1 rfl ?_
          refine j_aald (pc := 65) (v := .ref t70) (k := 2) C 1 4 rfl rfl (by decide) (by decide) (by decide) rfl dX10_mark_65 ?_
          refine j_iconst (pc := 66) (v := 1) C dX10_mark_66 (by decide) ?_
          refine j_put (pc := 67) (ci := 7) (v := .int 1) (ws' := [(t0, .inr (10, [.ref t1, .ref t21, .ref t32, .ref t37, .ref t42, .ref t43, .ref t45, .ref t50, .ref t54, .ref t58])), (t42, .inl (cyO, 4, .inr (.inr (.inr (.inr (va_up (va_up (va_up (va_up (fun _ => none) 0 (some t60)) 1 (some t65)) 2 (some t70)) 3 (some t75))))))), (t60, .inr (7, [.ref t61, .ref t62, .ref t63, .ref t64, .int 0, .int 0, .int 0])), (t61, .inl (cyI, 12, .inl (fun _ => (-1)))), (t62, .inl (cyI, 12, .inl (fun _ => 0))), (t63, .inl (cyI, 12, .inl (fun _ => 0))), (t64, .inl (cyI, 30, .inl (fun _ => 0))), (t65, .inr (7, [.ref t66, .ref t67, .ref t68, .ref t69, .int 0, .int 0, .int 0])), (t66, .inl (cyI, 12, .inl (fun _ => (-1)))), (t67, .inl (cyI, 12, .inl (fun _ => 0))), (t68, .inl (cyI, 12, .inl (fun _ => 0))), (t69, .inl (cyI, 30, .inl (fun _ => 0))), (t75, .inr (7, [.ref t76, .ref t77, .ref t78, .ref t79, .int 0, .int 0, .int 0])), (t76, .inl (cyI, 12, .inl (fun _ => (-1)))), (t77, .inl (cyI, 12, .inl (fun _ => 0))), (t78, .inl (cyI, 12, .inl (fun _ => 0))), (t79, .inl (cyI, 30, .inl (fun _ => 0))), (t32, .inr (7, [.ref t33, .ref t34, .ref t35, .ref t36, .int 0, .int 0, .int 0])), (t33, .inl (cyI, 12, .inl (fun _ => (-1)))), (t34, .inl (cyI, 12, .inl (fun _ => 0))), (t35, .inl (cyI, 12, .inl (fun _ => 0))), (t36, .inl (cyI, 30, .inl (fun _ => 0))), (t70, .inr (7, [.ref t71, .ref t72, .ref t73, .ref t74, .int 0, .int 0, .int 1])), (t71, .inl (cyI, 12, .inl (va_cpy (fun _ => (-1)) (fun _ => (-1)) 0 0 12))), (t72, .inl (cyI, 12, .inl (va_cpy (fun _ => 0) (fun _ => 0) 0 0 12))), (t73, .inl (cyI, 12, .inl (va_cpy (fun _ => 0) (fun _ => 0) 0 0 12))), (t74, .inl (cyI, 30, .inl (va_cpy (fun _ => 0) (fun _ => 0) 0 0 30)))]) C inw_7 22 rfl rfl 6 (by decide) wd_252 rfl tyX7_ok nmX7 rfl (tyX7_ok 6 (by decide)) rfl rfl (Nat.le_of_ble_eq_true rfl) dX10_mark_67 rfl ?_
          refine j_iconst (pc := 70) (v := 1) C dX10_mark_70 (by decide) ?_
          exact j_zret (pc := 71) C hr rfl hk (fun _ => 0, fun _ => 1, fun _ _ => 0) rfl (by show (1 : Int32) = (if 0 ≤ (2 : Int32) ∧ (2 : Int32) ≤ 3 ∧ p1 = 0 then 1 else 0); have e0 : (0 : Int32).toInt = 0 := rfl; have e2 : (2 : Int32).toInt = 2 := rfl; have e3 : (3 : Int32).toInt = 3 := rfl; exact if hE : 0 ≤ (2 : Int32) ∧ (2 : Int32) ≤ 3 ∧ p1 = 0 then (by first | exact (if_pos hE).symm | (exfalso; simp only [i_lt, i_le, i_eq] at hE c_9; omega)) else (by first | exact (if_neg hE).symm | (exfalso; simp only [i_lt, i_le, i_eq] at hE c_9; omega))) [] (by decide) rfl (by decide) (by decide) dX10_mark_71
        · skip
          refine j_aload_n (pc := 13) C dX10_mark_13 rfl 0 rfl ?_
          refine j_get (pc := 14) (ci := 10) (v := .ref t42) C inw_10 0 rfl rfl 4 (by decide) wd_86 rfl rfl dX10_mark_14 ?_
          refine j_iload_n (pc := 17) C dX10_mark_17 rfl 1 rfl ?_
          refine j_aald (pc := 18) (v := .ref t70) (k := 2) C 6 4 rfl rfl (by decide) (by decide) (by decide) rfl dX10_mark_18 ?_
          refine j_get (pc := 19) (ci := 7) (v := .int 0) C inw_7 17 rfl rfl 6 (by decide) wd_252 rfl rfl dX10_mark_19 ?_
          refine j_if_ne_f (pc := 22) (tgt := 27) C dX10_mark_22 (by decide) (by decide) ?_
          refine j_iconst (pc := 25) (v := 0) C dX10_mark_25 (by decide) ?_
          exact j_zret (pc := 26) C hr rfl hk (fun _ => 0, fun _ => 0, fun _ _ => 0) rfl (by show (0 : Int32) = (if 0 ≤ (2 : Int32) ∧ (2 : Int32) ≤ 3 ∧ p1 = 0 then 1 else 0); have e0 : (0 : Int32).toInt = 0 := rfl; have e2 : (2 : Int32).toInt = 2 := rfl; have e3 : (3 : Int32).toInt = 3 := rfl; exact if hE : 0 ≤ (2 : Int32) ∧ (2 : Int32) ≤ 3 ∧ p1 = 0 then (by first | exact (if_pos hE).symm | (exfalso; simp only [i_lt, i_le, i_eq] at hE c_9; omega)) else (by first | exact (if_neg hE).symm | (exfalso; simp only [i_lt, i_le, i_eq] at hE c_9; omega))) [] (by decide) rfl (by decide) (by decide) dX10_mark_26
      · skip
        refine j_iload_n (pc := 9) C dX10_mark_9 rfl 2 rfl ?_
        refine j_if_eq (pc := 10) (tgt := 27) C dX10_mark_10 (by decide) (fun c_12 => ?_) (fun c_12 => ?_)
        · skip
          refine j_iload_n (pc := 27) C dX10_mark_27 rfl 2 rfl ?_
          refine j_if_eq_t (pc := 28) (tgt := 47) C dX10_mark_28 (by decide) (br_eqt_eq c_12) ?_
          refine j_aload_n (pc := 47) C dX10_mark_47 rfl 0 rfl ?_
          refine j_get (pc := 48) (ci := 10) (v := .ref t42) C inw_10 0 rfl rfl 4 (by decide) wd_86 rfl rfl dX10_mark_48 ?_
          refine j_iload_n (pc := 51) C dX10_mark_51 rfl 1 rfl ?_
          refine j_aald (pc := 52) (v := .ref t75) (k := 3) C 6 4 rfl rfl (by decide) (by decide) (by decide) rfl dX10_mark_52 ?_
          refine j_aload_n (pc := 53) C dX10_mark_53 rfl 0 rfl ?_
          refine j_get (pc := 54) (ci := 10) (v := .ref t32) C inw_10 0 rfl rfl 2 (by decide) wd_84 rfl rfl dX10_mark_54 ?_
          refine j_callV (pc := 57) (As := [.ref t32]) (rest := []) (wr := [(t0, .inr (10, [.ref t1, .ref t21, .ref t32, .ref t37, .ref t42, .ref t43, .ref t45, .ref t50, .ref t54, .ref t58])), (t42, .inl (cyO, 4, .inr (.inr (.inr (.inr (va_up (va_up (va_up (va_up (fun _ => none) 0 (some t60)) 1 (some t65)) 2 (some t70)) 3 (some t75))))))), (t60, .inr (7, [.ref t61, .ref t62, .ref t63, .ref t64, .int 0, .int 0, .int 0])), (t61, .inl (cyI, 12, .inl (fun _ => (-1)))), (t62, .inl (cyI, 12, .inl (fun _ => 0))), (t63, .inl (cyI, 12, .inl (fun _ => 0))), (t64, .inl (cyI, 30, .inl (fun _ => 0))), (t65, .inr (7, [.ref t66, .ref t67, .ref t68, .ref t69, .int 0, .int 0, .int 0])), (t66, .inl (cyI, 12, .inl (fun _ => (-1)))), (t67, .inl (cyI, 12, .inl (fun _ => 0))), (t68, .inl (cyI, 12, .inl (fun _ => 0))), (t69, .inl (cyI, 30, .inl (fun _ => 0))), (t70, .inr (7, [.ref t71, .ref t72, .ref t73, .ref t74, .int 0, .int 0, .int 0])), (t71, .inl (cyI, 12, .inl (fun _ => (-1)))), (t72, .inl (cyI, 12, .inl (fun _ => 0))), (t73, .inl (cyI, 12, .inl (fun _ => 0))), (t74, .inl (cyI, 30, .inl (fun _ => 0)))]) C (c_X7_copy_3 l D cyC cyI cyJ cyZ cyO t75 t32 t33 t34 t35 t36 t76 t77 t78 t79) wd_300 wd_80 wd_301 wd_302 wd_303 ⟨by decide, by decide, rfl⟩ rfl ⟨rfl, rfl, by decide, by decide⟩ ⟨by decide, by decide⟩ [1, 2, 3, 4, 5, 22, 23, 24, 25, 26] [0, 6, 7, 8, 9, 10, 11, 12, 13, 14, 15, 16, 17, 18, 19, 20, 21] rfl rfl ⟨by decide, by decide, by decide⟩ 22 rfl rfl rfl (Nat.le_of_ble_eq_true rfl) dX10_mark_57 (fun u_13 hw_14 => ?_)
          refine j_eq (ws2 := [(t0, .inr (10, [.ref t1, .ref t21, .ref t32, .ref t37, .ref t42, .ref t43, .ref t45, .ref t50, .ref t54, .ref t58])), (t42, .inl (cyO, 4, .inr (.inr (.inr (.inr (va_up (va_up (va_up (va_up (fun _ => none) 0 (some t60)) 1 (some t65)) 2 (some t70)) 3 (some t75))))))), (t60, .inr (7, [.ref t61, .ref t62, .ref t63, .ref t64, .int 0, .int 0, .int 0])), (t61, .inl (cyI, 12, .inl (fun _ => (-1)))), (t62, .inl (cyI, 12, .inl (fun _ => 0))), (t63, .inl (cyI, 12, .inl (fun _ => 0))), (t64, .inl (cyI, 30, .inl (fun _ => 0))), (t65, .inr (7, [.ref t66, .ref t67, .ref t68, .ref t69, .int 0, .int 0, .int 0])), (t66, .inl (cyI, 12, .inl (fun _ => (-1)))), (t67, .inl (cyI, 12, .inl (fun _ => 0))), (t68, .inl (cyI, 12, .inl (fun _ => 0))), (t69, .inl (cyI, 30, .inl (fun _ => 0))), (t70, .inr (7, [.ref t71, .ref t72, .ref t73, .ref t74, .int 0, .int 0, .int 0])), (t71, .inl (cyI, 12, .inl (fun _ => (-1)))), (t72, .inl (cyI, 12, .inl (fun _ => 0))), (t73, .inl (cyI, 12, .inl (fun _ => 0))), (t74, .inl (cyI, 30, .inl (fun _ => 0))), (t32, .inr (7, [.ref t33, .ref t34, .ref t35, .ref t36, .int 0, .int 0, .int 0])), (t33, .inl (cyI, 12, .inl (fun _ => (-1)))), (t34, .inl (cyI, 12, .inl (fun _ => 0))), (t35, .inl (cyI, 12, .inl (fun _ => 0))), (t36, .inl (cyI, 30, .inl (fun _ => 0))), (t75, .inr (7, [.ref t76, .ref t77, .ref t78, .ref t79, .int 0, .int 0, .int 0])), (t76, .inl (cyI, 12, .inl (va_cpy (fun _ => (-1)) (fun _ => (-1)) 0 0 12))), (t77, .inl (cyI, 12, .inl (va_cpy (fun _ => 0) (fun _ => 0) 0 0 12))), (t78, .inl (cyI, 12, .inl (va_cpy (fun _ => 0) (fun _ => 0) 0 0 12))), (t79, .inl (cyI, 30, .inl (va_cpy (fun _ => 0) (fun _ => 0) 0 0 30)))]) (pc2 := 60) (lv2 := [(0, .ref t0), (1, .int 3), (2, .int p1)]) (st2 := []) rfl rfl rfl rfl ?_
          refine j_aload_n (pc := 60) C dX10_mark_60 rfl 0 rfl ?_
          refine j_get (pc := 61) (ci := 10) (v := .ref t42) C inw_10 0 rfl rfl 4 (by decide) wd_86 rfl rfl dX10_mark_61 ?_
          refine j_iload_n (pc := 64) C dX10_mark_64 rfl 1 rfl ?_
          refine j_aald (pc := 65) (v := .ref t75) (k := 3) C 1 4 rfl rfl (by decide) (by decide) (by decide) rfl dX10_mark_65 ?_
          refine j_iconst (pc := 66) (v := 1) C dX10_mark_66 (by decide) ?_
          refine j_put (pc := 67) (ci := 7) (v := .int 1) (ws' := [(t0, .inr (10, [.ref t1, .ref t21, .ref t32, .ref t37, .ref t42, .ref t43, .ref t45, .ref t50, .ref t54, .ref t58])), (t42, .inl (cyO, 4, .inr (.inr (.inr (.inr (va_up (va_up (va_up (va_up (fun _ => none) 0 (some t60)) 1 (some t65)) 2 (some t70)) 3 (some t75))))))), (t60, .inr (7, [.ref t61, .ref t62, .ref t63, .ref t64, .int 0, .int 0, .int 0])), (t61, .inl (cyI, 12, .inl (fun _ => (-1)))), (t62, .inl (cyI, 12, .inl (fun _ => 0))), (t63, .inl (cyI, 12, .inl (fun _ => 0))), (t64, .inl (cyI, 30, .inl (fun _ => 0))), (t65, .inr (7, [.ref t66, .ref t67, .ref t68, .ref t69, .int 0, .int 0, .int 0])), (t66, .inl (cyI, 12, .inl (fun _ => (-1)))), (t67, .inl (cyI, 12, .inl (fun _ => 0))), (t68, .inl (cyI, 12, .inl (fun _ => 0))), (t69, .inl (cyI, 30, .inl (fun _ => 0))), (t70, .inr (7, [.ref t71, .ref t72, .ref t73, .ref t74, .int 0, .int 0, .int 0])), (t71, .inl (cyI, 12, .inl (fun _ => (-1)))), (t72, .inl (cyI, 12, .inl (fun _ => 0))), (t73, .inl (cyI, 12, .inl (fun _ => 0))), (t74, .inl (cyI, 30, .inl (fun _ => 0))), (t32, .inr (7, [.ref t33, .ref t34, .ref t35, .ref t36, .int 0, .int 0, .int 0])), (t33, .inl (cyI, 12, .inl (fun _ => (-1)))), (t34, .inl (cyI, 12, .inl (fun _ => 0))), (t35, .inl (cyI, 12, .inl (fun _ => 0))), (t36, .inl (cyI, 30, .inl (fun _ => 0))), (t75, .inr (7, [.ref t76, .ref t77, .ref t78, .ref t79, .int 0, .int 0, .int 1])), (t76, .inl (cyI, 12, .inl (va_cpy (fun _ => (-1)) (fun _ => (-1)) 0 0 12))), (t77, .inl (cyI, 12, .inl (va_cpy (fun _ => 0) (fun _ => 0) 0 0 12))), (t78, .inl (cyI, 12, .inl (va_cpy (fun _ => 0) (fun _ => 0) 0 0 12))), (t79, .inl (cyI, 30, .inl (va_cpy (fun _ => 0) (fun _ => 0) 0 0 30)))]) C inw_7 22 rfl rfl 6 (by decide) wd_252 rfl tyX7_ok nmX7 rfl (tyX7_ok 6 (by decide)) rfl rfl (Nat.le_of_ble_eq_true rfl) dX10_mark_67 rfl ?_
          refine j_iconst (pc := 70) (v := 1) C dX10_mark_70 (by decide) ?_
          exact j_zret (pc := 71) C hr rfl hk (fun _ => 0, fun _ => 1, fun _ _ => 0) rfl (by show (1 : Int32) = (if 0 ≤ (3 : Int32) ∧ (3 : Int32) ≤ 3 ∧ p1 = 0 then 1 else 0); have e0 : (0 : Int32).toInt = 0 := rfl; have e3 : (3 : Int32).toInt = 3 := rfl; exact if hE : 0 ≤ (3 : Int32) ∧ (3 : Int32) ≤ 3 ∧ p1 = 0 then (by first | exact (if_pos hE).symm | (exfalso; simp only [i_lt, i_le, i_eq] at hE c_12; omega)) else (by first | exact (if_neg hE).symm | (exfalso; simp only [i_lt, i_le, i_eq] at hE c_12; omega))) [] (by decide) rfl (by decide) (by decide) dX10_mark_71
        · skip
          refine j_aload_n (pc := 13) C dX10_mark_13 rfl 0 rfl ?_
          refine j_get (pc := 14) (ci := 10) (v := .ref t42) C inw_10 0 rfl rfl 4 (by decide) wd_86 rfl rfl dX10_mark_14 ?_
          refine j_iload_n (pc := 17) C dX10_mark_17 rfl 1 rfl ?_
          refine j_aald (pc := 18) (v := .ref t75) (k := 3) C 6 4 rfl rfl (by decide) (by decide) (by decide) rfl dX10_mark_18 ?_
          refine j_get (pc := 19) (ci := 7) (v := .int 0) C inw_7 22 rfl rfl 6 (by decide) wd_252 rfl rfl dX10_mark_19 ?_
          refine j_if_ne_f (pc := 22) (tgt := 27) C dX10_mark_22 (by decide) (by decide) ?_
          refine j_iconst (pc := 25) (v := 0) C dX10_mark_25 (by decide) ?_
          exact j_zret (pc := 26) C hr rfl hk (fun _ => 0, fun _ => 0, fun _ _ => 0) rfl (by show (0 : Int32) = (if 0 ≤ (3 : Int32) ∧ (3 : Int32) ≤ 3 ∧ p1 = 0 then 1 else 0); have e0 : (0 : Int32).toInt = 0 := rfl; have e3 : (3 : Int32).toInt = 3 := rfl; exact if hE : 0 ≤ (3 : Int32) ∧ (3 : Int32) ≤ 3 ∧ p1 = 0 then (by first | exact (if_pos hE).symm | (exfalso; simp only [i_lt, i_le, i_eq] at hE c_12; omega)) else (by first | exact (if_neg hE).symm | (exfalso; simp only [i_lt, i_le, i_eq] at hE c_12; omega))) [] (by decide) rfl (by decide) (by decide) dX10_mark_26
