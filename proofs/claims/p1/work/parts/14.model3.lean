theorem wd_362 : Cond.code yX11_copies cX11_copies 4 none ∈ WALL := wl_in (by decide +kernel) (by decide +kernel)
theorem wd_363 : Cond.methodLink RX11 395 yX11_copies ∈ WALL := wl_in (by decide +kernel) (by decide +kernel)
theorem wd_364 : Cond.instanceMethod yX11_copies ∈ WALL := wl_in (by decide +kernel) (by decide +kernel)
theorem wd_365 : Cond.selects RX11 yX11_copies yX11_copies ∈ WALL := wl_in (by decide +kernel) (by decide +kernel)
theorem dX11_copies_0 : decode cX11_copies 0 = .ok (.iconst 0, 1) := by decide +kernel
theorem dX11_copies_1 : decode cX11_copies 1 = .ok (.istore_n 3, 1) := by decide +kernel
theorem dX11_copies_2 : decode cX11_copies 2 = .ok (.iload_n 3, 1) := by decide +kernel
theorem dX11_copies_3 : decode cX11_copies 3 = .ok (.sipush 460, 3) := by decide +kernel
theorem dX11_copies_6 : decode cX11_copies 6 = .ok (.if_icmp .ge 33, 3) := by decide +kernel
theorem dX11_copies_9 : decode cX11_copies 9 = .ok (.aload_n 0, 1) := by decide +kernel
theorem dX11_copies_10 : decode cX11_copies 10 = .ok (.getfield 108, 3) := by decide +kernel
theorem dX11_copies_13 : decode cX11_copies 13 = .ok (.sipush 460, 3) := by decide +kernel
theorem dX11_copies_16 : decode cX11_copies 16 = .ok (.iload_n 2, 1) := by decide +kernel
theorem dX11_copies_17 : decode cX11_copies 17 = .ok (.imul, 1) := by decide +kernel
theorem dX11_copies_18 : decode cX11_copies 18 = .ok (.iload_n 3, 1) := by decide +kernel
theorem dX11_copies_19 : decode cX11_copies 19 = .ok (.iadd, 1) := by decide +kernel
theorem dX11_copies_20 : decode cX11_copies 20 = .ok (.aload_n 0, 1) := by decide +kernel
theorem dX11_copies_21 : decode cX11_copies 21 = .ok (.getfield 108, 3) := by decide +kernel
theorem dX11_copies_24 : decode cX11_copies 24 = .ok (.sipush 460, 3) := by decide +kernel
theorem dX11_copies_27 : decode cX11_copies 27 = .ok (.iload_n 1, 1) := by decide +kernel
theorem dX11_copies_28 : decode cX11_copies 28 = .ok (.imul, 1) := by decide +kernel
theorem dX11_copies_29 : decode cX11_copies 29 = .ok (.iload_n 3, 1) := by decide +kernel
theorem dX11_copies_30 : decode cX11_copies 30 = .ok (.iadd, 1) := by decide +kernel
theorem dX11_copies_31 : decode cX11_copies 31 = .ok (.iaload, 1) := by decide +kernel
theorem dX11_copies_32 : decode cX11_copies 32 = .ok (.iastore, 1) := by decide +kernel
theorem dX11_copies_33 : decode cX11_copies 33 = .ok (.iinc 3 1, 3) := by decide +kernel
theorem dX11_copies_36 : decode cX11_copies 36 = .ok (.goto (-34), 3) := by decide +kernel
theorem dX11_copies_39 : decode cX11_copies 39 = .ok (.return_, 1) := by decide +kernel
theorem dX11_onTop_0 : decode cX11_onTop 0 = .ok (.aload_n 0, 1) := by decide +kernel
theorem dX11_onTop_1 : decode cX11_onTop 1 = .ok (.iconst 0, 1) := by decide +kernel
theorem dX11_onTop_2 : decode cX11_onTop 2 = .ok (.putfield 1, 3) := by decide +kernel
theorem dX11_onTop_5 : decode cX11_onTop 5 = .ok (.aload_n 0, 1) := by decide +kernel
theorem dX11_onTop_6 : decode cX11_onTop 6 = .ok (.iconst 0, 1) := by decide +kernel
theorem dX11_onTop_7 : decode cX11_onTop 7 = .ok (.iconst 1, 1) := by decide +kernel
theorem dX11_onTop_8 : decode cX11_onTop 8 = .ok (.invokevirtual 395, 3) := by decide +kernel
theorem dX11_onTop_11 : decode cX11_onTop 11 = .ok (.iconst 0, 1) := by decide +kernel
theorem dX11_onTop_12 : decode cX11_onTop 12 = .ok (.istore_n 1, 1) := by decide +kernel
theorem dX11_onTop_13 : decode cX11_onTop 13 = .ok (.iconst 0, 1) := by decide +kernel
theorem dX11_onTop_14 : decode cX11_onTop 14 = .ok (.istore_n 2, 1) := by decide +kernel
theorem dX11_onTop_15 : decode cX11_onTop 15 = .ok (.iload_n 2, 1) := by decide +kernel
theorem dX11_onTop_16 : decode cX11_onTop 16 = .ok (.aload_n 0, 1) := by decide +kernel
theorem dX11_onTop_17 : decode cX11_onTop 17 = .ok (.invokevirtual 410, 3) := by decide +kernel
theorem dX11_onTop_20 : decode cX11_onTop 20 = .ok (.if_icmp .ge 102, 3) := by decide +kernel
theorem dX11_onTop_122 : decode cX11_onTop 122 = .ok (.iload_n 1, 1) := by decide +kernel
theorem dX11_onTop_123 : decode cX11_onTop 123 = .ok (.ireturn, 1) := by decide +kernel
theorem dX11_mark_0 : decode cX11_mark 0 = .ok (.aload_n 0, 1) := by decide +kernel
theorem dX11_mark_1 : decode cX11_mark 1 = .ok (.iconst 0, 1) := by decide +kernel
theorem dX11_mark_2 : decode cX11_mark 2 = .ok (.putfield 1, 3) := by decide +kernel
theorem dX11_mark_5 : decode cX11_mark 5 = .ok (.iload_n 1, 1) := by decide +kernel
theorem dX11_mark_6 : decode cX11_mark 6 = .ok (.iconst 0, 1) := by decide +kernel
theorem dX11_mark_7 : decode cX11_mark 7 = .ok (.iconst 3, 1) := by decide +kernel
theorem dX11_mark_8 : decode cX11_mark 8 = .ok (.invokestatic 280, 3) := by decide +kernel
theorem dX11_mark_11 : decode cX11_mark 11 = .ok (.ifCond .eq 16, 3) := by decide +kernel
theorem dX11_mark_14 : decode cX11_mark 14 = .ok (.iload_n 2, 1) := by decide +kernel
theorem dX11_mark_15 : decode cX11_mark 15 = .ok (.ifCond .eq 14, 3) := by decide +kernel
theorem dX11_mark_18 : decode cX11_mark 18 = .ok (.aload_n 0, 1) := by decide +kernel
theorem dX11_mark_19 : decode cX11_mark 19 = .ok (.getfield 111, 3) := by decide +kernel
theorem dX11_mark_22 : decode cX11_mark 22 = .ok (.iload_n 1, 1) := by decide +kernel
theorem dX11_mark_23 : decode cX11_mark 23 = .ok (.baload, 1) := by decide +kernel
theorem dX11_mark_24 : decode cX11_mark 24 = .ok (.ifCond .ne 5, 3) := by decide +kernel
theorem dX11_mark_27 : decode cX11_mark 27 = .ok (.iconst 0, 1) := by decide +kernel
theorem dX11_mark_28 : decode cX11_mark 28 = .ok (.ireturn, 1) := by decide +kernel
theorem dX11_mark_29 : decode cX11_mark 29 = .ok (.aload_n 0, 1) := by decide +kernel
theorem dX11_mark_30 : decode cX11_mark 30 = .ok (.getfield 111, 3) := by decide +kernel
theorem dX11_mark_33 : decode cX11_mark 33 = .ok (.iload_n 1, 1) := by decide +kernel
theorem dX11_mark_34 : decode cX11_mark 34 = .ok (.iconst 1, 1) := by decide +kernel
theorem dX11_mark_35 : decode cX11_mark 35 = .ok (.bastore, 1) := by decide +kernel
theorem dX11_mark_36 : decode cX11_mark 36 = .ok (.aload_n 0, 1) := by decide +kernel
theorem dX11_mark_37 : decode cX11_mark 37 = .ok (.iload_n 2, 1) := by decide +kernel
theorem dX11_mark_38 : decode cX11_mark 38 = .ok (.ifCond .eq 9, 3) := by decide +kernel
theorem dX11_mark_47 : decode cX11_mark 47 = .ok (.iconst 0, 1) := by decide +kernel
theorem dX11_mark_48 : decode cX11_mark 48 = .ok (.iload_n 2, 1) := by decide +kernel
theorem dX11_mark_49 : decode cX11_mark 49 = .ok (.ifCond .eq 7, 3) := by decide +kernel
theorem dX11_mark_56 : decode cX11_mark 56 = .ok (.iconst 2, 1) := by decide +kernel
theorem dX11_mark_57 : decode cX11_mark 57 = .ok (.iload_n 1, 1) := by decide +kernel
theorem dX11_mark_58 : decode cX11_mark 58 = .ok (.iadd, 1) := by decide +kernel
theorem dX11_mark_59 : decode cX11_mark 59 = .ok (.invokevirtual 395, 3) := by decide +kernel
theorem dX11_mark_62 : decode cX11_mark 62 = .ok (.iconst 1, 1) := by decide +kernel
theorem dX11_mark_63 : decode cX11_mark 63 = .ok (.ireturn, 1) := by decide +kernel
set_option maxHeartbeats 4000000 in
set_option maxRecDepth 100000 in
theorem c_X11_copies_1 (l : Launch) (D : va_G) (cyC cyI cyJ cyZ cyO : ClassId) (g0 : Nat) (g1 : Nat) (g2 : Nat) (g3 : Nat) (g4 : Nat) (g5 : Nat) (g6 : Nat) (g7 : Nat) (g8 : Nat) (g9 : Nat) (g10 : Nat) (g11 : Nat) (g12 : Nat) (g13 : Nat) (g14 : Nat) (g15 : Nat) (g16 : Nat) (g17 : Nat) (g18 : Nat) (g19 : Nat) (g20 : Nat) (g21 : Nat) (g22 : Nat) (g23 : Nat) (g24 : Nat) (g25 : Nat) : KK l D (TY cyC cyI cyJ cyZ cyO) yX11_copies cX11_copies 4 none ({ frames := 0, cells := 0, slots := 0, locals := 0 } : Room) 0 0 [.ref g0, .int 0, .int 1] [(g0, .inr (11, [.int 0, .ref g1, .int 0, .int 0, .ref g2, .ref g3, .ref g4, .int 0, .int 0, .ref g5, .ref g6, .ref g7, .ref g8, .int 0, .ref g9, .ref g10, .int 1, .ref g11, .ref g12, .ref g13, .ref g14, .ref g15, .int 0, .int 0, .int 0, .ref g16, .int 0, .ref g17, .ref g18, .ref g19, .ref g20, .ref g21, .ref g22, .int 0, .int 0, .int 0, .ref g23, .ref g24, .int 0, .int 0, .int 0, .int 0, .ref g25])), (g14, .inl (cyI, 2760, .inl (fun _ => 0)))] (fun u => none) (fun u => True) (fun u => [(g0, .inr (11, [.int 0, .ref g1, .int 0, .int 0, .ref g2, .ref g3, .ref g4, .int 0, .int 0, .ref g5, .ref g6, .ref g7, .ref g8, .int 0, .ref g9, .ref g10, .int 1, .ref g11, .ref g12, .ref g13, .ref g14, .ref g15, .int 0, .int 0, .int 0, .ref g16, .int 0, .ref g17, .ref g18, .ref g19, .ref g20, .ref g21, .ref g22, .int 0, .int 0, .int 0, .ref g23, .ref g24, .int 0, .int 0, .int 0, .int 0, .ref g25])), (g14, .inl (cyI, 2760, .inl (fun _ => 0)))]) := by
  refine KK.of (lv0 := [(0, .ref g0), (1, .int 0), (2, .int 1)]) (by decide) rfl (Nat.le_of_ble_eq_true rfl) ?_
  intro p e s m args below meth c A C hr hk hin
  refine j_iconst (pc := 0) (v := 0) C dX11_copies_0 (by decide) ?_
  refine j_istore_n (pc := 1) (lv' := [(3, .int 0), (0, .ref g0), (1, .int 0), (2, .int 1)]) C dX11_copies_1 rfl (by decide) rfl ?_
  have loop_1 : ∀ (k_1 i_1 : Nat) (g_1_0 : Nat → Int32), i_1 + k_1 = 460 → (∀ j, j < 2760 → g_1_0 j = 0) → J p l e ({ frames := 0, cells := 0, slots := 0, locals := 0 } : Room) s m args below meth c D A 4 0 0 (QX below D (TY cyC cyI cyJ cyZ cyO) A (fun u => none) (fun u => True) (fun u => [(g0, .inr (11, [.int 0, .ref g1, .int 0, .int 0, .ref g2, .ref g3, .ref g4, .int 0, .int 0, .ref g5, .ref g6, .ref g7, .ref g8, .int 0, .ref g9, .ref g10, .int 1, .ref g11, .ref g12, .ref g13, .ref g14, .ref g15, .int 0, .int 0, .int 0, .ref g16, .int 0, .ref g17, .ref g18, .ref g19, .ref g20, .ref g21, .ref g22, .int 0, .int 0, .int 0, .ref g23, .ref g24, .int 0, .int 0, .int 0, .int 0, .ref g25])), (g14, .inl (cyI, 2760, .inl (fun _ => 0)))]) args s 0 0) [(g0, .inr (11, [.int 0, .ref g1, .int 0, .int 0, .ref g2, .ref g3, .ref g4, .int 0, .int 0, .ref g5, .ref g6, .ref g7, .ref g8, .int 0, .ref g9, .ref g10, .int 1, .ref g11, .ref g12, .ref g13, .ref g14, .ref g15, .int 0, .int 0, .int 0, .ref g16, .int 0, .ref g17, .ref g18, .ref g19, .ref g20, .ref g21, .ref g22, .int 0, .int 0, .int 0, .ref g23, .ref g24, .int 0, .int 0, .int 0, .int 0, .ref g25])), (g14, .inl (cyI, 2760, .inl g_1_0))] 2 [(3, .int (nI i_1)), (0, .ref g0), (1, .int 0), (2, .int 1)] [] := by
    intro k_1
    induction k_1 with
    | zero =>
      intro i_1 g_1_0 hi_1 hz_1_0
      obtain rfl : i_1 = 460 := by omega
      refine j_arrc (q0 := 1) (g := fun _ => 0) (ws' := [(g0, .inr (11, [.int 0, .ref g1, .int 0, .int 0, .ref g2, .ref g3, .ref g4, .int 0, .int 0, .ref g5, .ref g6, .ref g7, .ref g8, .int 0, .ref g9, .ref g10, .int 1, .ref g11, .ref g12, .ref g13, .ref g14, .ref g15, .int 0, .int 0, .int 0, .ref g16, .int 0, .ref g17, .ref g18, .ref g19, .ref g20, .ref g21, .ref g22, .int 0, .int 0, .int 0, .ref g23, .ref g24, .int 0, .int 0, .int 0, .int 0, .ref g25])), (g14, .inl (cyI, 2760, .inl (fun _ => 0)))]) rfl hz_1_0 rfl ?_
      refine j_iload_n (pc := 2) C dX11_copies_2 rfl 0 rfl ?_
      refine j_sipush (pc := 3) (v := 460) C dX11_copies_3 (by decide) ?_
      refine j_icmp_ge_t (pc := 6) (tgt := 39) C dX11_copies_6 (by decide) (by decide) ?_
      exact j_vret (pc := 39) C hr hk (fun i => [].getD i 0, fun _ => 0, fun _ _ => 0) rfl trivial [0, 1] (by decide) rfl (by decide) (by decide) dX11_copies_39
    | succ k_1 ih_1 =>
      intro i_1 g_1_0 hi_1 hz_1_0
      refine j_iload_n (pc := 2) C dX11_copies_2 rfl 0 rfl ?_
      refine j_sipush (pc := 3) (v := 460) C dX11_copies_3 (by decide) ?_
      refine j_icmp_ge_f (pc := 6) (tgt := 39) C dX11_copies_6 (by decide) (nI12 460 (by omega) (by decide)) ?_
      refine j_aload_n (pc := 9) C dX11_copies_9 rfl 1 rfl ?_
      refine j_get (pc := 10) (ci := 11) (v := .ref g14) C inw_11 0 rfl rfl 20 (by decide) wd_155 rfl rfl dX11_copies_10 ?_
      refine j_sipush (pc := 13) (v := 460) C dX11_copies_13 (by decide) ?_
      refine j_iload_n (pc := 16) C dX11_copies_16 rfl 3 rfl ?_
      refine j_imul (pc := 17) (v := 460) C dX11_copies_17 (by decide) ?_
      refine j_iload_n (pc := 18) C dX11_copies_18 rfl 0 rfl ?_
      refine j_iadd (pc := 19) (v := (nI (460 + i_1))) C dX11_copies_19 (nI_add 460 i_1) ?_
      refine j_aload_n (pc := 20) C dX11_copies_20 rfl 1 rfl ?_
      refine j_get (pc := 21) (ci := 11) (v := .ref g14) C inw_11 0 rfl rfl 20 (by decide) wd_155 rfl rfl dX11_copies_21 ?_
      refine j_sipush (pc := 24) (v := 460) C dX11_copies_24 (by decide) ?_
      refine j_iload_n (pc := 27) C dX11_copies_27 rfl 2 rfl ?_
      refine j_imul (pc := 28) (v := 0) C dX11_copies_28 (by decide) ?_
      refine j_iload_n (pc := 29) C dX11_copies_29 rfl 0 rfl ?_
      refine j_iadd (pc := 30) (v := (nI (0 + i_1))) C dX11_copies_30 (nI_add 0 i_1) ?_
      refine j_iald (pc := 31) (v := 0) (k := (0 + i_1)) C 1 1 rfl rfl (nI_pos (by omega)) (nI_clamp (by omega)) (by omega) (hz_1_0 (0 + i_1) (by omega)) dX11_copies_31 ?_
      refine j_iast (pc := 32) (k := (460 + i_1)) (ws' := [(g0, .inr (11, [.int 0, .ref g1, .int 0, .int 0, .ref g2, .ref g3, .ref g4, .int 0, .int 0, .ref g5, .ref g6, .ref g7, .ref g8, .int 0, .ref g9, .ref g10, .int 1, .ref g11, .ref g12, .ref g13, .ref g14, .ref g15, .int 0, .int 0, .int 0, .ref g16, .int 0, .ref g17, .ref g18, .ref g19, .ref g20, .ref g21, .ref g22, .int 0, .int 0, .int 0, .ref g23, .ref g24, .int 0, .int 0, .int 0, .int 0, .ref g25])), (g14, .inl (cyI, 2760, .inl (upd g_1_0 (460 + i_1) 0)))]) C 1 1 rfl rfl (nI_pos (by omega)) (nI_clamp (by omega)) (by omega) dX11_copies_32 rfl ?_
      refine j_iinc (pc := 33) (v := (nI (i_1 + 1))) (lv' := [(3, .int (nI (i_1 + 1))), (0, .ref g0), (1, .int 0), (2, .int 1)]) C dX11_copies_33 0 rfl (nI_1 i_1) (by decide) rfl ?_
      refine j_goto (pc := 36) (tgt := 2) C dX11_copies_36 (by decide) ?_
      exact j_lv [0, 1, 2, 3] rfl (ih_1 (i_1 + 1) _ (by omega) (zupd hz_1_0 rfl))
  exact j_lv [0, 1, 2, 3] rfl (loop_1 460 0 _ rfl (fun _ _ => rfl))
set_option maxHeartbeats 4000000 in
set_option maxRecDepth 100000 in
theorem c_X11_copies_2 (l : Launch) (D : va_G) (cyC cyI cyJ cyZ cyO : ClassId) (g0 : Nat) (g1 : Nat) (g2 : Nat) (g3 : Nat) (g4 : Nat) (g5 : Nat) (g6 : Nat) (g7 : Nat) (g8 : Nat) (g9 : Nat) (g10 : Nat) (g11 : Nat) (g12 : Nat) (g13 : Nat) (g14 : Nat) (g15 : Nat) (g16 : Nat) (g17 : Nat) (g18 : Nat) (g19 : Nat) (g20 : Nat) (g21 : Nat) (g22 : Nat) (g23 : Nat) (g24 : Nat) (g25 : Nat) : KK l D (TY cyC cyI cyJ cyZ cyO) yX11_copies cX11_copies 4 none ({ frames := 0, cells := 0, slots := 0, locals := 0 } : Room) 0 0 [.ref g0, .int 0, .int 2] [(g0, .inr (11, [.int 0, .ref g1, .int 0, .int 0, .ref g2, .ref g3, .ref g4, .int 0, .int 0, .ref g5, .ref g6, .ref g7, .ref g8, .int 0, .ref g9, .ref g10, .int 1, .ref g11, .ref g12, .ref g13, .ref g14, .ref g15, .int 0, .int 0, .int 0, .ref g16, .int 0, .ref g17, .ref g18, .ref g19, .ref g20, .ref g21, .ref g22, .int 0, .int 0, .int 0, .ref g23, .ref g24, .int 0, .int 0, .int 0, .int 0, .ref g25])), (g14, .inl (cyI, 2760, .inl (fun _ => 0)))] (fun u => none) (fun u => True) (fun u => [(g0, .inr (11, [.int 0, .ref g1, .int 0, .int 0, .ref g2, .ref g3, .ref g4, .int 0, .int 0, .ref g5, .ref g6, .ref g7, .ref g8, .int 0, .ref g9, .ref g10, .int 1, .ref g11, .ref g12, .ref g13, .ref g14, .ref g15, .int 0, .int 0, .int 0, .ref g16, .int 0, .ref g17, .ref g18, .ref g19, .ref g20, .ref g21, .ref g22, .int 0, .int 0, .int 0, .ref g23, .ref g24, .int 0, .int 0, .int 0, .int 0, .ref g25])), (g14, .inl (cyI, 2760, .inl (fun _ => 0)))]) := by
  refine KK.of (lv0 := [(0, .ref g0), (1, .int 0), (2, .int 2)]) (by decide) rfl (Nat.le_of_ble_eq_true rfl) ?_
  intro p e s m args below meth c A C hr hk hin
  refine j_iconst (pc := 0) (v := 0) C dX11_copies_0 (by decide) ?_
  refine j_istore_n (pc := 1) (lv' := [(3, .int 0), (0, .ref g0), (1, .int 0), (2, .int 2)]) C dX11_copies_1 rfl (by decide) rfl ?_
  have loop_1 : ∀ (k_1 i_1 : Nat) (g_1_0 : Nat → Int32), i_1 + k_1 = 460 → (∀ j, j < 2760 → g_1_0 j = 0) → J p l e ({ frames := 0, cells := 0, slots := 0, locals := 0 } : Room) s m args below meth c D A 4 0 0 (QX below D (TY cyC cyI cyJ cyZ cyO) A (fun u => none) (fun u => True) (fun u => [(g0, .inr (11, [.int 0, .ref g1, .int 0, .int 0, .ref g2, .ref g3, .ref g4, .int 0, .int 0, .ref g5, .ref g6, .ref g7, .ref g8, .int 0, .ref g9, .ref g10, .int 1, .ref g11, .ref g12, .ref g13, .ref g14, .ref g15, .int 0, .int 0, .int 0, .ref g16, .int 0, .ref g17, .ref g18, .ref g19, .ref g20, .ref g21, .ref g22, .int 0, .int 0, .int 0, .ref g23, .ref g24, .int 0, .int 0, .int 0, .int 0, .ref g25])), (g14, .inl (cyI, 2760, .inl (fun _ => 0)))]) args s 0 0) [(g0, .inr (11, [.int 0, .ref g1, .int 0, .int 0, .ref g2, .ref g3, .ref g4, .int 0, .int 0, .ref g5, .ref g6, .ref g7, .ref g8, .int 0, .ref g9, .ref g10, .int 1, .ref g11, .ref g12, .ref g13, .ref g14, .ref g15, .int 0, .int 0, .int 0, .ref g16, .int 0, .ref g17, .ref g18, .ref g19, .ref g20, .ref g21, .ref g22, .int 0, .int 0, .int 0, .ref g23, .ref g24, .int 0, .int 0, .int 0, .int 0, .ref g25])), (g14, .inl (cyI, 2760, .inl g_1_0))] 2 [(3, .int (nI i_1)), (0, .ref g0), (1, .int 0), (2, .int 2)] [] := by
    intro k_1
    induction k_1 with
    | zero =>
      intro i_1 g_1_0 hi_1 hz_1_0
      obtain rfl : i_1 = 460 := by omega
      refine j_arrc (q0 := 1) (g := fun _ => 0) (ws' := [(g0, .inr (11, [.int 0, .ref g1, .int 0, .int 0, .ref g2, .ref g3, .ref g4, .int 0, .int 0, .ref g5, .ref g6, .ref g7, .ref g8, .int 0, .ref g9, .ref g10, .int 1, .ref g11, .ref g12, .ref g13, .ref g14, .ref g15, .int 0, .int 0, .int 0, .ref g16, .int 0, .ref g17, .ref g18, .ref g19, .ref g20, .ref g21, .ref g22, .int 0, .int 0, .int 0, .ref g23, .ref g24, .int 0, .int 0, .int 0, .int 0, .ref g25])), (g14, .inl (cyI, 2760, .inl (fun _ => 0)))]) rfl hz_1_0 rfl ?_
      refine j_iload_n (pc := 2) C dX11_copies_2 rfl 0 rfl ?_
      refine j_sipush (pc := 3) (v := 460) C dX11_copies_3 (by decide) ?_
      refine j_icmp_ge_t (pc := 6) (tgt := 39) C dX11_copies_6 (by decide) (by decide) ?_
      exact j_vret (pc := 39) C hr hk (fun i => [].getD i 0, fun _ => 0, fun _ _ => 0) rfl trivial [0, 1] (by decide) rfl (by decide) (by decide) dX11_copies_39
    | succ k_1 ih_1 =>
      intro i_1 g_1_0 hi_1 hz_1_0
      refine j_iload_n (pc := 2) C dX11_copies_2 rfl 0 rfl ?_
      refine j_sipush (pc := 3) (v := 460) C dX11_copies_3 (by decide) ?_
      refine j_icmp_ge_f (pc := 6) (tgt := 39) C dX11_copies_6 (by decide) (nI12 460 (by omega) (by decide)) ?_
      refine j_aload_n (pc := 9) C dX11_copies_9 rfl 1 rfl ?_
      refine j_get (pc := 10) (ci := 11) (v := .ref g14) C inw_11 0 rfl rfl 20 (by decide) wd_155 rfl rfl dX11_copies_10 ?_
      refine j_sipush (pc := 13) (v := 460) C dX11_copies_13 (by decide) ?_
      refine j_iload_n (pc := 16) C dX11_copies_16 rfl 3 rfl ?_
      refine j_imul (pc := 17) (v := 920) C dX11_copies_17 (by decide) ?_
      refine j_iload_n (pc := 18) C dX11_copies_18 rfl 0 rfl ?_
      refine j_iadd (pc := 19) (v := (nI (920 + i_1))) C dX11_copies_19 (nI_add 920 i_1) ?_
      refine j_aload_n (pc := 20) C dX11_copies_20 rfl 1 rfl ?_
      refine j_get (pc := 21) (ci := 11) (v := .ref g14) C inw_11 0 rfl rfl 20 (by decide) wd_155 rfl rfl dX11_copies_21 ?_
      refine j_sipush (pc := 24) (v := 460) C dX11_copies_24 (by decide) ?_
      refine j_iload_n (pc := 27) C dX11_copies_27 rfl 2 rfl ?_
      refine j_imul (pc := 28) (v := 0) C dX11_copies_28 (by decide) ?_
      refine j_iload_n (pc := 29) C dX11_copies_29 rfl 0 rfl ?_
      refine j_iadd (pc := 30) (v := (nI (0 + i_1))) C dX11_copies_30 (nI_add 0 i_1) ?_
      refine j_iald (pc := 31) (v := 0) (k := (0 + i_1)) C 1 1 rfl rfl (nI_pos (by omega)) (nI_clamp (by omega)) (by omega) (hz_1_0 (0 + i_1) (by omega)) dX11_copies_31 ?_
      refine j_iast (pc := 32) (k := (920 + i_1)) (ws' := [(g0, .inr (11, [.int 0, .ref g1, .int 0, .int 0, .ref g2, .ref g3, .ref g4, .int 0, .int 0, .ref g5, .ref g6, .ref g7, .ref g8, .int 0, .ref g9, .ref g10, .int 1, .ref g11, .ref g12, .ref g13, .ref g14, .ref g15, .int 0, .int 0, .int 0, .ref g16, .int 0, .ref g17, .ref g18, .ref g19, .ref g20, .ref g21, .ref g22, .int 0, .int 0, .int 0, .ref g23, .ref g24, .int 0, .int 0, .int 0, .int 0, .ref g25])), (g14, .inl (cyI, 2760, .inl (upd g_1_0 (920 + i_1) 0)))]) C 1 1 rfl rfl (nI_pos (by omega)) (nI_clamp (by omega)) (by omega) dX11_copies_32 rfl ?_
      refine j_iinc (pc := 33) (v := (nI (i_1 + 1))) (lv' := [(3, .int (nI (i_1 + 1))), (0, .ref g0), (1, .int 0), (2, .int 2)]) C dX11_copies_33 0 rfl (nI_1 i_1) (by decide) rfl ?_
      refine j_goto (pc := 36) (tgt := 2) C dX11_copies_36 (by decide) ?_
      exact j_lv [0, 1, 2, 3] rfl (ih_1 (i_1 + 1) _ (by omega) (zupd hz_1_0 rfl))
  exact j_lv [0, 1, 2, 3] rfl (loop_1 460 0 _ rfl (fun _ _ => rfl))
set_option maxHeartbeats 4000000 in
set_option maxRecDepth 100000 in
theorem c_X11_copies_3 (l : Launch) (D : va_G) (cyC cyI cyJ cyZ cyO : ClassId) (g0 : Nat) (g1 : Nat) (g2 : Nat) (g3 : Nat) (g4 : Nat) (g5 : Nat) (g6 : Nat) (g7 : Nat) (g8 : Nat) (g9 : Nat) (g10 : Nat) (g11 : Nat) (g12 : Nat) (g13 : Nat) (g14 : Nat) (g15 : Nat) (g16 : Nat) (g17 : Nat) (g18 : Nat) (g19 : Nat) (g20 : Nat) (g21 : Nat) (g22 : Nat) (g23 : Nat) (g24 : Nat) (g25 : Nat) : KK l D (TY cyC cyI cyJ cyZ cyO) yX11_copies cX11_copies 4 none ({ frames := 0, cells := 0, slots := 0, locals := 0 } : Room) 0 0 [.ref g0, .int 0, .int 3] [(g0, .inr (11, [.int 0, .ref g1, .int 0, .int 0, .ref g2, .ref g3, .ref g4, .int 0, .int 0, .ref g5, .ref g6, .ref g7, .ref g8, .int 0, .ref g9, .ref g10, .int 1, .ref g11, .ref g12, .ref g13, .ref g14, .ref g15, .int 0, .int 0, .int 0, .ref g16, .int 0, .ref g17, .ref g18, .ref g19, .ref g20, .ref g21, .ref g22, .int 0, .int 0, .int 0, .ref g23, .ref g24, .int 0, .int 0, .int 0, .int 0, .ref g25])), (g14, .inl (cyI, 2760, .inl (fun _ => 0)))] (fun u => none) (fun u => True) (fun u => [(g0, .inr (11, [.int 0, .ref g1, .int 0, .int 0, .ref g2, .ref g3, .ref g4, .int 0, .int 0, .ref g5, .ref g6, .ref g7, .ref g8, .int 0, .ref g9, .ref g10, .int 1, .ref g11, .ref g12, .ref g13, .ref g14, .ref g15, .int 0, .int 0, .int 0, .ref g16, .int 0, .ref g17, .ref g18, .ref g19, .ref g20, .ref g21, .ref g22, .int 0, .int 0, .int 0, .ref g23, .ref g24, .int 0, .int 0, .int 0, .int 0, .ref g25])), (g14, .inl (cyI, 2760, .inl (fun _ => 0)))]) := by
  refine KK.of (lv0 := [(0, .ref g0), (1, .int 0), (2, .int 3)]) (by decide) rfl (Nat.le_of_ble_eq_true rfl) ?_
  intro p e s m args below meth c A C hr hk hin
  refine j_iconst (pc := 0) (v := 0) C dX11_copies_0 (by decide) ?_
  refine j_istore_n (pc := 1) (lv' := [(3, .int 0), (0, .ref g0), (1, .int 0), (2, .int 3)]) C dX11_copies_1 rfl (by decide) rfl ?_
  have loop_1 : ∀ (k_1 i_1 : Nat) (g_1_0 : Nat → Int32), i_1 + k_1 = 460 → (∀ j, j < 2760 → g_1_0 j = 0) → J p l e ({ frames := 0, cells := 0, slots := 0, locals := 0 } : Room) s m args below meth c D A 4 0 0 (QX below D (TY cyC cyI cyJ cyZ cyO) A (fun u => none) (fun u => True) (fun u => [(g0, .inr (11, [.int 0, .ref g1, .int 0, .int 0, .ref g2, .ref g3, .ref g4, .int 0, .int 0, .ref g5, .ref g6, .ref g7, .ref g8, .int 0, .ref g9, .ref g10, .int 1, .ref g11, .ref g12, .ref g13, .ref g14, .ref g15, .int 0, .int 0, .int 0, .ref g16, .int 0, .ref g17, .ref g18, .ref g19, .ref g20, .ref g21, .ref g22, .int 0, .int 0, .int 0, .ref g23, .ref g24, .int 0, .int 0, .int 0, .int 0, .ref g25])), (g14, .inl (cyI, 2760, .inl (fun _ => 0)))]) args s 0 0) [(g0, .inr (11, [.int 0, .ref g1, .int 0, .int 0, .ref g2, .ref g3, .ref g4, .int 0, .int 0, .ref g5, .ref g6, .ref g7, .ref g8, .int 0, .ref g9, .ref g10, .int 1, .ref g11, .ref g12, .ref g13, .ref g14, .ref g15, .int 0, .int 0, .int 0, .ref g16, .int 0, .ref g17, .ref g18, .ref g19, .ref g20, .ref g21, .ref g22, .int 0, .int 0, .int 0, .ref g23, .ref g24, .int 0, .int 0, .int 0, .int 0, .ref g25])), (g14, .inl (cyI, 2760, .inl g_1_0))] 2 [(3, .int (nI i_1)), (0, .ref g0), (1, .int 0), (2, .int 3)] [] := by
    intro k_1
    induction k_1 with
    | zero =>
      intro i_1 g_1_0 hi_1 hz_1_0
      obtain rfl : i_1 = 460 := by omega
      refine j_arrc (q0 := 1) (g := fun _ => 0) (ws' := [(g0, .inr (11, [.int 0, .ref g1, .int 0, .int 0, .ref g2, .ref g3, .ref g4, .int 0, .int 0, .ref g5, .ref g6, .ref g7, .ref g8, .int 0, .ref g9, .ref g10, .int 1, .ref g11, .ref g12, .ref g13, .ref g14, .ref g15, .int 0, .int 0, .int 0, .ref g16, .int 0, .ref g17, .ref g18, .ref g19, .ref g20, .ref g21, .ref g22, .int 0, .int 0, .int 0, .ref g23, .ref g24, .int 0, .int 0, .int 0, .int 0, .ref g25])), (g14, .inl (cyI, 2760, .inl (fun _ => 0)))]) rfl hz_1_0 rfl ?_
      refine j_iload_n (pc := 2) C dX11_copies_2 rfl 0 rfl ?_
      refine j_sipush (pc := 3) (v := 460) C dX11_copies_3 (by decide) ?_
      refine j_icmp_ge_t (pc := 6) (tgt := 39) C dX11_copies_6 (by decide) (by decide) ?_
      exact j_vret (pc := 39) C hr hk (fun i => [].getD i 0, fun _ => 0, fun _ _ => 0) rfl trivial [0, 1] (by decide) rfl (by decide) (by decide) dX11_copies_39
    | succ k_1 ih_1 =>
      intro i_1 g_1_0 hi_1 hz_1_0
      refine j_iload_n (pc := 2) C dX11_copies_2 rfl 0 rfl ?_
      refine j_sipush (pc := 3) (v := 460) C dX11_copies_3 (by decide) ?_
      refine j_icmp_ge_f (pc := 6) (tgt := 39) C dX11_copies_6 (by decide) (nI12 460 (by omega) (by decide)) ?_
      refine j_aload_n (pc := 9) C dX11_copies_9 rfl 1 rfl ?_
      refine j_get (pc := 10) (ci := 11) (v := .ref g14) C inw_11 0 rfl rfl 20 (by decide) wd_155 rfl rfl dX11_copies_10 ?_
      refine j_sipush (pc := 13) (v := 460) C dX11_copies_13 (by decide) ?_
      refine j_iload_n (pc := 16) C dX11_copies_16 rfl 3 rfl ?_
      refine j_imul (pc := 17) (v := 1380) C dX11_copies_17 (by decide) ?_
      refine j_iload_n (pc := 18) C dX11_copies_18 rfl 0 rfl ?_
      refine j_iadd (pc := 19) (v := (nI (1380 + i_1))) C dX11_copies_19 (nI_add 1380 i_1) ?_
      refine j_aload_n (pc := 20) C dX11_copies_20 rfl 1 rfl ?_
      refine j_get (pc := 21) (ci := 11) (v := .ref g14) C inw_11 0 rfl rfl 20 (by decide) wd_155 rfl rfl dX11_copies_21 ?_
      refine j_sipush (pc := 24) (v := 460) C dX11_copies_24 (by decide) ?_
      refine j_iload_n (pc := 27) C dX11_copies_27 rfl 2 rfl ?_
      refine j_imul (pc := 28) (v := 0) C dX11_copies_28 (by decide) ?_
      refine j_iload_n (pc := 29) C dX11_copies_29 rfl 0 rfl ?_
      refine j_iadd (pc := 30) (v := (nI (0 + i_1))) C dX11_copies_30 (nI_add 0 i_1) ?_
      refine j_iald (pc := 31) (v := 0) (k := (0 + i_1)) C 1 1 rfl rfl (nI_pos (by omega)) (nI_clamp (by omega)) (by omega) (hz_1_0 (0 + i_1) (by omega)) dX11_copies_31 ?_
      refine j_iast (pc := 32) (k := (1380 + i_1)) (ws' := [(g0, .inr (11, [.int 0, .ref g1, .int 0, .int 0, .ref g2, .ref g3, .ref g4, .int 0, .int 0, .ref g5, .ref g6, .ref g7, .ref g8, .int 0, .ref g9, .ref g10, .int 1, .ref g11, .ref g12, .ref g13, .ref g14, .ref g15, .int 0, .int 0, .int 0, .ref g16, .int 0, .ref g17, .ref g18, .ref g19, .ref g20, .ref g21, .ref g22, .int 0, .int 0, .int 0, .ref g23, .ref g24, .int 0, .int 0, .int 0, .int 0, .ref g25])), (g14, .inl (cyI, 2760, .inl (upd g_1_0 (1380 + i_1) 0)))]) C 1 1 rfl rfl (nI_pos (by omega)) (nI_clamp (by omega)) (by omega) dX11_copies_32 rfl ?_
      refine j_iinc (pc := 33) (v := (nI (i_1 + 1))) (lv' := [(3, .int (nI (i_1 + 1))), (0, .ref g0), (1, .int 0), (2, .int 3)]) C dX11_copies_33 0 rfl (nI_1 i_1) (by decide) rfl ?_
      refine j_goto (pc := 36) (tgt := 2) C dX11_copies_36 (by decide) ?_
      exact j_lv [0, 1, 2, 3] rfl (ih_1 (i_1 + 1) _ (by omega) (zupd hz_1_0 rfl))
  exact j_lv [0, 1, 2, 3] rfl (loop_1 460 0 _ rfl (fun _ _ => rfl))
set_option maxHeartbeats 4000000 in
set_option maxRecDepth 100000 in
theorem c_X11_copies_4 (l : Launch) (D : va_G) (cyC cyI cyJ cyZ cyO : ClassId) (g0 : Nat) (g1 : Nat) (g2 : Nat) (g3 : Nat) (g4 : Nat) (g5 : Nat) (g6 : Nat) (g7 : Nat) (g8 : Nat) (g9 : Nat) (g10 : Nat) (g11 : Nat) (g12 : Nat) (g13 : Nat) (g14 : Nat) (g15 : Nat) (g16 : Nat) (g17 : Nat) (g18 : Nat) (g19 : Nat) (g20 : Nat) (g21 : Nat) (g22 : Nat) (g23 : Nat) (g24 : Nat) (g25 : Nat) : KK l D (TY cyC cyI cyJ cyZ cyO) yX11_copies cX11_copies 4 none ({ frames := 0, cells := 0, slots := 0, locals := 0 } : Room) 0 0 [.ref g0, .int 0, .int 4] [(g0, .inr (11, [.int 0, .ref g1, .int 0, .int 0, .ref g2, .ref g3, .ref g4, .int 0, .int 0, .ref g5, .ref g6, .ref g7, .ref g8, .int 0, .ref g9, .ref g10, .int 1, .ref g11, .ref g12, .ref g13, .ref g14, .ref g15, .int 0, .int 0, .int 0, .ref g16, .int 0, .ref g17, .ref g18, .ref g19, .ref g20, .ref g21, .ref g22, .int 0, .int 0, .int 0, .ref g23, .ref g24, .int 0, .int 0, .int 0, .int 0, .ref g25])), (g14, .inl (cyI, 2760, .inl (fun _ => 0)))] (fun u => none) (fun u => True) (fun u => [(g0, .inr (11, [.int 0, .ref g1, .int 0, .int 0, .ref g2, .ref g3, .ref g4, .int 0, .int 0, .ref g5, .ref g6, .ref g7, .ref g8, .int 0, .ref g9, .ref g10, .int 1, .ref g11, .ref g12, .ref g13, .ref g14, .ref g15, .int 0, .int 0, .int 0, .ref g16, .int 0, .ref g17, .ref g18, .ref g19, .ref g20, .ref g21, .ref g22, .int 0, .int 0, .int 0, .ref g23, .ref g24, .int 0, .int 0, .int 0, .int 0, .ref g25])), (g14, .inl (cyI, 2760, .inl (fun _ => 0)))]) := by
  refine KK.of (lv0 := [(0, .ref g0), (1, .int 0), (2, .int 4)]) (by decide) rfl (Nat.le_of_ble_eq_true rfl) ?_
  intro p e s m args below meth c A C hr hk hin
  refine j_iconst (pc := 0) (v := 0) C dX11_copies_0 (by decide) ?_
  refine j_istore_n (pc := 1) (lv' := [(3, .int 0), (0, .ref g0), (1, .int 0), (2, .int 4)]) C dX11_copies_1 rfl (by decide) rfl ?_
  have loop_1 : ∀ (k_1 i_1 : Nat) (g_1_0 : Nat → Int32), i_1 + k_1 = 460 → (∀ j, j < 2760 → g_1_0 j = 0) → J p l e ({ frames := 0, cells := 0, slots := 0, locals := 0 } : Room) s m args below meth c D A 4 0 0 (QX below D (TY cyC cyI cyJ cyZ cyO) A (fun u => none) (fun u => True) (fun u => [(g0, .inr (11, [.int 0, .ref g1, .int 0, .int 0, .ref g2, .ref g3, .ref g4, .int 0, .int 0, .ref g5, .ref g6, .ref g7, .ref g8, .int 0, .ref g9, .ref g10, .int 1, .ref g11, .ref g12, .ref g13, .ref g14, .ref g15, .int 0, .int 0, .int 0, .ref g16, .int 0, .ref g17, .ref g18, .ref g19, .ref g20, .ref g21, .ref g22, .int 0, .int 0, .int 0, .ref g23, .ref g24, .int 0, .int 0, .int 0, .int 0, .ref g25])), (g14, .inl (cyI, 2760, .inl (fun _ => 0)))]) args s 0 0) [(g0, .inr (11, [.int 0, .ref g1, .int 0, .int 0, .ref g2, .ref g3, .ref g4, .int 0, .int 0, .ref g5, .ref g6, .ref g7, .ref g8, .int 0, .ref g9, .ref g10, .int 1, .ref g11, .ref g12, .ref g13, .ref g14, .ref g15, .int 0, .int 0, .int 0, .ref g16, .int 0, .ref g17, .ref g18, .ref g19, .ref g20, .ref g21, .ref g22, .int 0, .int 0, .int 0, .ref g23, .ref g24, .int 0, .int 0, .int 0, .int 0, .ref g25])), (g14, .inl (cyI, 2760, .inl g_1_0))] 2 [(3, .int (nI i_1)), (0, .ref g0), (1, .int 0), (2, .int 4)] [] := by
    intro k_1
    induction k_1 with
    | zero =>
      intro i_1 g_1_0 hi_1 hz_1_0
      obtain rfl : i_1 = 460 := by omega
      refine j_arrc (q0 := 1) (g := fun _ => 0) (ws' := [(g0, .inr (11, [.int 0, .ref g1, .int 0, .int 0, .ref g2, .ref g3, .ref g4, .int 0, .int 0, .ref g5, .ref g6, .ref g7, .ref g8, .int 0, .ref g9, .ref g10, .int 1, .ref g11, .ref g12, .ref g13, .ref g14, .ref g15, .int 0, .int 0, .int 0, .ref g16, .int 0, .ref g17, .ref g18, .ref g19, .ref g20, .ref g21, .ref g22, .int 0, .int 0, .int 0, .ref g23, .ref g24, .int 0, .int 0, .int 0, .int 0, .ref g25])), (g14, .inl (cyI, 2760, .inl (fun _ => 0)))]) rfl hz_1_0 rfl ?_
      refine j_iload_n (pc := 2) C dX11_copies_2 rfl 0 rfl ?_
      refine j_sipush (pc := 3) (v := 460) C dX11_copies_3 (by decide) ?_
      refine j_icmp_ge_t (pc := 6) (tgt := 39) C dX11_copies_6 (by decide) (by decide) ?_
      exact j_vret (pc := 39) C hr hk (fun i => [].getD i 0, fun _ => 0, fun _ _ => 0) rfl trivial [0, 1] (by decide) rfl (by decide) (by decide) dX11_copies_39
    | succ k_1 ih_1 =>
      intro i_1 g_1_0 hi_1 hz_1_0
      refine j_iload_n (pc := 2) C dX11_copies_2 rfl 0 rfl ?_
      refine j_sipush (pc := 3) (v := 460) C dX11_copies_3 (by decide) ?_
      refine j_icmp_ge_f (pc := 6) (tgt := 39) C dX11_copies_6 (by decide) (nI12 460 (by omega) (by decide)) ?_
      refine j_aload_n (pc := 9) C dX11_copies_9 rfl 1 rfl ?_
      refine j_get (pc := 10) (ci := 11) (v := .ref g14) C inw_11 0 rfl rfl 20 (by decide) wd_155 rfl rfl dX11_copies_10 ?_
      refine j_sipush (pc := 13) (v := 460) C dX11_copies_13 (by decide) ?_
      refine j_iload_n (pc := 16) C dX11_copies_16 rfl 3 rfl ?_
      refine j_imul (pc := 17) (v := 1840) C dX11_copies_17 (by decide) ?_
      refine j_iload_n (pc := 18) C dX11_copies_18 rfl 0 rfl ?_
      refine j_iadd (pc := 19) (v := (nI (1840 + i_1))) C dX11_copies_19 (nI_add 1840 i_1) ?_
      refine j_aload_n (pc := 20) C dX11_copies_20 rfl 1 rfl ?_
      refine j_get (pc := 21) (ci := 11) (v := .ref g14) C inw_11 0 rfl rfl 20 (by decide) wd_155 rfl rfl dX11_copies_21 ?_
      refine j_sipush (pc := 24) (v := 460) C dX11_copies_24 (by decide) ?_
      refine j_iload_n (pc := 27) C dX11_copies_27 rfl 2 rfl ?_
      refine j_imul (pc := 28) (v := 0) C dX11_copies_28 (by decide) ?_
      refine j_iload_n (pc := 29) C dX11_copies_29 rfl 0 rfl ?_
      refine j_iadd (pc := 30) (v := (nI (0 + i_1))) C dX11_copies_30 (nI_add 0 i_1) ?_
      refine j_iald (pc := 31) (v := 0) (k := (0 + i_1)) C 1 1 rfl rfl (nI_pos (by omega)) (nI_clamp (by omega)) (by omega) (hz_1_0 (0 + i_1) (by omega)) dX11_copies_31 ?_
      refine j_iast (pc := 32) (k := (1840 + i_1)) (ws' := [(g0, .inr (11, [.int 0, .ref g1, .int 0, .int 0, .ref g2, .ref g3, .ref g4, .int 0, .int 0, .ref g5, .ref g6, .ref g7, .ref g8, .int 0, .ref g9, .ref g10, .int 1, .ref g11, .ref g12, .ref g13, .ref g14, .ref g15, .int 0, .int 0, .int 0, .ref g16, .int 0, .ref g17, .ref g18, .ref g19, .ref g20, .ref g21, .ref g22, .int 0, .int 0, .int 0, .ref g23, .ref g24, .int 0, .int 0, .int 0, .int 0, .ref g25])), (g14, .inl (cyI, 2760, .inl (upd g_1_0 (1840 + i_1) 0)))]) C 1 1 rfl rfl (nI_pos (by omega)) (nI_clamp (by omega)) (by omega) dX11_copies_32 rfl ?_
      refine j_iinc (pc := 33) (v := (nI (i_1 + 1))) (lv' := [(3, .int (nI (i_1 + 1))), (0, .ref g0), (1, .int 0), (2, .int 4)]) C dX11_copies_33 0 rfl (nI_1 i_1) (by decide) rfl ?_
      refine j_goto (pc := 36) (tgt := 2) C dX11_copies_36 (by decide) ?_
      exact j_lv [0, 1, 2, 3] rfl (ih_1 (i_1 + 1) _ (by omega) (zupd hz_1_0 rfl))
  exact j_lv [0, 1, 2, 3] rfl (loop_1 460 0 _ rfl (fun _ _ => rfl))
set_option maxHeartbeats 4000000 in
set_option maxRecDepth 100000 in
theorem c_X11_copies_5 (l : Launch) (D : va_G) (cyC cyI cyJ cyZ cyO : ClassId) (g0 : Nat) (g1 : Nat) (g2 : Nat) (g3 : Nat) (g4 : Nat) (g5 : Nat) (g6 : Nat) (g7 : Nat) (g8 : Nat) (g9 : Nat) (g10 : Nat) (g11 : Nat) (g12 : Nat) (g13 : Nat) (g14 : Nat) (g15 : Nat) (g16 : Nat) (g17 : Nat) (g18 : Nat) (g19 : Nat) (g20 : Nat) (g21 : Nat) (g22 : Nat) (g23 : Nat) (g24 : Nat) (g25 : Nat) : KK l D (TY cyC cyI cyJ cyZ cyO) yX11_copies cX11_copies 4 none ({ frames := 0, cells := 0, slots := 0, locals := 0 } : Room) 0 0 [.ref g0, .int 0, .int 5] [(g0, .inr (11, [.int 0, .ref g1, .int 0, .int 0, .ref g2, .ref g3, .ref g4, .int 0, .int 0, .ref g5, .ref g6, .ref g7, .ref g8, .int 0, .ref g9, .ref g10, .int 1, .ref g11, .ref g12, .ref g13, .ref g14, .ref g15, .int 0, .int 0, .int 0, .ref g16, .int 0, .ref g17, .ref g18, .ref g19, .ref g20, .ref g21, .ref g22, .int 0, .int 0, .int 0, .ref g23, .ref g24, .int 0, .int 0, .int 0, .int 0, .ref g25])), (g14, .inl (cyI, 2760, .inl (fun _ => 0)))] (fun u => none) (fun u => True) (fun u => [(g0, .inr (11, [.int 0, .ref g1, .int 0, .int 0, .ref g2, .ref g3, .ref g4, .int 0, .int 0, .ref g5, .ref g6, .ref g7, .ref g8, .int 0, .ref g9, .ref g10, .int 1, .ref g11, .ref g12, .ref g13, .ref g14, .ref g15, .int 0, .int 0, .int 0, .ref g16, .int 0, .ref g17, .ref g18, .ref g19, .ref g20, .ref g21, .ref g22, .int 0, .int 0, .int 0, .ref g23, .ref g24, .int 0, .int 0, .int 0, .int 0, .ref g25])), (g14, .inl (cyI, 2760, .inl (fun _ => 0)))]) := by
  refine KK.of (lv0 := [(0, .ref g0), (1, .int 0), (2, .int 5)]) (by decide) rfl (Nat.le_of_ble_eq_true rfl) ?_
  intro p e s m args below meth c A C hr hk hin
  refine j_iconst (pc := 0) (v := 0) C dX11_copies_0 (by decide) ?_
  refine j_istore_n (pc := 1) (lv' := [(3, .int 0), (0, .ref g0), (1, .int 0), (2, .int 5)]) C dX11_copies_1 rfl (by decide) rfl ?_
  have loop_1 : ∀ (k_1 i_1 : Nat) (g_1_0 : Nat → Int32), i_1 + k_1 = 460 → (∀ j, j < 2760 → g_1_0 j = 0) → J p l e ({ frames := 0, cells := 0, slots := 0, locals := 0 } : Room) s m args below meth c D A 4 0 0 (QX below D (TY cyC cyI cyJ cyZ cyO) A (fun u => none) (fun u => True) (fun u => [(g0, .inr (11, [.int 0, .ref g1, .int 0, .int 0, .ref g2, .ref g3, .ref g4, .int 0, .int 0, .ref g5, .ref g6, .ref g7, .ref g8, .int 0, .ref g9, .ref g10, .int 1, .ref g11, .ref g12, .ref g13, .ref g14, .ref g15, .int 0, .int 0, .int 0, .ref g16, .int 0, .ref g17, .ref g18, .ref g19, .ref g20, .ref g21, .ref g22, .int 0, .int 0, .int 0, .ref g23, .ref g24, .int 0, .int 0, .int 0, .int 0, .ref g25])), (g14, .inl (cyI, 2760, .inl (fun _ => 0)))]) args s 0 0) [(g0, .inr (11, [.int 0, .ref g1, .int 0, .int 0, .ref g2, .ref g3, .ref g4, .int 0, .int 0, .ref g5, .ref g6, .ref g7, .ref g8, .int 0, .ref g9, .ref g10, .int 1, .ref g11, .ref g12, .ref g13, .ref g14, .ref g15, .int 0, .int 0, .int 0, .ref g16, .int 0, .ref g17, .ref g18, .ref g19, .ref g20, .ref g21, .ref g22, .int 0, .int 0, .int 0, .ref g23, .ref g24, .int 0, .int 0, .int 0, .int 0, .ref g25])), (g14, .inl (cyI, 2760, .inl g_1_0))] 2 [(3, .int (nI i_1)), (0, .ref g0), (1, .int 0), (2, .int 5)] [] := by
    intro k_1
    induction k_1 with
    | zero =>
      intro i_1 g_1_0 hi_1 hz_1_0
      obtain rfl : i_1 = 460 := by omega
      refine j_arrc (q0 := 1) (g := fun _ => 0) (ws' := [(g0, .inr (11, [.int 0, .ref g1, .int 0, .int 0, .ref g2, .ref g3, .ref g4, .int 0, .int 0, .ref g5, .ref g6, .ref g7, .ref g8, .int 0, .ref g9, .ref g10, .int 1, .ref g11, .ref g12, .ref g13, .ref g14, .ref g15, .int 0, .int 0, .int 0, .ref g16, .int 0, .ref g17, .ref g18, .ref g19, .ref g20, .ref g21, .ref g22, .int 0, .int 0, .int 0, .ref g23, .ref g24, .int 0, .int 0, .int 0, .int 0, .ref g25])), (g14, .inl (cyI, 2760, .inl (fun _ => 0)))]) rfl hz_1_0 rfl ?_
      refine j_iload_n (pc := 2) C dX11_copies_2 rfl 0 rfl ?_
      refine j_sipush (pc := 3) (v := 460) C dX11_copies_3 (by decide) ?_
      refine j_icmp_ge_t (pc := 6) (tgt := 39) C dX11_copies_6 (by decide) (by decide) ?_
      exact j_vret (pc := 39) C hr hk (fun i => [].getD i 0, fun _ => 0, fun _ _ => 0) rfl trivial [0, 1] (by decide) rfl (by decide) (by decide) dX11_copies_39
    | succ k_1 ih_1 =>
      intro i_1 g_1_0 hi_1 hz_1_0
      refine j_iload_n (pc := 2) C dX11_copies_2 rfl 0 rfl ?_
      refine j_sipush (pc := 3) (v := 460) C dX11_copies_3 (by decide) ?_
      refine j_icmp_ge_f (pc := 6) (tgt := 39) C dX11_copies_6 (by decide) (nI12 460 (by omega) (by decide)) ?_
      refine j_aload_n (pc := 9) C dX11_copies_9 rfl 1 rfl ?_
      refine j_get (pc := 10) (ci := 11) (v := .ref g14) C inw_11 0 rfl rfl 20 (by decide) wd_155 rfl rfl dX11_copies_10 ?_
      refine j_sipush (pc := 13) (v := 460) C dX11_copies_13 (by decide) ?_
      refine j_iload_n (pc := 16) C dX11_copies_16 rfl 3 rfl ?_
      refine j_imul (pc := 17) (v := 2300) C dX11_copies_17 (by decide) ?_
      refine j_iload_n (pc := 18) C dX11_copies_18 rfl 0 rfl ?_
      refine j_iadd (pc := 19) (v := (nI (2300 + i_1))) C dX11_copies_19 (nI_add 2300 i_1) ?_
      refine j_aload_n (pc := 20) C dX11_copies_20 rfl 1 rfl ?_
      refine j_get (pc := 21) (ci := 11) (v := .ref g14) C inw_11 0 rfl rfl 20 (by decide) wd_155 rfl rfl dX11_copies_21 ?_
      refine j_sipush (pc := 24) (v := 460) C dX11_copies_24 (by decide) ?_
      refine j_iload_n (pc := 27) C dX11_copies_27 rfl 2 rfl ?_
      refine j_imul (pc := 28) (v := 0) C dX11_copies_28 (by decide) ?_
      refine j_iload_n (pc := 29) C dX11_copies_29 rfl 0 rfl ?_
      refine j_iadd (pc := 30) (v := (nI (0 + i_1))) C dX11_copies_30 (nI_add 0 i_1) ?_
      refine j_iald (pc := 31) (v := 0) (k := (0 + i_1)) C 1 1 rfl rfl (nI_pos (by omega)) (nI_clamp (by omega)) (by omega) (hz_1_0 (0 + i_1) (by omega)) dX11_copies_31 ?_
      refine j_iast (pc := 32) (k := (2300 + i_1)) (ws' := [(g0, .inr (11, [.int 0, .ref g1, .int 0, .int 0, .ref g2, .ref g3, .ref g4, .int 0, .int 0, .ref g5, .ref g6, .ref g7, .ref g8, .int 0, .ref g9, .ref g10, .int 1, .ref g11, .ref g12, .ref g13, .ref g14, .ref g15, .int 0, .int 0, .int 0, .ref g16, .int 0, .ref g17, .ref g18, .ref g19, .ref g20, .ref g21, .ref g22, .int 0, .int 0, .int 0, .ref g23, .ref g24, .int 0, .int 0, .int 0, .int 0, .ref g25])), (g14, .inl (cyI, 2760, .inl (upd g_1_0 (2300 + i_1) 0)))]) C 1 1 rfl rfl (nI_pos (by omega)) (nI_clamp (by omega)) (by omega) dX11_copies_32 rfl ?_
      refine j_iinc (pc := 33) (v := (nI (i_1 + 1))) (lv' := [(3, .int (nI (i_1 + 1))), (0, .ref g0), (1, .int 0), (2, .int 5)]) C dX11_copies_33 0 rfl (nI_1 i_1) (by decide) rfl ?_
      refine j_goto (pc := 36) (tgt := 2) C dX11_copies_36 (by decide) ?_
      exact j_lv [0, 1, 2, 3] rfl (ih_1 (i_1 + 1) _ (by omega) (zupd hz_1_0 rfl))
  exact j_lv [0, 1, 2, 3] rfl (loop_1 460 0 _ rfl (fun _ _ => rfl))
set_option maxHeartbeats 4000000 in
set_option maxRecDepth 100000 in
theorem c_X11_onTop (l : Launch) (D : va_G) (cyC cyI cyJ cyZ cyO : ClassId) (g0 : Nat) (g1 : Nat) (g2 : Nat) (g3 : Nat) (g4 : Nat) (g5 : Nat) (g6 : Nat) (g7 : Nat) (g8 : Nat) (g9 : Nat) (g10 : Nat) (g11 : Nat) (g12 : Nat) (g13 : Nat) (g14 : Nat) (g15 : Nat) (g16 : Nat) (g17 : Nat) (g18 : Nat) (g19 : Nat) (g20 : Nat) (g21 : Nat) (g22 : Nat) (g23 : Nat) (g24 : Nat) (g25 : Nat) : KK l D (TY cyC cyI cyJ cyZ cyO) yX11_onTop cX11_onTop 4 (some .int) ({ frames := 1, cells := 0, slots := 0, locals := 23 } : Room) 0 0 [.ref g0] [(g0, .inr (11, [.int 0, .ref g1, .int 0, .int 0, .ref g2, .ref g3, .ref g4, .int 0, .int 0, .ref g5, .ref g6, .ref g7, .ref g8, .int 0, .ref g9, .ref g10, .int 1, .ref g11, .ref g12, .ref g13, .ref g14, .ref g15, .int 0, .int 0, .int 0, .ref g16, .int 0, .ref g17, .ref g18, .ref g19, .ref g20, .ref g21, .ref g22, .int 0, .int 0, .int 0, .ref g23, .ref g24, .int 0, .int 0, .int 0, .int 0, .ref g25])), (g14, .inl (cyI, 2760, .inl (fun _ => 0)))] (fun u => some (.int 0)) (fun u => True) (fun u => []) := by
  refine KK.of (lv0 := [(0, .ref g0)]) (by decide) rfl (Nat.le_of_ble_eq_true rfl) ?_
  intro p e s m args below meth c A C hr hk hin
  refine j_aload_n (pc := 0) C dX11_onTop_0 rfl 0 rfl ?_
  refine j_iconst (pc := 1) (v := 0) C dX11_onTop_1 (by decide) ?_
  refine j_put (pc := 2) (ci := 11) (v := .int 0) (ws' := [(g0, .inr (11, [.int 0, .ref g1, .int 0, .int 0, .ref g2, .ref g3, .ref g4, .int 0, .int 0, .ref g5, .ref g6, .ref g7, .ref g8, .int 0, .ref g9, .ref g10, .int 1, .ref g11, .ref g12, .ref g13, .ref g14, .ref g15, .int 0, .int 0, .int 0, .ref g16, .int 0, .ref g17, .ref g18, .ref g19, .ref g20, .ref g21, .ref g22, .int 0, .int 0, .int 0, .ref g23, .ref g24, .int 0, .int 0, .int 0, .int 0, .ref g25])), (g14, .inl (cyI, 2760, .inl (fun _ => 0)))]) C inw_11 0 rfl rfl 0 (by decide) wd_329 rfl tyX11_ok nmX11 rfl (tyX11_ok 0 (by decide)) rfl rfl (Nat.le_of_ble_eq_true rfl) dX11_onTop_2 rfl ?_
  refine j_aload_n (pc := 5) C dX11_onTop_5 rfl 0 rfl ?_
  refine j_iconst (pc := 6) (v := 0) C dX11_onTop_6 (by decide) ?_
  refine j_iconst (pc := 7) (v := 1) C dX11_onTop_7 (by decide) ?_
  refine j_callV (pc := 8) (As := [.int 0, .int 1]) (rest := []) (wr := []) C (c_X11_copies_1 l D cyC cyI cyJ cyZ cyO g0 g1 g2 g3 g4 g5 g6 g7 g8 g9 g10 g11 g12 g13 g14 g15 g16 g17 g18 g19 g20 g21 g22 g23 g24 g25) wd_362 wd_313 wd_363 wd_364 wd_365 ⟨by decide, by decide, rfl⟩ rfl ⟨rfl, rfl, by decide, by decide⟩ ⟨by decide, by decide⟩ [0, 1] [] rfl rfl ⟨by decide, by decide, by decide⟩ 0 rfl rfl rfl (Nat.le_of_ble_eq_true rfl) dX11_onTop_8 (fun u_1 hw_2 => ?_)
  refine j_eq (ws2 := [(g0, .inr (11, [.int 0, .ref g1, .int 0, .int 0, .ref g2, .ref g3, .ref g4, .int 0, .int 0, .ref g5, .ref g6, .ref g7, .ref g8, .int 0, .ref g9, .ref g10, .int 1, .ref g11, .ref g12, .ref g13, .ref g14, .ref g15, .int 0, .int 0, .int 0, .ref g16, .int 0, .ref g17, .ref g18, .ref g19, .ref g20, .ref g21, .ref g22, .int 0, .int 0, .int 0, .ref g23, .ref g24, .int 0, .int 0, .int 0, .int 0, .ref g25])), (g14, .inl (cyI, 2760, .inl (fun _ => 0)))]) (pc2 := 11) (lv2 := [(0, .ref g0)]) (st2 := []) rfl rfl rfl rfl ?_
  refine j_iconst (pc := 11) (v := 0) C dX11_onTop_11 (by decide) ?_
  refine j_istore_n (pc := 12) (lv' := [(1, .int 0), (0, .ref g0)]) C dX11_onTop_12 rfl (by decide) rfl ?_
  refine j_iconst (pc := 13) (v := 0) C dX11_onTop_13 (by decide) ?_
  refine j_istore_n (pc := 14) (lv' := [(2, .int 0), (1, .int 0), (0, .ref g0)]) C dX11_onTop_14 rfl (by decide) rfl ?_
  refine j_iload_n (pc := 15) C dX11_onTop_15 rfl 0 rfl ?_
  refine j_aload_n (pc := 16) C dX11_onTop_16 rfl 2 rfl ?_
  refine j_callV (pc := 17) (As := []) (rest := [.int 0]) (wr := []) C (c_X11_asks l D cyC cyI cyJ cyZ cyO 1 g0 g1 g2 g3 g4 g5 g6 g7 g8 g9 g10 g11 g12 g13 g14 g15 g16 g17 g18 g19 g20 g21 g22 g23 g24 g25) wd_357 wd_313 wd_358 wd_359 wd_360 ⟨by decide, by decide, rfl⟩ rfl ⟨rfl, rfl, by decide, by decide⟩ ⟨by decide, by decide⟩ [0, 1] [] rfl rfl ⟨by decide, by decide, by decide⟩ 0 rfl rfl rfl (Nat.le_of_ble_eq_true rfl) dX11_onTop_17 (fun u_3 hw_4 => ?_)
  refine j_eq (ws2 := [(g0, .inr (11, [.int 0, .ref g1, .int 0, .int 0, .ref g2, .ref g3, .ref g4, .int 0, .int 0, .ref g5, .ref g6, .ref g7, .ref g8, .int 0, .ref g9, .ref g10, .int 1, .ref g11, .ref g12, .ref g13, .ref g14, .ref g15, .int 0, .int 0, .int 0, .ref g16, .int 0, .ref g17, .ref g18, .ref g19, .ref g20, .ref g21, .ref g22, .int 0, .int 0, .int 0, .ref g23, .ref g24, .int 0, .int 0, .int 0, .int 0, .ref g25])), (g14, .inl (cyI, 2760, .inl (fun _ => 0)))]) (pc2 := 20) (lv2 := [(2, .int 0), (1, .int 0), (0, .ref g0)]) (st2 := [.int 0, .int 0]) rfl rfl rfl rfl ?_
  refine j_icmp_ge_t (pc := 20) (tgt := 122) C dX11_onTop_20 (by decide) (by decide) ?_
  refine j_iload_n (pc := 122) C dX11_onTop_122 rfl 1 rfl ?_
  exact j_iret (pc := 123) C hr hk (fun i => [].getD i 0, fun _ => 0, fun _ _ => 0) rfl trivial [] (by decide) rfl (by decide) (by decide) dX11_onTop_123
set_option maxHeartbeats 4000000 in
set_option maxRecDepth 100000 in
theorem c_X11_mark (l : Launch) (D : va_G) (cyC cyI cyJ cyZ cyO : ClassId) (p0 : Int32) (p1 : Int32) (g0 : Nat) (g1 : Nat) (g2 : Nat) (g3 : Nat) (g4 : Nat) (g5 : Nat) (g6 : Nat) (g7 : Nat) (g8 : Nat) (g9 : Nat) (g10 : Nat) (g11 : Nat) (g12 : Nat) (g13 : Nat) (g14 : Nat) (g15 : Nat) (g16 : Nat) (g17 : Nat) (g18 : Nat) (g19 : Nat) (g20 : Nat) (g21 : Nat) (g22 : Nat) (g23 : Nat) (g24 : Nat) (g25 : Nat) : KK l D (TY cyC cyI cyJ cyZ cyO) yX11_mark cX11_mark 3 (some .boolean) ({ frames := 1, cells := 0, slots := 0, locals := 23 } : Room) 0 0 [.ref g0, .int p0, .int p1] [(g0, .inr (11, [.int 0, .ref g1, .int 0, .int 0, .ref g2, .ref g3, .ref g4, .int 0, .int 0, .ref g5, .ref g6, .ref g7, .ref g8, .int 0, .ref g9, .ref g10, .int 1, .ref g11, .ref g12, .ref g13, .ref g14, .ref g15, .int 0, .int 0, .int 0, .ref g16, .int 0, .ref g17, .ref g18, .ref g19, .ref g20, .ref g21, .ref g22, .int 0, .int 0, .int 0, .ref g23, .ref g24, .int 0, .int 0, .int 0, .int 0, .ref g25])), (g14, .inl (cyI, 2760, .inl (fun _ => 0))), (g15, .inl (cyZ, 4, .inl (fun _ => 0)))] (fun u => some (.int (u.2.1 0))) (fun u => u.2.1 0 = (if 0 ≤ p0 ∧ p0 ≤ 3 ∧ p1 = 0 then 1 else 0)) (fun u => []) := by
  refine KK.of (lv0 := [(0, .ref g0), (1, .int p0), (2, .int p1)]) (by decide) rfl (Nat.le_of_ble_eq_true rfl) ?_
  intro p e s m args below meth c A C hr hk hin
  refine j_aload_n (pc := 0) C dX11_mark_0 rfl 0 rfl ?_
  refine j_iconst (pc := 1) (v := 0) C dX11_mark_1 (by decide) ?_
  refine j_put (pc := 2) (ci := 11) (v := .int 0) (ws' := [(g0, .inr (11, [.int 0, .ref g1, .int 0, .int 0, .ref g2, .ref g3, .ref g4, .int 0, .int 0, .ref g5, .ref g6, .ref g7, .ref g8, .int 0, .ref g9, .ref g10, .int 1, .ref g11, .ref g12, .ref g13, .ref g14, .ref g15, .int 0, .int 0, .int 0, .ref g16, .int 0, .ref g17, .ref g18, .ref g19, .ref g20, .ref g21, .ref g22, .int 0, .int 0, .int 0, .ref g23, .ref g24, .int 0, .int 0, .int 0, .int 0, .ref g25])), (g14, .inl (cyI, 2760, .inl (fun _ => 0))), (g15, .inl (cyZ, 4, .inl (fun _ => 0)))]) C inw_11 0 rfl rfl 0 (by decide) wd_329 rfl tyX11_ok nmX11 rfl (tyX11_ok 0 (by decide)) rfl rfl (Nat.le_of_ble_eq_true rfl) dX11_mark_2 rfl ?_
  refine j_iload_n (pc := 5) C dX11_mark_5 rfl 1 rfl ?_
  refine j_iconst (pc := 6) (v := 0) C dX11_mark_6 (by decide) ?_
  refine j_iconst (pc := 7) (v := 3) C dX11_mark_7 (by decide) ?_
  refine j_callS (pc := 8) (As := [.int p0, .int 0, .int 3]) (rest := []) (wr := [(g0, .inr (11, [.int 0, .ref g1, .int 0, .int 0, .ref g2, .ref g3, .ref g4, .int 0, .int 0, .ref g5, .ref g6, .ref g7, .ref g8, .int 0, .ref g9, .ref g10, .int 1, .ref g11, .ref g12, .ref g13, .ref g14, .ref g15, .int 0, .int 0, .int 0, .ref g16, .int 0, .ref g17, .ref g18, .ref g19, .ref g20, .ref g21, .ref g22, .int 0, .int 0, .int 0, .ref g23, .ref g24, .int 0, .int 0, .int 0, .int 0, .ref g25])), (g14, .inl (cyI, 2760, .inl (fun _ => 0))), (g15, .inl (cyZ, 4, .inl (fun _ => 0)))]) C (c_X11_within l D cyC cyI cyJ cyZ cyO p0 0 3) wd_345 wd_313 wd_346 wd_347 ⟨by decide, by decide, rfl⟩ rfl ⟨rfl, rfl, by decide, by decide⟩ ⟨by decide, by decide⟩ [] [0, 1, 2] rfl rfl ⟨by decide, by decide, by decide⟩ rfl (Nat.le_of_ble_eq_true rfl) dX11_mark_8 (fun u_1 hw_2 => ?_)
  refine j_eq (ws2 := [(g0, .inr (11, [.int 0, .ref g1, .int 0, .int 0, .ref g2, .ref g3, .ref g4, .int 0, .int 0, .ref g5, .ref g6, .ref g7, .ref g8, .int 0, .ref g9, .ref g10, .int 1, .ref g11, .ref g12, .ref g13, .ref g14, .ref g15, .int 0, .int 0, .int 0, .ref g16, .int 0, .ref g17, .ref g18, .ref g19, .ref g20, .ref g21, .ref g22, .int 0, .int 0, .int 0, .ref g23, .ref g24, .int 0, .int 0, .int 0, .int 0, .ref g25])), (g14, .inl (cyI, 2760, .inl (fun _ => 0))), (g15, .inl (cyZ, 4, .inl (fun _ => 0)))]) (pc2 := 11) (lv2 := [(0, .ref g0), (1, .int p0), (2, .int p1)]) (st2 := [.int (u_1.2.1 0)]) rfl rfl rfl rfl ?_
  rcases ite_two hw_2 with ⟨hc_3, hr_4⟩ | ⟨hc_3, hr_4⟩
  · skip
    refine j_eq (ws2 := [(g0, .inr (11, [.int 0, .ref g1, .int 0, .int 0, .ref g2, .ref g3, .ref g4, .int 0, .int 0, .ref g5, .ref g6, .ref g7, .ref g8, .int 0, .ref g9, .ref g10, .int 1, .ref g11, .ref g12, .ref g13, .ref g14, .ref g15, .int 0, .int 0, .int 0, .ref g16, .int 0, .ref g17, .ref g18, .ref g19, .ref g20, .ref g21, .ref g22, .int 0, .int 0, .int 0, .ref g23, .ref g24, .int 0, .int 0, .int 0, .int 0, .ref g25])), (g14, .inl (cyI, 2760, .inl (fun _ => 0))), (g15, .inl (cyZ, 4, .inl (fun _ => 0)))]) (pc2 := 11) (lv2 := [(0, .ref g0), (1, .int p0), (2, .int p1)]) (st2 := [.int 1]) rfl rfl rfl (by rw [hr_4]) ?_
    refine j_if_eq_f (pc := 11) (tgt := 27) C dX11_mark_11 (by decide) (by decide) ?_
    rcases four p0 hc_3 with rfl | rfl | rfl | rfl
    · skip
      refine j_iload_n (pc := 14) C dX11_mark_14 rfl 2 rfl ?_
      refine j_if_eq (pc := 15) (tgt := 29) C dX11_mark_15 (by decide) (fun c_5 => ?_) (fun c_5 => ?_)
      · skip
        refine j_aload_n (pc := 29) C dX11_mark_29 rfl 0 rfl ?_
        refine j_get (pc := 30) (ci := 11) (v := .ref g15) C inw_11 0 rfl rfl 21 (by decide) wd_156 rfl rfl dX11_mark_30 ?_
        refine j_iload_n (pc := 33) C dX11_mark_33 rfl 1 rfl ?_
        refine j_iconst (pc := 34) (v := 1) C dX11_mark_34 (by decide) ?_
        refine j_zast (pc := 35) (k := 0) (ws' := [(g0, .inr (11, [.int 0, .ref g1, .int 0, .int 0, .ref g2, .ref g3, .ref g4, .int 0, .int 0, .ref g5, .ref g6, .ref g7, .ref g8, .int 0, .ref g9, .ref g10, .int 1, .ref g11, .ref g12, .ref g13, .ref g14, .ref g15, .int 0, .int 0, .int 0, .ref g16, .int 0, .ref g17, .ref g18, .ref g19, .ref g20, .ref g21, .ref g22, .int 0, .int 0, .int 0, .ref g23, .ref g24, .int 0, .int 0, .int 0, .int 0, .ref g25])), (g14, .inl (cyI, 2760, .inl (fun _ => 0))), (g15, .inl (cyZ, 4, .inl (upd (fun _ => 0) 0 (vp_nar .boolean 1))))]) C 2 3 rfl rfl (by decide) (by decide) (by decide) dX11_mark_35 rfl ?_
        refine j_aload_n (pc := 36) C dX11_mark_36 rfl 0 rfl ?_
        refine j_iload_n (pc := 37) C dX11_mark_37 rfl 2 rfl ?_
        refine j_if_eq_t (pc := 38) (tgt := 47) C dX11_mark_38 (by decide) (br_eqt_eq c_5) ?_
        refine j_iconst (pc := 47) (v := 0) C dX11_mark_47 (by decide) ?_
        refine j_iload_n (pc := 48) C dX11_mark_48 rfl 2 rfl ?_
        refine j_if_eq_t (pc := 49) (tgt := 56) C dX11_mark_49 (by decide) (br_eqt_eq c_5) ?_
        refine j_iconst (pc := 56) (v := 2) C dX11_mark_56 (by decide) ?_
        refine j_iload_n (pc := 57) C dX11_mark_57 rfl 1 rfl ?_
        refine j_iadd (pc := 58) (v := 2) C dX11_mark_58 (by decide) ?_
        refine j_callV (pc := 59) (As := [.int 0, .int 2]) (rest := []) (wr := [(g15, .inl (cyZ, 4, .inl (upd (fun _ => 0) 0 (vp_nar .boolean 1))))]) C (c_X11_copies_2 l D cyC cyI cyJ cyZ cyO g0 g1 g2 g3 g4 g5 g6 g7 g8 g9 g10 g11 g12 g13 g14 g15 g16 g17 g18 g19 g20 g21 g22 g23 g24 g25) wd_362 wd_313 wd_363 wd_364 wd_365 ⟨by decide, by decide, rfl⟩ rfl ⟨rfl, rfl, by decide, by decide⟩ ⟨by decide, by decide⟩ [0, 1] [2] rfl rfl ⟨by decide, by decide, by decide⟩ 0 rfl rfl rfl (Nat.le_of_ble_eq_true rfl) dX11_mark_59 (fun u_6 hw_7 => ?_)
        refine j_eq (ws2 := [(g15, .inl (cyZ, 4, .inl (upd (fun _ => 0) 0 (vp_nar .boolean 1)))), (g0, .inr (11, [.int 0, .ref g1, .int 0, .int 0, .ref g2, .ref g3, .ref g4, .int 0, .int 0, .ref g5, .ref g6, .ref g7, .ref g8, .int 0, .ref g9, .ref g10, .int 1, .ref g11, .ref g12, .ref g13, .ref g14, .ref g15, .int 0, .int 0, .int 0, .ref g16, .int 0, .ref g17, .ref g18, .ref g19, .ref g20, .ref g21, .ref g22, .int 0, .int 0, .int 0, .ref g23, .ref g24, .int 0, .int 0, .int 0, .int 0, .ref g25])), (g14, .inl (cyI, 2760, .inl (fun _ => 0)))]) (pc2 := 62) (lv2 := [(0, .ref g0), (1, .int 0), (2, .int p1)]) (st2 := []) rfl rfl rfl rfl ?_
        refine j_iconst (pc := 62) (v := 1) C dX11_mark_62 (by decide) ?_
        exact j_zret (pc := 63) C hr rfl hk (fun _ => 0, fun _ => 1, fun _ _ => 0) rfl (by show (1 : Int32) = (if 0 ≤ (0 : Int32) ∧ (0 : Int32) ≤ 3 ∧ p1 = 0 then 1 else 0); have e0 : (0 : Int32).toInt = 0 := rfl; have e3 : (3 : Int32).toInt = 3 := rfl; exact if hE : 0 ≤ (0 : Int32) ∧ (0 : Int32) ≤ 3 ∧ p1 = 0 then (by first | exact (if_pos hE).symm | (exfalso; simp only [i_lt, i_le, i_eq] at hE c_5; omega)) else (by first | exact (if_neg hE).symm | (exfalso; simp only [i_lt, i_le, i_eq] at hE c_5; omega))) [] (by decide) rfl (by decide) (by decide) dX11_mark_63
      · skip
        refine j_aload_n (pc := 18) C dX11_mark_18 rfl 0 rfl ?_
        refine j_get (pc := 19) (ci := 11) (v := .ref g15) C inw_11 0 rfl rfl 21 (by decide) wd_156 rfl rfl dX11_mark_19 ?_
        refine j_iload_n (pc := 22) C dX11_mark_22 rfl 1 rfl ?_
        refine j_zald (pc := 23) (v := 0) (k := 0) C 2 3 rfl rfl (by decide) (by decide) (by decide) rfl dX11_mark_23 ?_
        refine j_if_ne_f (pc := 24) (tgt := 29) C dX11_mark_24 (by decide) (by decide) ?_
        refine j_iconst (pc := 27) (v := 0) C dX11_mark_27 (by decide) ?_
        exact j_zret (pc := 28) C hr rfl hk (fun _ => 0, fun _ => 0, fun _ _ => 0) rfl (by show (0 : Int32) = (if 0 ≤ (0 : Int32) ∧ (0 : Int32) ≤ 3 ∧ p1 = 0 then 1 else 0); have e0 : (0 : Int32).toInt = 0 := rfl; have e3 : (3 : Int32).toInt = 3 := rfl; exact if hE : 0 ≤ (0 : Int32) ∧ (0 : Int32) ≤ 3 ∧ p1 = 0 then (by first | exact (if_pos hE).symm | (exfalso; simp only [i_lt, i_le, i_eq] at hE c_5; omega)) else (by first | exact (if_neg hE).symm | (exfalso; simp only [i_lt, i_le, i_eq] at hE c_5; omega))) [] (by decide) rfl (by decide) (by decide) dX11_mark_28
    · skip
      refine j_iload_n (pc := 14) C dX11_mark_14 rfl 2 rfl ?_
      refine j_if_eq (pc := 15) (tgt := 29) C dX11_mark_15 (by decide) (fun c_8 => ?_) (fun c_8 => ?_)
      · skip
        refine j_aload_n (pc := 29) C dX11_mark_29 rfl 0 rfl ?_
        refine j_get (pc := 30) (ci := 11) (v := .ref g15) C inw_11 0 rfl rfl 21 (by decide) wd_156 rfl rfl dX11_mark_30 ?_
        refine j_iload_n (pc := 33) C dX11_mark_33 rfl 1 rfl ?_
        refine j_iconst (pc := 34) (v := 1) C dX11_mark_34 (by decide) ?_
        refine j_zast (pc := 35) (k := 1) (ws' := [(g0, .inr (11, [.int 0, .ref g1, .int 0, .int 0, .ref g2, .ref g3, .ref g4, .int 0, .int 0, .ref g5, .ref g6, .ref g7, .ref g8, .int 0, .ref g9, .ref g10, .int 1, .ref g11, .ref g12, .ref g13, .ref g14, .ref g15, .int 0, .int 0, .int 0, .ref g16, .int 0, .ref g17, .ref g18, .ref g19, .ref g20, .ref g21, .ref g22, .int 0, .int 0, .int 0, .ref g23, .ref g24, .int 0, .int 0, .int 0, .int 0, .ref g25])), (g14, .inl (cyI, 2760, .inl (fun _ => 0))), (g15, .inl (cyZ, 4, .inl (upd (fun _ => 0) 1 (vp_nar .boolean 1))))]) C 2 3 rfl rfl (by decide) (by decide) (by decide) dX11_mark_35 rfl ?_
        refine j_aload_n (pc := 36) C dX11_mark_36 rfl 0 rfl ?_
        refine j_iload_n (pc := 37) C dX11_mark_37 rfl 2 rfl ?_
        refine j_if_eq_t (pc := 38) (tgt := 47) C dX11_mark_38 (by decide) (br_eqt_eq c_8) ?_
        refine j_iconst (pc := 47) (v := 0) C dX11_mark_47 (by decide) ?_
        refine j_iload_n (pc := 48) C dX11_mark_48 rfl 2 rfl ?_
        refine j_if_eq_t (pc := 49) (tgt := 56) C dX11_mark_49 (by decide) (br_eqt_eq c_8) ?_
        refine j_iconst (pc := 56) (v := 2) C dX11_mark_56 (by decide) ?_
        refine j_iload_n (pc := 57) C dX11_mark_57 rfl 1 rfl ?_
        refine j_iadd (pc := 58) (v := 3) C dX11_mark_58 (by decide) ?_
        refine j_callV (pc := 59) (As := [.int 0, .int 3]) (rest := []) (wr := [(g15, .inl (cyZ, 4, .inl (upd (fun _ => 0) 1 (vp_nar .boolean 1))))]) C (c_X11_copies_3 l D cyC cyI cyJ cyZ cyO g0 g1 g2 g3 g4 g5 g6 g7 g8 g9 g10 g11 g12 g13 g14 g15 g16 g17 g18 g19 g20 g21 g22 g23 g24 g25) wd_362 wd_313 wd_363 wd_364 wd_365 ⟨by decide, by decide, rfl⟩ rfl ⟨rfl, rfl, by decide, by decide⟩ ⟨by decide, by decide⟩ [0, 1] [2] rfl rfl ⟨by decide, by decide, by decide⟩ 0 rfl rfl rfl (Nat.le_of_ble_eq_true rfl) dX11_mark_59 (fun u_9 hw_10 => ?_)
        refine j_eq (ws2 := [(g15, .inl (cyZ, 4, .inl (upd (fun _ => 0) 1 (vp_nar .boolean 1)))), (g0, .inr (11, [.int 0, .ref g1, .int 0, .int 0, .ref g2, .ref g3, .ref g4, .int 0, .int 0, .ref g5, .ref g6, .ref g7, .ref g8, .int 0, .ref g9, .ref g10, .int 1, .ref g11, .ref g12, .ref g13, .ref g14, .ref g15, .int 0, .int 0, .int 0, .ref g16, .int 0, .ref g17, .ref g18, .ref g19, .ref g20, .ref g21, .ref g22, .int 0, .int 0, .int 0, .ref g23, .ref g24, .int 0, .int 0, .int 0, .int 0, .ref g25])), (g14, .inl (cyI, 2760, .inl (fun _ => 0)))]) (pc2 := 62) (lv2 := [(0, .ref g0), (1, .int 1), (2, .int p1)]) (st2 := []) rfl rfl rfl rfl ?_
        refine j_iconst (pc := 62) (v := 1) C dX11_mark_62 (by decide) ?_
        exact j_zret (pc := 63) C hr rfl hk (fun _ => 0, fun _ => 1, fun _ _ => 0) rfl (by show (1 : Int32) = (if 0 ≤ (1 : Int32) ∧ (1 : Int32) ≤ 3 ∧ p1 = 0 then 1 else 0); have e0 : (0 : Int32).toInt = 0 := rfl; have e1 : (1 : Int32).toInt = 1 := rfl; have e3 : (3 : Int32).toInt = 3 := rfl; exact if hE : 0 ≤ (1 : Int32) ∧ (1 : Int32) ≤ 3 ∧ p1 = 0 then (by first | exact (if_pos hE).symm | (exfalso; simp only [i_lt, i_le, i_eq] at hE c_8; omega)) else (by first | exact (if_neg hE).symm | (exfalso; simp only [i_lt, i_le, i_eq] at hE c_8; omega))) [] (by decide) rfl (by decide) (by decide) dX11_mark_63
      · skip
        refine j_aload_n (pc := 18) C dX11_mark_18 rfl 0 rfl ?_
        refine j_get (pc := 19) (ci := 11) (v := .ref g15) C inw_11 0 rfl rfl 21 (by decide) wd_156 rfl rfl dX11_mark_19 ?_
        refine j_iload_n (pc := 22) C dX11_mark_22 rfl 1 rfl ?_
        refine j_zald (pc := 23) (v := 0) (k := 1) C 2 3 rfl rfl (by decide) (by decide) (by decide) rfl dX11_mark_23 ?_
        refine j_if_ne_f (pc := 24) (tgt := 29) C dX11_mark_24 (by decide) (by decide) ?_
        refine j_iconst (pc := 27) (v := 0) C dX11_mark_27 (by decide) ?_
        exact j_zret (pc := 28) C hr rfl hk (fun _ => 0, fun _ => 0, fun _ _ => 0) rfl (by show (0 : Int32) = (if 0 ≤ (1 : Int32) ∧ (1 : Int32) ≤ 3 ∧ p1 = 0 then 1 else 0); have e0 : (0 : Int32).toInt = 0 := rfl; have e1 : (1 : Int32).toInt = 1 := rfl; have e3 : (3 : Int32).toInt = 3 := rfl; exact if hE : 0 ≤ (1 : Int32) ∧ (1 : Int32) ≤ 3 ∧ p1 = 0 then (by first | exact (if_pos hE).symm | (exfalso; simp only [i_lt, i_le, i_eq] at hE c_8; omega)) else (by first | exact (if_neg hE).symm | (exfalso; simp only [i_lt, i_le, i_eq] at hE c_8; omega))) [] (by decide) rfl (by decide) (by decide) dX11_mark_28
    · skip
      refine j_iload_n (pc := 14) C dX11_mark_14 rfl 2 rfl ?_
      refine j_if_eq (pc := 15) (tgt := 29) C dX11_mark_15 (by decide) (fun c_11 => ?_) (fun c_11 => ?_)
      · skip
        refine j_aload_n (pc := 29) C dX11_mark_29 rfl 0 rfl ?_
        refine j_get (pc := 30) (ci := 11) (v := .ref g15) C inw_11 0 rfl rfl 21 (by decide) wd_156 rfl rfl dX11_mark_30 ?_
        refine j_iload_n (pc := 33) C dX11_mark_33 rfl 1 rfl ?_
        refine j_iconst (pc := 34) (v := 1) C dX11_mark_34 (by decide) ?_
        refine j_zast (pc := 35) (k := 2) (ws' := [(g0, .inr (11, [.int 0, .ref g1, .int 0, .int 0, .ref g2, .ref g3, .ref g4, .int 0, .int 0, .ref g5, .ref g6, .ref g7, .ref g8, .int 0, .ref g9, .ref g10, .int 1, .ref g11, .ref g12, .ref g13, .ref g14, .ref g15, .int 0, .int 0, .int 0, .ref g16, .int 0, .ref g17, .ref g18, .ref g19, .ref g20, .ref g21, .ref g22, .int 0, .int 0, .int 0, .ref g23, .ref g24, .int 0, .int 0, .int 0, .int 0, .ref g25])), (g14, .inl (cyI, 2760, .inl (fun _ => 0))), (g15, .inl (cyZ, 4, .inl (upd (fun _ => 0) 2 (vp_nar .boolean 1))))]) C 2 3 rfl rfl (by decide) (by decide) (by decide) dX11_mark_35 rfl ?_
        refine j_aload_n (pc := 36) C dX11_mark_36 rfl 0 rfl ?_
        refine j_iload_n (pc := 37) C dX11_mark_37 rfl 2 rfl ?_
        refine j_if_eq_t (pc := 38) (tgt := 47) C dX11_mark_38 (by decide) (br_eqt_eq c_11) ?_
        refine j_iconst (pc := 47) (v := 0) C dX11_mark_47 (by decide) ?_
        refine j_iload_n (pc := 48) C dX11_mark_48 rfl 2 rfl ?_
        refine j_if_eq_t (pc := 49) (tgt := 56) C dX11_mark_49 (by decide) (br_eqt_eq c_11) ?_
        refine j_iconst (pc := 56) (v := 2) C dX11_mark_56 (by decide) ?_
        refine j_iload_n (pc := 57) C dX11_mark_57 rfl 1 rfl ?_
        refine j_iadd (pc := 58) (v := 4) C dX11_mark_58 (by decide) ?_
        refine j_callV (pc := 59) (As := [.int 0, .int 4]) (rest := []) (wr := [(g15, .inl (cyZ, 4, .inl (upd (fun _ => 0) 2 (vp_nar .boolean 1))))]) C (c_X11_copies_4 l D cyC cyI cyJ cyZ cyO g0 g1 g2 g3 g4 g5 g6 g7 g8 g9 g10 g11 g12 g13 g14 g15 g16 g17 g18 g19 g20 g21 g22 g23 g24 g25) wd_362 wd_313 wd_363 wd_364 wd_365 ⟨by decide, by decide, rfl⟩ rfl ⟨rfl, rfl, by decide, by decide⟩ ⟨by decide, by decide⟩ [0, 1] [2] rfl rfl ⟨by decide, by decide, by decide⟩ 0 rfl rfl rfl (Nat.le_of_ble_eq_true rfl) dX11_mark_59 (fun u_12 hw_13 => ?_)
        refine j_eq (ws2 := [(g15, .inl (cyZ, 4, .inl (upd (fun _ => 0) 2 (vp_nar .boolean 1)))), (g0, .inr (11, [.int 0, .ref g1, .int 0, .int 0, .ref g2, .ref g3, .ref g4, .int 0, .int 0, .ref g5, .ref g6, .ref g7, .ref g8, .int 0, .ref g9, .ref g10, .int 1, .ref g11, .ref g12, .ref g13, .ref g14, .ref g15, .int 0, .int 0, .int 0, .ref g16, .int 0, .ref g17, .ref g18, .ref g19, .ref g20, .ref g21, .ref g22, .int 0, .int 0, .int 0, .ref g23, .ref g24, .int 0, .int 0, .int 0, .int 0, .ref g25])), (g14, .inl (cyI, 2760, .inl (fun _ => 0)))]) (pc2 := 62) (lv2 := [(0, .ref g0), (1, .int 2), (2, .int p1)]) (st2 := []) rfl rfl rfl rfl ?_
        refine j_iconst (pc := 62) (v := 1) C dX11_mark_62 (by decide) ?_
        exact j_zret (pc := 63) C hr rfl hk (fun _ => 0, fun _ => 1, fun _ _ => 0) rfl (by show (1 : Int32) = (if 0 ≤ (2 : Int32) ∧ (2 : Int32) ≤ 3 ∧ p1 = 0 then 1 else 0); have e0 : (0 : Int32).toInt = 0 := rfl; have e2 : (2 : Int32).toInt = 2 := rfl; have e3 : (3 : Int32).toInt = 3 := rfl; exact if hE : 0 ≤ (2 : Int32) ∧ (2 : Int32) ≤ 3 ∧ p1 = 0 then (by first | exact (if_pos hE).symm | (exfalso; simp only [i_lt, i_le, i_eq] at hE c_11; omega)) else (by first | exact (if_neg hE).symm | (exfalso; simp only [i_lt, i_le, i_eq] at hE c_11; omega))) [] (by decide) rfl (by decide) (by decide) dX11_mark_63
      · skip
        refine j_aload_n (pc := 18) C dX11_mark_18 rfl 0 rfl ?_
        refine j_get (pc := 19) (ci := 11) (v := .ref g15) C inw_11 0 rfl rfl 21 (by decide) wd_156 rfl rfl dX11_mark_19 ?_
        refine j_iload_n (pc := 22) C dX11_mark_22 rfl 1 rfl ?_
        refine j_zald (pc := 23) (v := 0) (k := 2) C 2 3 rfl rfl (by decide) (by decide) (by decide) rfl dX11_mark_23 ?_
        refine j_if_ne_f (pc := 24) (tgt := 29) C dX11_mark_24 (by decide) (by decide) ?_
        refine j_iconst (pc := 27) (v := 0) C dX11_mark_27 (by decide) ?_
        exact j_zret (pc := 28) C hr rfl hk (fun _ => 0, fun _ => 0, fun _ _ => 0) rfl (by show (0 : Int32) = (if 0 ≤ (2 : Int32) ∧ (2 : Int32) ≤ 3 ∧ p1 = 0 then 1 else 0); have e0 : (0 : Int32).toInt = 0 := rfl; have e2 : (2 : Int32).toInt = 2 := rfl; have e3 : (3 : Int32).toInt = 3 := rfl; exact if hE : 0 ≤ (2 : Int32) ∧ (2 : Int32) ≤ 3 ∧ p1 = 0 then (by first | exact (if_pos hE).symm | (exfalso; simp only [i_lt, i_le, i_eq] at hE c_11; omega)) else (by first | exact (if_neg hE).symm | (exfalso; simp only [i_lt, i_le, i_eq] at hE c_11; omega))) [] (by decide) rfl (by decide) (by decide) dX11_mark_28
    · skip
      refine j_iload_n (pc := 14) C dX11_mark_14 rfl 2 rfl ?_
      refine j_if_eq (pc := 15) (tgt := 29) C dX11_mark_15 (by decide) (fun c_14 => ?_) (fun c_14 => ?_)
      · skip
        refine j_aload_n (pc := 29) C dX11_mark_29 rfl 0 rfl ?_
        refine j_get (pc := 30) (ci := 11) (v := .ref g15) C inw_11 0 rfl rfl 21 (by decide) wd_156 rfl rfl dX11_mark_30 ?_
        refine j_iload_n (pc := 33) C dX11_mark_33 rfl 1 rfl ?_
        refine j_iconst (pc := 34) (v := 1) C dX11_mark_34 (by decide) ?_
        refine j_zast (pc := 35) (k := 3) (ws' := [(g0, .inr (11, [.int 0, .ref g1, .int 0, .int 0, .ref g2, .ref g3, .ref g4, .int 0, .int 0, .ref g5, .ref g6, .ref g7, .ref g8, .int 0, .ref g9, .ref g10, .int 1, .ref g11, .ref g12, .ref g13, .ref g14, .ref g15, .int 0, .int 0, .int 0, .ref g16, .int 0, .ref g17, .ref g18, .ref g19, .ref g20, .ref g21, .ref g22, .int 0, .int 0, .int 0, .ref g23, .ref g24, .int 0, .int 0, .int 0, .int 0, .ref g25])), (g14, .inl (cyI, 2760, .inl (fun _ => 0))), (g15, .inl (cyZ, 4, .inl (upd (fun _ => 0) 3 (vp_nar .boolean 1))))]) C 2 3 rfl rfl (by decide) (by decide) (by decide) dX11_mark_35 rfl ?_
        refine j_aload_n (pc := 36) C dX11_mark_36 rfl 0 rfl ?_
        refine j_iload_n (pc := 37) C dX11_mark_37 rfl 2 rfl ?_
        refine j_if_eq_t (pc := 38) (tgt := 47) C dX11_mark_38 (by decide) (br_eqt_eq c_14) ?_
        refine j_iconst (pc := 47) (v := 0) C dX11_mark_47 (by decide) ?_
        refine j_iload_n (pc := 48) C dX11_mark_48 rfl 2 rfl ?_
        refine j_if_eq_t (pc := 49) (tgt := 56) C dX11_mark_49 (by decide) (br_eqt_eq c_14) ?_
        refine j_iconst (pc := 56) (v := 2) C dX11_mark_56 (by decide) ?_
        refine j_iload_n (pc := 57) C dX11_mark_57 rfl 1 rfl ?_
        refine j_iadd (pc := 58) (v := 5) C dX11_mark_58 (by decide) ?_
        refine j_callV (pc := 59) (As := [.int 0, .int 5]) (rest := []) (wr := [(g15, .inl (cyZ, 4, .inl (upd (fun _ => 0) 3 (vp_nar .boolean 1))))]) C (c_X11_copies_5 l D cyC cyI cyJ cyZ cyO g0 g1 g2 g3 g4 g5 g6 g7 g8 g9 g10 g11 g12 g13 g14 g15 g16 g17 g18 g19 g20 g21 g22 g23 g24 g25) wd_362 wd_313 wd_363 wd_364 wd_365 ⟨by decide, by decide, rfl⟩ rfl ⟨rfl, rfl, by decide, by decide⟩ ⟨by decide, by decide⟩ [0, 1] [2] rfl rfl ⟨by decide, by decide, by decide⟩ 0 rfl rfl rfl (Nat.le_of_ble_eq_true rfl) dX11_mark_59 (fun u_15 hw_16 => ?_)
        refine j_eq (ws2 := [(g15, .inl (cyZ, 4, .inl (upd (fun _ => 0) 3 (vp_nar .boolean 1)))), (g0, .inr (11, [.int 0, .ref g1, .int 0, .int 0, .ref g2, .ref g3, .ref g4, .int 0, .int 0, .ref g5, .ref g6, .ref g7, .ref g8, .int 0, .ref g9, .ref g10, .int 1, .ref g11, .ref g12, .ref g13, .ref g14, .ref g15, .int 0, .int 0, .int 0, .ref g16, .int 0, .ref g17, .ref g18, .ref g19, .ref g20, .ref g21, .ref g22, .int 0, .int 0, .int 0, .ref g23, .ref g24, .int 0, .int 0, .int 0, .int 0, .ref g25])), (g14, .inl (cyI, 2760, .inl (fun _ => 0)))]) (pc2 := 62) (lv2 := [(0, .ref g0), (1, .int 3), (2, .int p1)]) (st2 := []) rfl rfl rfl rfl ?_
        refine j_iconst (pc := 62) (v := 1) C dX11_mark_62 (by decide) ?_
        exact j_zret (pc := 63) C hr rfl hk (fun _ => 0, fun _ => 1, fun _ _ => 0) rfl (by show (1 : Int32) = (if 0 ≤ (3 : Int32) ∧ (3 : Int32) ≤ 3 ∧ p1 = 0 then 1 else 0); have e0 : (0 : Int32).toInt = 0 := rfl; have e3 : (3 : Int32).toInt = 3 := rfl; exact if hE : 0 ≤ (3 : Int32) ∧ (3 : Int32) ≤ 3 ∧ p1 = 0 then (by first | exact (if_pos hE).symm | (exfalso; simp only [i_lt, i_le, i_eq] at hE c_14; omega)) else (by first | exact (if_neg hE).symm | (exfalso; simp only [i_lt, i_le, i_eq] at hE c_14; omega))) [] (by decide) rfl (by decide) (by decide) dX11_mark_63
      · skip
        refine j_aload_n (pc := 18) C dX11_mark_18 rfl 0 rfl ?_
        refine j_get (pc := 19) (ci := 11) (v := .ref g15) C inw_11 0 rfl rfl 21 (by decide) wd_156 rfl rfl dX11_mark_19 ?_
        refine j_iload_n (pc := 22) C dX11_mark_22 rfl 1 rfl ?_
        refine j_zald (pc := 23) (v := 0) (k := 3) C 2 3 rfl rfl (by decide) (by decide) (by decide) rfl dX11_mark_23 ?_
        refine j_if_ne_f (pc := 24) (tgt := 29) C dX11_mark_24 (by decide) (by decide) ?_
        refine j_iconst (pc := 27) (v := 0) C dX11_mark_27 (by decide) ?_
        exact j_zret (pc := 28) C hr rfl hk (fun _ => 0, fun _ => 0, fun _ _ => 0) rfl (by show (0 : Int32) = (if 0 ≤ (3 : Int32) ∧ (3 : Int32) ≤ 3 ∧ p1 = 0 then 1 else 0); have e0 : (0 : Int32).toInt = 0 := rfl; have e3 : (3 : Int32).toInt = 3 := rfl; exact if hE : 0 ≤ (3 : Int32) ∧ (3 : Int32) ≤ 3 ∧ p1 = 0 then (by first | exact (if_pos hE).symm | (exfalso; simp only [i_lt, i_le, i_eq] at hE c_14; omega)) else (by first | exact (if_neg hE).symm | (exfalso; simp only [i_lt, i_le, i_eq] at hE c_14; omega))) [] (by decide) rfl (by decide) (by decide) dX11_mark_28
  · skip
    refine j_eq (ws2 := [(g0, .inr (11, [.int 0, .ref g1, .int 0, .int 0, .ref g2, .ref g3, .ref g4, .int 0, .int 0, .ref g5, .ref g6, .ref g7, .ref g8, .int 0, .ref g9, .ref g10, .int 1, .ref g11, .ref g12, .ref g13, .ref g14, .ref g15, .int 0, .int 0, .int 0, .ref g16, .int 0, .ref g17, .ref g18, .ref g19, .ref g20, .ref g21, .ref g22, .int 0, .int 0, .int 0, .ref g23, .ref g24, .int 0, .int 0, .int 0, .int 0, .ref g25])), (g14, .inl (cyI, 2760, .inl (fun _ => 0))), (g15, .inl (cyZ, 4, .inl (fun _ => 0)))]) (pc2 := 11) (lv2 := [(0, .ref g0), (1, .int p0), (2, .int p1)]) (st2 := [.int 0]) rfl rfl rfl (by rw [hr_4]) ?_
    refine j_if_eq_t (pc := 11) (tgt := 27) C dX11_mark_11 (by decide) (by decide) ?_
    refine j_iconst (pc := 27) (v := 0) C dX11_mark_27 (by decide) ?_
    exact j_zret (pc := 28) C hr rfl hk (fun _ => 0, fun _ => 0, fun _ _ => 0) rfl (by show (0 : Int32) = (if 0 ≤ p0 ∧ p0 ≤ 3 ∧ p1 = 0 then 1 else 0); have e0 : (0 : Int32).toInt = 0 := rfl; have e3 : (3 : Int32).toInt = 3 := rfl; exact if hE : 0 ≤ p0 ∧ p0 ≤ 3 ∧ p1 = 0 then (by first | exact (if_pos hE).symm | (exfalso; simp only [i_lt, i_le, i_eq] at hE hc_3; omega)) else (by first | exact (if_neg hE).symm | (exfalso; simp only [i_lt, i_le, i_eq] at hE hc_3; omega))) [] (by decide) rfl (by decide) (by decide) dX11_mark_28
