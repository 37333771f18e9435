theorem wd_611 : Cond.initialized RL ∈ WALL := wl_in (by decide +kernel) (by decide +kernel)
theorem wd_612 : Cond.methodLink RL 127 yL_whole ∈ WALL := wl_in (by decide +kernel) (by decide +kernel)
theorem wd_613 : Cond.static yL_whole ∈ WALL := wl_in (by decide +kernel) (by decide +kernel)
theorem wd_614 : Cond.code yX11_whole cX11_whole 10 (some .long) ∈ WALL := wl_in (by decide +kernel) (by decide +kernel)
theorem wd_615 : Cond.methodLink RL 132 yX11_whole ∈ WALL := wl_in (by decide +kernel) (by decide +kernel)
theorem wd_616 : Cond.instanceMethod yX11_whole ∈ WALL := wl_in (by decide +kernel) (by decide +kernel)
theorem wd_617 : Cond.selects RX11 yX11_whole yX11_whole ∈ WALL := wl_in (by decide +kernel) (by decide +kernel)
theorem wd_618 : Cond.code yX11_thrown cX11_thrown 1 (some .int) ∈ WALL := wl_in (by decide +kernel) (by decide +kernel)
theorem wd_619 : Cond.methodLink RL 133 yX11_thrown ∈ WALL := wl_in (by decide +kernel) (by decide +kernel)
theorem wd_620 : Cond.instanceMethod yX11_thrown ∈ WALL := wl_in (by decide +kernel) (by decide +kernel)
theorem wd_621 : Cond.selects RX11 yX11_thrown yX11_thrown ∈ WALL := wl_in (by decide +kernel) (by decide +kernel)
theorem dL_law_1071 : decode cL_law 1071 = .ok (.aload_n 1, 1) := by decide +kernel
theorem dL_law_1072 : decode cL_law 1072 = .ok (.aload_n 0, 1) := by decide +kernel
theorem dL_law_1073 : decode cL_law 1073 = .ok (.iload 4, 2) := by decide +kernel
theorem dL_law_1075 : decode cL_law 1075 = .ok (.iconst 1, 1) := by decide +kernel
theorem dL_law_1076 : decode cL_law 1076 = .ok (.iadd, 1) := by decide +kernel
theorem dL_law_1077 : decode cL_law 1077 = .ok (.iaload, 1) := by decide +kernel
theorem dL_law_1078 : decode cL_law 1078 = .ok (.aload_n 0, 1) := by decide +kernel
theorem dL_law_1079 : decode cL_law 1079 = .ok (.iload 4, 2) := by decide +kernel
theorem dL_law_1081 : decode cL_law 1081 = .ok (.iconst 2, 1) := by decide +kernel
theorem dL_law_1082 : decode cL_law 1082 = .ok (.iadd, 1) := by decide +kernel
theorem dL_law_1083 : decode cL_law 1083 = .ok (.iaload, 1) := by decide +kernel
theorem dL_law_1084 : decode cL_law 1084 = .ok (.aload_n 3, 1) := by decide +kernel
theorem dL_law_1085 : decode cL_law 1085 = .ok (.invokestatic 127, 3) := by decide +kernel
theorem dL_law_1088 : decode cL_law 1088 = .ok (.istore 5, 2) := by decide +kernel
theorem dL_law_1090 : decode cL_law 1090 = .ok (.aload_n 2, 1) := by decide +kernel
theorem dL_law_1091 : decode cL_law 1091 = .ok (.aload_n 0, 1) := by decide +kernel
theorem dL_law_1092 : decode cL_law 1092 = .ok (.iload 4, 2) := by decide +kernel
theorem dL_law_1094 : decode cL_law 1094 = .ok (.iconst 1, 1) := by decide +kernel
theorem dL_law_1095 : decode cL_law 1095 = .ok (.iadd, 1) := by decide +kernel
theorem dL_law_1096 : decode cL_law 1096 = .ok (.iaload, 1) := by decide +kernel
theorem dL_law_1097 : decode cL_law 1097 = .ok (.aload_n 0, 1) := by decide +kernel
theorem dL_law_1098 : decode cL_law 1098 = .ok (.iload 4, 2) := by decide +kernel
theorem dL_law_1100 : decode cL_law 1100 = .ok (.iconst 2, 1) := by decide +kernel
theorem dL_law_1101 : decode cL_law 1101 = .ok (.iadd, 1) := by decide +kernel
theorem dL_law_1102 : decode cL_law 1102 = .ok (.iaload, 1) := by decide +kernel
theorem dL_law_1103 : decode cL_law 1103 = .ok (.invokevirtual 132, 3) := by decide +kernel
theorem dL_law_1106 : decode cL_law 1106 = .ok (.lstore 6, 2) := by decide +kernel
theorem dL_law_1108 : decode cL_law 1108 = .ok (.aload_n 2, 1) := by decide +kernel
theorem dL_law_1109 : decode cL_law 1109 = .ok (.invokevirtual 133, 3) := by decide +kernel
theorem dL_law_1112 : decode cL_law 1112 = .ok (.iload 5, 2) := by decide +kernel
theorem dL_law_1114 : decode cL_law 1114 = .ok (.if_icmp .eq 5, 3) := by decide +kernel
theorem dL_law_1119 : decode cL_law 1119 = .ok (.iload 5, 2) := by decide +kernel
theorem dL_law_1121 : decode cL_law 1121 = .ok (.ifCond .ne 14, 3) := by decide +kernel
theorem dL_law_1135 : decode cL_law 1135 = .ok (.goto 81, 3) := by decide +kernel
set_option maxHeartbeats 4000000 in
set_option maxRecDepth 100000 in
theorem law_25 {p : Program} {l : Launch} {e : Env} {s : State} {m : MethodId} {below : List Frame} {meth : Method} {c : Code} {b : Nat} {xs : Nat → Int32} {D : va_G} {cyC cyI cyJ cyZ cyO : ClassId} (htr : l.stackTraces = false) (sa : Nat) (hE : EX sa (fun q : Nat => s.heap.size ≤ q) s) (o0 g0 t0 t1 t21 t32 t37 t42 t43 t45 t50 t54 t58 t22 t23 t24 t25 t26 t27 t28 t29 t30 t31 g1 g2 g3 g4 g5 g6 g7 g8 g9 g10 g11 g12 g13 g14 g15 g16 g17 g18 g19 g20 g21 g22 g23 g24 g25 : Nat) (X : LX p s m meth c b 7 xs D cyC cyI cyJ cyZ cyO) : J p l e room_1 s m #[Value.ref b] below meth c D (fun q : Nat => s.heap.size ≤ q) 8 107 73154 (lw_Z below #[Value.ref b] s) [(t0, .inr (10, [.ref t1, .ref t21, .ref t32, .ref t37, .ref t42, .ref t43, .ref t45, .ref t50, .ref t54, .ref t58])), (t21, .inr (9, [.int 0, .int 0, .int 0, .ref t22, .ref t23, .ref t24, .ref t25, .ref t26, .ref t27, .int 0, .int 0, .ref t28, .ref t29, .ref t30, .ref t31])), (g0, .inr (11, [.int 0, .ref g1, .int 0, .int 0, .ref g2, .ref g3, .ref g4, .int 0, .int 0, .ref g5, .ref g6, .ref g7, .ref g8, .int 0, .ref g9, .ref g10, .int 1, .ref g11, .ref g12, .ref g13, .ref g14, .ref g15, .int 0, .int 0, .int 0, .ref g16, .int 0, .ref g17, .ref g18, .ref g19, .ref g20, .ref g21, .ref g22, .int 0, .int 0, .int 0, .ref g23, .ref g24, .int 0, .int 0, .int 0, .int 0, .ref g25])), (g6, .inl (cyI, 240, .inl (fun _ => 0)))] 1071 [(4, .int 0), (3, .ref o0), (2, .ref g0), (1, .ref t0), (0, .ref b)] [] := by
  have C := X.1
  have hX := X.2.1
  have hbl := X.2.2.1
  have hbA : ¬ (fun q : Nat => s.heap.size ≤ q) b := Nat.not_le.mpr hbl
  refine j_aload_n (pc := 1071) C dL_law_1071 rfl 3 rfl ?_
  refine j_aload_n (pc := 1072) C dL_law_1072 rfl 4 rfl ?_
  refine j_iload (pc := 1073) C dL_law_1073 0 rfl ?_
  refine j_iconst (pc := 1075) (v := 1) C dL_law_1075 (by decide) ?_
  refine j_iadd (pc := 1076) (v := 1) C dL_law_1076 (by decide) ?_
  refine j_sld (pc := 1077) (k := 1) C hX hbl hbA (by decide) (by decide) (by decide) dL_law_1077 ?_
  refine j_aload_n (pc := 1078) C dL_law_1078 rfl 4 rfl ?_
  refine j_iload (pc := 1079) C dL_law_1079 0 rfl ?_
  refine j_iconst (pc := 1081) (v := 2) C dL_law_1081 (by decide) ?_
  refine j_iadd (pc := 1082) (v := 2) C dL_law_1082 (by decide) ?_
  refine j_sld (pc := 1083) (k := 2) C hX hbl hbA (by decide) (by decide) (by decide) dL_law_1083 ?_
  refine j_aload_n (pc := 1084) C dL_law_1084 rfl 1 rfl ?_
  refine j_callX (pc := 1085) (As := [.ref t0, .int (xs 1), .int (xs 2), .ref o0]) (rest := []) (wr := [(g0, .inr (11, [.int 0, .ref g1, .int 0, .int 0, .ref g2, .ref g3, .ref g4, .int 0, .int 0, .ref g5, .ref g6, .ref g7, .ref g8, .int 0, .ref g9, .ref g10, .int 1, .ref g11, .ref g12, .ref g13, .ref g14, .ref g15, .int 0, .int 0, .int 0, .ref g16, .int 0, .ref g17, .ref g18, .ref g19, .ref g20, .ref g21, .ref g22, .int 0, .int 0, .int 0, .ref g23, .ref g24, .int 0, .int 0, .int 0, .int 0, .ref g25])), (g6, .inl (cyI, 240, .inl (fun _ => 0)))]) C (c_L_whole l htr D cyC cyI cyJ cyZ cyO sa (xs 1) (xs 2) o0 t0 t1 t21 t32 t37 t42 t43 t45 t50 t54 t58 t22 t23 t24 t25 t26 t27 t28 t29 t30 t31) hE wd_606 wd_611 wd_612 wd_613 ⟨by decide, by decide, rfl⟩ rfl ⟨rfl, rfl, by decide, by decide⟩ ⟨by decide, by decide⟩ [0, 1] [2, 3] rfl rfl ⟨by decide, by decide, by decide⟩ rfl (Nat.le_of_ble_eq_true rfl) dL_law_1085 (fun u_1 hw_2 => ?_)
  refine j_eq (ws2 := [(g0, .inr (11, [.int 0, .ref g1, .int 0, .int 0, .ref g2, .ref g3, .ref g4, .int 0, .int 0, .ref g5, .ref g6, .ref g7, .ref g8, .int 0, .ref g9, .ref g10, .int 1, .ref g11, .ref g12, .ref g13, .ref g14, .ref g15, .int 0, .int 0, .int 0, .ref g16, .int 0, .ref g17, .ref g18, .ref g19, .ref g20, .ref g21, .ref g22, .int 0, .int 0, .int 0, .ref g23, .ref g24, .int 0, .int 0, .int 0, .int 0, .ref g25])), (g6, .inl (cyI, 240, .inl (fun _ => 0)))]) (pc2 := 1088) (lv2 := [(4, .int 0), (3, .ref o0), (2, .ref g0), (1, .ref t0), (0, .ref b)]) (st2 := [.int 1]) rfl rfl rfl rfl ?_
  refine j_widen (k := 108) (n := 73160) (by decide) (by decide) ?_
  refine j_istore (pc := 1088) (lv' := [(5, .int 1), (4, .int 0), (3, .ref o0), (2, .ref g0), (1, .ref t0), (0, .ref b)]) C dL_law_1088 (by decide) rfl ?_
  refine j_aload_n (pc := 1090) C dL_law_1090 rfl 3 rfl ?_
  refine j_aload_n (pc := 1091) C dL_law_1091 rfl 5 rfl ?_
  refine j_iload (pc := 1092) C dL_law_1092 1 rfl ?_
  refine j_iconst (pc := 1094) (v := 1) C dL_law_1094 (by decide) ?_
  refine j_iadd (pc := 1095) (v := 1) C dL_law_1095 (by decide) ?_
  refine j_sld (pc := 1096) (k := 1) C hX hbl hbA (by decide) (by decide) (by decide) dL_law_1096 ?_
  refine j_aload_n (pc := 1097) C dL_law_1097 rfl 5 rfl ?_
  refine j_iload (pc := 1098) C dL_law_1098 1 rfl ?_
  refine j_iconst (pc := 1100) (v := 2) C dL_law_1100 (by decide) ?_
  refine j_iadd (pc := 1101) (v := 2) C dL_law_1101 (by decide) ?_
  refine j_sld (pc := 1102) (k := 2) C hX hbl hbA (by decide) (by decide) (by decide) dL_law_1102 ?_
  refine j_callV (pc := 1103) (As := [.int (xs 1), .int (xs 2)]) (rest := []) (wr := []) C (c_X11_whole l D cyC cyI cyJ cyZ cyO (xs 1) (xs 2) g0 g1 g2 g3 g4 g5 g6 g7 g8 g9 g10 g11 g12 g13 g14 g15 g16 g17 g18 g19 g20 g21 g22 g23 g24 g25) wd_614 wd_313 wd_615 wd_616 wd_617 ⟨by decide, by decide, rfl⟩ rfl ⟨rfl, rfl, by decide, by decide⟩ ⟨by decide, by decide⟩ [0, 1] [] rfl rfl ⟨by decide, by decide, by decide⟩ 0 rfl rfl rfl (Nat.le_of_ble_eq_true rfl) dL_law_1103 (fun u_3 hw_4 => ?_)
  refine j_eq (ws2 := [(g0, .inr (11, [.int 1, .ref g1, .int 0, .int 0, .ref g2, .ref g3, .ref g4, .int 0, .int 0, .ref g5, .ref g6, .ref g7, .ref g8, .int 0, .ref g9, .ref g10, .int 1, .ref g11, .ref g12, .ref g13, .ref g14, .ref g15, .int 0, .int 0, .int 0, .ref g16, .int 0, .ref g17, .ref g18, .ref g19, .ref g20, .ref g21, .ref g22, .int 0, .int 0, .int 0, .ref g23, .ref g24, .int 0, .int 0, .int 0, .int 0, .ref g25])), (g6, .inl (cyI, 240, .inl (fun _ => 0)))]) (pc2 := 1106) (lv2 := [(5, .int 1), (4, .int 0), (3, .ref o0), (2, .ref g0), (1, .ref t0), (0, .ref b)]) (st2 := [.long 0]) rfl rfl rfl rfl ?_
  refine j_lstore (pc := 1106) (lv' := [(6, .long 0), (5, .int 1), (4, .int 0), (3, .ref o0), (2, .ref g0), (1, .ref t0), (0, .ref b)]) C dL_law_1106 (by decide) rfl ?_
  refine j_aload_n (pc := 1108) C dL_law_1108 rfl 4 rfl ?_
  refine j_callV (pc := 1109) (As := []) (rest := []) (wr := [(g6, .inl (cyI, 240, .inl (fun _ => 0)))]) C (c_X11_thrown l D cyC cyI cyJ cyZ cyO g0 g1 g2 g3 g4 g5 g6 g7 g8 g9 g10 g11 g12 g13 g14 g15 g16 g17 g18 g19 g20 g21 g22 g23 g24 g25) wd_618 wd_313 wd_619 wd_620 wd_621 ⟨by decide, by decide, rfl⟩ rfl ⟨rfl, rfl, by decide, by decide⟩ ⟨by decide, by decide⟩ [0] [1] rfl rfl ⟨by decide, by decide, by decide⟩ 0 rfl rfl rfl (Nat.le_of_ble_eq_true rfl) dL_law_1109 (fun u_5 hw_6 => ?_)
  refine j_eq (ws2 := [(g6, .inl (cyI, 240, .inl (fun _ => 0))), (g0, .inr (11, [.int 1, .ref g1, .int 0, .int 0, .ref g2, .ref g3, .ref g4, .int 0, .int 0, .ref g5, .ref g6, .ref g7, .ref g8, .int 0, .ref g9, .ref g10, .int 1, .ref g11, .ref g12, .ref g13, .ref g14, .ref g15, .int 0, .int 0, .int 0, .ref g16, .int 0, .ref g17, .ref g18, .ref g19, .ref g20, .ref g21, .ref g22, .int 0, .int 0, .int 0, .ref g23, .ref g24, .int 0, .int 0, .int 0, .int 0, .ref g25]))]) (pc2 := 1112) (lv2 := [(6, .long 0), (5, .int 1), (4, .int 0), (3, .ref o0), (2, .ref g0), (1, .ref t0), (0, .ref b)]) (st2 := [.int 1]) rfl rfl rfl rfl ?_
  refine j_iload (pc := 1112) C dL_law_1112 1 rfl ?_
  refine j_icmp_eq_t (pc := 1114) (tgt := 1119) C dL_law_1114 (by decide) (by decide) ?_
  refine j_iload (pc := 1119) C dL_law_1119 1 rfl ?_
  refine j_if_ne_t (pc := 1121) (tgt := 1135) C dL_law_1121 (by decide) (by decide) ?_
  refine j_goto (pc := 1135) (tgt := 1216) C dL_law_1135 (by decide) ?_
  exact j_lv [2, 3, 4, 5, 6] rfl (law_tail X (by decide) (by decide))
