theorem wd_382 : Cond.code yX11_lay cX11_lay 5 none ∈ WALL := wl_in (by decide +kernel) (by decide +kernel)
theorem wd_383 : Cond.methodLink RX11 7 yX11_lay ∈ WALL := wl_in (by decide +kernel) (by decide +kernel)
theorem wd_384 : Cond.instanceMethod yX11_lay ∈ WALL := wl_in (by decide +kernel) (by decide +kernel)
theorem wd_385 : Cond.selects RX11 yX11_lay yX11_lay ∈ WALL := wl_in (by decide +kernel) (by decide +kernel)
theorem dX11_lay_0 : decode cX11_lay 0 = .ok (.bipush 56, 2) := by decide +kernel
theorem dX11_lay_2 : decode cX11_lay 2 = .ok (.istore_n 3, 1) := by decide +kernel
theorem dX11_lay_3 : decode cX11_lay 3 = .ok (.iload_n 3, 1) := by decide +kernel
theorem dX11_lay_4 : decode cX11_lay 4 = .ok (.ifCond .lt 71, 3) := by decide +kernel
theorem dX11_lay_7 : decode cX11_lay 7 = .ok (.lload_n 1, 1) := by decide +kernel
theorem dX11_lay_8 : decode cX11_lay 8 = .ok (.iload_n 3, 1) := by decide +kernel
theorem dX11_lay_9 : decode cX11_lay 9 = .ok (.lshr, 1) := by decide +kernel
theorem dX11_lay_10 : decode cX11_lay 10 = .ok (.l2i, 1) := by decide +kernel
theorem dX11_lay_11 : decode cX11_lay 11 = .ok (.sipush 255, 3) := by decide +kernel
theorem dX11_lay_14 : decode cX11_lay 14 = .ok (.iand, 1) := by decide +kernel
theorem dX11_lay_15 : decode cX11_lay 15 = .ok (.istore 4, 2) := by decide +kernel
theorem dX11_lay_17 : decode cX11_lay 17 = .ok (.iload 4, 2) := by decide +kernel
theorem dX11_lay_19 : decode cX11_lay 19 = .ok (.bipush 10, 2) := by decide +kernel
theorem dX11_lay_21 : decode cX11_lay 21 = .ok (.if_icmp .eq 17, 3) := by decide +kernel
theorem dX11_lay_24 : decode cX11_lay 24 = .ok (.iload 4, 2) := by decide +kernel
theorem dX11_lay_26 : decode cX11_lay 26 = .ok (.bipush 32, 2) := by decide +kernel
theorem dX11_lay_28 : decode cX11_lay 28 = .ok (.if_icmp .lt 41, 3) := by decide +kernel
theorem dX11_lay_31 : decode cX11_lay 31 = .ok (.iload 4, 2) := by decide +kernel
theorem dX11_lay_33 : decode cX11_lay 33 = .ok (.bipush 126, 2) := by decide +kernel
theorem dX11_lay_35 : decode cX11_lay 35 = .ok (.if_icmp .gt 34, 3) := by decide +kernel
theorem dX11_lay_38 : decode cX11_lay 38 = .ok (.aload_n 0, 1) := by decide +kernel
theorem dX11_lay_39 : decode cX11_lay 39 = .ok (.getfield 11, 3) := by decide +kernel
theorem dX11_lay_42 : decode cX11_lay 42 = .ok (.sipush 1000, 3) := by decide +kernel
theorem dX11_lay_45 : decode cX11_lay 45 = .ok (.if_icmp .ge 24, 3) := by decide +kernel
theorem dX11_lay_48 : decode cX11_lay 48 = .ok (.aload_n 0, 1) := by decide +kernel
theorem dX11_lay_49 : decode cX11_lay 49 = .ok (.getfield 14, 3) := by decide +kernel
theorem dX11_lay_52 : decode cX11_lay 52 = .ok (.aload_n 0, 1) := by decide +kernel
theorem dX11_lay_53 : decode cX11_lay 53 = .ok (.getfield 11, 3) := by decide +kernel
theorem dX11_lay_56 : decode cX11_lay 56 = .ok (.iload 4, 2) := by decide +kernel
theorem dX11_lay_58 : decode cX11_lay 58 = .ok (.iastore, 1) := by decide +kernel
theorem dX11_lay_59 : decode cX11_lay 59 = .ok (.aload_n 0, 1) := by decide +kernel
theorem dX11_lay_60 : decode cX11_lay 60 = .ok (.dup, 1) := by decide +kernel
theorem dX11_lay_61 : decode cX11_lay 61 = .ok (.getfield 11, 3) := by decide +kernel
theorem dX11_lay_64 : decode cX11_lay 64 = .ok (.iconst 1, 1) := by decide +kernel
theorem dX11_lay_65 : decode cX11_lay 65 = .ok (.iadd, 1) := by decide +kernel
theorem dX11_lay_66 : decode cX11_lay 66 = .ok (.putfield 11, 3) := by decide +kernel
theorem dX11_lay_69 : decode cX11_lay 69 = .ok (.iinc 3 (-8), 3) := by decide +kernel
theorem dX11_lay_72 : decode cX11_lay 72 = .ok (.goto (-69), 3) := by decide +kernel
theorem dX11_lay_75 : decode cX11_lay 75 = .ok (.return_, 1) := by decide +kernel
theorem dX11_feed_0 : decode cX11_feed 0 = .ok (.aload_n 0, 1) := by decide +kernel
theorem dX11_feed_1 : decode cX11_feed 1 = .ok (.iconst 0, 1) := by decide +kernel
theorem dX11_feed_2 : decode cX11_feed 2 = .ok (.putfield 1, 3) := by decide +kernel
theorem dX11_feed_5 : decode cX11_feed 5 = .ok (.aload_n 0, 1) := by decide +kernel
theorem dX11_feed_6 : decode cX11_feed 6 = .ok (.lload_n 1, 1) := by decide +kernel
theorem dX11_feed_7 : decode cX11_feed 7 = .ok (.invokevirtual 7, 3) := by decide +kernel
theorem dX11_feed_10 : decode cX11_feed 10 = .ok (.aload_n 0, 1) := by decide +kernel
theorem dX11_feed_11 : decode cX11_feed 11 = .ok (.lload_n 3, 1) := by decide +kernel
theorem dX11_feed_12 : decode cX11_feed 12 = .ok (.invokevirtual 7, 3) := by decide +kernel
theorem dX11_feed_15 : decode cX11_feed 15 = .ok (.aload_n 0, 1) := by decide +kernel
theorem dX11_feed_16 : decode cX11_feed 16 = .ok (.lload 5, 2) := by decide +kernel
theorem dX11_feed_18 : decode cX11_feed 18 = .ok (.invokevirtual 7, 3) := by decide +kernel
theorem dX11_feed_21 : decode cX11_feed 21 = .ok (.aload_n 0, 1) := by decide +kernel
theorem dX11_feed_22 : decode cX11_feed 22 = .ok (.getfield 11, 3) := by decide +kernel
theorem dX11_feed_25 : decode cX11_feed 25 = .ok (.ireturn, 1) := by decide +kernel
set_option maxHeartbeats 4000000 in
set_option maxRecDepth 100000 in
theorem c_X11_lay (l : Launch) (D : va_G) (cyC cyI cyJ cyZ cyO : ClassId) (v : Int64) (n : Nat) (f : Nat → Int32) (B : Nat) (g0 : Nat) (g1 : Nat) (g2 : Nat) (g3 : Nat) (g4 : Nat) (g5 : Nat) (g6 : Nat) (g7 : Nat) (g8 : Nat) (g9 : Nat) (g10 : Nat) (g11 : Nat) (g12 : Nat) (g13 : Nat) (g14 : Nat) (g15 : Nat) (g16 : Nat) (g17 : Nat) (g18 : Nat) (g19 : Nat) (g20 : Nat) (g21 : Nat) (g22 : Nat) (g23 : Nat) (g24 : Nat) (g25 : Nat) (hn : n < B) (hB : B + 8 ≤ 1001) : KK l D (TY cyC cyI cyJ cyZ cyO) yX11_lay cX11_lay 5 none ({ frames := 0, cells := 0, slots := 0, locals := 0 } : Room) 0 0 [.ref g0, .long v] [(g0, .inr (11, [.int 0, .ref g1, .int (nI n), .int 0, .ref g2, .ref g3, .ref g4, .int 0, .int 0, .ref g5, .ref g6, .ref g7, .ref g8, .int 0, .ref g9, .ref g10, .int 1, .ref g11, .ref g12, .ref g13, .ref g14, .ref g15, .int 0, .int 0, .int 0, .ref g16, .int 0, .ref g17, .ref g18, .ref g19, .ref g20, .ref g21, .ref g22, .int 0, .int 0, .int 0, .ref g23, .ref g24, .int 0, .int 0, .int 0, .int 0, .ref g25])), (g1, .inl (cyI, 1000, .inl f))] (fun u => none) (fun u => True) (fun u => [(g0, .inr (11, [.int 0, .ref g1, .int (nI (fed v n)), .int 0, .ref g2, .ref g3, .ref g4, .int 0, .int 0, .ref g5, .ref g6, .ref g7, .ref g8, .int 0, .ref g9, .ref g10, .int 1, .ref g11, .ref g12, .ref g13, .ref g14, .ref g15, .int 0, .int 0, .int 0, .ref g16, .int 0, .ref g17, .ref g18, .ref g19, .ref g20, .ref g21, .ref g22, .int 0, .int 0, .int 0, .ref g23, .ref g24, .int 0, .int 0, .int 0, .int 0, .ref g25])), (g1, .inl (cyI, 1000, .inl (u.2.2 0)))]) := by
  refine KK.of (lv0 := [(0, .ref g0), (1, .long v)]) (by decide) rfl (Nat.le_of_ble_eq_true rfl) ?_
  intro p e s m args below meth c A C hr hk hin
  refine j_bipush (pc := 0) (v := 56) C dX11_lay_0 (by decide) ?_
  refine j_istore_n (pc := 2) (lv' := [(3, .int 56), (0, .ref g0), (1, .long v)]) C dX11_lay_2 rfl (by decide) rfl ?_
  have h_8 : ∀ (n1 : Nat) (f1 : Nat → Int32), n1 < B + 8 → n1 = fed v n → J p l e ({ frames := 0, cells := 0, slots := 0, locals := 0 } : Room) s m args below meth c D A 5 0 0 (QX below D (TY cyC cyI cyJ cyZ cyO) A (fun u => none) (fun u => True) (fun u => [(g0, .inr (11, [.int 0, .ref g1, .int (nI (fed v n)), .int 0, .ref g2, .ref g3, .ref g4, .int 0, .int 0, .ref g5, .ref g6, .ref g7, .ref g8, .int 0, .ref g9, .ref g10, .int 1, .ref g11, .ref g12, .ref g13, .ref g14, .ref g15, .int 0, .int 0, .int 0, .ref g16, .int 0, .ref g17, .ref g18, .ref g19, .ref g20, .ref g21, .ref g22, .int 0, .int 0, .int 0, .ref g23, .ref g24, .int 0, .int 0, .int 0, .int 0, .ref g25])), (g1, .inl (cyI, 1000, .inl (u.2.2 0)))]) args s 0 0) [(g0, .inr (11, [.int 0, .ref g1, .int (nI n1), .int 0, .ref g2, .ref g3, .ref g4, .int 0, .int 0, .ref g5, .ref g6, .ref g7, .ref g8, .int 0, .ref g9, .ref g10, .int 1, .ref g11, .ref g12, .ref g13, .ref g14, .ref g15, .int 0, .int 0, .int 0, .ref g16, .int 0, .ref g17, .ref g18, .ref g19, .ref g20, .ref g21, .ref g22, .int 0, .int 0, .int 0, .ref g23, .ref g24, .int 0, .int 0, .int 0, .int 0, .ref g25])), (g1, .inl (cyI, 1000, .inl f1))] 3 [(3, .int (-8)), (0, .ref g0), (1, .long v)] [] := by
    intro n1 f1 hb hrel
    subst hrel
    refine j_iload_n (pc := 3) C dX11_lay_3 rfl 0 rfl ?_
    refine j_if_lt_t (pc := 4) (tgt := 75) C dX11_lay_4 (by decide) (by decide) ?_
    exact j_vret (pc := 75) C hr hk (fun _ => 0, fun _ => 0, fun _ => f1) rfl trivial [0, 1] (by decide) rfl (by decide) (by decide) dX11_lay_75
  have h_7 : ∀ (n1 : Nat) (f1 : Nat → Int32), n1 < B + 7 → (fit n1 (bt v 0)) = fed v n → J p l e ({ frames := 0, cells := 0, slots := 0, locals := 0 } : Room) s m args below meth c D A 5 0 0 (QX below D (TY cyC cyI cyJ cyZ cyO) A (fun u => none) (fun u => True) (fun u => [(g0, .inr (11, [.int 0, .ref g1, .int (nI (fed v n)), .int 0, .ref g2, .ref g3, .ref g4, .int 0, .int 0, .ref g5, .ref g6, .ref g7, .ref g8, .int 0, .ref g9, .ref g10, .int 1, .ref g11, .ref g12, .ref g13, .ref g14, .ref g15, .int 0, .int 0, .int 0, .ref g16, .int 0, .ref g17, .ref g18, .ref g19, .ref g20, .ref g21, .ref g22, .int 0, .int 0, .int 0, .ref g23, .ref g24, .int 0, .int 0, .int 0, .int 0, .ref g25])), (g1, .inl (cyI, 1000, .inl (u.2.2 0)))]) args s 0 0) [(g0, .inr (11, [.int 0, .ref g1, .int (nI n1), .int 0, .ref g2, .ref g3, .ref g4, .int 0, .int 0, .ref g5, .ref g6, .ref g7, .ref g8, .int 0, .ref g9, .ref g10, .int 1, .ref g11, .ref g12, .ref g13, .ref g14, .ref g15, .int 0, .int 0, .int 0, .ref g16, .int 0, .ref g17, .ref g18, .ref g19, .ref g20, .ref g21, .ref g22, .int 0, .int 0, .int 0, .ref g23, .ref g24, .int 0, .int 0, .int 0, .int 0, .ref g25])), (g1, .inl (cyI, 1000, .inl f1))] 3 [(3, .int 0), (0, .ref g0), (1, .long v)] [] := by
    intro n1 f1 hb hrel
    refine j_iload_n (pc := 3) C dX11_lay_3 rfl 0 rfl ?_
    refine j_if_lt_f (pc := 4) (tgt := 75) C dX11_lay_4 (by decide) (by decide) ?_
    refine j_lload_n (pc := 7) C dX11_lay_7 rfl 2 rfl ?_
    refine j_iload_n (pc := 8) C dX11_lay_8 rfl 0 rfl ?_
    refine j_lshr (pc := 9) C dX11_lay_9 rfl ?_
    refine j_l2i (pc := 10) C dX11_lay_10 rfl ?_
    refine j_sipush (pc := 11) (v := 255) C dX11_lay_11 (by decide) ?_
    refine j_iand (pc := 14) (v := (bt v 0)) C dX11_lay_14 rfl ?_
    refine j_istore (pc := 15) (lv' := [(4, .int (bt v 0)), (3, .int 0), (0, .ref g0), (1, .long v)]) C dX11_lay_15 (by decide) rfl ?_
    refine j_iload (pc := 17) C dX11_lay_17 0 rfl ?_
    refine j_bipush (pc := 19) (v := 10) C dX11_lay_19 (by decide) ?_
    refine j_icmp_eq (pc := 21) (tgt := 38) C dX11_lay_21 (by decide) (fun c_1 => ?_) (fun c_1 => ?_)
    · skip
      refine j_aload_n (pc := 38) C dX11_lay_38 rfl 2 rfl ?_
      refine j_get (pc := 39) (ci := 11) (v := .int (nI n1)) C inw_11 0 rfl rfl 2 (by decide) wd_361 rfl rfl dX11_lay_39 ?_
      refine j_sipush (pc := 42) (v := 1000) C dX11_lay_42 (by decide) ?_
      refine j_icmp_ge_f (pc := 45) (tgt := 69) C dX11_lay_45 (by decide) (nI12 1000 (by omega) (by decide)) ?_
      refine j_aload_n (pc := 48) C dX11_lay_48 rfl 2 rfl ?_
      refine j_get (pc := 49) (ci := 11) (v := .ref g1) C inw_11 0 rfl rfl 1 (by decide) wd_118 rfl rfl dX11_lay_49 ?_
      refine j_aload_n (pc := 52) C dX11_lay_52 rfl 2 rfl ?_
      refine j_get (pc := 53) (ci := 11) (v := .int (nI n1)) C inw_11 0 rfl rfl 2 (by decide) wd_361 rfl rfl dX11_lay_53 ?_
      refine j_iload (pc := 56) C dX11_lay_56 0 rfl ?_
      refine j_iast (pc := 58) (k := n1) (ws' := [(g0, .inr (11, [.int 0, .ref g1, .int (nI n1), .int 0, .ref g2, .ref g3, .ref g4, .int 0, .int 0, .ref g5, .ref g6, .ref g7, .ref g8, .int 0, .ref g9, .ref g10, .int 1, .ref g11, .ref g12, .ref g13, .ref g14, .ref g15, .int 0, .int 0, .int 0, .ref g16, .int 0, .ref g17, .ref g18, .ref g19, .ref g20, .ref g21, .ref g22, .int 0, .int 0, .int 0, .ref g23, .ref g24, .int 0, .int 0, .int 0, .int 0, .ref g25])), (g1, .inl (cyI, 1000, .inl (upd f1 n1 (bt v 0))))]) C 1 1 rfl rfl (nI_pos (by omega)) (nI_clamp (by omega)) (by omega) dX11_lay_58 rfl ?_
      refine j_aload_n (pc := 59) C dX11_lay_59 rfl 2 rfl ?_
      refine j_dup (pc := 60) C dX11_lay_60 rfl ?_
      refine j_get (pc := 61) (ci := 11) (v := .int (nI n1)) C inw_11 0 rfl rfl 2 (by decide) wd_361 rfl rfl dX11_lay_61 ?_
      refine j_iconst (pc := 64) (v := 1) C dX11_lay_64 (by decide) ?_
      refine j_iadd (pc := 65) (v := (nI (n1 + 1))) C dX11_lay_65 (nI_1 n1) ?_
      refine j_put (pc := 66) (ci := 11) (v := .int (nI (n1 + 1))) (ws' := [(g0, .inr (11, [.int 0, .ref g1, .int (nI (n1 + 1)), .int 0, .ref g2, .ref g3, .ref g4, .int 0, .int 0, .ref g5, .ref g6, .ref g7, .ref g8, .int 0, .ref g9, .ref g10, .int 1, .ref g11, .ref g12, .ref g13, .ref g14, .ref g15, .int 0, .int 0, .int 0, .ref g16, .int 0, .ref g17, .ref g18, .ref g19, .ref g20, .ref g21, .ref g22, .int 0, .int 0, .int 0, .ref g23, .ref g24, .int 0, .int 0, .int 0, .int 0, .ref g25])), (g1, .inl (cyI, 1000, .inl (upd f1 n1 (bt v 0))))]) C inw_11 0 rfl rfl 2 (by decide) wd_361 rfl tyX11_ok nmX11 rfl (tyX11_ok 2 (by decide)) rfl rfl (Nat.le_of_ble_eq_true rfl) dX11_lay_66 rfl ?_
      refine j_iinc (pc := 69) (v := (-8)) (lv' := [(3, .int (-8)), (4, .int (bt v 0)), (0, .ref g0), (1, .long v)]) C dX11_lay_69 1 rfl (by decide) (by decide) rfl ?_
      refine j_goto (pc := 72) (tgt := 3) C dX11_lay_72 (by decide) ?_
      exact j_lv [0, 2, 3] rfl (h_8 (n1 + 1) _ (by omega) (by rw [fit_a c_1] at hrel; exact hrel))
    · skip
      refine j_iload (pc := 24) C dX11_lay_24 0 rfl ?_
      refine j_bipush (pc := 26) (v := 32) C dX11_lay_26 (by decide) ?_
      refine j_icmp_lt (pc := 28) (tgt := 69) C dX11_lay_28 (by decide) (fun c_2 => ?_) (fun c_2 => ?_)
      · skip
        refine j_iinc (pc := 69) (v := (-8)) (lv' := [(3, .int (-8)), (4, .int (bt v 0)), (0, .ref g0), (1, .long v)]) C dX11_lay_69 1 rfl (by decide) (by decide) rfl ?_
        refine j_goto (pc := 72) (tgt := 3) C dX11_lay_72 (by decide) ?_
        exact j_lv [0, 2, 3] rfl (h_8 n1 _ (by omega) (by rw [fit_c c_1 c_2] at hrel; exact hrel))
      · skip
        refine j_iload (pc := 31) C dX11_lay_31 0 rfl ?_
        refine j_bipush (pc := 33) (v := 126) C dX11_lay_33 (by decide) ?_
        refine j_icmp_gt (pc := 35) (tgt := 69) C dX11_lay_35 (by decide) (fun c_3 => ?_) (fun c_3 => ?_)
        · skip
          refine j_iinc (pc := 69) (v := (-8)) (lv' := [(3, .int (-8)), (4, .int (bt v 0)), (0, .ref g0), (1, .long v)]) C dX11_lay_69 1 rfl (by decide) (by decide) rfl ?_
          refine j_goto (pc := 72) (tgt := 3) C dX11_lay_72 (by decide) ?_
          exact j_lv [0, 2, 3] rfl (h_8 n1 _ (by omega) (by rw [fit_d c_1 c_3] at hrel; exact hrel))
        · skip
          refine j_aload_n (pc := 38) C dX11_lay_38 rfl 2 rfl ?_
          refine j_get (pc := 39) (ci := 11) (v := .int (nI n1)) C inw_11 0 rfl rfl 2 (by decide) wd_361 rfl rfl dX11_lay_39 ?_
          refine j_sipush (pc := 42) (v := 1000) C dX11_lay_42 (by decide) ?_
          refine j_icmp_ge_f (pc := 45) (tgt := 69) C dX11_lay_45 (by decide) (nI12 1000 (by omega) (by decide)) ?_
          refine j_aload_n (pc := 48) C dX11_lay_48 rfl 2 rfl ?_
          refine j_get (pc := 49) (ci := 11) (v := .ref g1) C inw_11 0 rfl rfl 1 (by decide) wd_118 rfl rfl dX11_lay_49 ?_
          refine j_aload_n (pc := 52) C dX11_lay_52 rfl 2 rfl ?_
          refine j_get (pc := 53) (ci := 11) (v := .int (nI n1)) C inw_11 0 rfl rfl 2 (by decide) wd_361 rfl rfl dX11_lay_53 ?_
          refine j_iload (pc := 56) C dX11_lay_56 0 rfl ?_
          refine j_iast (pc := 58) (k := n1) (ws' := [(g0, .inr (11, [.int 0, .ref g1, .int (nI n1), .int 0, .ref g2, .ref g3, .ref g4, .int 0, .int 0, .ref g5, .ref g6, .ref g7, .ref g8, .int 0, .ref g9, .ref g10, .int 1, .ref g11, .ref g12, .ref g13, .ref g14, .ref g15, .int 0, .int 0, .int 0, .ref g16, .int 0, .ref g17, .ref g18, .ref g19, .ref g20, .ref g21, .ref g22, .int 0, .int 0, .int 0, .ref g23, .ref g24, .int 0, .int 0, .int 0, .int 0, .ref g25])), (g1, .inl (cyI, 1000, .inl (upd f1 n1 (bt v 0))))]) C 1 1 rfl rfl (nI_pos (by omega)) (nI_clamp (by omega)) (by omega) dX11_lay_58 rfl ?_
          refine j_aload_n (pc := 59) C dX11_lay_59 rfl 2 rfl ?_
          refine j_dup (pc := 60) C dX11_lay_60 rfl ?_
          refine j_get (pc := 61) (ci := 11) (v := .int (nI n1)) C inw_11 0 rfl rfl 2 (by decide) wd_361 rfl rfl dX11_lay_61 ?_
          refine j_iconst (pc := 64) (v := 1) C dX11_lay_64 (by decide) ?_
          refine j_iadd (pc := 65) (v := (nI (n1 + 1))) C dX11_lay_65 (nI_1 n1) ?_
          refine j_put (pc := 66) (ci := 11) (v := .int (nI (n1 + 1))) (ws' := [(g0, .inr (11, [.int 0, .ref g1, .int (nI (n1 + 1)), .int 0, .ref g2, .ref g3, .ref g4, .int 0, .int 0, .ref g5, .ref g6, .ref g7, .ref g8, .int 0, .ref g9, .ref g10, .int 1, .ref g11, .ref g12, .ref g13, .ref g14, .ref g15, .int 0, .int 0, .int 0, .ref g16, .int 0, .ref g17, .ref g18, .ref g19, .ref g20, .ref g21, .ref g22, .int 0, .int 0, .int 0, .ref g23, .ref g24, .int 0, .int 0, .int 0, .int 0, .ref g25])), (g1, .inl (cyI, 1000, .inl (upd f1 n1 (bt v 0))))]) C inw_11 0 rfl rfl 2 (by decide) wd_361 rfl tyX11_ok nmX11 rfl (tyX11_ok 2 (by decide)) rfl rfl (Nat.le_of_ble_eq_true rfl) dX11_lay_66 rfl ?_
          refine j_iinc (pc := 69) (v := (-8)) (lv' := [(3, .int (-8)), (4, .int (bt v 0)), (0, .ref g0), (1, .long v)]) C dX11_lay_69 1 rfl (by decide) (by decide) rfl ?_
          refine j_goto (pc := 72) (tgt := 3) C dX11_lay_72 (by decide) ?_
          exact j_lv [0, 2, 3] rfl (h_8 (n1 + 1) _ (by omega) (by rw [fit_b c_2 c_3] at hrel; exact hrel))
  have h_6 : ∀ (n1 : Nat) (f1 : Nat → Int32), n1 < B + 6 → (fit (fit n1 (bt v 8)) (bt v 0)) = fed v n → J p l e ({ frames := 0, cells := 0, slots := 0, locals := 0 } : Room) s m args below meth c D A 5 0 0 (QX below D (TY cyC cyI cyJ cyZ cyO) A (fun u => none) (fun u => True) (fun u => [(g0, .inr (11, [.int 0, .ref g1, .int (nI (fed v n)), .int 0, .ref g2, .ref g3, .ref g4, .int 0, .int 0, .ref g5, .ref g6, .ref g7, .ref g8, .int 0, .ref g9, .ref g10, .int 1, .ref g11, .ref g12, .ref g13, .ref g14, .ref g15, .int 0, .int 0, .int 0, .ref g16, .int 0, .ref g17, .ref g18, .ref g19, .ref g20, .ref g21, .ref g22, .int 0, .int 0, .int 0, .ref g23, .ref g24, .int 0, .int 0, .int 0, .int 0, .ref g25])), (g1, .inl (cyI, 1000, .inl (u.2.2 0)))]) args s 0 0) [(g0, .inr (11, [.int 0, .ref g1, .int (nI n1), .int 0, .ref g2, .ref g3, .ref g4, .int 0, .int 0, .ref g5, .ref g6, .ref g7, .ref g8, .int 0, .ref g9, .ref g10, .int 1, .ref g11, .ref g12, .ref g13, .ref g14, .ref g15, .int 0, .int 0, .int 0, .ref g16, .int 0, .ref g17, .ref g18, .ref g19, .ref g20, .ref g21, .ref g22, .int 0, .int 0, .int 0, .ref g23, .ref g24, .int 0, .int 0, .int 0, .int 0, .ref g25])), (g1, .inl (cyI, 1000, .inl f1))] 3 [(3, .int 8), (0, .ref g0), (1, .long v)] [] := by
    intro n1 f1 hb hrel
    refine j_iload_n (pc := 3) C dX11_lay_3 rfl 0 rfl ?_
    refine j_if_lt_f (pc := 4) (tgt := 75) C dX11_lay_4 (by decide) (by decide) ?_
    refine j_lload_n (pc := 7) C dX11_lay_7 rfl 2 rfl ?_
    refine j_iload_n (pc := 8) C dX11_lay_8 rfl 0 rfl ?_
    refine j_lshr (pc := 9) C dX11_lay_9 rfl ?_
    refine j_l2i (pc := 10) C dX11_lay_10 rfl ?_
    refine j_sipush (pc := 11) (v := 255) C dX11_lay_11 (by decide) ?_
    refine j_iand (pc := 14) (v := (bt v 8)) C dX11_lay_14 rfl ?_
    refine j_istore (pc := 15) (lv' := [(4, .int (bt v 8)), (3, .int 8), (0, .ref g0), (1, .long v)]) C dX11_lay_15 (by decide) rfl ?_
    refine j_iload (pc := 17) C dX11_lay_17 0 rfl ?_
    refine j_bipush (pc := 19) (v := 10) C dX11_lay_19 (by decide) ?_
    refine j_icmp_eq (pc := 21) (tgt := 38) C dX11_lay_21 (by decide) (fun c_4 => ?_) (fun c_4 => ?_)
    · skip
      refine j_aload_n (pc := 38) C dX11_lay_38 rfl 2 rfl ?_
      refine j_get (pc := 39) (ci := 11) (v := .int (nI n1)) C inw_11 0 rfl rfl 2 (by decide) wd_361 rfl rfl dX11_lay_39 ?_
      refine j_sipush (pc := 42) (v := 1000) C dX11_lay_42 (by decide) ?_
      refine j_icmp_ge_f (pc := 45) (tgt := 69) C dX11_lay_45 (by decide) (nI12 1000 (by omega) (by decide)) ?_
      refine j_aload_n (pc := 48) C dX11_lay_48 rfl 2 rfl ?_
      refine j_get (pc := 49) (ci := 11) (v := .ref g1) C inw_11 0 rfl rfl 1 (by decide) wd_118 rfl rfl dX11_lay_49 ?_
      refine j_aload_n (pc := 52) C dX11_lay_52 rfl 2 rfl ?_
      refine j_get (pc := 53) (ci := 11) (v := .int (nI n1)) C inw_11 0 rfl rfl 2 (by decide) wd_361 rfl rfl dX11_lay_53 ?_
      refine j_iload (pc := 56) C dX11_lay_56 0 rfl ?_
      refine j_iast (pc := 58) (k := n1) (ws' := [(g0, .inr (11, [.int 0, .ref g1, .int (nI n1), .int 0, .ref g2, .ref g3, .ref g4, .int 0, .int 0, .ref g5, .ref g6, .ref g7, .ref g8, .int 0, .ref g9, .ref g10, .int 1, .ref g11, .ref g12, .ref g13, .ref g14, .ref g15, .int 0, .int 0, .int 0, .ref g16, .int 0, .ref g17, .ref g18, .ref g19, .ref g20, .ref g21, .ref g22, .int 0, .int 0, .int 0, .ref g23, .ref g24, .int 0, .int 0, .int 0, .int 0, .ref g25])), (g1, .inl (cyI, 1000, .inl (upd f1 n1 (bt v 8))))]) C 1 1 rfl rfl (nI_pos (by omega)) (nI_clamp (by omega)) (by omega) dX11_lay_58 rfl ?_
      refine j_aload_n (pc := 59) C dX11_lay_59 rfl 2 rfl ?_
      refine j_dup (pc := 60) C dX11_lay_60 rfl ?_
      refine j_get (pc := 61) (ci := 11) (v := .int (nI n1)) C inw_11 0 rfl rfl 2 (by decide) wd_361 rfl rfl dX11_lay_61 ?_
      refine j_iconst (pc := 64) (v := 1) C dX11_lay_64 (by decide) ?_
      refine j_iadd (pc := 65) (v := (nI (n1 + 1))) C dX11_lay_65 (nI_1 n1) ?_
      refine j_put (pc := 66) (ci := 11) (v := .int (nI (n1 + 1))) (ws' := [(g0, .inr (11, [.int 0, .ref g1, .int (nI (n1 + 1)), .int 0, .ref g2, .ref g3, .ref g4, .int 0, .int 0, .ref g5, .ref g6, .ref g7, .ref g8, .int 0, .ref g9, .ref g10, .int 1, .ref g11, .ref g12, .ref g13, .ref g14, .ref g15, .int 0, .int 0, .int 0, .ref g16, .int 0, .ref g17, .ref g18, .ref g19, .ref g20, .ref g21, .ref g22, .int 0, .int 0, .int 0, .ref g23, .ref g24, .int 0, .int 0, .int 0, .int 0, .ref g25])), (g1, .inl (cyI, 1000, .inl (upd f1 n1 (bt v 8))))]) C inw_11 0 rfl rfl 2 (by decide) wd_361 rfl tyX11_ok nmX11 rfl (tyX11_ok 2 (by decide)) rfl rfl (Nat.le_of_ble_eq_true rfl) dX11_lay_66 rfl ?_
      refine j_iinc (pc := 69) (v := 0) (lv' := [(3, .int 0), (4, .int (bt v 8)), (0, .ref g0), (1, .long v)]) C dX11_lay_69 1 rfl (by decide) (by decide) rfl ?_
      refine j_goto (pc := 72) (tgt := 3) C dX11_lay_72 (by decide) ?_
      exact j_lv [0, 2, 3] rfl (h_7 (n1 + 1) _ (by omega) (by rw [fit_a c_4] at hrel; exact hrel))
    · skip
      refine j_iload (pc := 24) C dX11_lay_24 0 rfl ?_
      refine j_bipush (pc := 26) (v := 32) C dX11_lay_26 (by decide) ?_
      refine j_icmp_lt (pc := 28) (tgt := 69) C dX11_lay_28 (by decide) (fun c_5 => ?_) (fun c_5 => ?_)
      · skip
        refine j_iinc (pc := 69) (v := 0) (lv' := [(3, .int 0), (4, .int (bt v 8)), (0, .ref g0), (1, .long v)]) C dX11_lay_69 1 rfl (by decide) (by decide) rfl ?_
        refine j_goto (pc := 72) (tgt := 3) C dX11_lay_72 (by decide) ?_
        exact j_lv [0, 2, 3] rfl (h_7 n1 _ (by omega) (by rw [fit_c c_4 c_5] at hrel; exact hrel))
      · skip
        refine j_iload (pc := 31) C dX11_lay_31 0 rfl ?_
        refine j_bipush (pc := 33) (v := 126) C dX11_lay_33 (by decide) ?_
        refine j_icmp_gt (pc := 35) (tgt := 69) C dX11_lay_35 (by decide) (fun c_6 => ?_) (fun c_6 => ?_)
        · skip
          refine j_iinc (pc := 69) (v := 0) (lv' := [(3, .int 0), (4, .int (bt v 8)), (0, .ref g0), (1, .long v)]) C dX11_lay_69 1 rfl (by decide) (by decide) rfl ?_
          refine j_goto (pc := 72) (tgt := 3) C dX11_lay_72 (by decide) ?_
          exact j_lv [0, 2, 3] rfl (h_7 n1 _ (by omega) (by rw [fit_d c_4 c_6] at hrel; exact hrel))
        · skip
          refine j_aload_n (pc := 38) C dX11_lay_38 rfl 2 rfl ?_
          refine j_get (pc := 39) (ci := 11) (v := .int (nI n1)) C inw_11 0 rfl rfl 2 (by decide) wd_361 rfl rfl dX11_lay_39 ?_
          refine j_sipush (pc := 42) (v := 1000) C dX11_lay_42 (by decide) ?_
          refine j_icmp_ge_f (pc := 45) (tgt := 69) C dX11_lay_45 (by decide) (nI12 1000 (by omega) (by decide)) ?_
          refine j_aload_n (pc := 48) C dX11_lay_48 rfl 2 rfl ?_
          refine j_get (pc := 49) (ci := 11) (v := .ref g1) C inw_11 0 rfl rfl 1 (by decide) wd_118 rfl rfl dX11_lay_49 ?_
          refine j_aload_n (pc := 52) C dX11_lay_52 rfl 2 rfl ?_
          refine j_get (pc := 53) (ci := 11) (v := .int (nI n1)) C inw_11 0 rfl rfl 2 (by decide) wd_361 rfl rfl dX11_lay_53 ?_
          refine j_iload (pc := 56) C dX11_lay_56 0 rfl ?_
          refine j_iast (pc := 58) (k := n1) (ws' := [(g0, .inr (11, [.int 0, .ref g1, .int (nI n1), .int 0, .ref g2, .ref g3, .ref g4, .int 0, .int 0, .ref g5, .ref g6, .ref g7, .ref g8, .int 0, .ref g9, .ref g10, .int 1, .ref g11, .ref g12, .ref g13, .ref g14, .ref g15, .int 0, .int 0, .int 0, .ref g16, .int 0, .ref g17, .ref g18, .ref g19, .ref g20, .ref g21, .ref g22, .int 0, .int 0, .int 0, .ref g23, .ref g24, .int 0, .int 0, .int 0, .int 0, .ref g25])), (g1, .inl (cyI, 1000, .inl (upd f1 n1 (bt v 8))))]) C 1 1 rfl rfl (nI_pos (by omega)) (nI_clamp (by omega)) (by omega) dX11_lay_58 rfl ?_
          refine j_aload_n (pc := 59) C dX11_lay_59 rfl 2 rfl ?_
          refine j_dup (pc := 60) C dX11_lay_60 rfl ?_
          refine j_get (pc := 61) (ci := 11) (v := .int (nI n1)) C inw_11 0 rfl rfl 2 (by decide) wd_361 rfl rfl dX11_lay_61 ?_
          refine j_iconst (pc := 64) (v := 1) C dX11_lay_64 (by decide) ?_
          refine j_iadd (pc := 65) (v := (nI (n1 + 1))) C dX11_lay_65 (nI_1 n1) ?_
          refine j_put (pc := 66) (ci := 11) (v := .int (nI (n1 + 1))) (ws' := [(g0, .inr (11, [.int 0, .ref g1, .int (nI (n1 + 1)), .int 0, .ref g2, .ref g3, .ref g4, .int 0, .int 0, .ref g5, .ref g6, .ref g7, .ref g8, .int 0, .ref g9, .ref g10, .int 1, .ref g11, .ref g12, .ref g13, .ref g14, .ref g15, .int 0, .int 0, .int 0, .ref g16, .int 0, .ref g17, .ref g18, .ref g19, .ref g20, .ref g21, .ref g22, .int 0, .int 0, .int 0, .ref g23, .ref g24, .int 0, .int 0, .int 0, .int 0, .ref g25])), (g1, .inl (cyI, 1000, .inl (upd f1 n1 (bt v 8))))]) C inw_11 0 rfl rfl 2 (by decide) wd_361 rfl tyX11_ok nmX11 rfl (tyX11_ok 2 (by decide)) rfl rfl (Nat.le_of_ble_eq_true rfl) dX11_lay_66 rfl ?_
          refine j_iinc (pc := 69) (v := 0) (lv' := [(3, .int 0), (4, .int (bt v 8)), (0, .ref g0), (1, .long v)]) C dX11_lay_69 1 rfl (by decide) (by decide) rfl ?_
          refine j_goto (pc := 72) (tgt := 3) C dX11_lay_72 (by decide) ?_
          exact j_lv [0, 2, 3] rfl (h_7 (n1 + 1) _ (by omega) (by rw [fit_b c_5 c_6] at hrel; exact hrel))
  have h_5 : ∀ (n1 : Nat) (f1 : Nat → Int32), n1 < B + 5 → (fit (fit (fit n1 (bt v 16)) (bt v 8)) (bt v 0)) = fed v n → J p l e ({ frames := 0, cells := 0, slots := 0, locals := 0 } : Room) s m args below meth c D A 5 0 0 (QX below D (TY cyC cyI cyJ cyZ cyO) A (fun u => none) (fun u => True) (fun u => [(g0, .inr (11, [.int 0, .ref g1, .int (nI (fed v n)), .int 0, .ref g2, .ref g3, .ref g4, .int 0, .int 0, .ref g5, .ref g6, .ref g7, .ref g8, .int 0, .ref g9, .ref g10, .int 1, .ref g11, .ref g12, .ref g13, .ref g14, .ref g15, .int 0, .int 0, .int 0, .ref g16, .int 0, .ref g17, .ref g18, .ref g19, .ref g20, .ref g21, .ref g22, .int 0, .int 0, .int 0, .ref g23, .ref g24, .int 0, .int 0, .int 0, .int 0, .ref g25])), (g1, .inl (cyI, 1000, .inl (u.2.2 0)))]) args s 0 0) [(g0, .inr (11, [.int 0, .ref g1, .int (nI n1), .int 0, .ref g2, .ref g3, .ref g4, .int 0, .int 0, .ref g5, .ref g6, .ref g7, .ref g8, .int 0, .ref g9, .ref g10, .int 1, .ref g11, .ref g12, .ref g13, .ref g14, .ref g15, .int 0, .int 0, .int 0, .ref g16, .int 0, .ref g17, .ref g18, .ref g19, .ref g20, .ref g21, .ref g22, .int 0, .int 0, .int 0, .ref g23, .ref g24, .int 0, .int 0, .int 0, .int 0, .ref g25])), (g1, .inl (cyI, 1000, .inl f1))] 3 [(3, .int 16), (0, .ref g0), (1, .long v)] [] := by
    intro n1 f1 hb hrel
    refine j_iload_n (pc := 3) C dX11_lay_3 rfl 0 rfl ?_
    refine j_if_lt_f (pc := 4) (tgt := 75) C dX11_lay_4 (by decide) (by decide) ?_
    refine j_lload_n (pc := 7) C dX11_lay_7 rfl 2 rfl ?_
    refine j_iload_n (pc := 8) C dX11_lay_8 rfl 0 rfl ?_
    refine j_lshr (pc := 9) C dX11_lay_9 rfl ?_
    refine j_l2i (pc := 10) C dX11_lay_10 rfl ?_
    refine j_sipush (pc := 11) (v := 255) C dX11_lay_11 (by decide) ?_
    refine j_iand (pc := 14) (v := (bt v 16)) C dX11_lay_14 rfl ?_
    refine j_istore (pc := 15) (lv' := [(4, .int (bt v 16)), (3, .int 16), (0, .ref g0), (1, .long v)]) C dX11_lay_15 (by decide) rfl ?_
    refine j_iload (pc := 17) C dX11_lay_17 0 rfl ?_
    refine j_bipush (pc := 19) (v := 10) C dX11_lay_19 (by decide) ?_
    refine j_icmp_eq (pc := 21) (tgt := 38) C dX11_lay_21 (by decide) (fun c_7 => ?_) (fun c_7 => ?_)
    · skip
      refine j_aload_n (pc := 38) C dX11_lay_38 rfl 2 rfl ?_
      refine j_get (pc := 39) (ci := 11) (v := .int (nI n1)) C inw_11 0 rfl rfl 2 (by decide) wd_361 rfl rfl dX11_lay_39 ?_
      refine j_sipush (pc := 42) (v := 1000) C dX11_lay_42 (by decide) ?_
      refine j_icmp_ge_f (pc := 45) (tgt := 69) C dX11_lay_45 (by decide) (nI12 1000 (by omega) (by decide)) ?_
      refine j_aload_n (pc := 48) C dX11_lay_48 rfl 2 rfl ?_
      refine j_get (pc := 49) (ci := 11) (v := .ref g1) C inw_11 0 rfl rfl 1 (by decide) wd_118 rfl rfl dX11_lay_49 ?_
      refine j_aload_n (pc := 52) C dX11_lay_52 rfl 2 rfl ?_
      refine j_get (pc := 53) (ci := 11) (v := .int (nI n1)) C inw_11 0 rfl rfl 2 (by decide) wd_361 rfl rfl dX11_lay_53 ?_
      refine j_iload (pc := 56) C dX11_lay_56 0 rfl ?_
      refine j_iast (pc := 58) (k := n1) (ws' := [(g0, .inr (11, [.int 0, .ref g1, .int (nI n1), .int 0, .ref g2, .ref g3, .ref g4, .int 0, .int 0, .ref g5, .ref g6, .ref g7, .ref g8, .int 0, .ref g9, .ref g10, .int 1, .ref g11, .ref g12, .ref g13, .ref g14, .ref g15, .int 0, .int 0, .int 0, .ref g16, .int 0, .ref g17, .ref g18, .ref g19, .ref g20, .ref g21, .ref g22, .int 0, .int 0, .int 0, .ref g23, .ref g24, .int 0, .int 0, .int 0, .int 0, .ref g25])), (g1, .inl (cyI, 1000, .inl (upd f1 n1 (bt v 16))))]) C 1 1 rfl rfl (nI_pos (by omega)) (nI_clamp (by omega)) (by omega) dX11_lay_58 rfl ?_
      refine j_aload_n (pc := 59) C dX11_lay_59 rfl 2 rfl ?_
      refine j_dup (pc := 60) C dX11_lay_60 rfl ?_
      refine j_get (pc := 61) (ci := 11) (v := .int (nI n1)) C inw_11 0 rfl rfl 2 (by decide) wd_361 rfl rfl dX11_lay_61 ?_
      refine j_iconst (pc := 64) (v := 1) C dX11_lay_64 (by decide) ?_
      refine j_iadd (pc := 65) (v := (nI (n1 + 1))) C dX11_lay_65 (nI_1 n1) ?_
      refine j_put (pc := 66) (ci := 11) (v := .int (nI (n1 + 1))) (ws' := [(g0, .inr (11, [.int 0, .ref g1, .int (nI (n1 + 1)), .int 0, .ref g2, .ref g3, .ref g4, .int 0, .int 0, .ref g5, .ref g6, .ref g7, .ref g8, .int 0, .ref g9, .ref g10, .int 1, .ref g11, .ref g12, .ref g13, .ref g14, .ref g15, .int 0, .int 0, .int 0, .ref g16, .int 0, .ref g17, .ref g18, .ref g19, .ref g20, .ref g21, .ref g22, .int 0, .int 0, .int 0, .ref g23, .ref g24, .int 0, .int 0, .int 0, .int 0, .ref g25])), (g1, .inl (cyI, 1000, .inl (upd f1 n1 (bt v 16))))]) C inw_11 0 rfl rfl 2 (by decide) wd_361 rfl tyX11_ok nmX11 rfl (tyX11_ok 2 (by decide)) rfl rfl (Nat.le_of_ble_eq_true rfl) dX11_lay_66 rfl ?_
      refine j_iinc (pc := 69) (v := 8) (lv' := [(3, .int 8), (4, .int (bt v 16)), (0, .ref g0), (1, .long v)]) C dX11_lay_69 1 rfl (by decide) (by decide) rfl ?_
      refine j_goto (pc := 72) (tgt := 3) C dX11_lay_72 (by decide) ?_
      exact j_lv [0, 2, 3] rfl (h_6 (n1 + 1) _ (by omega) (by rw [fit_a c_7] at hrel; exact hrel))
    · skip
      refine j_iload (pc := 24) C dX11_lay_24 0 rfl ?_
      refine j_bipush (pc := 26) (v := 32) C dX11_lay_26 (by decide) ?_
      refine j_icmp_lt (pc := 28) (tgt := 69) C dX11_lay_28 (by decide) (fun c_8 => ?_) (fun c_8 => ?_)
      · skip
        refine j_iinc (pc := 69) (v := 8) (lv' := [(3, .int 8), (4, .int (bt v 16)), (0, .ref g0), (1, .long v)]) C dX11_lay_69 1 rfl (by decide) (by decide) rfl ?_
        refine j_goto (pc := 72) (tgt := 3) C dX11_lay_72 (by decide) ?_
        exact j_lv [0, 2, 3] rfl (h_6 n1 _ (by omega) (by rw [fit_c c_7 c_8] at hrel; exact hrel))
      · skip
        refine j_iload (pc := 31) C dX11_lay_31 0 rfl ?_
        refine j_bipush (pc := 33) (v := 126) C dX11_lay_33 (by decide) ?_
        refine j_icmp_gt (pc := 35) (tgt := 69) C dX11_lay_35 (by decide) (fun c_9 => ?_) (fun c_9 => ?_)
        · skip
          refine j_iinc (pc := 69) (v := 8) (lv' := [(3, .int 8), (4, .int (bt v 16)), (0, .ref g0), (1, .long v)]) C dX11_lay_69 1 rfl (by decide) (by decide) rfl ?_
          refine j_goto (pc := 72) (tgt := 3) C dX11_lay_72 (by decide) ?_
          exact j_lv [0, 2, 3] rfl (h_6 n1 _ (by omega) (by rw [fit_d c_7 c_9] at hrel; exact hrel))
        · skip
          refine j_aload_n (pc := 38) C dX11_lay_38 rfl 2 rfl ?_
          refine j_get (pc := 39) (ci := 11) (v := .int (nI n1)) C inw_11 0 rfl rfl 2 (by decide) wd_361 rfl rfl dX11_lay_39 ?_
          refine j_sipush (pc := 42) (v := 1000) C dX11_lay_42 (by decide) ?_
          refine j_icmp_ge_f (pc := 45) (tgt := 69) C dX11_lay_45 (by decide) (nI12 1000 (by omega) (by decide)) ?_
          refine j_aload_n (pc := 48) C dX11_lay_48 rfl 2 rfl ?_
          refine j_get (pc := 49) (ci := 11) (v := .ref g1) C inw_11 0 rfl rfl 1 (by decide) wd_118 rfl rfl dX11_lay_49 ?_
          refine j_aload_n (pc := 52) C dX11_lay_52 rfl 2 rfl ?_
          refine j_get (pc := 53) (ci := 11) (v := .int (nI n1)) C inw_11 0 rfl rfl 2 (by decide) wd_361 rfl rfl dX11_lay_53 ?_
          refine j_iload (pc := 56) C dX11_lay_56 0 rfl ?_
          refine j_iast (pc := 58) (k := n1) (ws' := [(g0, .inr (11, [.int 0, .ref g1, .int (nI n1), .int 0, .ref g2, .ref g3, .ref g4, .int 0, .int 0, .ref g5, .ref g6, .ref g7, .ref g8, .int 0, .ref g9, .ref g10, .int 1, .ref g11, .ref g12, .ref g13, .ref g14, .ref g15, .int 0, .int 0, .int 0, .ref g16, .int 0, .ref g17, .ref g18, .ref g19, .ref g20, .ref g21, .ref g22, .int 0, .int 0, .int 0, .ref g23, .ref g24, .int 0, .int 0, .int 0, .int 0, .ref g25])), (g1, .inl (cyI, 1000, .inl (upd f1 n1 (bt v 16))))]) C 1 1 rfl rfl (nI_pos (by omega)) (nI_clamp (by omega)) (by omega) dX11_lay_58 rfl ?_
          refine j_aload_n (pc := 59) C dX11_lay_59 rfl 2 rfl ?_
          refine j_dup (pc := 60) C dX11_lay_60 rfl ?_
          refine j_get (pc := 61) (ci := 11) (v := .int (nI n1)) C inw_11 0 rfl rfl 2 (by decide) wd_361 rfl rfl dX11_lay_61 ?_
          refine j_iconst (pc := 64) (v := 1) C dX11_lay_64 (by decide) ?_
          refine j_iadd (pc := 65) (v := (nI (n1 + 1))) C dX11_lay_65 (nI_1 n1) ?_
          refine j_put (pc := 66) (ci := 11) (v := .int (nI (n1 + 1))) (ws' := [(g0, .inr (11, [.int 0, .ref g1, .int (nI (n1 + 1)), .int 0, .ref g2, .ref g3, .ref g4, .int 0, .int 0, .ref g5, .ref g6, .ref g7, .ref g8, .int 0, .ref g9, .ref g10, .int 1, .ref g11, .ref g12, .ref g13, .ref g14, .ref g15, .int 0, .int 0, .int 0, .ref g16, .int 0, .ref g17, .ref g18, .ref g19, .ref g20, .ref g21, .ref g22, .int 0, .int 0, .int 0, .ref g23, .ref g24, .int 0, .int 0, .int 0, .int 0, .ref g25])), (g1, .inl (cyI, 1000, .inl (upd f1 n1 (bt v 16))))]) C inw_11 0 rfl rfl 2 (by decide) wd_361 rfl tyX11_ok nmX11 rfl (tyX11_ok 2 (by decide)) rfl rfl (Nat.le_of_ble_eq_true rfl) dX11_lay_66 rfl ?_
          refine j_iinc (pc := 69) (v := 8) (lv' := [(3, .int 8), (4, .int (bt v 16)), (0, .ref g0), (1, .long v)]) C dX11_lay_69 1 rfl (by decide) (by decide) rfl ?_
          refine j_goto (pc := 72) (tgt := 3) C dX11_lay_72 (by decide) ?_
          exact j_lv [0, 2, 3] rfl (h_6 (n1 + 1) _ (by omega) (by rw [fit_b c_8 c_9] at hrel; exact hrel))
  have h_4 : ∀ (n1 : Nat) (f1 : Nat → Int32), n1 < B + 4 → (fit (fit (fit (fit n1 (bt v 24)) (bt v 16)) (bt v 8)) (bt v 0)) = fed v n → J p l e ({ frames := 0, cells := 0, slots := 0, locals := 0 } : Room) s m args below meth c D A 5 0 0 (QX below D (TY cyC cyI cyJ cyZ cyO) A (fun u => none) (fun u => True) (fun u => [(g0, .inr (11, [.int 0, .ref g1, .int (nI (fed v n)), .int 0, .ref g2, .ref g3, .ref g4, .int 0, .int 0, .ref g5, .ref g6, .ref g7, .ref g8, .int 0, .ref g9, .ref g10, .int 1, .ref g11, .ref g12, .ref g13, .ref g14, .ref g15, .int 0, .int 0, .int 0, .ref g16, .int 0, .ref g17, .ref g18, .ref g19, .ref g20, .ref g21, .ref g22, .int 0, .int 0, .int 0, .ref g23, .ref g24, .int 0, .int 0, .int 0, .int 0, .ref g25])), (g1, .inl (cyI, 1000, .inl (u.2.2 0)))]) args s 0 0) [(g0, .inr (11, [.int 0, .ref g1, .int (nI n1), .int 0, .ref g2, .ref g3, .ref g4, .int 0, .int 0, .ref g5, .ref g6, .ref g7, .ref g8, .int 0, .ref g9, .ref g10, .int 1, .ref g11, .ref g12, .ref g13, .ref g14, .ref g15, .int 0, .int 0, .int 0, .ref g16, .int 0, .ref g17, .ref g18, .ref g19, .ref g20, .ref g21, .ref g22, .int 0, .int 0, .int 0, .ref g23, .ref g24, .int 0, .int 0, .int 0, .int 0, .ref g25])), (g1, .inl (cyI, 1000, .inl f1))] 3 [(3, .int 24), (0, .ref g0), (1, .long v)] [] := by
    intro n1 f1 hb hrel
    refine j_iload_n (pc := 3) C dX11_lay_3 rfl 0 rfl ?_
    refine j_if_lt_f (pc := 4) (tgt := 75) C dX11_lay_4 (by decide) (by decide) ?_
    refine j_lload_n (pc := 7) C dX11_lay_7 rfl 2 rfl ?_
    refine j_iload_n (pc := 8) C dX11_lay_8 rfl 0 rfl ?_
    refine j_lshr (pc := 9) C dX11_lay_9 rfl ?_
    refine j_l2i (pc := 10) C dX11_lay_10 rfl ?_
    refine j_sipush (pc := 11) (v := 255) C dX11_lay_11 (by decide) ?_
    refine j_iand (pc := 14) (v := (bt v 24)) C dX11_lay_14 rfl ?_
    refine j_istore (pc := 15) (lv' := [(4, .int (bt v 24)), (3, .int 24), (0, .ref g0), (1, .long v)]) C dX11_lay_15 (by decide) rfl ?_
    refine j_iload (pc := 17) C dX11_lay_17 0 rfl ?_
    refine j_bipush (pc := 19) (v := 10) C dX11_lay_19 (by decide) ?_
    refine j_icmp_eq (pc := 21) (tgt := 38) C dX11_lay_21 (by decide) (fun c_10 => ?_) (fun c_10 => ?_)
    · skip
      refine j_aload_n (pc := 38) C dX11_lay_38 rfl 2 rfl ?_
      refine j_get (pc := 39) (ci := 11) (v := .int (nI n1)) C inw_11 0 rfl rfl 2 (by decide) wd_361 rfl rfl dX11_lay_39 ?_
      refine j_sipush (pc := 42) (v := 1000) C dX11_lay_42 (by decide) ?_
      refine j_icmp_ge_f (pc := 45) (tgt := 69) C dX11_lay_45 (by decide) (nI12 1000 (by omega) (by decide)) ?_
      refine j_aload_n (pc := 48) C dX11_lay_48 rfl 2 rfl ?_
      refine j_get (pc := 49) (ci := 11) (v := .ref g1) C inw_11 0 rfl rfl 1 (by decide) wd_118 rfl rfl dX11_lay_49 ?_
      refine j_aload_n (pc := 52) C dX11_lay_52 rfl 2 rfl ?_
      refine j_get (pc := 53) (ci := 11) (v := .int (nI n1)) C inw_11 0 rfl rfl 2 (by decide) wd_361 rfl rfl dX11_lay_53 ?_
      refine j_iload (pc := 56) C dX11_lay_56 0 rfl ?_
      refine j_iast (pc := 58) (k := n1) (ws' := [(g0, .inr (11, [.int 0, .ref g1, .int (nI n1), .int 0, .ref g2, .ref g3, .ref g4, .int 0, .int 0, .ref g5, .ref g6, .ref g7, .ref g8, .int 0, .ref g9, .ref g10, .int 1, .ref g11, .ref g12, .ref g13, .ref g14, .ref g15, .int 0, .int 0, .int 0, .ref g16, .int 0, .ref g17, .ref g18, .ref g19, .ref g20, .ref g21, .ref g22, .int 0, .int 0, .int 0, .ref g23, .ref g24, .int 0, .int 0, .int 0, .int 0, .ref g25])), (g1, .inl (cyI, 1000, .inl (upd f1 n1 (bt v 24))))]) C 1 1 rfl rfl (nI_pos (by omega)) (nI_clamp (by omega)) (by omega) dX11_lay_58 rfl ?_
      refine j_aload_n (pc := 59) C dX11_lay_59 rfl 2 rfl ?_
      refine j_dup (pc := 60) C dX11_lay_60 rfl ?_
      refine j_get (pc := 61) (ci := 11) (v := .int (nI n1)) C inw_11 0 rfl rfl 2 (by decide) wd_361 rfl rfl dX11_lay_61 ?_
      refine j_iconst (pc := 64) (v := 1) C dX11_lay_64 (by decide) ?_
      refine j_iadd (pc := 65) (v := (nI (n1 + 1))) C dX11_lay_65 (nI_1 n1) ?_
      refine j_put (pc := 66) (ci := 11) (v := .int (nI (n1 + 1))) (ws' := [(g0, .inr (11, [.int 0, .ref g1, .int (nI (n1 + 1)), .int 0, .ref g2, .ref g3, .ref g4, .int 0, .int 0, .ref g5, .ref g6, .ref g7, .ref g8, .int 0, .ref g9, .ref g10, .int 1, .ref g11, .ref g12, .ref g13, .ref g14, .ref g15, .int 0, .int 0, .int 0, .ref g16, .int 0, .ref g17, .ref g18, .ref g19, .ref g20, .ref g21, .ref g22, .int 0, .int 0, .int 0, .ref g23, .ref g24, .int 0, .int 0, .int 0, .int 0, .ref g25])), (g1, .inl (cyI, 1000, .inl (upd f1 n1 (bt v 24))))]) C inw_11 0 rfl rfl 2 (by decide) wd_361 rfl tyX11_ok nmX11 rfl (tyX11_ok 2 (by decide)) rfl rfl (Nat.le_of_ble_eq_true rfl) dX11_lay_66 rfl ?_
      refine j_iinc (pc := 69) (v := 16) (lv' := [(3, .int 16), (4, .int (bt v 24)), (0, .ref g0), (1, .long v)]) C dX11_lay_69 1 rfl (by decide) (by decide) rfl ?_
      refine j_goto (pc := 72) (tgt := 3) C dX11_lay_72 (by decide) ?_
      exact j_lv [0, 2, 3] rfl (h_5 (n1 + 1) _ (by omega) (by rw [fit_a c_10] at hrel; exact hrel))
    · skip
      refine j_iload (pc := 24) C dX11_lay_24 0 rfl ?_
      refine j_bipush (pc := 26) (v := 32) C dX11_lay_26 (by decide) ?_
      refine j_icmp_lt (pc := 28) (tgt := 69) C dX11_lay_28 (by decide) (fun c_11 => ?_) (fun c_11 => ?_)
      · skip
        refine j_iinc (pc := 69) (v := 16) (lv' := [(3, .int 16), (4, .int (bt v 24)), (0, .ref g0), (1, .long v)]) C dX11_lay_69 1 rfl (by decide) (by decide) rfl ?_
        refine j_goto (pc := 72) (tgt := 3) C dX11_lay_72 (by decide) ?_
        exact j_lv [0, 2, 3] rfl (h_5 n1 _ (by omega) (by rw [fit_c c_10 c_11] at hrel; exact hrel))
      · skip
        refine j_iload (pc := 31) C dX11_lay_31 0 rfl ?_
        refine j_bipush (pc := 33) (v := 126) C dX11_lay_33 (by decide) ?_
        refine j_icmp_gt (pc := 35) (tgt := 69) C dX11_lay_35 (by decide) (fun c_12 => ?_) (fun c_12 => ?_)
        · skip
          refine j_iinc (pc := 69) (v := 16) (lv' := [(3, .int 16), (4, .int (bt v 24)), (0, .ref g0), (1, .long v)]) C dX11_lay_69 1 rfl (by decide) (by decide) rfl ?_
          refine j_goto (pc := 72) (tgt := 3) C dX11_lay_72 (by decide) ?_
          exact j_lv [0, 2, 3] rfl (h_5 n1 _ (by omega) (by rw [fit_d c_10 c_12] at hrel; exact hrel))
        · skip
          refine j_aload_n (pc := 38) C dX11_lay_38 rfl 2 rfl ?_
          refine j_get (pc := 39) (ci := 11) (v := .int (nI n1)) C inw_11 0 rfl rfl 2 (by decide) wd_361 rfl rfl dX11_lay_39 ?_
          refine j_sipush (pc := 42) (v := 1000) C dX11_lay_42 (by decide) ?_
          refine j_icmp_ge_f (pc := 45) (tgt := 69) C dX11_lay_45 (by decide) (nI12 1000 (by omega) (by decide)) ?_
          refine j_aload_n (pc := 48) C dX11_lay_48 rfl 2 rfl ?_
          refine j_get (pc := 49) (ci := 11) (v := .ref g1) C inw_11 0 rfl rfl 1 (by decide) wd_118 rfl rfl dX11_lay_49 ?_
          refine j_aload_n (pc := 52) C dX11_lay_52 rfl 2 rfl ?_
          refine j_get (pc := 53) (ci := 11) (v := .int (nI n1)) C inw_11 0 rfl rfl 2 (by decide) wd_361 rfl rfl dX11_lay_53 ?_
          refine j_iload (pc := 56) C dX11_lay_56 0 rfl ?_
          refine j_iast (pc := 58) (k := n1) (ws' := [(g0, .inr (11, [.int 0, .ref g1, .int (nI n1), .int 0, .ref g2, .ref g3, .ref g4, .int 0, .int 0, .ref g5, .ref g6, .ref g7, .ref g8, .int 0, .ref g9, .ref g10, .int 1, .ref g11, .ref g12, .ref g13, .ref g14, .ref g15, .int 0, .int 0, .int 0, .ref g16, .int 0, .ref g17, .ref g18, .ref g19, .ref g20, .ref g21, .ref g22, .int 0, .int 0, .int 0, .ref g23, .ref g24, .int 0, .int 0, .int 0, .int 0, .ref g25])), (g1, .inl (cyI, 1000, .inl (upd f1 n1 (bt v 24))))]) C 1 1 rfl rfl (nI_pos (by omega)) (nI_clamp (by omega)) (by omega) dX11_lay_58 rfl ?_
          refine j_aload_n (pc := 59) C dX11_lay_59 rfl 2 rfl ?_
          refine j_dup (pc := 60) C dX11_lay_60 rfl ?_
          refine j_get (pc := 61) (ci := 11) (v := .int (nI n1)) C inw_11 0 rfl rfl 2 (by decide) wd_361 rfl rfl dX11_lay_61 ?_
          refine j_iconst (pc := 64) (v := 1) C dX11_lay_64 (by decide) ?_
          refine j_iadd (pc := 65) (v := (nI (n1 + 1))) C dX11_lay_65 (nI_1 n1) ?_
          refine j_put (pc := 66) (ci := 11) (v := .int (nI (n1 + 1))) (ws' := [(g0, .inr (11, [.int 0, .ref g1, .int (nI (n1 + 1)), .int 0, .ref g2, .ref g3, .ref g4, .int 0, .int 0, .ref g5, .ref g6, .ref g7, .ref g8, .int 0, .ref g9, .ref g10, .int 1, .ref g11, .ref g12, .ref g13, .ref g14, .ref g15, .int 0, .int 0, .int 0, .ref g16, .int 0, .ref g17, .ref g18, .ref g19, .ref g20, .ref g21, .ref g22, .int 0, .int 0, .int 0, .ref g23, .ref g24, .int 0, .int 0, .int 0, .int 0, .ref g25])), (g1, .inl (cyI, 1000, .inl (upd f1 n1 (bt v 24))))]) C inw_11 0 rfl rfl 2 (by decide) wd_361 rfl tyX11_ok nmX11 rfl (tyX11_ok 2 (by decide)) rfl rfl (Nat.le_of_ble_eq_true rfl) dX11_lay_66 rfl ?_
          refine j_iinc (pc := 69) (v := 16) (lv' := [(3, .int 16), (4, .int (bt v 24)), (0, .ref g0), (1, .long v)]) C dX11_lay_69 1 rfl (by decide) (by decide) rfl ?_
          refine j_goto (pc := 72) (tgt := 3) C dX11_lay_72 (by decide) ?_
          exact j_lv [0, 2, 3] rfl (h_5 (n1 + 1) _ (by omega) (by rw [fit_b c_11 c_12] at hrel; exact hrel))
  have h_3 : ∀ (n1 : Nat) (f1 : Nat → Int32), n1 < B + 3 → (fit (fit (fit (fit (fit n1 (bt v 32)) (bt v 24)) (bt v 16)) (bt v 8)) (bt v 0)) = fed v n → J p l e ({ frames := 0, cells := 0, slots := 0, locals := 0 } : Room) s m args below meth c D A 5 0 0 (QX below D (TY cyC cyI cyJ cyZ cyO) A (fun u => none) (fun u => True) (fun u => [(g0, .inr (11, [.int 0, .ref g1, .int (nI (fed v n)), .int 0, .ref g2, .ref g3, .ref g4, .int 0, .int 0, .ref g5, .ref g6, .ref g7, .ref g8, .int 0, .ref g9, .ref g10, .int 1, .ref g11, .ref g12, .ref g13, .ref g14, .ref g15, .int 0, .int 0, .int 0, .ref g16, .int 0, .ref g17, .ref g18, .ref g19, .ref g20, .ref g21, .ref g22, .int 0, .int 0, .int 0, .ref g23, .ref g24, .int 0, .int 0, .int 0, .int 0, .ref g25])), (g1, .inl (cyI, 1000, .inl (u.2.2 0)))]) args s 0 0) [(g0, .inr (11, [.int 0, .ref g1, .int (nI n1), .int 0, .ref g2, .ref g3, .ref g4, .int 0, .int 0, .ref g5, .ref g6, .ref g7, .ref g8, .int 0, .ref g9, .ref g10, .int 1, .ref g11, .ref g12, .ref g13, .ref g14, .ref g15, .int 0, .int 0, .int 0, .ref g16, .int 0, .ref g17, .ref g18, .ref g19, .ref g20, .ref g21, .ref g22, .int 0, .int 0, .int 0, .ref g23, .ref g24, .int 0, .int 0, .int 0, .int 0, .ref g25])), (g1, .inl (cyI, 1000, .inl f1))] 3 [(3, .int 32), (0, .ref g0), (1, .long v)] [] := by
    intro n1 f1 hb hrel
    refine j_iload_n (pc := 3) C dX11_lay_3 rfl 0 rfl ?_
    refine j_if_lt_f (pc := 4) (tgt := 75) C dX11_lay_4 (by decide) (by decide) ?_
    refine j_lload_n (pc := 7) C dX11_lay_7 rfl 2 rfl ?_
    refine j_iload_n (pc := 8) C dX11_lay_8 rfl 0 rfl ?_
    refine j_lshr (pc := 9) C dX11_lay_9 rfl ?_
    refine j_l2i (pc := 10) C dX11_lay_10 rfl ?_
    refine j_sipush (pc := 11) (v := 255) C dX11_lay_11 (by decide) ?_
    refine j_iand (pc := 14) (v := (bt v 32)) C dX11_lay_14 rfl ?_
    refine j_istore (pc := 15) (lv' := [(4, .int (bt v 32)), (3, .int 32), (0, .ref g0), (1, .long v)]) C dX11_lay_15 (by decide) rfl ?_
    refine j_iload (pc := 17) C dX11_lay_17 0 rfl ?_
    refine j_bipush (pc := 19) (v := 10) C dX11_lay_19 (by decide) ?_
    refine j_icmp_eq (pc := 21) (tgt := 38) C dX11_lay_21 (by decide) (fun c_13 => ?_) (fun c_13 => ?_)
    · skip
      refine j_aload_n (pc := 38) C dX11_lay_38 rfl 2 rfl ?_
      refine j_get (pc := 39) (ci := 11) (v := .int (nI n1)) C inw_11 0 rfl rfl 2 (by decide) wd_361 rfl rfl dX11_lay_39 ?_
      refine j_sipush (pc := 42) (v := 1000) C dX11_lay_42 (by decide) ?_
      refine j_icmp_ge_f (pc := 45) (tgt := 69) C dX11_lay_45 (by decide) (nI12 1000 (by omega) (by decide)) ?_
      refine j_aload_n (pc := 48) C dX11_lay_48 rfl 2 rfl ?_
      refine j_get (pc := 49) (ci := 11) (v := .ref g1) C inw_11 0 rfl rfl 1 (by decide) wd_118 rfl rfl dX11_lay_49 ?_
      refine j_aload_n (pc := 52) C dX11_lay_52 rfl 2 rfl ?_
      refine j_get (pc := 53) (ci := 11) (v := .int (nI n1)) C inw_11 0 rfl rfl 2 (by decide) wd_361 rfl rfl dX11_lay_53 ?_
      refine j_iload (pc := 56) C dX11_lay_56 0 rfl ?_
      refine j_iast (pc := 58) (k := n1) (ws' := [(g0, .inr (11, [.int 0, .ref g1, .int (nI n1), .int 0, .ref g2, .ref g3, .ref g4, .int 0, .int 0, .ref g5, .ref g6, .ref g7, .ref g8, .int 0, .ref g9, .ref g10, .int 1, .ref g11, .ref g12, .ref g13, .ref g14, .ref g15, .int 0, .int 0, .int 0, .ref g16, .int 0, .ref g17, .ref g18, .ref g19, .ref g20, .ref g21, .ref g22, .int 0, .int 0, .int 0, .ref g23, .ref g24, .int 0, .int 0, .int 0, .int 0, .ref g25])), (g1, .inl (cyI, 1000, .inl (upd f1 n1 (bt v 32))))]) C 1 1 rfl rfl (nI_pos (by omega)) (nI_clamp (by omega)) (by omega) dX11_lay_58 rfl ?_
      refine j_aload_n (pc := 59) C dX11_lay_59 rfl 2 rfl ?_
      refine j_dup (pc := 60) C dX11_lay_60 rfl ?_
      refine j_get (pc := 61) (ci := 11) (v := .int (nI n1)) C inw_11 0 rfl rfl 2 (by decide) wd_361 rfl rfl dX11_lay_61 ?_
      refine j_iconst (pc := 64) (v := 1) C dX11_lay_64 (by decide) ?_
      refine j_iadd (pc := 65) (v := (nI (n1 + 1))) C dX11_lay_65 (nI_1 n1) ?_
      refine j_put (pc := 66) (ci := 11) (v := .int (nI (n1 + 1))) (ws' := [(g0, .inr (11, [.int 0, .ref g1, .int (nI (n1 + 1)), .int 0, .ref g2, .ref g3, .ref g4, .int 0, .int 0, .ref g5, .ref g6, .ref g7, .ref g8, .int 0, .ref g9, .ref g10, .int 1, .ref g11, .ref g12, .ref g13, .ref g14, .ref g15, .int 0, .int 0, .int 0, .ref g16, .int 0, .ref g17, .ref g18, .ref g19, .ref g20, .ref g21, .ref g22, .int 0, .int 0, .int 0, .ref g23, .ref g24, .int 0, .int 0, .int 0, .int 0, .ref g25])), (g1, .inl (cyI, 1000, .inl (upd f1 n1 (bt v 32))))]) C inw_11 0 rfl rfl 2 (by decide) wd_361 rfl tyX11_ok nmX11 rfl (tyX11_ok 2 (by decide)) rfl rfl (Nat.le_of_ble_eq_true rfl) dX11_lay_66 rfl ?_
      refine j_iinc (pc := 69) (v := 24) (lv' := [(3, .int 24), (4, .int (bt v 32)), (0, .ref g0), (1, .long v)]) C dX11_lay_69 1 rfl (by decide) (by decide) rfl ?_
      refine j_goto (pc := 72) (tgt := 3) C dX11_lay_72 (by decide) ?_
      exact j_lv [0, 2, 3] rfl (h_4 (n1 + 1) _ (by omega) (by rw [fit_a c_13] at hrel; exact hrel))
    · skip
      refine j_iload (pc := 24) C dX11_lay_24 0 rfl ?_
      refine j_bipush (pc := 26) (v := 32) C dX11_lay_26 (by decide) ?_
      refine j_icmp_lt (pc := 28) (tgt := 69) C dX11_lay_28 (by decide) (fun c_14 => ?_) (fun c_14 => ?_)
      · skip
        refine j_iinc (pc := 69) (v := 24) (lv' := [(3, .int 24), (4, .int (bt v 32)), (0, .ref g0), (1, .long v)]) C dX11_lay_69 1 rfl (by decide) (by decide) rfl ?_
        refine j_goto (pc := 72) (tgt := 3) C dX11_lay_72 (by decide) ?_
        exact j_lv [0, 2, 3] rfl (h_4 n1 _ (by omega) (by rw [fit_c c_13 c_14] at hrel; exact hrel))
      · skip
        refine j_iload (pc := 31) C dX11_lay_31 0 rfl ?_
        refine j_bipush (pc := 33) (v := 126) C dX11_lay_33 (by decide) ?_
        refine j_icmp_gt (pc := 35) (tgt := 69) C dX11_lay_35 (by decide) (fun c_15 => ?_) (fun c_15 => ?_)
        · skip
          refine j_iinc (pc := 69) (v := 24) (lv' := [(3, .int 24), (4, .int (bt v 32)), (0, .ref g0), (1, .long v)]) C dX11_lay_69 1 rfl (by decide) (by decide) rfl ?_
          refine j_goto (pc := 72) (tgt := 3) C dX11_lay_72 (by decide) ?_
          exact j_lv [0, 2, 3] rfl (h_4 n1 _ (by omega) (by rw [fit_d c_13 c_15] at hrel; exact hrel))
        · skip
          refine j_aload_n (pc := 38) C dX11_lay_38 rfl 2 rfl ?_
          refine j_get (pc := 39) (ci := 11) (v := .int (nI n1)) C inw_11 0 rfl rfl 2 (by decide) wd_361 rfl rfl dX11_lay_39 ?_
          refine j_sipush (pc := 42) (v := 1000) C dX11_lay_42 (by decide) ?_
          refine j_icmp_ge_f (pc := 45) (tgt := 69) C dX11_lay_45 (by decide) (nI12 1000 (by omega) (by decide)) ?_
          refine j_aload_n (pc := 48) C dX11_lay_48 rfl 2 rfl ?_
          refine j_get (pc := 49) (ci := 11) (v := .ref g1) C inw_11 0 rfl rfl 1 (by decide) wd_118 rfl rfl dX11_lay_49 ?_
          refine j_aload_n (pc := 52) C dX11_lay_52 rfl 2 rfl ?_
          refine j_get (pc := 53) (ci := 11) (v := .int (nI n1)) C inw_11 0 rfl rfl 2 (by decide) wd_361 rfl rfl dX11_lay_53 ?_
          refine j_iload (pc := 56) C dX11_lay_56 0 rfl ?_
          refine j_iast (pc := 58) (k := n1) (ws' := [(g0, .inr (11, [.int 0, .ref g1, .int (nI n1), .int 0, .ref g2, .ref g3, .ref g4, .int 0, .int 0, .ref g5, .ref g6, .ref g7, .ref g8, .int 0, .ref g9, .ref g10, .int 1, .ref g11, .ref g12, .ref g13, .ref g14, .ref g15, .int 0, .int 0, .int 0, .ref g16, .int 0, .ref g17, .ref g18, .ref g19, .ref g20, .ref g21, .ref g22, .int 0, .int 0, .int 0, .ref g23, .ref g24, .int 0, .int 0, .int 0, .int 0, .ref g25])), (g1, .inl (cyI, 1000, .inl (upd f1 n1 (bt v 32))))]) C 1 1 rfl rfl (nI_pos (by omega)) (nI_clamp (by omega)) (by omega) dX11_lay_58 rfl ?_
          refine j_aload_n (pc := 59) C dX11_lay_59 rfl 2 rfl ?_
          refine j_dup (pc := 60) C dX11_lay_60 rfl ?_
          refine j_get (pc := 61) (ci := 11) (v := .int (nI n1)) C inw_11 0 rfl rfl 2 (by decide) wd_361 rfl rfl dX11_lay_61 ?_
          refine j_iconst (pc := 64) (v := 1) C dX11_lay_64 (by decide) ?_
          refine j_iadd (pc := 65) (v := (nI (n1 + 1))) C dX11_lay_65 (nI_1 n1) ?_
          refine j_put (pc := 66) (ci := 11) (v := .int (nI (n1 + 1))) (ws' := [(g0, .inr (11, [.int 0, .ref g1, .int (nI (n1 + 1)), .int 0, .ref g2, .ref g3, .ref g4, .int 0, .int 0, .ref g5, .ref g6, .ref g7, .ref g8, .int 0, .ref g9, .ref g10, .int 1, .ref g11, .ref g12, .ref g13, .ref g14, .ref g15, .int 0, .int 0, .int 0, .ref g16, .int 0, .ref g17, .ref g18, .ref g19, .ref g20, .ref g21, .ref g22, .int 0, .int 0, .int 0, .ref g23, .ref g24, .int 0, .int 0, .int 0, .int 0, .ref g25])), (g1, .inl (cyI, 1000, .inl (upd f1 n1 (bt v 32))))]) C inw_11 0 rfl rfl 2 (by decide) wd_361 rfl tyX11_ok nmX11 rfl (tyX11_ok 2 (by decide)) rfl rfl (Nat.le_of_ble_eq_true rfl) dX11_lay_66 rfl ?_
          refine j_iinc (pc := 69) (v := 24) (lv' := [(3, .int 24), (4, .int (bt v 32)), (0, .ref g0), (1, .long v)]) C dX11_lay_69 1 rfl (by decide) (by decide) rfl ?_
          refine j_goto (pc := 72) (tgt := 3) C dX11_lay_72 (by decide) ?_
          exact j_lv [0, 2, 3] rfl (h_4 (n1 + 1) _ (by omega) (by rw [fit_b c_14 c_15] at hrel; exact hrel))
  have h_2 : ∀ (n1 : Nat) (f1 : Nat → Int32), n1 < B + 2 → (fit (fit (fit (fit (fit (fit n1 (bt v 40)) (bt v 32)) (bt v 24)) (bt v 16)) (bt v 8)) (bt v 0)) = fed v n → J p l e ({ frames := 0, cells := 0, slots := 0, locals := 0 } : Room) s m args below meth c D A 5 0 0 (QX below D (TY cyC cyI cyJ cyZ cyO) A (fun u => none) (fun u => True) (fun u => [(g0, .inr (11, [.int 0, .ref g1, .int (nI (fed v n)), .int 0, .ref g2, .ref g3, .ref g4, .int 0, .int 0, .ref g5, .ref g6, .ref g7, .ref g8, .int 0, .ref g9, .ref g10, .int 1, .ref g11, .ref g12, .ref g13, .ref g14, .ref g15, .int 0, .int 0, .int 0, .ref g16, .int 0, .ref g17, .ref g18, .ref g19, .ref g20, .ref g21, .ref g22, .int 0, .int 0, .int 0, .ref g23, .ref g24, .int 0, .int 0, .int 0, .int 0, .ref g25])), (g1, .inl (cyI, 1000, .inl (u.2.2 0)))]) args s 0 0) [(g0, .inr (11, [.int 0, .ref g1, .int (nI n1), .int 0, .ref g2, .ref g3, .ref g4, .int 0, .int 0, .ref g5, .ref g6, .ref g7, .ref g8, .int 0, .ref g9, .ref g10, .int 1, .ref g11, .ref g12, .ref g13, .ref g14, .ref g15, .int 0, .int 0, .int 0, .ref g16, .int 0, .ref g17, .ref g18, .ref g19, .ref g20, .ref g21, .ref g22, .int 0, .int 0, .int 0, .ref g23, .ref g24, .int 0, .int 0, .int 0, .int 0, .ref g25])), (g1, .inl (cyI, 1000, .inl f1))] 3 [(3, .int 40), (0, .ref g0), (1, .long v)] [] := by
    intro n1 f1 hb hrel
    refine j_iload_n (pc := 3) C dX11_lay_3 rfl 0 rfl ?_
    refine j_if_lt_f (pc := 4) (tgt := 75) C dX11_lay_4 (by decide) (by decide) ?_
    refine j_lload_n (pc := 7) C dX11_lay_7 rfl 2 rfl ?_
    refine j_iload_n (pc := 8) C dX11_lay_8 rfl 0 rfl ?_
    refine j_lshr (pc := 9) C dX11_lay_9 rfl ?_
    refine j_l2i (pc := 10) C dX11_lay_10 rfl ?_
    refine j_sipush (pc := 11) (v := 255) C dX11_lay_11 (by decide) ?_
    refine j_iand (pc := 14) (v := (bt v 40)) C dX11_lay_14 rfl ?_
    refine j_istore (pc := 15) (lv' := [(4, .int (bt v 40)), (3, .int 40), (0, .ref g0), (1, .long v)]) C dX11_lay_15 (by decide) rfl ?_
    refine j_iload (pc := 17) C dX11_lay_17 0 rfl ?_
    refine j_bipush (pc := 19) (v := 10) C dX11_lay_19 (by decide) ?_
    refine j_icmp_eq (pc := 21) (tgt := 38) C dX11_lay_21 (by decide) (fun c_16 => ?_) (fun c_16 => ?_)
    · skip
      refine j_aload_n (pc := 38) C dX11_lay_38 rfl 2 rfl ?_
      refine j_get (pc := 39) (ci := 11) (v := .int (nI n1)) C inw_11 0 rfl rfl 2 (by decide) wd_361 rfl rfl dX11_lay_39 ?_
      refine j_sipush (pc := 42) (v := 1000) C dX11_lay_42 (by decide) ?_
      refine j_icmp_ge_f (pc := 45) (tgt := 69) C dX11_lay_45 (by decide) (nI12 1000 (by omega) (by decide)) ?_
      refine j_aload_n (pc := 48) C dX11_lay_48 rfl 2 rfl ?_
      refine j_get (pc := 49) (ci := 11) (v := .ref g1) C inw_11 0 rfl rfl 1 (by decide) wd_118 rfl rfl dX11_lay_49 ?_
      refine j_aload_n (pc := 52) C dX11_lay_52 rfl 2 rfl ?_
      refine j_get (pc := 53) (ci := 11) (v := .int (nI n1)) C inw_11 0 rfl rfl 2 (by decide) wd_361 rfl rfl dX11_lay_53 ?_
      refine j_iload (pc := 56) C dX11_lay_56 0 rfl ?_
      refine j_iast (pc := 58) (k := n1) (ws' := [(g0, .inr (11, [.int 0, .ref g1, .int (nI n1), .int 0, .ref g2, .ref g3, .ref g4, .int 0, .int 0, .ref g5, .ref g6, .ref g7, .ref g8, .int 0, .ref g9, .ref g10, .int 1, .ref g11, .ref g12, .ref g13, .ref g14, .ref g15, .int 0, .int 0, .int 0, .ref g16, .int 0, .ref g17, .ref g18, .ref g19, .ref g20, .ref g21, .ref g22, .int 0, .int 0, .int 0, .ref g23, .ref g24, .int 0, .int 0, .int 0, .int 0, .ref g25])), (g1, .inl (cyI, 1000, .inl (upd f1 n1 (bt v 40))))]) C 1 1 rfl rfl (nI_pos (by omega)) (nI_clamp (by omega)) (by omega) dX11_lay_58 rfl ?_
      refine j_aload_n (pc := 59) C dX11_lay_59 rfl 2 rfl ?_
      refine j_dup (pc := 60) C dX11_lay_60 rfl ?_
      refine j_get (pc := 61) (ci := 11) (v := .int (nI n1)) C inw_11 0 rfl rfl 2 (by decide) wd_361 rfl rfl dX11_lay_61 ?_
      refine j_iconst (pc := 64) (v := 1) C dX11_lay_64 (by decide) ?_
      refine j_iadd (pc := 65) (v := (nI (n1 + 1))) C dX11_lay_65 (nI_1 n1) ?_
      refine j_put (pc := 66) (ci := 11) (v := .int (nI (n1 + 1))) (ws' := [(g0, .inr (11, [.int 0, .ref g1, .int (nI (n1 + 1)), .int 0, .ref g2, .ref g3, .ref g4, .int 0, .int 0, .ref g5, .ref g6, .ref g7, .ref g8, .int 0, .ref g9, .ref g10, .int 1, .ref g11, .ref g12, .ref g13, .ref g14, .ref g15, .int 0, .int 0, .int 0, .ref g16, .int 0, .ref g17, .ref g18, .ref g19, .ref g20, .ref g21, .ref g22, .int 0, .int 0, .int 0, .ref g23, .ref g24, .int 0, .int 0, .int 0, .int 0, .ref g25])), (g1, .inl (cyI, 1000, .inl (upd f1 n1 (bt v 40))))]) C inw_11 0 rfl rfl 2 (by decide) wd_361 rfl tyX11_ok nmX11 rfl (tyX11_ok 2 (by decide)) rfl rfl (Nat.le_of_ble_eq_true rfl) dX11_lay_66 rfl ?_
      refine j_iinc (pc := 69) (v := 32) (lv' := [(3, .int 32), (4, .int (bt v 40)), (0, .ref g0), (1, .long v)]) C dX11_lay_69 1 rfl (by decide) (by decide) rfl ?_
      refine j_goto (pc := 72) (tgt := 3) C dX11_lay_72 (by decide) ?_
      exact j_lv [0, 2, 3] rfl (h_3 (n1 + 1) _ (by omega) (by rw [fit_a c_16] at hrel; exact hrel))
    · skip
      refine j_iload (pc := 24) C dX11_lay_24 0 rfl ?_
      refine j_bipush (pc := 26) (v := 32) C dX11_lay_26 (by decide) ?_
      refine j_icmp_lt (pc := 28) (tgt := 69) C dX11_lay_28 (by decide) (fun c_17 => ?_) (fun c_17 => ?_)
      · skip
        refine j_iinc (pc := 69) (v := 32) (lv' := [(3, .int 32), (4, .int (bt v 40)), (0, .ref g0), (1, .long v)]) C dX11_lay_69 1 rfl (by decide) (by decide) rfl ?_
        refine j_goto (pc := 72) (tgt := 3) C dX11_lay_72 (by decide) ?_
        exact j_lv [0, 2, 3] rfl (h_3 n1 _ (by omega) (by rw [fit_c c_16 c_17] at hrel; exact hrel))
      · skip
        refine j_iload (pc := 31) C dX11_lay_31 0 rfl ?_
        refine j_bipush (pc := 33) (v := 126) C dX11_lay_33 (by decide) ?_
        refine j_icmp_gt (pc := 35) (tgt := 69) C dX11_lay_35 (by decide) (fun c_18 => ?_) (fun c_18 => ?_)
        · skip
          refine j_iinc (pc := 69) (v := 32) (lv' := [(3, .int 32), (4, .int (bt v 40)), (0, .ref g0), (1, .long v)]) C dX11_lay_69 1 rfl (by decide) (by decide) rfl ?_
          refine j_goto (pc := 72) (tgt := 3) C dX11_lay_72 (by decide) ?_
          exact j_lv [0, 2, 3] rfl (h_3 n1 _ (by omega) (by rw [fit_d c_16 c_18] at hrel; exact hrel))
        · skip
          refine j_aload_n (pc := 38) C dX11_lay_38 rfl 2 rfl ?_
          refine j_get (pc := 39) (ci := 11) (v := .int (nI n1)) C inw_11 0 rfl rfl 2 (by decide) wd_361 rfl rfl dX11_lay_39 ?_
          refine j_sipush (pc := 42) (v := 1000) C dX11_lay_42 (by decide) ?_
          refine j_icmp_ge_f (pc := 45) (tgt := 69) C dX11_lay_45 (by decide) (nI12 1000 (by omega) (by decide)) ?_
          refine j_aload_n (pc := 48) C dX11_lay_48 rfl 2 rfl ?_
          refine j_get (pc := 49) (ci := 11) (v := .ref g1) C inw_11 0 rfl rfl 1 (by decide) wd_118 rfl rfl dX11_lay_49 ?_
          refine j_aload_n (pc := 52) C dX11_lay_52 rfl 2 rfl ?_
          refine j_get (pc := 53) (ci := 11) (v := .int (nI n1)) C inw_11 0 rfl rfl 2 (by decide) wd_361 rfl rfl dX11_lay_53 ?_
          refine j_iload (pc := 56) C dX11_lay_56 0 rfl ?_
          refine j_iast (pc := 58) (k := n1) (ws' := [(g0, .inr (11, [.int 0, .ref g1, .int (nI n1), .int 0, .ref g2, .ref g3, .ref g4, .int 0, .int 0, .ref g5, .ref g6, .ref g7, .ref g8, .int 0, .ref g9, .ref g10, .int 1, .ref g11, .ref g12, .ref g13, .ref g14, .ref g15, .int 0, .int 0, .int 0, .ref g16, .int 0, .ref g17, .ref g18, .ref g19, .ref g20, .ref g21, .ref g22, .int 0, .int 0, .int 0, .ref g23, .ref g24, .int 0, .int 0, .int 0, .int 0, .ref g25])), (g1, .inl (cyI, 1000, .inl (upd f1 n1 (bt v 40))))]) C 1 1 rfl rfl (nI_pos (by omega)) (nI_clamp (by omega)) (by omega) dX11_lay_58 rfl ?_
          refine j_aload_n (pc := 59) C dX11_lay_59 rfl 2 rfl ?_
          refine j_dup (pc := 60) C dX11_lay_60 rfl ?_
          refine j_get (pc := 61) (ci := 11) (v := .int (nI n1)) C inw_11 0 rfl rfl 2 (by decide) wd_361 rfl rfl dX11_lay_61 ?_
          refine j_iconst (pc := 64) (v := 1) C dX11_lay_64 (by decide) ?_
          refine j_iadd (pc := 65) (v := (nI (n1 + 1))) C dX11_lay_65 (nI_1 n1) ?_
          refine j_put (pc := 66) (ci := 11) (v := .int (nI (n1 + 1))) (ws' := [(g0, .inr (11, [.int 0, .ref g1, .int (nI (n1 + 1)), .int 0, .ref g2, .ref g3, .ref g4, .int 0, .int 0, .ref g5, .ref g6, .ref g7, .ref g8, .int 0, .ref g9, .ref g10, .int 1, .ref g11, .ref g12, .ref g13, .ref g14, .ref g15, .int 0, .int 0, .int 0, .ref g16, .int 0, .ref g17, .ref g18, .ref g19, .ref g20, .ref g21, .ref g22, .int 0, .int 0, .int 0, .ref g23, .ref g24, .int 0, .int 0, .int 0, .int 0, .ref g25])), (g1, .inl (cyI, 1000, .inl (upd f1 n1 (bt v 40))))]) C inw_11 0 rfl rfl 2 (by decide) wd_361 rfl tyX11_ok nmX11 rfl (tyX11_ok 2 (by decide)) rfl rfl (Nat.le_of_ble_eq_true rfl) dX11_lay_66 rfl ?_
          refine j_iinc (pc := 69) (v := 32) (lv' := [(3, .int 32), (4, .int (bt v 40)), (0, .ref g0), (1, .long v)]) C dX11_lay_69 1 rfl (by decide) (by decide) rfl ?_
          refine j_goto (pc := 72) (tgt := 3) C dX11_lay_72 (by decide) ?_
          exact j_lv [0, 2, 3] rfl (h_3 (n1 + 1) _ (by omega) (by rw [fit_b c_17 c_18] at hrel; exact hrel))
  have h_1 : ∀ (n1 : Nat) (f1 : Nat → Int32), n1 < B + 1 → (fit (fit (fit (fit (fit (fit (fit n1 (bt v 48)) (bt v 40)) (bt v 32)) (bt v 24)) (bt v 16)) (bt v 8)) (bt v 0)) = fed v n → J p l e ({ frames := 0, cells := 0, slots := 0, locals := 0 } : Room) s m args below meth c D A 5 0 0 (QX below D (TY cyC cyI cyJ cyZ cyO) A (fun u => none) (fun u => True) (fun u => [(g0, .inr (11, [.int 0, .ref g1, .int (nI (fed v n)), .int 0, .ref g2, .ref g3, .ref g4, .int 0, .int 0, .ref g5, .ref g6, .ref g7, .ref g8, .int 0, .ref g9, .ref g10, .int 1, .ref g11, .ref g12, .ref g13, .ref g14, .ref g15, .int 0, .int 0, .int 0, .ref g16, .int 0, .ref g17, .ref g18, .ref g19, .ref g20, .ref g21, .ref g22, .int 0, .int 0, .int 0, .ref g23, .ref g24, .int 0, .int 0, .int 0, .int 0, .ref g25])), (g1, .inl (cyI, 1000, .inl (u.2.2 0)))]) args s 0 0) [(g0, .inr (11, [.int 0, .ref g1, .int (nI n1), .int 0, .ref g2, .ref g3, .ref g4, .int 0, .int 0, .ref g5, .ref g6, .ref g7, .ref g8, .int 0, .ref g9, .ref g10, .int 1, .ref g11, .ref g12, .ref g13, .ref g14, .ref g15, .int 0, .int 0, .int 0, .ref g16, .int 0, .ref g17, .ref g18, .ref g19, .ref g20, .ref g21, .ref g22, .int 0, .int 0, .int 0, .ref g23, .ref g24, .int 0, .int 0, .int 0, .int 0, .ref g25])), (g1, .inl (cyI, 1000, .inl f1))] 3 [(3, .int 48), (0, .ref g0), (1, .long v)] [] := by
    intro n1 f1 hb hrel
    refine j_iload_n (pc := 3) C dX11_lay_3 rfl 0 rfl ?_
    refine j_if_lt_f (pc := 4) (tgt := 75) C dX11_lay_4 (by decide) (by decide) ?_
    refine j_lload_n (pc := 7) C dX11_lay_7 rfl 2 rfl ?_
    refine j_iload_n (pc := 8) C dX11_lay_8 rfl 0 rfl ?_
    refine j_lshr (pc := 9) C dX11_lay_9 rfl ?_
    refine j_l2i (pc := 10) C dX11_lay_10 rfl ?_
    refine j_sipush (pc := 11) (v := 255) C dX11_lay_11 (by decide) ?_
    refine j_iand (pc := 14) (v := (bt v 48)) C dX11_lay_14 rfl ?_
    refine j_istore (pc := 15) (lv' := [(4, .int (bt v 48)), (3, .int 48), (0, .ref g0), (1, .long v)]) C dX11_lay_15 (by decide) rfl ?_
    refine j_iload (pc := 17) C dX11_lay_17 0 rfl ?_
    refine j_bipush (pc := 19) (v := 10) C dX11_lay_19 (by decide) ?_
    refine j_icmp_eq (pc := 21) (tgt := 38) C dX11_lay_21 (by decide) (fun c_19 => ?_) (fun c_19 => ?_)
    · skip
      refine j_aload_n (pc := 38) C dX11_lay_38 rfl 2 rfl ?_
      refine j_get (pc := 39) (ci := 11) (v := .int (nI n1)) C inw_11 0 rfl rfl 2 (by decide) wd_361 rfl rfl dX11_lay_39 ?_
      refine j_sipush (pc := 42) (v := 1000) C dX11_lay_42 (by decide) ?_
      refine j_icmp_ge_f (pc := 45) (tgt := 69) C dX11_lay_45 (by decide) (nI12 1000 (by omega) (by decide)) ?_
      refine j_aload_n (pc := 48) C dX11_lay_48 rfl 2 rfl ?_
      refine j_get (pc := 49) (ci := 11) (v := .ref g1) C inw_11 0 rfl rfl 1 (by decide) wd_118 rfl rfl dX11_lay_49 ?_
      refine j_aload_n (pc := 52) C dX11_lay_52 rfl 2 rfl ?_
      refine j_get (pc := 53) (ci := 11) (v := .int (nI n1)) C inw_11 0 rfl rfl 2 (by decide) wd_361 rfl rfl dX11_lay_53 ?_
      refine j_iload (pc := 56) C dX11_lay_56 0 rfl ?_
      refine j_iast (pc := 58) (k := n1) (ws' := [(g0, .inr (11, [.int 0, .ref g1, .int (nI n1), .int 0, .ref g2, .ref g3, .ref g4, .int 0, .int 0, .ref g5, .ref g6, .ref g7, .ref g8, .int 0, .ref g9, .ref g10, .int 1, .ref g11, .ref g12, .ref g13, .ref g14, .ref g15, .int 0, .int 0, .int 0, .ref g16, .int 0, .ref g17, .ref g18, .ref g19, .ref g20, .ref g21, .ref g22, .int 0, .int 0, .int 0, .ref g23, .ref g24, .int 0, .int 0, .int 0, .int 0, .ref g25])), (g1, .inl (cyI, 1000, .inl (upd f1 n1 (bt v 48))))]) C 1 1 rfl rfl (nI_pos (by omega)) (nI_clamp (by omega)) (by omega) dX11_lay_58 rfl ?_
      refine j_aload_n (pc := 59) C dX11_lay_59 rfl 2 rfl ?_
      refine j_dup (pc := 60) C dX11_lay_60 rfl ?_
      refine j_get (pc := 61) (ci := 11) (v := .int (nI n1)) C inw_11 0 rfl rfl 2 (by decide) wd_361 rfl rfl dX11_lay_61 ?_
      refine j_iconst (pc := 64) (v := 1) C dX11_lay_64 (by decide) ?_
      refine j_iadd (pc := 65) (v := (nI (n1 + 1))) C dX11_lay_65 (nI_1 n1) ?_
      refine j_put (pc := 66) (ci := 11) (v := .int (nI (n1 + 1))) (ws' := [(g0, .inr (11, [.int 0, .ref g1, .int (nI (n1 + 1)), .int 0, .ref g2, .ref g3, .ref g4, .int 0, .int 0, .ref g5, .ref g6, .ref g7, .ref g8, .int 0, .ref g9, .ref g10, .int 1, .ref g11, .ref g12, .ref g13, .ref g14, .ref g15, .int 0, .int 0, .int 0, .ref g16, .int 0, .ref g17, .ref g18, .ref g19, .ref g20, .ref g21, .ref g22, .int 0, .int 0, .int 0, .ref g23, .ref g24, .int 0, .int 0, .int 0, .int 0, .ref g25])), (g1, .inl (cyI, 1000, .inl (upd f1 n1 (bt v 48))))]) C inw_11 0 rfl rfl 2 (by decide) wd_361 rfl tyX11_ok nmX11 rfl (tyX11_ok 2 (by decide)) rfl rfl (Nat.le_of_ble_eq_true rfl) dX11_lay_66 rfl ?_
      refine j_iinc (pc := 69) (v := 40) (lv' := [(3, .int 40), (4, .int (bt v 48)), (0, .ref g0), (1, .long v)]) C dX11_lay_69 1 rfl (by decide) (by decide) rfl ?_
      refine j_goto (pc := 72) (tgt := 3) C dX11_lay_72 (by decide) ?_
      exact j_lv [0, 2, 3] rfl (h_2 (n1 + 1) _ (by omega) (by rw [fit_a c_19] at hrel; exact hrel))
    · skip
      refine j_iload (pc := 24) C dX11_lay_24 0 rfl ?_
      refine j_bipush (pc := 26) (v := 32) C dX11_lay_26 (by decide) ?_
      refine j_icmp_lt (pc := 28) (tgt := 69) C dX11_lay_28 (by decide) (fun c_20 => ?_) (fun c_20 => ?_)
      · skip
        refine j_iinc (pc := 69) (v := 40) (lv' := [(3, .int 40), (4, .int (bt v 48)), (0, .ref g0), (1, .long v)]) C dX11_lay_69 1 rfl (by decide) (by decide) rfl ?_
        refine j_goto (pc := 72) (tgt := 3) C dX11_lay_72 (by decide) ?_
        exact j_lv [0, 2, 3] rfl (h_2 n1 _ (by omega) (by rw [fit_c c_19 c_20] at hrel; exact hrel))
      · skip
        refine j_iload (pc := 31) C dX11_lay_31 0 rfl ?_
        refine j_bipush (pc := 33) (v := 126) C dX11_lay_33 (by decide) ?_
        refine j_icmp_gt (pc := 35) (tgt := 69) C dX11_lay_35 (by decide) (fun c_21 => ?_) (fun c_21 => ?_)
        · skip
          refine j_iinc (pc := 69) (v := 40) (lv' := [(3, .int 40), (4, .int (bt v 48)), (0, .ref g0), (1, .long v)]) C dX11_lay_69 1 rfl (by decide) (by decide) rfl ?_
          refine j_goto (pc := 72) (tgt := 3) C dX11_lay_72 (by decide) ?_
          exact j_lv [0, 2, 3] rfl (h_2 n1 _ (by omega) (by rw [fit_d c_19 c_21] at hrel; exact hrel))
        · skip
          refine j_aload_n (pc := 38) C dX11_lay_38 rfl 2 rfl ?_
          refine j_get (pc := 39) (ci := 11) (v := .int (nI n1)) C inw_11 0 rfl rfl 2 (by decide) wd_361 rfl rfl dX11_lay_39 ?_
          refine j_sipush (pc := 42) (v := 1000) C dX11_lay_42 (by decide) ?_
          refine j_icmp_ge_f (pc := 45) (tgt := 69) C dX11_lay_45 (by decide) (nI12 1000 (by omega) (by decide)) ?_
          refine j_aload_n (pc := 48) C dX11_lay_48 rfl 2 rfl ?_
          refine j_get (pc := 49) (ci := 11) (v := .ref g1) C inw_11 0 rfl rfl 1 (by decide) wd_118 rfl rfl dX11_lay_49 ?_
          refine j_aload_n (pc := 52) C dX11_lay_52 rfl 2 rfl ?_
          refine j_get (pc := 53) (ci := 11) (v := .int (nI n1)) C inw_11 0 rfl rfl 2 (by decide) wd_361 rfl rfl dX11_lay_53 ?_
          refine j_iload (pc := 56) C dX11_lay_56 0 rfl ?_
          refine j_iast (pc := 58) (k := n1) (ws' := [(g0, .inr (11, [.int 0, .ref g1, .int (nI n1), .int 0, .ref g2, .ref g3, .ref g4, .int 0, .int 0, .ref g5, .ref g6, .ref g7, .ref g8, .int 0, .ref g9, .ref g10, .int 1, .ref g11, .ref g12, .ref g13, .ref g14, .ref g15, .int 0, .int 0, .int 0, .ref g16, .int 0, .ref g17, .ref g18, .ref g19, .ref g20, .ref g21, .ref g22, .int 0, .int 0, .int 0, .ref g23, .ref g24, .int 0, .int 0, .int 0, .int 0, .ref g25])), (g1, .inl (cyI, 1000, .inl (upd f1 n1 (bt v 48))))]) C 1 1 rfl rfl (nI_pos (by omega)) (nI_clamp (by omega)) (by omega) dX11_lay_58 rfl ?_
          refine j_aload_n (pc := 59) C dX11_lay_59 rfl 2 rfl ?_
          refine j_dup (pc := 60) C dX11_lay_60 rfl ?_
          refine j_get (pc := 61) (ci := 11) (v := .int (nI n1)) C inw_11 0 rfl rfl 2 (by decide) wd_361 rfl rfl dX11_lay_61 ?_
          refine j_iconst (pc := 64) (v := 1) C dX11_lay_64 (by decide) ?_
          refine j_iadd (pc := 65) (v := (nI (n1 + 1))) C dX11_lay_65 (nI_1 n1) ?_
          refine j_put (pc := 66) (ci := 11) (v := .int (nI (n1 + 1))) (ws' := [(g0, .inr (11, [.int 0, .ref g1, .int (nI (n1 + 1)), .int 0, .ref g2, .ref g3, .ref g4, .int 0, .int 0, .ref g5, .ref g6, .ref g7, .ref g8, .int 0, .ref g9, .ref g10, .int 1, .ref g11, .ref g12, .ref g13, .ref g14, .ref g15, .int 0, .int 0, .int 0, .ref g16, .int 0, .ref g17, .ref g18, .ref g19, .ref g20, .ref g21, .ref g22, .int 0, .int 0, .int 0, .ref g23, .ref g24, .int 0, .int 0, .int 0, .int 0, .ref g25])), (g1, .inl (cyI, 1000, .inl (upd f1 n1 (bt v 48))))]) C inw_11 0 rfl rfl 2 (by decide) wd_361 rfl tyX11_ok nmX11 rfl (tyX11_ok 2 (by decide)) rfl rfl (Nat.le_of_ble_eq_true rfl) dX11_lay_66 rfl ?_
          refine j_iinc (pc := 69) (v := 40) (lv' := [(3, .int 40), (4, .int (bt v 48)), (0, .ref g0), (1, .long v)]) C dX11_lay_69 1 rfl (by decide) (by decide) rfl ?_
          refine j_goto (pc := 72) (tgt := 3) C dX11_lay_72 (by decide) ?_
          exact j_lv [0, 2, 3] rfl (h_2 (n1 + 1) _ (by omega) (by rw [fit_b c_20 c_21] at hrel; exact hrel))
  have h_0 : ∀ (n1 : Nat) (f1 : Nat → Int32), n1 < B + 0 → (fit (fit (fit (fit (fit (fit (fit (fit n1 (bt v 56)) (bt v 48)) (bt v 40)) (bt v 32)) (bt v 24)) (bt v 16)) (bt v 8)) (bt v 0)) = fed v n → J p l e ({ frames := 0, cells := 0, slots := 0, locals := 0 } : Room) s m args below meth c D A 5 0 0 (QX below D (TY cyC cyI cyJ cyZ cyO) A (fun u => none) (fun u => True) (fun u => [(g0, .inr (11, [.int 0, .ref g1, .int (nI (fed v n)), .int 0, .ref g2, .ref g3, .ref g4, .int 0, .int 0, .ref g5, .ref g6, .ref g7, .ref g8, .int 0, .ref g9, .ref g10, .int 1, .ref g11, .ref g12, .ref g13, .ref g14, .ref g15, .int 0, .int 0, .int 0, .ref g16, .int 0, .ref g17, .ref g18, .ref g19, .ref g20, .ref g21, .ref g22, .int 0, .int 0, .int 0, .ref g23, .ref g24, .int 0, .int 0, .int 0, .int 0, .ref g25])), (g1, .inl (cyI, 1000, .inl (u.2.2 0)))]) args s 0 0) [(g0, .inr (11, [.int 0, .ref g1, .int (nI n1), .int 0, .ref g2, .ref g3, .ref g4, .int 0, .int 0, .ref g5, .ref g6, .ref g7, .ref g8, .int 0, .ref g9, .ref g10, .int 1, .ref g11, .ref g12, .ref g13, .ref g14, .ref g15, .int 0, .int 0, .int 0, .ref g16, .int 0, .ref g17, .ref g18, .ref g19, .ref g20, .ref g21, .ref g22, .int 0, .int 0, .int 0, .ref g23, .ref g24, .int 0, .int 0, .int 0, .int 0, .ref g25])), (g1, .inl (cyI, 1000, .inl f1))] 3 [(3, .int 56), (0, .ref g0), (1, .long v)] [] := by
    intro n1 f1 hb hrel
    refine j_iload_n (pc := 3) C dX11_lay_3 rfl 0 rfl ?_
    refine j_if_lt_f (pc := 4) (tgt := 75) C dX11_lay_4 (by decide) (by decide) ?_
    refine j_lload_n (pc := 7) C dX11_lay_7 rfl 2 rfl ?_
    refine j_iload_n (pc := 8) C dX11_lay_8 rfl 0 rfl ?_
    refine j_lshr (pc := 9) C dX11_lay_9 rfl ?_
    refine j_l2i (pc := 10) C dX11_lay_10 rfl ?_
    refine j_sipush (pc := 11) (v := 255) C dX11_lay_11 (by decide) ?_
    refine j_iand (pc := 14) (v := (bt v 56)) C dX11_lay_14 rfl ?_
    refine j_istore (pc := 15) (lv' := [(4, .int (bt v 56)), (3, .int 56), (0, .ref g0), (1, .long v)]) C dX11_lay_15 (by decide) rfl ?_
    refine j_iload (pc := 17) C dX11_lay_17 0 rfl ?_
    refine j_bipush (pc := 19) (v := 10) C dX11_lay_19 (by decide) ?_
    refine j_icmp_eq (pc := 21) (tgt := 38) C dX11_lay_21 (by decide) (fun c_22 => ?_) (fun c_22 => ?_)
    · skip
      refine j_aload_n (pc := 38) C dX11_lay_38 rfl 2 rfl ?_
      refine j_get (pc := 39) (ci := 11) (v := .int (nI n1)) C inw_11 0 rfl rfl 2 (by decide) wd_361 rfl rfl dX11_lay_39 ?_
      refine j_sipush (pc := 42) (v := 1000) C dX11_lay_42 (by decide) ?_
      refine j_icmp_ge_f (pc := 45) (tgt := 69) C dX11_lay_45 (by decide) (nI12 1000 (by omega) (by decide)) ?_
      refine j_aload_n (pc := 48) C dX11_lay_48 rfl 2 rfl ?_
      refine j_get (pc := 49) (ci := 11) (v := .ref g1) C inw_11 0 rfl rfl 1 (by decide) wd_118 rfl rfl dX11_lay_49 ?_
      refine j_aload_n (pc := 52) C dX11_lay_52 rfl 2 rfl ?_
      refine j_get (pc := 53) (ci := 11) (v := .int (nI n1)) C inw_11 0 rfl rfl 2 (by decide) wd_361 rfl rfl dX11_lay_53 ?_
      refine j_iload (pc := 56) C dX11_lay_56 0 rfl ?_
      refine j_iast (pc := 58) (k := n1) (ws' := [(g0, .inr (11, [.int 0, .ref g1, .int (nI n1), .int 0, .ref g2, .ref g3, .ref g4, .int 0, .int 0, .ref g5, .ref g6, .ref g7, .ref g8, .int 0, .ref g9, .ref g10, .int 1, .ref g11, .ref g12, .ref g13, .ref g14, .ref g15, .int 0, .int 0, .int 0, .ref g16, .int 0, .ref g17, .ref g18, .ref g19, .ref g20, .ref g21, .ref g22, .int 0, .int 0, .int 0, .ref g23, .ref g24, .int 0, .int 0, .int 0, .int 0, .ref g25])), (g1, .inl (cyI, 1000, .inl (upd f1 n1 (bt v 56))))]) C 1 1 rfl rfl (nI_pos (by omega)) (nI_clamp (by omega)) (by omega) dX11_lay_58 rfl ?_
      refine j_aload_n (pc := 59) C dX11_lay_59 rfl 2 rfl ?_
      refine j_dup (pc := 60) C dX11_lay_60 rfl ?_
      refine j_get (pc := 61) (ci := 11) (v := .int (nI n1)) C inw_11 0 rfl rfl 2 (by decide) wd_361 rfl rfl dX11_lay_61 ?_
      refine j_iconst (pc := 64) (v := 1) C dX11_lay_64 (by decide) ?_
      refine j_iadd (pc := 65) (v := (nI (n1 + 1))) C dX11_lay_65 (nI_1 n1) ?_
      refine j_put (pc := 66) (ci := 11) (v := .int (nI (n1 + 1))) (ws' := [(g0, .inr (11, [.int 0, .ref g1, .int (nI (n1 + 1)), .int 0, .ref g2, .ref g3, .ref g4, .int 0, .int 0, .ref g5, .ref g6, .ref g7, .ref g8, .int 0, .ref g9, .ref g10, .int 1, .ref g11, .ref g12, .ref g13, .ref g14, .ref g15, .int 0, .int 0, .int 0, .ref g16, .int 0, .ref g17, .ref g18, .ref g19, .ref g20, .ref g21, .ref g22, .int 0, .int 0, .int 0, .ref g23, .ref g24, .int 0, .int 0, .int 0, .int 0, .ref g25])), (g1, .inl (cyI, 1000, .inl (upd f1 n1 (bt v 56))))]) C inw_11 0 rfl rfl 2 (by decide) wd_361 rfl tyX11_ok nmX11 rfl (tyX11_ok 2 (by decide)) rfl rfl (Nat.le_of_ble_eq_true rfl) dX11_lay_66 rfl ?_
      refine j_iinc (pc := 69) (v := 48) (lv' := [(3, .int 48), (4, .int (bt v 56)), (0, .ref g0), (1, .long v)]) C dX11_lay_69 1 rfl (by decide) (by decide) rfl ?_
      refine j_goto (pc := 72) (tgt := 3) C dX11_lay_72 (by decide) ?_
      exact j_lv [0, 2, 3] rfl (h_1 (n1 + 1) _ (by omega) (by rw [fit_a c_22] at hrel; exact hrel))
    · skip
      refine j_iload (pc := 24) C dX11_lay_24 0 rfl ?_
      refine j_bipush (pc := 26) (v := 32) C dX11_lay_26 (by decide) ?_
      refine j_icmp_lt (pc := 28) (tgt := 69) C dX11_lay_28 (by decide) (fun c_23 => ?_) (fun c_23 => ?_)
      · skip
        refine j_iinc (pc := 69) (v := 48) (lv' := [(3, .int 48), (4, .int (bt v 56)), (0, .ref g0), (1, .long v)]) C dX11_lay_69 1 rfl (by decide) (by decide) rfl ?_
        refine j_goto (pc := 72) (tgt := 3) C dX11_lay_72 (by decide) ?_
        exact j_lv [0, 2, 3] rfl (h_1 n1 _ (by omega) (by rw [fit_c c_22 c_23] at hrel; exact hrel))
      · skip
        refine j_iload (pc := 31) C dX11_lay_31 0 rfl ?_
        refine j_bipush (pc := 33) (v := 126) C dX11_lay_33 (by decide) ?_
        refine j_icmp_gt (pc := 35) (tgt := 69) C dX11_lay_35 (by decide) (fun c_24 => ?_) (fun c_24 => ?_)
        · skip
          refine j_iinc (pc := 69) (v := 48) (lv' := [(3, .int 48), (4, .int (bt v 56)), (0, .ref g0), (1, .long v)]) C dX11_lay_69 1 rfl (by decide) (by decide) rfl ?_
          refine j_goto (pc := 72) (tgt := 3) C dX11_lay_72 (by decide) ?_
          exact j_lv [0, 2, 3] rfl (h_1 n1 _ (by omega) (by rw [fit_d c_22 c_24] at hrel; exact hrel))
        · skip
          refine j_aload_n (pc := 38) C dX11_lay_38 rfl 2 rfl ?_
          refine j_get (pc := 39) (ci := 11) (v := .int (nI n1)) C inw_11 0 rfl rfl 2 (by decide) wd_361 rfl rfl dX11_lay_39 ?_
          refine j_sipush (pc := 42) (v := 1000) C dX11_lay_42 (by decide) ?_
          refine j_icmp_ge_f (pc := 45) (tgt := 69) C dX11_lay_45 (by decide) (nI12 1000 (by omega) (by decide)) ?_
          refine j_aload_n (pc := 48) C dX11_lay_48 rfl 2 rfl ?_
          refine j_get (pc := 49) (ci := 11) (v := .ref g1) C inw_11 0 rfl rfl 1 (by decide) wd_118 rfl rfl dX11_lay_49 ?_
          refine j_aload_n (pc := 52) C dX11_lay_52 rfl 2 rfl ?_
          refine j_get (pc := 53) (ci := 11) (v := .int (nI n1)) C inw_11 0 rfl rfl 2 (by decide) wd_361 rfl rfl dX11_lay_53 ?_
          refine j_iload (pc := 56) C dX11_lay_56 0 rfl ?_
          refine j_iast (pc := 58) (k := n1) (ws' := [(g0, .inr (11, [.int 0, .ref g1, .int (nI n1), .int 0, .ref g2, .ref g3, .ref g4, .int 0, .int 0, .ref g5, .ref g6, .ref g7, .ref g8, .int 0, .ref g9, .ref g10, .int 1, .ref g11, .ref g12, .ref g13, .ref g14, .ref g15, .int 0, .int 0, .int 0, .ref g16, .int 0, .ref g17, .ref g18, .ref g19, .ref g20, .ref g21, .ref g22, .int 0, .int 0, .int 0, .ref g23, .ref g24, .int 0, .int 0, .int 0, .int 0, .ref g25])), (g1, .inl (cyI, 1000, .inl (upd f1 n1 (bt v 56))))]) C 1 1 rfl rfl (nI_pos (by omega)) (nI_clamp (by omega)) (by omega) dX11_lay_58 rfl ?_
          refine j_aload_n (pc := 59) C dX11_lay_59 rfl 2 rfl ?_
          refine j_dup (pc := 60) C dX11_lay_60 rfl ?_
          refine j_get (pc := 61) (ci := 11) (v := .int (nI n1)) C inw_11 0 rfl rfl 2 (by decide) wd_361 rfl rfl dX11_lay_61 ?_
          refine j_iconst (pc := 64) (v := 1) C dX11_lay_64 (by decide) ?_
          refine j_iadd (pc := 65) (v := (nI (n1 + 1))) C dX11_lay_65 (nI_1 n1) ?_
          refine j_put (pc := 66) (ci := 11) (v := .int (nI (n1 + 1))) (ws' := [(g0, .inr (11, [.int 0, .ref g1, .int (nI (n1 + 1)), .int 0, .ref g2, .ref g3, .ref g4, .int 0, .int 0, .ref g5, .ref g6, .ref g7, .ref g8, .int 0, .ref g9, .ref g10, .int 1, .ref g11, .ref g12, .ref g13, .ref g14, .ref g15, .int 0, .int 0, .int 0, .ref g16, .int 0, .ref g17, .ref g18, .ref g19, .ref g20, .ref g21, .ref g22, .int 0, .int 0, .int 0, .ref g23, .ref g24, .int 0, .int 0, .int 0, .int 0, .ref g25])), (g1, .inl (cyI, 1000, .inl (upd f1 n1 (bt v 56))))]) C inw_11 0 rfl rfl 2 (by decide) wd_361 rfl tyX11_ok nmX11 rfl (tyX11_ok 2 (by decide)) rfl rfl (Nat.le_of_ble_eq_true rfl) dX11_lay_66 rfl ?_
          refine j_iinc (pc := 69) (v := 48) (lv' := [(3, .int 48), (4, .int (bt v 56)), (0, .ref g0), (1, .long v)]) C dX11_lay_69 1 rfl (by decide) (by decide) rfl ?_
          refine j_goto (pc := 72) (tgt := 3) C dX11_lay_72 (by decide) ?_
          exact j_lv [0, 2, 3] rfl (h_1 (n1 + 1) _ (by omega) (by rw [fit_b c_23 c_24] at hrel; exact hrel))
  exact j_lv [0, 1, 2] rfl (h_0 n f (by omega) rfl)
set_option maxHeartbeats 4000000 in
set_option maxRecDepth 100000 in
theorem c_X11_feed (l : Launch) (D : va_G) (cyC cyI cyJ cyZ cyO : ClassId) (v0 : Int64) (v1 : Int64) (v2 : Int64) (g0 : Nat) (g1 : Nat) (g2 : Nat) (g3 : Nat) (g4 : Nat) (g5 : Nat) (g6 : Nat) (g7 : Nat) (g8 : Nat) (g9 : Nat) (g10 : Nat) (g11 : Nat) (g12 : Nat) (g13 : Nat) (g14 : Nat) (g15 : Nat) (g16 : Nat) (g17 : Nat) (g18 : Nat) (g19 : Nat) (g20 : Nat) (g21 : Nat) (g22 : Nat) (g23 : Nat) (g24 : Nat) (g25 : Nat) : KK l D (TY cyC cyI cyJ cyZ cyO) yX11_feed cX11_feed 7 (some .int) ({ frames := 1, cells := 0, slots := 0, locals := 24 } : Room) 0 0 [.ref g0, .long v0, .long v1, .long v2] [(g0, .inr (11, [.int 0, .ref g1, .int 0, .int 0, .ref g2, .ref g3, .ref g4, .int 0, .int 0, .ref g5, .ref g6, .ref g7, .ref g8, .int 0, .ref g9, .ref g10, .int 1, .ref g11, .ref g12, .ref g13, .ref g14, .ref g15, .int 0, .int 0, .int 0, .ref g16, .int 0, .ref g17, .ref g18, .ref g19, .ref g20, .ref g21, .ref g22, .int 0, .int 0, .int 0, .ref g23, .ref g24, .int 0, .int 0, .int 0, .int 0, .ref g25])), (g1, .inl (cyI, 1000, .inl (fun _ => 0)))] (fun u => some (.int (u.2.1 0))) (fun u => u.2.1 0 = (nI (fed3 v0 v1 v2))) (fun u => []) := by
  refine KK.of (lv0 := [(0, .ref g0), (1, .long v0), (3, .long v1), (5, .long v2)]) (by decide) rfl (Nat.le_of_ble_eq_true rfl) ?_
  intro p e s m args below meth c A C hr hk hin
  refine j_aload_n (pc := 0) C dX11_feed_0 rfl 0 rfl ?_
  refine j_iconst (pc := 1) (v := 0) C dX11_feed_1 (by decide) ?_
  refine j_put (pc := 2) (ci := 11) (v := .int 0) (ws' := [(g0, .inr (11, [.int 0, .ref g1, .int 0, .int 0, .ref g2, .ref g3, .ref g4, .int 0, .int 0, .ref g5, .ref g6, .ref g7, .ref g8, .int 0, .ref g9, .ref g10, .int 1, .ref g11, .ref g12, .ref g13, .ref g14, .ref g15, .int 0, .int 0, .int 0, .ref g16, .int 0, .ref g17, .ref g18, .ref g19, .ref g20, .ref g21, .ref g22, .int 0, .int 0, .int 0, .ref g23, .ref g24, .int 0, .int 0, .int 0, .int 0, .ref g25])), (g1, .inl (cyI, 1000, .inl (fun _ => 0)))]) C inw_11 0 rfl rfl 0 (by decide) wd_329 rfl tyX11_ok nmX11 rfl (tyX11_ok 0 (by decide)) rfl rfl (Nat.le_of_ble_eq_true rfl) dX11_feed_2 rfl ?_
  refine j_aload_n (pc := 5) C dX11_feed_5 rfl 0 rfl ?_
  refine j_lload_n (pc := 6) C dX11_feed_6 rfl 1 rfl ?_
  refine j_callV (pc := 7) (As := [.long v0]) (rest := []) (wr := []) C (c_X11_lay l D cyC cyI cyJ cyZ cyO v0 0 (fun _ => 0) 1 g0 g1 g2 g3 g4 g5 g6 g7 g8 g9 g10 g11 g12 g13 g14 g15 g16 g17 g18 g19 g20 g21 g22 g23 g24 g25 Nat.one_pos (by decide)) wd_382 wd_313 wd_383 wd_384 wd_385 ⟨by decide, by decide, rfl⟩ rfl ⟨rfl, rfl, by decide, by decide⟩ ⟨by decide, by decide⟩ [0, 1] [] rfl rfl ⟨by decide, by decide, by decide⟩ 0 rfl rfl rfl (Nat.le_of_ble_eq_true rfl) dX11_feed_7 (fun u_1 hw_2 => ?_)
  refine j_eq (ws2 := [(g0, .inr (11, [.int 0, .ref g1, .int (nI (fed v0 0)), .int 0, .ref g2, .ref g3, .ref g4, .int 0, .int 0, .ref g5, .ref g6, .ref g7, .ref g8, .int 0, .ref g9, .ref g10, .int 1, .ref g11, .ref g12, .ref g13, .ref g14, .ref g15, .int 0, .int 0, .int 0, .ref g16, .int 0, .ref g17, .ref g18, .ref g19, .ref g20, .ref g21, .ref g22, .int 0, .int 0, .int 0, .ref g23, .ref g24, .int 0, .int 0, .int 0, .int 0, .ref g25])), (g1, .inl (cyI, 1000, .inl (u_1.2.2 0)))]) (pc2 := 10) (lv2 := [(0, .ref g0), (1, .long v0), (3, .long v1), (5, .long v2)]) (st2 := []) rfl rfl rfl rfl ?_
  refine j_aload_n (pc := 10) C dX11_feed_10 rfl 0 rfl ?_
  refine j_lload_n (pc := 11) C dX11_feed_11 rfl 2 rfl ?_
  refine j_callV (pc := 12) (As := [.long v1]) (rest := []) (wr := []) C (c_X11_lay l D cyC cyI cyJ cyZ cyO v1 (fed v0 0) (u_1.2.2 0) 9 g0 g1 g2 g3 g4 g5 g6 g7 g8 g9 g10 g11 g12 g13 g14 g15 g16 g17 g18 g19 g20 g21 g22 g23 g24 g25 (fed_lt v0 Nat.one_pos) (by decide)) wd_382 wd_313 wd_383 wd_384 wd_385 ⟨by decide, by decide, rfl⟩ rfl ⟨rfl, rfl, by decide, by decide⟩ ⟨by decide, by decide⟩ [0, 1] [] rfl rfl ⟨by decide, by decide, by decide⟩ 0 rfl rfl rfl (Nat.le_of_ble_eq_true rfl) dX11_feed_12 (fun u_3 hw_4 => ?_)
  refine j_eq (ws2 := [(g0, .inr (11, [.int 0, .ref g1, .int (nI (fed v1 (fed v0 0))), .int 0, .ref g2, .ref g3, .ref g4, .int 0, .int 0, .ref g5, .ref g6, .ref g7, .ref g8, .int 0, .ref g9, .ref g10, .int 1, .ref g11, .ref g12, .ref g13, .ref g14, .ref g15, .int 0, .int 0, .int 0, .ref g16, .int 0, .ref g17, .ref g18, .ref g19, .ref g20, .ref g21, .ref g22, .int 0, .int 0, .int 0, .ref g23, .ref g24, .int 0, .int 0, .int 0, .int 0, .ref g25])), (g1, .inl (cyI, 1000, .inl (u_3.2.2 0)))]) (pc2 := 15) (lv2 := [(0, .ref g0), (1, .long v0), (3, .long v1), (5, .long v2)]) (st2 := []) rfl rfl rfl rfl ?_
  refine j_aload_n (pc := 15) C dX11_feed_15 rfl 0 rfl ?_
  refine j_lload (pc := 16) C dX11_feed_16 3 rfl ?_
  refine j_callV (pc := 18) (As := [.long v2]) (rest := []) (wr := []) C (c_X11_lay l D cyC cyI cyJ cyZ cyO v2 (fed v1 (fed v0 0)) (u_3.2.2 0) 17 g0 g1 g2 g3 g4 g5 g6 g7 g8 g9 g10 g11 g12 g13 g14 g15 g16 g17 g18 g19 g20 g21 g22 g23 g24 g25 (fed_lt v1 (fed_lt v0 Nat.one_pos)) (by decide)) wd_382 wd_313 wd_383 wd_384 wd_385 ⟨by decide, by decide, rfl⟩ rfl ⟨rfl, rfl, by decide, by decide⟩ ⟨by decide, by decide⟩ [0, 1] [] rfl rfl ⟨by decide, by decide, by decide⟩ 0 rfl rfl rfl (Nat.le_of_ble_eq_true rfl) dX11_feed_18 (fun u_5 hw_6 => ?_)
  refine j_eq (ws2 := [(g0, .inr (11, [.int 0, .ref g1, .int (nI (fed v2 (fed v1 (fed v0 0)))), .int 0, .ref g2, .ref g3, .ref g4, .int 0, .int 0, .ref g5, .ref g6, .ref g7, .ref g8, .int 0, .ref g9, .ref g10, .int 1, .ref g11, .ref g12, .ref g13, .ref g14, .ref g15, .int 0, .int 0, .int 0, .ref g16, .int 0, .ref g17, .ref g18, .ref g19, .ref g20, .ref g21, .ref g22, .int 0, .int 0, .int 0, .ref g23, .ref g24, .int 0, .int 0, .int 0, .int 0, .ref g25])), (g1, .inl (cyI, 1000, .inl (u_5.2.2 0)))]) (pc2 := 21) (lv2 := [(0, .ref g0), (1, .long v0), (3, .long v1), (5, .long v2)]) (st2 := []) rfl rfl rfl rfl ?_
  refine j_aload_n (pc := 21) C dX11_feed_21 rfl 0 rfl ?_
  refine j_get (pc := 22) (ci := 11) (v := .int (nI (fed v2 (fed v1 (fed v0 0))))) C inw_11 0 rfl rfl 2 (by decide) wd_361 rfl rfl dX11_feed_22 ?_
  exact j_iret (pc := 25) C hr hk (fun _ => 0, fun _ => (nI (fed v2 (fed v1 (fed v0 0)))), fun _ _ => 0) rfl rfl [] (by decide) rfl (by decide) (by decide) dX11_feed_25
