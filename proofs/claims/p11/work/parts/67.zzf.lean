theorem wd_1048 : Cond.classLink RX10 302 "java/util/NoSuchElementException" ∈ WALL := wl_in (by decide +kernel) (by decide +kernel)
theorem wd_1049 : Cond.initialized "java/util/NoSuchElementException" ∈ WALL := wl_in (by decide +kernel) (by decide +kernel)
theorem wd_1050 : Cond.code yX7_lifts cX7_lifts 5 (some .int) ∈ WALL := wl_in (by decide +kernel) (by decide +kernel)
theorem wd_1051 : Cond.methodLink RX10 309 yX7_lifts ∈ WALL := wl_in (by decide +kernel) (by decide +kernel)
theorem wd_1052 : Cond.instanceMethod yX7_lifts ∈ WALL := wl_in (by decide +kernel) (by decide +kernel)
theorem wd_1053 : Cond.selects RX7 yX7_lifts yX7_lifts ∈ WALL := wl_in (by decide +kernel) (by decide +kernel)
theorem wd_1054 : Cond.code yX2_power cX2_power 9 none ∈ WALL := wl_in (by decide +kernel) (by decide +kernel)
theorem wd_1055 : Cond.methodLink RX10 314 yX2_power ∈ WALL := wl_in (by decide +kernel) (by decide +kernel)
theorem wd_1056 : Cond.instanceMethod yX2_power ∈ WALL := wl_in (by decide +kernel) (by decide +kernel)
theorem wd_1057 : Cond.selects RX2 yX2_power yX2_power ∈ WALL := wl_in (by decide +kernel) (by decide +kernel)
theorem wd_1058 : Cond.fieldLink RX10 318 "BowlShelf$Odds" "digits" "[J" ∈ WALL := wl_in (by decide +kernel) (by decide +kernel)
theorem dX10_whole_0 : decode cX10_whole 0 = .ok (.aload_n 0, 1) := by decide +kernel
theorem dX10_whole_1 : decode cX10_whole 1 = .ok (.getfield 19, 3) := by decide +kernel
theorem dX10_whole_4 : decode cX10_whole 4 = .ok (.iload_n 1, 1) := by decide +kernel
theorem dX10_whole_5 : decode cX10_whole 5 = .ok (.invokevirtual 112, 3) := by decide +kernel
theorem dX10_whole_8 : decode cX10_whole 8 = .ok (.ifCond .eq 12, 3) := by decide +kernel
theorem dX10_whole_11 : decode cX10_whole 11 = .ok (.iload_n 2, 1) := by decide +kernel
theorem dX10_whole_12 : decode cX10_whole 12 = .ok (.ifCond .lt 8, 3) := by decide +kernel
theorem dX10_whole_15 : decode cX10_whole 15 = .ok (.iload_n 2, 1) := by decide +kernel
theorem dX10_whole_16 : decode cX10_whole 16 = .ok (.iconst 4, 1) := by decide +kernel
theorem dX10_whole_17 : decode cX10_whole 17 = .ok (.if_icmp .le 14, 3) := by decide +kernel
theorem dX10_whole_20 : decode cX10_whole 20 = .ok (.new 302, 3) := by decide +kernel
theorem dX10_whole_23 : decode cX10_whole 23 = .ok (.dup, 1) := by decide +kernel
theorem dX10_whole_24 : decode cX10_whole 24 = .ok (.ldc_w 304, 3) := by decide +kernel
theorem dX10_whole_27 : decode cX10_whole 27 = .ok (.invokespecial 306, 3) := by decide +kernel
theorem dX10_whole_30 : decode cX10_whole 30 = .ok (.athrow, 1) := by decide +kernel
theorem dX10_whole_31 : decode cX10_whole 31 = .ok (.aload_n 0, 1) := by decide +kernel
theorem dX10_whole_32 : decode cX10_whole 32 = .ok (.getfield 26, 3) := by decide +kernel
theorem dX10_whole_35 : decode cX10_whole 35 = .ok (.iload_n 1, 1) := by decide +kernel
theorem dX10_whole_36 : decode cX10_whole 36 = .ok (.invokevirtual 309, 3) := by decide +kernel
theorem dX10_whole_39 : decode cX10_whole 39 = .ok (.istore_n 3, 1) := by decide +kernel
theorem dX10_whole_40 : decode cX10_whole 40 = .ok (.iload_n 3, 1) := by decide +kernel
theorem dX10_whole_41 : decode cX10_whole 41 = .ok (.bipush 17, 2) := by decide +kernel
theorem dX10_whole_43 : decode cX10_whole 43 = .ok (.if_icmp .le 14, 3) := by decide +kernel
theorem dX10_whole_46 : decode cX10_whole 46 = .ok (.new 302, 3) := by decide +kernel
theorem dX10_whole_49 : decode cX10_whole 49 = .ok (.dup, 1) := by decide +kernel
theorem dX10_whole_50 : decode cX10_whole 50 = .ok (.ldc_w 312, 3) := by decide +kernel
theorem dX10_whole_53 : decode cX10_whole 53 = .ok (.invokespecial 306, 3) := by decide +kernel
theorem dX10_whole_56 : decode cX10_whole 56 = .ok (.athrow, 1) := by decide +kernel
theorem dX10_whole_57 : decode cX10_whole 57 = .ok (.iload_n 2, 1) := by decide +kernel
theorem dX10_whole_58 : decode cX10_whole 58 = .ok (.iconst 4, 1) := by decide +kernel
theorem dX10_whole_59 : decode cX10_whole 59 = .ok (.if_icmp .ne 6, 3) := by decide +kernel
theorem dX10_whole_62 : decode cX10_whole 62 = .ok (.iload_n 3, 1) := by decide +kernel
theorem dX10_whole_63 : decode cX10_whole 63 = .ok (.i2l, 1) := by decide +kernel
theorem dX10_whole_64 : decode cX10_whole 64 = .ok (.lreturn, 1) := by decide +kernel
theorem dX10_whole_65 : decode cX10_whole 65 = .ok (.aload_n 0, 1) := by decide +kernel
theorem dX10_whole_66 : decode cX10_whole 66 = .ok (.getfield 68, 3) := by decide +kernel
theorem dX10_whole_69 : decode cX10_whole 69 = .ok (.bipush 100, 2) := by decide +kernel
theorem dX10_whole_71 : decode cX10_whole 71 = .ok (.aload_n 0, 1) := by decide +kernel
theorem dX10_whole_72 : decode cX10_whole 72 = .ok (.getfield 19, 3) := by decide +kernel
theorem dX10_whole_75 : decode cX10_whole 75 = .ok (.getfield 129, 3) := by decide +kernel
theorem dX10_whole_78 : decode cX10_whole 78 = .ok (.iload_n 1, 1) := by decide +kernel
theorem dX10_whole_79 : decode cX10_whole 79 = .ok (.iaload, 1) := by decide +kernel
theorem dX10_whole_80 : decode cX10_whole 80 = .ok (.isub, 1) := by decide +kernel
theorem dX10_whole_81 : decode cX10_whole 81 = .ok (.iload_n 3, 1) := by decide +kernel
theorem dX10_whole_82 : decode cX10_whole 82 = .ok (.invokevirtual 314, 3) := by decide +kernel
theorem dX10_whole_85 : decode cX10_whole 85 = .ok (.aload_n 0, 1) := by decide +kernel
theorem dX10_whole_86 : decode cX10_whole 86 = .ok (.getfield 68, 3) := by decide +kernel
theorem dX10_whole_89 : decode cX10_whole 89 = .ok (.getfield 318, 3) := by decide +kernel
theorem dX10_whole_92 : decode cX10_whole 92 = .ok (.iload_n 2, 1) := by decide +kernel
theorem dX10_whole_93 : decode cX10_whole 93 = .ok (.laload, 1) := by decide +kernel
theorem dX10_whole_94 : decode cX10_whole 94 = .ok (.lreturn, 1) := by decide +kernel
set_option maxHeartbeats 4000000 in
set_option maxRecDepth 100000 in
theorem c_X2_power_b (l : Launch) (D : DG) (cyC cyI cyJ cyZ cyO : ClassId) (d0 : Nat) (d1 : Nat) (p0 : Int32) (p1 : Int32) (d_digits : Nat → Int64) (h_p1 : -2147483648 ≤ (p1).toInt ∧ (p1).toInt ≤ 17) : KK l D (TY cyC cyI cyJ cyZ cyO) yX2_power cX2_power 9 none ({ frames := 1, cells := 0, slots := 0, locals := 24 } : Room) 0 0 [.ref d0, .int p0, .int p1] [(d0, .inr (2, [.ref d1])), (d1, .inl (cyJ, 4, .inr (.inl d_digits)))] (fun u => none) (fun u => True) (fun u => [(d0, .inr (2, [.ref d1])), (d1, .inl (cyJ, 4, .inr (.inl (u.2.2.2 0))))]) := by
  refine KK.of (lv0 := [(0, .ref d0), (1, .int p0), (2, .int p1)]) (by decide) rfl (Nat.le_of_ble_eq_true rfl) ?_
  intro p e s m args below meth c A C hr hk hin
  refine j_aload_n (pc := 0) C dX2_power_0 rfl 0 rfl ?_
  refine j_get (pc := 1) (ci := 2) (v := .ref d1) C inw_2 0 rfl rfl 0 (by decide) wd_148 rfl rfl dX2_power_1 ?_
  refine j_lconst (pc := 4) (v := 0) C dX2_power_4 rfl ?_
  refine j_callS (pc := 5) (As := [.ref d1, .long 0]) (rest := []) (wr := [(d0, .inr (2, [.ref d1]))]) C (c_J7_fill_d0a16 l D cyC cyI cyJ cyZ cyO d1 0 d_digits) wd_149 wd_51 wd_150 wd_151 ⟨by decide, by decide, rfl⟩ rfl ⟨rfl, rfl, by decide, by decide⟩ ⟨by decide, by decide⟩ [1] [0] rfl rfl ⟨by decide, by decide, by decide⟩ rfl (Nat.le_of_ble_eq_true rfl) dX2_power_5 (fun u_1 hw_2 => ?_)
  refine j_eq (ws2 := [(d0, .inr (2, [.ref d1])), (d1, .inl (cyJ, 4, .inr (.inl (u_1.2.2.2 0))))]) (pc2 := 8) (lv2 := [(0, .ref d0), (1, .int p0), (2, .int p1)]) (st2 := []) rfl rfl rfl rfl ?_
  refine j_aload_n (pc := 8) C dX2_power_8 rfl 0 rfl ?_
  refine j_get (pc := 9) (ci := 2) (v := .ref d1) C inw_2 0 rfl rfl 0 (by decide) wd_148 rfl rfl dX2_power_9 ?_
  refine j_iconst (pc := 12) (v := 0) C dX2_power_12 (by decide) ?_
  refine j_lconst (pc := 13) (v := 1) C dX2_power_13 rfl ?_
  obtain ⟨f_3, ef_3⟩ : ∃ z, z = vp_updL (u_1.2.2.2 0) 0 1 := ⟨_, rfl⟩
  refine j_last (pc := 14) (k := 0) (ws' := [(d0, .inr (2, [.ref d1])), (d1, .inl (cyJ, 4, .inr (.inl f_3)))]) C 1 2 rfl rfl (by decide) (by decide) (by decide) dX2_power_14 (by rw [ef_3]; rfl) ?_
  refine j_iconst (pc := 15) (v := 0) C dX2_power_15 (by decide) ?_
  refine j_istore_n (pc := 16) (lv' := [(3, .int 0), (0, .ref d0), (1, .int p0), (2, .int p1)]) C dX2_power_16 rfl (by decide) rfl ?_
  have loop_4 : ∀ (k_4 : Nat) (x4_3 : Int32) (g4_d1 : Nat → Int64), (0 ≤ (x4_3).toInt ∧ (x4_3).toInt ≤ 17) → (17 - x4_3.toInt).toNat < k_4 → J p l e ({ frames := 1, cells := 0, slots := 0, locals := 24 } : Room) s m args below meth c D A 9 0 0 (QX below D (TY cyC cyI cyJ cyZ cyO) A (fun u => none) (fun u => True) (fun u => [(d0, .inr (2, [.ref d1])), (d1, .inl (cyJ, 4, .inr (.inl (u.2.2.2 0))))]) args s 0 0) [(d0, .inr (2, [.ref d1])), (d1, .inl (cyJ, 4, .inr (.inl g4_d1)))] 17 [(3, .int x4_3), (0, .ref d0), (1, .int p0), (2, .int p1)] [] := by
    intro k_4
    induction k_4 with
    | zero =>
      intro x4_3 g4_d1 hi_4_0 hm_4
      exact absurd hm_4 (Nat.not_lt_zero _)
    | succ k_4 ih_4 =>
      intro x4_3 g4_d1 hi_4_0 hm_4
      refine j_iload_n (pc := 17) C dX2_power_17 rfl 0 rfl ?_
      refine j_iload_n (pc := 18) C dX2_power_18 rfl 3 rfl ?_
      refine j_icmp_ge (pc := 19) (tgt := 82) C dX2_power_19 (by decide) (fun c_5 => ?_) (fun c_5 => ?_)
      · skip
        rw [i_le] at c_5
        exact j_vret (pc := 82) C hr hk (fun i => [].getD i 0, fun i => [].getD i 0, fun i => [].getD i (fun _ => 0), fun i => [g4_d1].getD i (fun _ => 0)) rfl trivial [0, 1] (by decide) rfl (by decide) (by decide) dX2_power_82
      · skip
        rw [i_le] at c_5
        refine j_lconst (pc := 22) (v := 0) C dX2_power_22 rfl ?_
        refine j_lstore (pc := 23) (lv' := [(4, .long 0), (3, .int x4_3), (0, .ref d0), (1, .int p0), (2, .int p1)]) C dX2_power_23 (by decide) rfl ?_
        refine j_iconst (pc := 25) (v := 0) C dX2_power_25 (by decide) ?_
        refine j_istore (pc := 26) (lv' := [(6, .int 0), (4, .long 0), (3, .int x4_3), (0, .ref d0), (1, .int p0), (2, .int p1)]) C dX2_power_26 (by decide) rfl ?_
        have loop_6 : ∀ (k_6 : Nat) (x6_6 : Int32) (x6_4 : Int64) (g6_d1 : Nat → Int64), (0 ≤ (x6_6).toInt ∧ (x6_6).toInt ≤ 4) → (4 - x6_6.toInt).toNat < k_6 → J p l e ({ frames := 1, cells := 0, slots := 0, locals := 24 } : Room) s m args below meth c D A 9 0 0 (QX below D (TY cyC cyI cyJ cyZ cyO) A (fun u => none) (fun u => True) (fun u => [(d0, .inr (2, [.ref d1])), (d1, .inl (cyJ, 4, .inr (.inl (u.2.2.2 0))))]) args s 0 0) [(d0, .inr (2, [.ref d1])), (d1, .inl (cyJ, 4, .inr (.inl g6_d1)))] 28 [(6, .int x6_6), (4, .long x6_4), (3, .int x4_3), (0, .ref d0), (1, .int p0), (2, .int p1)] [] := by
          intro k_6
          induction k_6 with
          | zero =>
            intro x6_6 x6_4 g6_d1 hi_6_0 hm_6
            exact absurd hm_6 (Nat.not_lt_zero _)
          | succ k_6 ih_6 =>
            intro x6_6 x6_4 g6_d1 hi_6_0 hm_6
            refine j_iload (pc := 28) C dX2_power_28 0 rfl ?_
            refine j_iconst (pc := 30) (v := 4) C dX2_power_30 (by decide) ?_
            refine j_icmp_ge (pc := 31) (tgt := 76) C dX2_power_31 (by decide) (fun c_7 => ?_) (fun c_7 => ?_)
            · skip
              have el_4 : (4 : Int32).toInt = 4 := rfl
              rw [i_le] at c_7
              have k0c_7 : x6_6.toInt = 4 := by omega
              obtain ⟨v_8, ev_8⟩ : ∃ z : Int32, x4_3 + 1 = z := ⟨_, rfl⟩
              have el_1 : (1 : Int32).toInt = 1 := rfl
              have hv_8 : v_8.toInt = x4_3.toInt + (1 : Int32).toInt := by rw [← ev_8]; exact fb_addI (by omega) (by omega)
              refine j_iinc (pc := 76) (v := v_8) (lv' := [(3, .int v_8), (6, .int x6_6), (4, .long x6_4), (0, .ref d0), (1, .int p0), (2, .int p1)]) C dX2_power_76 2 rfl ev_8 (by decide) rfl ?_
              refine j_goto (pc := 79) (tgt := 17) C dX2_power_79 (by decide) ?_
              exact j_lv [0, 3, 4, 5] rfl (ih_4 v_8 g6_d1 (by omega) (by omega))
            · skip
              have el_4 : (4 : Int32).toInt = 4 := rfl
              rw [i_le] at c_7
              refine j_aload_n (pc := 34) C dX2_power_34 rfl 3 rfl ?_
              refine j_get (pc := 35) (ci := 2) (v := .ref d1) C inw_2 0 rfl rfl 0 (by decide) wd_148 rfl rfl dX2_power_35 ?_
              refine j_iload (pc := 38) C dX2_power_38 0 rfl ?_
              obtain ⟨v_9, ev_9⟩ : ∃ z, g6_d1 (x6_6).toInt.toNat = z := ⟨_, rfl⟩
              refine j_lald (pc := 40) (v := v_9) (k := (x6_6).toInt.toNat) C 1 2 rfl rfl (i_nn hi_6_0.1) rfl (i_lt_n hi_6_0.1 (by omega)) ev_9 dX2_power_40 ?_
              refine j_iload_n (pc := 41) C dX2_power_41 rfl 4 rfl ?_
              refine j_i2l (pc := 42) C dX2_power_42 rfl ?_
              refine j_lmul (pc := 43) C dX2_power_43 rfl ?_
              refine j_lload (pc := 44) C dX2_power_44 1 rfl ?_
              refine j_ladd (pc := 46) C dX2_power_46 rfl ?_
              refine j_lstore (pc := 47) (lv' := [(7, .long ((v_9 * (p0).toInt64) + x6_4)), (6, .int x6_6), (4, .long x6_4), (3, .int x4_3), (0, .ref d0), (1, .int p0), (2, .int p1)]) C dX2_power_47 (by decide) rfl ?_
              refine j_aload_n (pc := 49) C dX2_power_49 rfl 4 rfl ?_
              refine j_get (pc := 50) (ci := 2) (v := .ref d1) C inw_2 0 rfl rfl 0 (by decide) wd_148 rfl rfl dX2_power_50 ?_
              refine j_iload (pc := 53) C dX2_power_53 1 rfl ?_
              refine j_lload (pc := 55) C dX2_power_55 0 rfl ?_
              refine j_ldc2 (pc := 57) C wd_152 dX2_power_57 ?_
              obtain ⟨v_10, ev_10⟩ : ∃ z : Int64, ((v_9 * (p0).toInt64) + x6_4) - ((v_9 * (p0).toInt64) + x6_4) / 1000000000 * 1000000000 = z := ⟨_, rfl⟩
              refine j_lrem (pc := 60) (v := v_10) C dX2_power_60 (by decide) ev_10 ?_
              obtain ⟨f_11, ef_11⟩ : ∃ z, z = vp_updL g6_d1 (x6_6).toInt.toNat v_10 := ⟨_, rfl⟩
              refine j_last (pc := 61) (k := (x6_6).toInt.toNat) (ws' := [(d0, .inr (2, [.ref d1])), (d1, .inl (cyJ, 4, .inr (.inl f_11)))]) C 1 2 rfl rfl (i_nn hi_6_0.1) rfl (i_lt_n hi_6_0.1 (by omega)) dX2_power_61 (by rw [ef_11]; rfl) ?_
              refine j_lload (pc := 62) C dX2_power_62 0 rfl ?_
              refine j_ldc2 (pc := 64) C wd_152 dX2_power_64 ?_
              obtain ⟨v_12, ev_12⟩ : ∃ z : Int64, ((v_9 * (p0).toInt64) + x6_4) / 1000000000 = z := ⟨_, rfl⟩
              refine j_ldiv (pc := 67) (v := v_12) C dX2_power_67 (by decide) ev_12 ?_
              refine j_lstore (pc := 68) (lv' := [(4, .long v_12), (7, .long ((v_9 * (p0).toInt64) + x6_4)), (6, .int x6_6), (3, .int x4_3), (0, .ref d0), (1, .int p0), (2, .int p1)]) C dX2_power_68 (by decide) rfl ?_
              obtain ⟨v_13, ev_13⟩ : ∃ z : Int32, x6_6 + 1 = z := ⟨_, rfl⟩
              have el_1 : (1 : Int32).toInt = 1 := rfl
              have hv_13 : v_13.toInt = x6_6.toInt + (1 : Int32).toInt := by rw [← ev_13]; exact fb_addI (by omega) (by omega)
              refine j_iinc (pc := 70) (v := v_13) (lv' := [(6, .int v_13), (4, .long v_12), (7, .long ((v_9 * (p0).toInt64) + x6_4)), (3, .int x4_3), (0, .ref d0), (1, .int p0), (2, .int p1)]) C dX2_power_70 2 rfl ev_13 (by decide) rfl ?_
              refine j_goto (pc := 73) (tgt := 28) C dX2_power_73 (by decide) ?_
              exact j_lv [0, 1, 3, 4, 5, 6] rfl (ih_6 v_13 v_12 f_11 (by omega) (by omega))
        have el_0 : (0 : Int32).toInt = 0 := rfl
        have el_0 : (0 : Int32).toInt = 0 := rfl
        exact j_lv [0, 1, 2, 3, 4, 5] rfl (loop_6 4096 0 0 g4_d1 (by decide) (by omega))
  have el_0 : (0 : Int32).toInt = 0 := rfl
  exact j_lv [0, 1, 2, 3] rfl (loop_4 4096 0 f_3 (by decide) (by omega))
set_option maxHeartbeats 4000000 in
set_option maxRecDepth 100000 in
theorem c_X10_whole (l : Launch) (htr : l.stackTraces = false) (D : DG) (cyC cyI cyJ cyZ cyO : ClassId) (x0 : Nat) (a0 : Nat) (a5 : Nat) (n0 : Nat) (n1 : Nat) (n2 : Nat) (n3 : Nat) (n4 : Nat) (d0 : Nat) (d1 : Nat) (r0 : Nat) (k0 : Nat) (x1 : Nat) (q0 : Nat) (o0 : Nat) (h0 : Nat) (s0 : Nat) (a1 : Nat) (a2 : Nat) (a3 : Nat) (a4 : Nat) (a6 : Nat) (a7 : Nat) (a8 : Nat) (a9 : Nat) (a10 : Nat) (p0 : Int32) (p1 : Int32) (a_wares : Int32) (a_shelves : Int32) (a_nests : Int32) (a_lids : Int32) (a_tops : Int32) (n_askings : Int32) (n_cost : Int32) (n_laid : Int32) (a_breaks : Nat → Int32) (n_shelf : Nat → Int32) (n_stack : Nat → Int32) (n_level : Nat → Int32) (n_asking : Nat → Int32) (d_digits : Nat → Int64) (h_a_wares : 0 ≤ (a_wares).toInt ∧ (a_wares).toInt ≤ 12) (h_a_shelves : 0 ≤ (a_shelves).toInt ∧ (a_shelves).toInt ≤ 4) (h_a_nests : 0 ≤ (a_nests).toInt ∧ (a_nests).toInt ≤ 4) (h_n_askings : 0 ≤ (n_askings).toInt ∧ (n_askings).toInt ≤ 30) (h_n_laid : 0 ≤ (n_laid).toInt ∧ (n_laid).toInt ≤ 1) (h_n_shelf : Iv 12 (-1) (3) n_shelf) (h_n_stack : Iv 12 (0) (7) n_stack) (h_n_level : Iv 12 (0) (11) n_level) (h_n_asking : Iv 30 (0) (11) n_asking) : KY l D (TY cyC cyI cyJ cyZ cyO) yX10_whole cX10_whole 4 (some .long) ({ frames := 6, cells := 1, slots := 6, locals := 90 } : Room) 1 6 [.ref x0, .int p0, .int p1] [(x0, .inr (10, [.ref r0, .ref a0, .ref n0, .ref k0, .ref x1, .ref q0, .ref o0, .ref h0, .ref s0, .ref d0])), (a0, .inr (9, [.int a_wares, .int a_shelves, .int a_nests, .ref a1, .ref a2, .ref a3, .ref a4, .ref a5, .ref a6, .int a_lids, .int a_tops, .ref a7, .ref a8, .ref a9, .ref a10])), (a5, .inl (cyI, 12, .inl a_breaks)), (n0, .inr (7, [.ref n1, .ref n2, .ref n3, .ref n4, .int n_askings, .int n_cost, .int n_laid])), (n1, .inl (cyI, 12, .inl n_shelf)), (n2, .inl (cyI, 12, .inl n_stack)), (n3, .inl (cyI, 12, .inl n_level)), (n4, .inl (cyI, 30, .inl n_asking)), (d0, .inr (2, [.ref d1])), (d1, .inl (cyJ, 4, .inr (.inl d_digits)))] (fun u => some (.long (u.2.2.2 0 0))) (fun u => True) (fun u => [(x0, .inr (10, [.ref r0, .ref a0, .ref n0, .ref k0, .ref x1, .ref q0, .ref o0, .ref h0, .ref s0, .ref d0])), (a0, .inr (9, [.int a_wares, .int a_shelves, .int a_nests, .ref a1, .ref a2, .ref a3, .ref a4, .ref a5, .ref a6, .int a_lids, .int a_tops, .ref a7, .ref a8, .ref a9, .ref a10])), (a5, .inl (cyI, 12, .inl a_breaks)), (n0, .inr (7, [.ref n1, .ref n2, .ref n3, .ref n4, .int n_askings, .int n_cost, .int n_laid])), (n1, .inl (cyI, 12, .inl n_shelf)), (n2, .inl (cyI, 12, .inl n_stack)), (n3, .inl (cyI, 12, .inl n_level)), (n4, .inl (cyI, 30, .inl n_asking)), (d0, .inr (2, [.ref d1])), (d1, .inl (cyJ, 4, .inr (.inl (u.2.2.2 1))))]) := by
  refine KY.of (lv0 := [(0, .ref x0), (1, .int p0), (2, .int p1)]) (by decide) rfl (Nat.le_of_ble_eq_true rfl) ?_
  intro p e s m args below meth c A C hE htab hr hk
  refine j_aload_n (pc := 0) C dX10_whole_0 rfl 0 rfl ?_
  refine j_get (pc := 1) (ci := 10) (v := .ref a0) C inw_10 0 rfl rfl 1 (by decide) wd_447 rfl rfl dX10_whole_1 ?_
  refine j_iload_n (pc := 4) C dX10_whole_4 rfl 1 rfl ?_
  refine j_callV (pc := 5) (As := [.int p0]) (rest := []) (wr := [(x0, .inr (10, [.ref r0, .ref a0, .ref n0, .ref k0, .ref x1, .ref q0, .ref o0, .ref h0, .ref s0, .ref d0])), (a5, .inl (cyI, 12, .inl a_breaks)), (n0, .inr (7, [.ref n1, .ref n2, .ref n3, .ref n4, .int n_askings, .int n_cost, .int n_laid])), (n1, .inl (cyI, 12, .inl n_shelf)), (n2, .inl (cyI, 12, .inl n_stack)), (n3, .inl (cyI, 12, .inl n_level)), (n4, .inl (cyI, 30, .inl n_asking)), (d0, .inr (2, [.ref d1])), (d1, .inl (cyJ, 4, .inr (.inl d_digits)))]) C (c_X9_isWare l D cyC cyI cyJ cyZ cyO a0 a1 a2 a3 a4 a5 a6 a7 a8 a9 a10 p0 a_wares a_shelves a_nests a_lids a_tops h_a_wares h_a_shelves h_a_nests) wd_467 wd_33 wd_468 wd_469 wd_470 ⟨by decide, by decide, rfl⟩ rfl ⟨rfl, rfl, by decide, by decide⟩ ⟨by decide, by decide⟩ [1] [0, 2, 3, 4, 5, 6, 7, 8, 9] rfl rfl ⟨by decide, by decide, by decide⟩ 1 rfl rfl rfl (Nat.le_of_ble_eq_true rfl) dX10_whole_5 (fun u_1 hw_2 => ?_)
  refine j_eq (ws2 := [(x0, .inr (10, [.ref r0, .ref a0, .ref n0, .ref k0, .ref x1, .ref q0, .ref o0, .ref h0, .ref s0, .ref d0])), (a5, .inl (cyI, 12, .inl a_breaks)), (n0, .inr (7, [.ref n1, .ref n2, .ref n3, .ref n4, .int n_askings, .int n_cost, .int n_laid])), (n1, .inl (cyI, 12, .inl n_shelf)), (n2, .inl (cyI, 12, .inl n_stack)), (n3, .inl (cyI, 12, .inl n_level)), (n4, .inl (cyI, 30, .inl n_asking)), (d0, .inr (2, [.ref d1])), (d1, .inl (cyJ, 4, .inr (.inl d_digits))), (a0, .inr (9, [.int a_wares, .int a_shelves, .int a_nests, .ref a1, .ref a2, .ref a3, .ref a4, .ref a5, .ref a6, .int a_lids, .int a_tops, .ref a7, .ref a8, .ref a9, .ref a10]))]) (pc2 := 8) (lv2 := [(0, .ref x0), (1, .int p0), (2, .int p1)]) (st2 := [.int (u_1.2.1 0)]) rfl rfl rfl rfl ?_
  obtain ⟨hw_2_0, hw_2_1, hw_2_2⟩ := hw_2
  refine j_if_eq (pc := 8) (tgt := 20) C dX10_whole_8 (by decide) (fun c_3 => ?_) (fun c_3 => ?_)
  · skip
    have el_0 : (0 : Int32).toInt = 0 := rfl
    rw [i_eq] at c_3
    exact j_throw (pc := 20) (is := 304) (i := 0) C htr hE htab hk wd_1048 wd_1049 (by decide) rfl dX10_whole_20 dX10_whole_23 dX10_whole_24 dX10_whole_27 dX10_whole_30 [0, 9, 1, 2, 3, 4, 5, 6, 7, 8] (by decide) rfl (by decide) (Nat.le_of_ble_eq_true rfl) (by decide) (by decide) (by decide) (by decide)
  · skip
    have el_0 : (0 : Int32).toInt = 0 := rfl
    rw [i_eq] at c_3
    have k0c_3 : ((u_1.2.1 0)).toInt = 1 := by omega
    refine j_iload_n (pc := 11) C dX10_whole_11 rfl 2 rfl ?_
    refine j_if_lt (pc := 12) (tgt := 20) C dX10_whole_12 (by decide) (fun c_4 => ?_) (fun c_4 => ?_)
    · skip
      have el_0 : (0 : Int32).toInt = 0 := rfl
      rw [i_lt] at c_4
      exact j_throw (pc := 20) (is := 304) (i := 0) C htr hE htab hk wd_1048 wd_1049 (by decide) rfl dX10_whole_20 dX10_whole_23 dX10_whole_24 dX10_whole_27 dX10_whole_30 [0, 9, 1, 2, 3, 4, 5, 6, 7, 8] (by decide) rfl (by decide) (Nat.le_of_ble_eq_true rfl) (by decide) (by decide) (by decide) (by decide)
    · skip
      have el_0 : (0 : Int32).toInt = 0 := rfl
      rw [i_lt] at c_4
      refine j_iload_n (pc := 15) C dX10_whole_15 rfl 2 rfl ?_
      refine j_iconst (pc := 16) (v := 4) C dX10_whole_16 (by decide) ?_
      refine j_icmp_le (pc := 17) (tgt := 31) C dX10_whole_17 (by decide) (fun c_5 => ?_) (fun c_5 => ?_)
      · skip
        have el_4 : (4 : Int32).toInt = 4 := rfl
        rw [i_le] at c_5
        refine j_aload_n (pc := 31) C dX10_whole_31 rfl 0 rfl ?_
        refine j_get (pc := 32) (ci := 10) (v := .ref n0) C inw_10 0 rfl rfl 2 (by decide) wd_466 rfl rfl dX10_whole_32 ?_
        refine j_iload_n (pc := 35) C dX10_whole_35 rfl 1 rfl ?_
        refine j_callV (pc := 36) (As := [.int p0]) (rest := []) (wr := [(x0, .inr (10, [.ref r0, .ref a0, .ref n0, .ref k0, .ref x1, .ref q0, .ref o0, .ref h0, .ref s0, .ref d0])), (a5, .inl (cyI, 12, .inl a_breaks)), (d0, .inr (2, [.ref d1])), (d1, .inl (cyJ, 4, .inr (.inl d_digits))), (a0, .inr (9, [.int a_wares, .int a_shelves, .int a_nests, .ref a1, .ref a2, .ref a3, .ref a4, .ref a5, .ref a6, .int a_lids, .int a_tops, .ref a7, .ref a8, .ref a9, .ref a10]))]) C (c_X7_lifts l D cyC cyI cyJ cyZ cyO n0 n1 n2 n3 n4 p0 n_askings n_cost n_laid n_shelf n_stack n_level n_asking h_n_askings h_n_laid (by omega) h_n_shelf h_n_stack h_n_level h_n_asking) wd_1050 wd_9 wd_1051 wd_1052 wd_1053 ⟨by decide, by decide, rfl⟩ rfl ⟨rfl, rfl, by decide, by decide⟩ ⟨by decide, by decide⟩ [2, 3, 4, 5, 6] [0, 1, 7, 8, 9] rfl rfl ⟨by decide, by decide, by decide⟩ 2 rfl rfl rfl (Nat.le_of_ble_eq_true rfl) dX10_whole_36 (fun u_6 hw_7 => ?_)
        refine j_eq (ws2 := [(x0, .inr (10, [.ref r0, .ref a0, .ref n0, .ref k0, .ref x1, .ref q0, .ref o0, .ref h0, .ref s0, .ref d0])), (a5, .inl (cyI, 12, .inl a_breaks)), (d0, .inr (2, [.ref d1])), (d1, .inl (cyJ, 4, .inr (.inl d_digits))), (a0, .inr (9, [.int a_wares, .int a_shelves, .int a_nests, .ref a1, .ref a2, .ref a3, .ref a4, .ref a5, .ref a6, .int a_lids, .int a_tops, .ref a7, .ref a8, .ref a9, .ref a10])), (n0, .inr (7, [.ref n1, .ref n2, .ref n3, .ref n4, .int n_askings, .int n_cost, .int n_laid])), (n1, .inl (cyI, 12, .inl n_shelf)), (n2, .inl (cyI, 12, .inl n_stack)), (n3, .inl (cyI, 12, .inl n_level)), (n4, .inl (cyI, 30, .inl n_asking))]) (pc2 := 39) (lv2 := [(0, .ref x0), (1, .int p0), (2, .int p1)]) (st2 := [.int (u_6.2.1 0)]) rfl rfl rfl rfl ?_
        refine j_istore_n (pc := 39) (lv' := [(3, .int (u_6.2.1 0)), (0, .ref x0), (1, .int p0), (2, .int p1)]) C dX10_whole_39 rfl (by decide) rfl ?_
        refine j_iload_n (pc := 40) C dX10_whole_40 rfl 0 rfl ?_
        refine j_bipush (pc := 41) (v := 17) C dX10_whole_41 (by decide) ?_
        refine j_icmp_le (pc := 43) (tgt := 57) C dX10_whole_43 (by decide) (fun c_8 => ?_) (fun c_8 => ?_)
        · skip
          have el_17 : (17 : Int32).toInt = 17 := rfl
          rw [i_le] at c_8
          refine j_iload_n (pc := 57) C dX10_whole_57 rfl 3 rfl ?_
          refine j_iconst (pc := 58) (v := 4) C dX10_whole_58 (by decide) ?_
          refine j_icmp_ne (pc := 59) (tgt := 65) C dX10_whole_59 (by decide) (fun c_9 => ?_) (fun c_9 => ?_)
          · skip
            have el_4 : (4 : Int32).toInt = 4 := rfl
            rw [i_eq] at c_9
            refine j_aload_n (pc := 65) C dX10_whole_65 rfl 1 rfl ?_
            refine j_get (pc := 66) (ci := 10) (v := .ref d0) C inw_10 0 rfl rfl 9 (by decide) wd_1021 rfl rfl dX10_whole_66 ?_
            refine j_bipush (pc := 69) (v := 100) C dX10_whole_69 (by decide) ?_
            refine j_aload_n (pc := 71) C dX10_whole_71 rfl 1 rfl ?_
            refine j_get (pc := 72) (ci := 10) (v := .ref a0) C inw_10 0 rfl rfl 1 (by decide) wd_447 rfl rfl dX10_whole_72 ?_
            refine j_get (pc := 75) (ci := 9) (v := .ref a5) C inw_9 4 rfl rfl 7 (by decide) wd_475 rfl rfl dX10_whole_75 ?_
            refine j_iload_n (pc := 78) C dX10_whole_78 rfl 2 rfl ?_
            obtain ⟨v_10, ev_10⟩ : ∃ z, a_breaks (p0).toInt.toNat = z := ⟨_, rfl⟩
            have env_10 : (a_breaks (p0).toInt.toNat).toInt = v_10.toInt := by rw [ev_10]
            refine j_iald (pc := 79) (v := v_10) (k := (p0).toInt.toNat) C 1 1 rfl rfl (i_nn (by omega)) rfl (i_lt_n (by omega) (by omega)) ev_10 dX10_whole_79 ?_
            obtain ⟨v_11, ev_11⟩ : ∃ z : Int32, 100 - v_10 = z := ⟨_, rfl⟩
            have el_100 : (100 : Int32).toInt = 100 := rfl
            refine j_isub (pc := 80) (v := v_11) C dX10_whole_80 ev_11 ?_
            refine j_iload_n (pc := 81) C dX10_whole_81 rfl 0 rfl ?_
            have hb9 := i_bd (u_6.2.1 0)
            refine j_callV (pc := 82) (As := [.int v_11, .int (u_6.2.1 0)]) (rest := []) (wr := [(x0, .inr (10, [.ref r0, .ref a0, .ref n0, .ref k0, .ref x1, .ref q0, .ref o0, .ref h0, .ref s0, .ref d0])), (a5, .inl (cyI, 12, .inl a_breaks)), (a0, .inr (9, [.int a_wares, .int a_shelves, .int a_nests, .ref a1, .ref a2, .ref a3, .ref a4, .ref a5, .ref a6, .int a_lids, .int a_tops, .ref a7, .ref a8, .ref a9, .ref a10])), (n0, .inr (7, [.ref n1, .ref n2, .ref n3, .ref n4, .int n_askings, .int n_cost, .int n_laid])), (n1, .inl (cyI, 12, .inl n_shelf)), (n2, .inl (cyI, 12, .inl n_stack)), (n3, .inl (cyI, 12, .inl n_level)), (n4, .inl (cyI, 30, .inl n_asking))]) C (c_X2_power_b l D cyC cyI cyJ cyZ cyO d0 d1 v_11 (u_6.2.1 0) d_digits (by omega)) wd_1054 wd_1018 wd_1055 wd_1056 wd_1057 ⟨by decide, by decide, rfl⟩ rfl ⟨rfl, rfl, by decide, by decide⟩ ⟨by decide, by decide⟩ [2, 3] [0, 1, 4, 5, 6, 7, 8, 9] rfl rfl ⟨by decide, by decide, by decide⟩ 2 rfl rfl rfl (Nat.le_of_ble_eq_true rfl) dX10_whole_82 (fun u_12 hw_13 => ?_)
            refine j_eq (ws2 := [(x0, .inr (10, [.ref r0, .ref a0, .ref n0, .ref k0, .ref x1, .ref q0, .ref o0, .ref h0, .ref s0, .ref d0])), (a5, .inl (cyI, 12, .inl a_breaks)), (a0, .inr (9, [.int a_wares, .int a_shelves, .int a_nests, .ref a1, .ref a2, .ref a3, .ref a4, .ref a5, .ref a6, .int a_lids, .int a_tops, .ref a7, .ref a8, .ref a9, .ref a10])), (n0, .inr (7, [.ref n1, .ref n2, .ref n3, .ref n4, .int n_askings, .int n_cost, .int n_laid])), (n1, .inl (cyI, 12, .inl n_shelf)), (n2, .inl (cyI, 12, .inl n_stack)), (n3, .inl (cyI, 12, .inl n_level)), (n4, .inl (cyI, 30, .inl n_asking)), (d0, .inr (2, [.ref d1])), (d1, .inl (cyJ, 4, .inr (.inl (u_12.2.2.2 0))))]) (pc2 := 85) (lv2 := [(3, .int (u_6.2.1 0)), (0, .ref x0), (1, .int p0), (2, .int p1)]) (st2 := []) rfl rfl rfl rfl ?_
            refine j_aload_n (pc := 85) C dX10_whole_85 rfl 1 rfl ?_
            refine j_get (pc := 86) (ci := 10) (v := .ref d0) C inw_10 0 rfl rfl 9 (by decide) wd_1021 rfl rfl dX10_whole_86 ?_
            refine j_get (pc := 89) (ci := 2) (v := .ref d1) C inw_2 8 rfl rfl 0 (by decide) wd_1058 rfl rfl dX10_whole_89 ?_
            refine j_iload_n (pc := 92) C dX10_whole_92 rfl 3 rfl ?_
            obtain ⟨v_14, ev_14⟩ : ∃ z, (u_12.2.2.2 0) (p1).toInt.toNat = z := ⟨_, rfl⟩
            refine j_lald (pc := 93) (v := v_14) (k := (p1).toInt.toNat) C 9 2 rfl rfl (i_nn (by omega)) rfl (i_lt_n (by omega) (by omega)) ev_14 dX10_whole_93 ?_
            exact j_vx (j_lret (pc := 94) C hr hk (fun i => [].getD i 0, fun i => [].getD i 0, fun i => [].getD i (fun _ => 0), fun i => [(fun _ => v_14), (u_12.2.2.2 0)].getD i (fun _ => 0)) rfl trivial [0, 2, 1, 3, 4, 5, 6, 7, 8, 9] (by decide) rfl (by decide) (by decide) dX10_whole_94)
          · skip
            have el_4 : (4 : Int32).toInt = 4 := rfl
            rw [i_eq] at c_9
            refine j_iload_n (pc := 62) C dX10_whole_62 rfl 0 rfl ?_
            refine j_i2l (pc := 63) C dX10_whole_63 rfl ?_
            exact j_vx (j_lret (pc := 64) C hr hk (fun i => [].getD i 0, fun i => [].getD i 0, fun i => [].getD i (fun _ => 0), fun i => [(fun _ => ((u_6.2.1 0)).toInt64), d_digits].getD i (fun _ => 0)) rfl trivial [0, 4, 1, 5, 6, 7, 8, 9, 2, 3] (by decide) rfl (by decide) (by decide) dX10_whole_64)
        · skip
          have el_17 : (17 : Int32).toInt = 17 := rfl
          rw [i_le] at c_8
          exact j_throw (pc := 46) (is := 312) (i := 1) C htr hE htab hk wd_1048 wd_1049 (by decide) rfl dX10_whole_46 dX10_whole_49 dX10_whole_50 dX10_whole_53 dX10_whole_56 [0, 4, 1, 5, 6, 7, 8, 9, 2, 3] (by decide) rfl (by decide) (Nat.le_of_ble_eq_true rfl) (by decide) (by decide) (by decide) (by decide)
      · skip
        have el_4 : (4 : Int32).toInt = 4 := rfl
        rw [i_le] at c_5
        exact j_throw (pc := 20) (is := 304) (i := 0) C htr hE htab hk wd_1048 wd_1049 (by decide) rfl dX10_whole_20 dX10_whole_23 dX10_whole_24 dX10_whole_27 dX10_whole_30 [0, 9, 1, 2, 3, 4, 5, 6, 7, 8] (by decide) rfl (by decide) (Nat.le_of_ble_eq_true rfl) (by decide) (by decide) (by decide) (by decide)
