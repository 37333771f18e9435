theorem dX5_fact_0 : decode cX5_fact 0 = .ok (.aload_n 0, 1) := by decide +kernel
theorem dX5_fact_1 : decode cX5_fact 1 = .ok (.getfield 12, 3) := by decide +kernel
theorem dX5_fact_4 : decode cX5_fact 4 = .ok (.ldc 236, 2) := by decide +kernel
theorem dX5_fact_6 : decode cX5_fact 6 = .ok (.invokevirtual 88, 3) := by decide +kernel
theorem dX5_fact_9 : decode cX5_fact 9 = .ok (.ifCond .eq 5, 3) := by decide +kernel
theorem dX5_fact_12 : decode cX5_fact 12 = .ok (.iconst (-1), 1) := by decide +kernel
theorem dX5_fact_13 : decode cX5_fact 13 = .ok (.ireturn, 1) := by decide +kernel
theorem dX5_fact_14 : decode cX5_fact 14 = .ok (.aload_n 0, 1) := by decide +kernel
theorem dX5_fact_15 : decode cX5_fact 15 = .ok (.getfield 12, 3) := by decide +kernel
theorem dX5_fact_18 : decode cX5_fact 18 = .ok (.ldc 238, 2) := by decide +kernel
theorem dX5_fact_20 : decode cX5_fact 20 = .ok (.invokevirtual 88, 3) := by decide +kernel
theorem dX5_fact_23 : decode cX5_fact 23 = .ok (.ifCond .eq 6, 3) := by decide +kernel
theorem dX5_fact_26 : decode cX5_fact 26 = .ok (.bipush (-2), 2) := by decide +kernel
theorem dX5_fact_28 : decode cX5_fact 28 = .ok (.ireturn, 1) := by decide +kernel
theorem dX5_fact_29 : decode cX5_fact 29 = .ok (.aload_n 0, 1) := by decide +kernel
theorem dX5_fact_30 : decode cX5_fact 30 = .ok (.getfield 12, 3) := by decide +kernel
theorem dX5_fact_33 : decode cX5_fact 33 = .ok (.ldc 240, 2) := by decide +kernel
theorem dX5_fact_35 : decode cX5_fact 35 = .ok (.invokevirtual 88, 3) := by decide +kernel
theorem dX5_fact_38 : decode cX5_fact 38 = .ok (.ifCond .eq 6, 3) := by decide +kernel
theorem dX5_fact_41 : decode cX5_fact 41 = .ok (.bipush (-3), 2) := by decide +kernel
theorem dX5_fact_43 : decode cX5_fact 43 = .ok (.ireturn, 1) := by decide +kernel
theorem dX5_fact_44 : decode cX5_fact 44 = .ok (.aload_n 0, 1) := by decide +kernel
theorem dX5_fact_45 : decode cX5_fact 45 = .ok (.getfield 12, 3) := by decide +kernel
theorem dX5_fact_48 : decode cX5_fact 48 = .ok (.ldc 136, 2) := by decide +kernel
theorem dX5_fact_50 : decode cX5_fact 50 = .ok (.invokevirtual 88, 3) := by decide +kernel
theorem dX5_fact_53 : decode cX5_fact 53 = .ok (.ifCond .eq 6, 3) := by decide +kernel
theorem dX5_fact_56 : decode cX5_fact 56 = .ok (.bipush (-4), 2) := by decide +kernel
theorem dX5_fact_58 : decode cX5_fact 58 = .ok (.ireturn, 1) := by decide +kernel
theorem dX5_fact_59 : decode cX5_fact 59 = .ok (.aload_n 0, 1) := by decide +kernel
theorem dX5_fact_60 : decode cX5_fact 60 = .ok (.getfield 12, 3) := by decide +kernel
theorem dX5_fact_63 : decode cX5_fact 63 = .ok (.ldc 242, 2) := by decide +kernel
theorem dX5_fact_65 : decode cX5_fact 65 = .ok (.invokevirtual 88, 3) := by decide +kernel
theorem dX5_fact_68 : decode cX5_fact 68 = .ok (.ifCond .eq 6, 3) := by decide +kernel
theorem dX5_fact_71 : decode cX5_fact 71 = .ok (.bipush (-5), 2) := by decide +kernel
theorem dX5_fact_73 : decode cX5_fact 73 = .ok (.ireturn, 1) := by decide +kernel
theorem dX5_fact_74 : decode cX5_fact 74 = .ok (.aload_n 0, 1) := by decide +kernel
theorem dX5_fact_75 : decode cX5_fact 75 = .ok (.getfield 12, 3) := by decide +kernel
theorem dX5_fact_78 : decode cX5_fact 78 = .ok (.ldc 244, 2) := by decide +kernel
theorem dX5_fact_80 : decode cX5_fact 80 = .ok (.invokevirtual 88, 3) := by decide +kernel
theorem dX5_fact_83 : decode cX5_fact 83 = .ok (.ifCond .eq 6, 3) := by decide +kernel
theorem dX5_fact_86 : decode cX5_fact 86 = .ok (.bipush (-6), 2) := by decide +kernel
theorem dX5_fact_88 : decode cX5_fact 88 = .ok (.ireturn, 1) := by decide +kernel
theorem dX5_fact_89 : decode cX5_fact 89 = .ok (.aload_n 0, 1) := by decide +kernel
theorem dX5_fact_90 : decode cX5_fact 90 = .ok (.getfield 12, 3) := by decide +kernel
theorem dX5_fact_93 : decode cX5_fact 93 = .ok (.ldc 95, 2) := by decide +kernel
theorem dX5_fact_95 : decode cX5_fact 95 = .ok (.invokevirtual 88, 3) := by decide +kernel
theorem dX5_fact_98 : decode cX5_fact 98 = .ok (.ifCond .eq 6, 3) := by decide +kernel
theorem dX5_fact_101 : decode cX5_fact 101 = .ok (.bipush (-7), 2) := by decide +kernel
theorem dX5_fact_103 : decode cX5_fact 103 = .ok (.ireturn, 1) := by decide +kernel
theorem dX5_fact_104 : decode cX5_fact 104 = .ok (.aload_n 0, 1) := by decide +kernel
theorem dX5_fact_105 : decode cX5_fact 105 = .ok (.getfield 12, 3) := by decide +kernel
theorem dX5_fact_108 : decode cX5_fact 108 = .ok (.ldc 246, 2) := by decide +kernel
theorem dX5_fact_110 : decode cX5_fact 110 = .ok (.invokevirtual 88, 3) := by decide +kernel
theorem dX5_fact_113 : decode cX5_fact 113 = .ok (.ifCond .eq 8, 3) := by decide +kernel
theorem dX5_fact_116 : decode cX5_fact 116 = .ok (.bipush (-8), 2) := by decide +kernel
theorem dX5_fact_118 : decode cX5_fact 118 = .ok (.goto 5, 3) := by decide +kernel
theorem dX5_fact_121 : decode cX5_fact 121 = .ok (.bipush (-100), 2) := by decide +kernel
theorem dX5_fact_123 : decode cX5_fact 123 = .ok (.ireturn, 1) := by decide +kernel
theorem dX5_joint_0 : decode cX5_joint 0 = .ok (.iload_n 1, 1) := by decide +kernel
theorem dX5_joint_1 : decode cX5_joint 1 = .ok (.tableswitch 138 0 2 #[27, 64, 101], 27) := by decide +kernel
theorem dX5_joint_28 : decode cX5_joint 28 = .ok (.aload_n 0, 1) := by decide +kernel
theorem dX5_joint_29 : decode cX5_joint 29 = .ok (.getfield 12, 3) := by decide +kernel
theorem dX5_joint_32 : decode cX5_joint 32 = .ok (.ldc 226, 2) := by decide +kernel
theorem dX5_joint_34 : decode cX5_joint 34 = .ok (.invokevirtual 88, 3) := by decide +kernel
theorem dX5_joint_37 : decode cX5_joint 37 = .ok (.ifCond .eq 8, 3) := by decide +kernel
theorem dX5_joint_40 : decode cX5_joint 40 = .ok (.bipush (-10), 2) := by decide +kernel
theorem dX5_joint_42 : decode cX5_joint 42 = .ok (.goto 22, 3) := by decide +kernel
theorem dX5_joint_45 : decode cX5_joint 45 = .ok (.aload_n 0, 1) := by decide +kernel
theorem dX5_joint_46 : decode cX5_joint 46 = .ok (.getfield 12, 3) := by decide +kernel
theorem dX5_joint_49 : decode cX5_joint 49 = .ok (.ldc 228, 2) := by decide +kernel
theorem dX5_joint_51 : decode cX5_joint 51 = .ok (.invokevirtual 88, 3) := by decide +kernel
theorem dX5_joint_54 : decode cX5_joint 54 = .ok (.ifCond .eq 8, 3) := by decide +kernel
theorem dX5_joint_57 : decode cX5_joint 57 = .ok (.bipush (-11), 2) := by decide +kernel
theorem dX5_joint_59 : decode cX5_joint 59 = .ok (.goto 5, 3) := by decide +kernel
theorem dX5_joint_62 : decode cX5_joint 62 = .ok (.bipush (-100), 2) := by decide +kernel
theorem dX5_joint_64 : decode cX5_joint 64 = .ok (.ireturn, 1) := by decide +kernel
theorem dX5_joint_65 : decode cX5_joint 65 = .ok (.aload_n 0, 1) := by decide +kernel
theorem dX5_joint_66 : decode cX5_joint 66 = .ok (.getfield 12, 3) := by decide +kernel
theorem dX5_joint_69 : decode cX5_joint 69 = .ok (.bipush 60, 2) := by decide +kernel
theorem dX5_joint_71 : decode cX5_joint 71 = .ok (.invokevirtual 213, 3) := by decide +kernel
theorem dX5_joint_74 : decode cX5_joint 74 = .ok (.ifCond .eq 8, 3) := by decide +kernel
theorem dX5_joint_77 : decode cX5_joint 77 = .ok (.bipush (-12), 2) := by decide +kernel
theorem dX5_joint_79 : decode cX5_joint 79 = .ok (.goto 22, 3) := by decide +kernel
theorem dX5_joint_82 : decode cX5_joint 82 = .ok (.aload_n 0, 1) := by decide +kernel
theorem dX5_joint_83 : decode cX5_joint 83 = .ok (.getfield 12, 3) := by decide +kernel
theorem dX5_joint_86 : decode cX5_joint 86 = .ok (.bipush 61, 2) := by decide +kernel
theorem dX5_joint_88 : decode cX5_joint 88 = .ok (.invokevirtual 213, 3) := by decide +kernel
theorem dX5_joint_91 : decode cX5_joint 91 = .ok (.ifCond .eq 8, 3) := by decide +kernel
theorem dX5_joint_94 : decode cX5_joint 94 = .ok (.bipush (-13), 2) := by decide +kernel
theorem dX5_joint_96 : decode cX5_joint 96 = .ok (.goto 5, 3) := by decide +kernel
theorem dX5_joint_99 : decode cX5_joint 99 = .ok (.bipush (-100), 2) := by decide +kernel
theorem dX5_joint_101 : decode cX5_joint 101 = .ok (.ireturn, 1) := by decide +kernel
theorem dX5_joint_102 : decode cX5_joint 102 = .ok (.aload_n 0, 1) := by decide +kernel
theorem dX5_joint_103 : decode cX5_joint 103 = .ok (.getfield 12, 3) := by decide +kernel
theorem dX5_joint_106 : decode cX5_joint 106 = .ok (.bipush 43, 2) := by decide +kernel
theorem dX5_joint_108 : decode cX5_joint 108 = .ok (.invokevirtual 213, 3) := by decide +kernel
theorem dX5_joint_111 : decode cX5_joint 111 = .ok (.ifCond .eq 8, 3) := by decide +kernel
theorem dX5_joint_114 : decode cX5_joint 114 = .ok (.bipush (-14), 2) := by decide +kernel
theorem dX5_joint_116 : decode cX5_joint 116 = .ok (.goto 22, 3) := by decide +kernel
theorem dX5_joint_119 : decode cX5_joint 119 = .ok (.aload_n 0, 1) := by decide +kernel
theorem dX5_joint_120 : decode cX5_joint 120 = .ok (.getfield 12, 3) := by decide +kernel
theorem dX5_joint_123 : decode cX5_joint 123 = .ok (.bipush 45, 2) := by decide +kernel
theorem dX5_joint_125 : decode cX5_joint 125 = .ok (.invokevirtual 213, 3) := by decide +kernel
theorem dX5_joint_128 : decode cX5_joint 128 = .ok (.ifCond .eq 8, 3) := by decide +kernel
theorem dX5_joint_131 : decode cX5_joint 131 = .ok (.bipush (-15), 2) := by decide +kernel
theorem dX5_joint_133 : decode cX5_joint 133 = .ok (.goto 5, 3) := by decide +kernel
theorem dX5_joint_136 : decode cX5_joint 136 = .ok (.bipush (-100), 2) := by decide +kernel
theorem dX5_joint_138 : decode cX5_joint 138 = .ok (.ireturn, 1) := by decide +kernel
theorem dX5_joint_139 : decode cX5_joint 139 = .ok (.aload_n 0, 1) := by decide +kernel
theorem dX5_joint_140 : decode cX5_joint 140 = .ok (.getfield 12, 3) := by decide +kernel
theorem dX5_joint_143 : decode cX5_joint 143 = .ok (.bipush 42, 2) := by decide +kernel
theorem dX5_joint_145 : decode cX5_joint 145 = .ok (.invokevirtual 213, 3) := by decide +kernel
theorem dX5_joint_148 : decode cX5_joint 148 = .ok (.ifCond .eq 8, 3) := by decide +kernel
theorem dX5_joint_151 : decode cX5_joint 151 = .ok (.bipush (-16), 2) := by decide +kernel
theorem dX5_joint_153 : decode cX5_joint 153 = .ok (.goto 5, 3) := by decide +kernel
theorem dX5_joint_156 : decode cX5_joint 156 = .ok (.bipush (-100), 2) := by decide +kernel
theorem dX5_joint_158 : decode cX5_joint 158 = .ok (.ireturn, 1) := by decide +kernel
set_option maxHeartbeats 4000000 in
set_option maxRecDepth 100000 in
theorem c_X5_fact (l : Launch) (D : DG) (cyC cyI cyJ cyZ cyO : ClassId) (r0 : Nat) (t0 : Nat) (t1 : Nat) (e0 : Nat) (r1 : Nat) (r2 : Nat) (a0 : Nat) (r_habits : Int32) (r_fault : Int32) (t_length : Int32) (t_next : Int32) (t_kind : Int32) (t_place : Int32) (t_number : Int32) (t_text : Nat → Int32) (h_t_length : 0 ≤ (t_length).toInt ∧ (t_length).toInt ≤ 1000) (h_t_next : 0 ≤ (t_next).toInt ∧ (t_next).toInt ≤ 1000) (h_t_kind : 0 ≤ (t_kind).toInt ∧ (t_kind).toInt ≤ 4) (h_t_place : 0 ≤ (t_place).toInt ∧ (t_place).toInt ≤ 1000) (h_t_text : Iv 1000 (0) (126) t_text) (hTH : TH t_text (t_length).toInt.toNat (t_next).toInt (t_kind).toInt (t_place).toInt (t_number).toInt) : KK l D (TY cyC cyI cyJ cyZ cyO) yX5_fact cX5_fact 1 (some .int) ({ frames := 5, cells := 0, slots := 0, locals := 107 } : Room) 0 0 [.ref r0] [(r0, .inr (5, [.ref t0, .ref e0, .ref r1, .ref r2, .ref a0, .int r_habits, .int r_fault])), (t0, .inr (8, [.ref t1, .int t_length, .int t_next, .int t_kind, .int t_place, .int t_number])), (t1, .inl (cyC, 1000, .inl t_text))] (fun u => some (.int (u.2.1 0))) (fun u => (-100 ≤ (u.2.1 0).toInt ∧ (u.2.1 0).toInt ≤ -1) ∧ (IM (isFct (TKS t_text (t_length).toInt.toNat) (t_place).toInt.toNat = true) ((u.2.1 0).toInt = -1 - ((fci (TKS t_text (t_length).toInt.toNat) (t_place).toInt.toNat : Nat) : Int))) ∧ (OR2 ((u.2.1 0).toInt = -100 ∧ isFct (TKS t_text (t_length).toInt.toNat) (t_place).toInt.toNat = false) (¬ (u.2.1 0).toInt = -100 ∧ isFct (TKS t_text (t_length).toInt.toNat) (t_place).toInt.toNat = true))) (fun u => [(r0, .inr (5, [.ref t0, .ref e0, .ref r1, .ref r2, .ref a0, .int r_habits, .int r_fault])), (t0, .inr (8, [.ref t1, .int t_length, .int t_next, .int t_kind, .int t_place, .int t_number])), (t1, .inl (cyC, 1000, .inl t_text))]) := by
  refine KK.of (lv0 := [(0, .ref r0)]) (by decide) rfl (Nat.le_of_ble_eq_true rfl) ?_
  intro p e s m args below meth c A C hr hk hin
  refine j_aload_n (pc := 0) C dX5_fact_0 rfl 0 rfl ?_
  refine j_get (pc := 1) (ci := 5) (v := .ref t0) C inw_5 0 rfl rfl 0 (by decide) wd_296 rfl rfl dX5_fact_1 ?_
  refine j_ldcS (pc := 4) (i := 19) C (by decide) rfl dX5_fact_4 ?_
  refine j_callV (pc := 6) (As := [.ref (D.2.1 19)]) (rest := []) (wr := [(r0, .inr (5, [.ref t0, .ref e0, .ref r1, .ref r2, .ref a0, .int r_habits, .int r_fault]))]) C (c_X8_isWord_f l D cyC cyI cyJ cyZ cyO t0 t1 19 t_length t_next t_kind t_place t_number t_text h_t_length h_t_next h_t_kind h_t_place h_t_text (by decide) ⟨by decide, by decide, by decide⟩ hTH) wd_288 wd_258 wd_312 wd_290 wd_291 ⟨by decide, by decide, rfl⟩ rfl ⟨rfl, rfl, by decide, by decide⟩ ⟨by decide, by decide⟩ [1, 2] [0] rfl rfl ⟨by decide, by decide, by decide⟩ 1 rfl rfl rfl (Nat.le_of_ble_eq_true rfl) dX5_fact_6 (fun u_1 hw_2 => ?_)
  refine j_eq (ws2 := [(r0, .inr (5, [.ref t0, .ref e0, .ref r1, .ref r2, .ref a0, .int r_habits, .int r_fault])), (t0, .inr (8, [.ref t1, .int t_length, .int t_next, .int t_kind, .int t_place, .int t_number])), (t1, .inl (cyC, 1000, .inl t_text))]) (pc2 := 9) (lv2 := [(0, .ref r0)]) (st2 := [.int (u_1.2.1 0)]) rfl rfl rfl rfl ?_
  obtain ⟨hw_2_0, hw_2_1⟩ := hw_2
  have hW_u_1 : (u_1.2.1 0).toInt = wI (TKS t_text (t_length).toInt.toNat) (t_place).toInt.toNat (WN 17) := by rw [← wnE_19]; exact hw_2_1
  refine j_if_eq (pc := 9) (tgt := 14) C dX5_fact_9 (by decide) (fun c_3 => ?_) (fun c_3 => ?_)
  · skip
    have el_0 : (0 : Int32).toInt = 0 := rfl
    rw [i_eq] at c_3
    refine j_aload_n (pc := 14) C dX5_fact_14 rfl 0 rfl ?_
    refine j_get (pc := 15) (ci := 5) (v := .ref t0) C inw_5 0 rfl rfl 0 (by decide) wd_296 rfl rfl dX5_fact_15 ?_
    refine j_ldcS (pc := 18) (i := 20) C (by decide) rfl dX5_fact_18 ?_
    refine j_callV (pc := 20) (As := [.ref (D.2.1 20)]) (rest := []) (wr := [(r0, .inr (5, [.ref t0, .ref e0, .ref r1, .ref r2, .ref a0, .int r_habits, .int r_fault]))]) C (c_X8_isWord_f l D cyC cyI cyJ cyZ cyO t0 t1 20 t_length t_next t_kind t_place t_number t_text h_t_length h_t_next h_t_kind h_t_place h_t_text (by decide) ⟨by decide, by decide, by decide⟩ hTH) wd_288 wd_258 wd_312 wd_290 wd_291 ⟨by decide, by decide, rfl⟩ rfl ⟨rfl, rfl, by decide, by decide⟩ ⟨by decide, by decide⟩ [1, 2] [0] rfl rfl ⟨by decide, by decide, by decide⟩ 1 rfl rfl rfl (Nat.le_of_ble_eq_true rfl) dX5_fact_20 (fun u_4 hw_5 => ?_)
    refine j_eq (ws2 := [(r0, .inr (5, [.ref t0, .ref e0, .ref r1, .ref r2, .ref a0, .int r_habits, .int r_fault])), (t0, .inr (8, [.ref t1, .int t_length, .int t_next, .int t_kind, .int t_place, .int t_number])), (t1, .inl (cyC, 1000, .inl t_text))]) (pc2 := 23) (lv2 := [(0, .ref r0)]) (st2 := [.int (u_4.2.1 0)]) rfl rfl rfl rfl ?_
    obtain ⟨hw_5_0, hw_5_1⟩ := hw_5
    have hW_u_4 : (u_4.2.1 0).toInt = wI (TKS t_text (t_length).toInt.toNat) (t_place).toInt.toNat (WN 18) := by rw [← wnE_20]; exact hw_5_1
    refine j_if_eq (pc := 23) (tgt := 29) C dX5_fact_23 (by decide) (fun c_6 => ?_) (fun c_6 => ?_)
    · skip
      have el_0 : (0 : Int32).toInt = 0 := rfl
      rw [i_eq] at c_6
      refine j_aload_n (pc := 29) C dX5_fact_29 rfl 0 rfl ?_
      refine j_get (pc := 30) (ci := 5) (v := .ref t0) C inw_5 0 rfl rfl 0 (by decide) wd_296 rfl rfl dX5_fact_30 ?_
      refine j_ldcS (pc := 33) (i := 21) C (by decide) rfl dX5_fact_33 ?_
      refine j_callV (pc := 35) (As := [.ref (D.2.1 21)]) (rest := []) (wr := [(r0, .inr (5, [.ref t0, .ref e0, .ref r1, .ref r2, .ref a0, .int r_habits, .int r_fault]))]) C (c_X8_isWord_f l D cyC cyI cyJ cyZ cyO t0 t1 21 t_length t_next t_kind t_place t_number t_text h_t_length h_t_next h_t_kind h_t_place h_t_text (by decide) ⟨by decide, by decide, by decide⟩ hTH) wd_288 wd_258 wd_312 wd_290 wd_291 ⟨by decide, by decide, rfl⟩ rfl ⟨rfl, rfl, by decide, by decide⟩ ⟨by decide, by decide⟩ [1, 2] [0] rfl rfl ⟨by decide, by decide, by decide⟩ 1 rfl rfl rfl (Nat.le_of_ble_eq_true rfl) dX5_fact_35 (fun u_7 hw_8 => ?_)
      refine j_eq (ws2 := [(r0, .inr (5, [.ref t0, .ref e0, .ref r1, .ref r2, .ref a0, .int r_habits, .int r_fault])), (t0, .inr (8, [.ref t1, .int t_length, .int t_next, .int t_kind, .int t_place, .int t_number])), (t1, .inl (cyC, 1000, .inl t_text))]) (pc2 := 38) (lv2 := [(0, .ref r0)]) (st2 := [.int (u_7.2.1 0)]) rfl rfl rfl rfl ?_
      obtain ⟨hw_8_0, hw_8_1⟩ := hw_8
      have hW_u_7 : (u_7.2.1 0).toInt = wI (TKS t_text (t_length).toInt.toNat) (t_place).toInt.toNat (WN 19) := by rw [← wnE_21]; exact hw_8_1
      refine j_if_eq (pc := 38) (tgt := 44) C dX5_fact_38 (by decide) (fun c_9 => ?_) (fun c_9 => ?_)
      · skip
        have el_0 : (0 : Int32).toInt = 0 := rfl
        rw [i_eq] at c_9
        refine j_aload_n (pc := 44) C dX5_fact_44 rfl 0 rfl ?_
        refine j_get (pc := 45) (ci := 5) (v := .ref t0) C inw_5 0 rfl rfl 0 (by decide) wd_296 rfl rfl dX5_fact_45 ?_
        refine j_ldcS (pc := 48) (i := 9) C (by decide) rfl dX5_fact_48 ?_
        refine j_callV (pc := 50) (As := [.ref (D.2.1 9)]) (rest := []) (wr := [(r0, .inr (5, [.ref t0, .ref e0, .ref r1, .ref r2, .ref a0, .int r_habits, .int r_fault]))]) C (c_X8_isWord_f l D cyC cyI cyJ cyZ cyO t0 t1 9 t_length t_next t_kind t_place t_number t_text h_t_length h_t_next h_t_kind h_t_place h_t_text (by decide) ⟨by decide, by decide, by decide⟩ hTH) wd_288 wd_258 wd_312 wd_290 wd_291 ⟨by decide, by decide, rfl⟩ rfl ⟨rfl, rfl, by decide, by decide⟩ ⟨by decide, by decide⟩ [1, 2] [0] rfl rfl ⟨by decide, by decide, by decide⟩ 1 rfl rfl rfl (Nat.le_of_ble_eq_true rfl) dX5_fact_50 (fun u_10 hw_11 => ?_)
        refine j_eq (ws2 := [(r0, .inr (5, [.ref t0, .ref e0, .ref r1, .ref r2, .ref a0, .int r_habits, .int r_fault])), (t0, .inr (8, [.ref t1, .int t_length, .int t_next, .int t_kind, .int t_place, .int t_number])), (t1, .inl (cyC, 1000, .inl t_text))]) (pc2 := 53) (lv2 := [(0, .ref r0)]) (st2 := [.int (u_10.2.1 0)]) rfl rfl rfl rfl ?_
        obtain ⟨hw_11_0, hw_11_1⟩ := hw_11
        have hW_u_10 : (u_10.2.1 0).toInt = wI (TKS t_text (t_length).toInt.toNat) (t_place).toInt.toNat (WN 7) := by rw [← wnE_9]; exact hw_11_1
        refine j_if_eq (pc := 53) (tgt := 59) C dX5_fact_53 (by decide) (fun c_12 => ?_) (fun c_12 => ?_)
        · skip
          have el_0 : (0 : Int32).toInt = 0 := rfl
          rw [i_eq] at c_12
          refine j_aload_n (pc := 59) C dX5_fact_59 rfl 0 rfl ?_
          refine j_get (pc := 60) (ci := 5) (v := .ref t0) C inw_5 0 rfl rfl 0 (by decide) wd_296 rfl rfl dX5_fact_60 ?_
          refine j_ldcS (pc := 63) (i := 22) C (by decide) rfl dX5_fact_63 ?_
          refine j_callV (pc := 65) (As := [.ref (D.2.1 22)]) (rest := []) (wr := [(r0, .inr (5, [.ref t0, .ref e0, .ref r1, .ref r2, .ref a0, .int r_habits, .int r_fault]))]) C (c_X8_isWord_f l D cyC cyI cyJ cyZ cyO t0 t1 22 t_length t_next t_kind t_place t_number t_text h_t_length h_t_next h_t_kind h_t_place h_t_text (by decide) ⟨by decide, by decide, by decide⟩ hTH) wd_288 wd_258 wd_312 wd_290 wd_291 ⟨by decide, by decide, rfl⟩ rfl ⟨rfl, rfl, by decide, by decide⟩ ⟨by decide, by decide⟩ [1, 2] [0] rfl rfl ⟨by decide, by decide, by decide⟩ 1 rfl rfl rfl (Nat.le_of_ble_eq_true rfl) dX5_fact_65 (fun u_13 hw_14 => ?_)
          refine j_eq (ws2 := [(r0, .inr (5, [.ref t0, .ref e0, .ref r1, .ref r2, .ref a0, .int r_habits, .int r_fault])), (t0, .inr (8, [.ref t1, .int t_length, .int t_next, .int t_kind, .int t_place, .int t_number])), (t1, .inl (cyC, 1000, .inl t_text))]) (pc2 := 68) (lv2 := [(0, .ref r0)]) (st2 := [.int (u_13.2.1 0)]) rfl rfl rfl rfl ?_
          obtain ⟨hw_14_0, hw_14_1⟩ := hw_14
          have hW_u_13 : (u_13.2.1 0).toInt = wI (TKS t_text (t_length).toInt.toNat) (t_place).toInt.toNat (WN 20) := by rw [← wnE_22]; exact hw_14_1
          refine j_if_eq (pc := 68) (tgt := 74) C dX5_fact_68 (by decide) (fun c_15 => ?_) (fun c_15 => ?_)
          · skip
            have el_0 : (0 : Int32).toInt = 0 := rfl
            rw [i_eq] at c_15
            refine j_aload_n (pc := 74) C dX5_fact_74 rfl 0 rfl ?_
            refine j_get (pc := 75) (ci := 5) (v := .ref t0) C inw_5 0 rfl rfl 0 (by decide) wd_296 rfl rfl dX5_fact_75 ?_
            refine j_ldcS (pc := 78) (i := 23) C (by decide) rfl dX5_fact_78 ?_
            refine j_callV (pc := 80) (As := [.ref (D.2.1 23)]) (rest := []) (wr := [(r0, .inr (5, [.ref t0, .ref e0, .ref r1, .ref r2, .ref a0, .int r_habits, .int r_fault]))]) C (c_X8_isWord_f l D cyC cyI cyJ cyZ cyO t0 t1 23 t_length t_next t_kind t_place t_number t_text h_t_length h_t_next h_t_kind h_t_place h_t_text (by decide) ⟨by decide, by decide, by decide⟩ hTH) wd_288 wd_258 wd_312 wd_290 wd_291 ⟨by decide, by decide, rfl⟩ rfl ⟨rfl, rfl, by decide, by decide⟩ ⟨by decide, by decide⟩ [1, 2] [0] rfl rfl ⟨by decide, by decide, by decide⟩ 1 rfl rfl rfl (Nat.le_of_ble_eq_true rfl) dX5_fact_80 (fun u_16 hw_17 => ?_)
            refine j_eq (ws2 := [(r0, .inr (5, [.ref t0, .ref e0, .ref r1, .ref r2, .ref a0, .int r_habits, .int r_fault])), (t0, .inr (8, [.ref t1, .int t_length, .int t_next, .int t_kind, .int t_place, .int t_number])), (t1, .inl (cyC, 1000, .inl t_text))]) (pc2 := 83) (lv2 := [(0, .ref r0)]) (st2 := [.int (u_16.2.1 0)]) rfl rfl rfl rfl ?_
            obtain ⟨hw_17_0, hw_17_1⟩ := hw_17
            have hW_u_16 : (u_16.2.1 0).toInt = wI (TKS t_text (t_length).toInt.toNat) (t_place).toInt.toNat (WN 21) := by rw [← wnE_23]; exact hw_17_1
            refine j_if_eq (pc := 83) (tgt := 89) C dX5_fact_83 (by decide) (fun c_18 => ?_) (fun c_18 => ?_)
            · skip
              have el_0 : (0 : Int32).toInt = 0 := rfl
              rw [i_eq] at c_18
              refine j_aload_n (pc := 89) C dX5_fact_89 rfl 0 rfl ?_
              refine j_get (pc := 90) (ci := 5) (v := .ref t0) C inw_5 0 rfl rfl 0 (by decide) wd_296 rfl rfl dX5_fact_90 ?_
              refine j_ldcS (pc := 93) (i := 3) C (by decide) rfl dX5_fact_93 ?_
              refine j_callV (pc := 95) (As := [.ref (D.2.1 3)]) (rest := []) (wr := [(r0, .inr (5, [.ref t0, .ref e0, .ref r1, .ref r2, .ref a0, .int r_habits, .int r_fault]))]) C (c_X8_isWord_f l D cyC cyI cyJ cyZ cyO t0 t1 3 t_length t_next t_kind t_place t_number t_text h_t_length h_t_next h_t_kind h_t_place h_t_text (by decide) ⟨by decide, by decide, by decide⟩ hTH) wd_288 wd_258 wd_312 wd_290 wd_291 ⟨by decide, by decide, rfl⟩ rfl ⟨rfl, rfl, by decide, by decide⟩ ⟨by decide, by decide⟩ [1, 2] [0] rfl rfl ⟨by decide, by decide, by decide⟩ 1 rfl rfl rfl (Nat.le_of_ble_eq_true rfl) dX5_fact_95 (fun u_19 hw_20 => ?_)
              refine j_eq (ws2 := [(r0, .inr (5, [.ref t0, .ref e0, .ref r1, .ref r2, .ref a0, .int r_habits, .int r_fault])), (t0, .inr (8, [.ref t1, .int t_length, .int t_next, .int t_kind, .int t_place, .int t_number])), (t1, .inl (cyC, 1000, .inl t_text))]) (pc2 := 98) (lv2 := [(0, .ref r0)]) (st2 := [.int (u_19.2.1 0)]) rfl rfl rfl rfl ?_
              obtain ⟨hw_20_0, hw_20_1⟩ := hw_20
              have hW_u_19 : (u_19.2.1 0).toInt = wI (TKS t_text (t_length).toInt.toNat) (t_place).toInt.toNat (WN 1) := by rw [← wnE_3]; exact hw_20_1
              refine j_if_eq (pc := 98) (tgt := 104) C dX5_fact_98 (by decide) (fun c_21 => ?_) (fun c_21 => ?_)
              · skip
                have el_0 : (0 : Int32).toInt = 0 := rfl
                rw [i_eq] at c_21
                refine j_aload_n (pc := 104) C dX5_fact_104 rfl 0 rfl ?_
                refine j_get (pc := 105) (ci := 5) (v := .ref t0) C inw_5 0 rfl rfl 0 (by decide) wd_296 rfl rfl dX5_fact_105 ?_
                refine j_ldcS (pc := 108) (i := 24) C (by decide) rfl dX5_fact_108 ?_
                refine j_callV (pc := 110) (As := [.ref (D.2.1 24)]) (rest := []) (wr := [(r0, .inr (5, [.ref t0, .ref e0, .ref r1, .ref r2, .ref a0, .int r_habits, .int r_fault]))]) C (c_X8_isWord_f l D cyC cyI cyJ cyZ cyO t0 t1 24 t_length t_next t_kind t_place t_number t_text h_t_length h_t_next h_t_kind h_t_place h_t_text (by decide) ⟨by decide, by decide, by decide⟩ hTH) wd_288 wd_258 wd_312 wd_290 wd_291 ⟨by decide, by decide, rfl⟩ rfl ⟨rfl, rfl, by decide, by decide⟩ ⟨by decide, by decide⟩ [1, 2] [0] rfl rfl ⟨by decide, by decide, by decide⟩ 1 rfl rfl rfl (Nat.le_of_ble_eq_true rfl) dX5_fact_110 (fun u_22 hw_23 => ?_)
                refine j_eq (ws2 := [(r0, .inr (5, [.ref t0, .ref e0, .ref r1, .ref r2, .ref a0, .int r_habits, .int r_fault])), (t0, .inr (8, [.ref t1, .int t_length, .int t_next, .int t_kind, .int t_place, .int t_number])), (t1, .inl (cyC, 1000, .inl t_text))]) (pc2 := 113) (lv2 := [(0, .ref r0)]) (st2 := [.int (u_22.2.1 0)]) rfl rfl rfl rfl ?_
                obtain ⟨hw_23_0, hw_23_1⟩ := hw_23
                have hW_u_22 : (u_22.2.1 0).toInt = wI (TKS t_text (t_length).toInt.toNat) (t_place).toInt.toNat (WN 22) := by rw [← wnE_24]; exact hw_23_1
                refine j_if_eq (pc := 113) (tgt := 121) C dX5_fact_113 (by decide) (fun c_24 => ?_) (fun c_24 => ?_)
                · skip
                  have el_0 : (0 : Int32).toInt = 0 := rfl
                  rw [i_eq] at c_24
                  refine j_bipush (pc := 121) (v := (-100)) C dX5_fact_121 (by decide) ?_
                  have el_m100 : ((-100) : Int32).toInt = (-100) := rfl
                  have el_m100 : ((-100) : Int32).toInt = (-100) := rfl
                  have el_m100 : ((-100) : Int32).toInt = (-100) := rfl
                  exact j_iret (pc := 123) C hr hk (fun i => [].getD i 0, fun i => [(-100)].getD i 0, fun i => [].getD i (fun _ => 0), fun i => [].getD i (fun _ => 0)) rfl (show (-100 ≤ (((-100) : Int32)).toInt ∧ (((-100) : Int32)).toInt ≤ -1) ∧ (IM (isFct (TKS t_text (t_length).toInt.toNat) (t_place).toInt.toNat = true) (((-100) : Int32).toInt = -1 - ((fci (TKS t_text (t_length).toInt.toNat) (t_place).toInt.toNat : Nat) : Int))) ∧ (OR2 (((-100) : Int32).toInt = -100 ∧ isFct (TKS t_text (t_length).toInt.toNat) (t_place).toInt.toNat = false) (¬ ((-100) : Int32).toInt = -100 ∧ isFct (TKS t_text (t_length).toInt.toNat) (t_place).toInt.toNat = true)) from ⟨by omega, (fun q => by exfalso; rcases isFct_iff.mp q with z9 | z9 | z9 | z9 | z9 | z9 | z9 | z9; (have z8 := hW_u_1; omega); (have z8 := hW_u_4; omega); (have z8 := hW_u_7; omega); (have z8 := hW_u_10; omega); (have z8 := hW_u_13; omega); (have z8 := hW_u_16; omega); (have z8 := hW_u_19; omega); (have z8 := hW_u_22; omega)), (Or.inl ⟨by decide, Bool.eq_false_iff.mpr (fun q => by rcases isFct_iff.mp q with z9 | z9 | z9 | z9 | z9 | z9 | z9 | z9; (have z8 := hW_u_1; omega); (have z8 := hW_u_4; omega); (have z8 := hW_u_7; omega); (have z8 := hW_u_10; omega); (have z8 := hW_u_13; omega); (have z8 := hW_u_16; omega); (have z8 := hW_u_19; omega); (have z8 := hW_u_22; omega))⟩)⟩) [0, 1, 2] (by decide) rfl (by decide) (by decide) dX5_fact_123
                · skip
                  have el_0 : (0 : Int32).toInt = 0 := rfl
                  rw [i_eq] at c_24
                  have k0c_24 : ((u_22.2.1 0)).toInt = 1 := by omega
                  refine j_bipush (pc := 116) (v := (-8)) C dX5_fact_116 (by decide) ?_
                  refine j_goto (pc := 118) (tgt := 123) C dX5_fact_118 (by decide) ?_
                  have el_m8 : ((-8) : Int32).toInt = (-8) := rfl
                  have el_m8 : ((-8) : Int32).toInt = (-8) := rfl
                  have el_m8 : ((-8) : Int32).toInt = (-8) := rfl
                  exact j_iret (pc := 123) C hr hk (fun i => [].getD i 0, fun i => [(-8)].getD i 0, fun i => [].getD i (fun _ => 0), fun i => [].getD i (fun _ => 0)) rfl (show (-100 ≤ (((-8) : Int32)).toInt ∧ (((-8) : Int32)).toInt ≤ -1) ∧ (IM (isFct (TKS t_text (t_length).toInt.toNat) (t_place).toInt.toNat = true) (((-8) : Int32).toInt = -1 - ((fci (TKS t_text (t_length).toInt.toNat) (t_place).toInt.toNat : Nat) : Int))) ∧ (OR2 (((-8) : Int32).toInt = -100 ∧ isFct (TKS t_text (t_length).toInt.toNat) (t_place).toInt.toNat = false) (¬ ((-8) : Int32).toInt = -100 ∧ isFct (TKS t_text (t_length).toInt.toNat) (t_place).toInt.toNat = true)) from ⟨by omega, (fun _ => by have hf9 : fci (TKS t_text (t_length).toInt.toNat) (t_place).toInt.toNat = 7 := (by unfold fci; rw [if_neg (show ¬ isW (TKS t_text (t_length).toInt.toNat) (t_place).toInt.toNat (WN 17) = true from wI_0.mp (by omega)), if_neg (show ¬ isW (TKS t_text (t_length).toInt.toNat) (t_place).toInt.toNat (WN 18) = true from wI_0.mp (by omega)), if_neg (show ¬ isW (TKS t_text (t_length).toInt.toNat) (t_place).toInt.toNat (WN 19) = true from wI_0.mp (by omega)), if_neg (show ¬ isW (TKS t_text (t_length).toInt.toNat) (t_place).toInt.toNat (WN 7) = true from wI_0.mp (by omega)), if_neg (show ¬ isW (TKS t_text (t_length).toInt.toNat) (t_place).toInt.toNat (WN 20) = true from wI_0.mp (by omega)), if_neg (show ¬ isW (TKS t_text (t_length).toInt.toNat) (t_place).toInt.toNat (WN 21) = true from wI_0.mp (by omega)), if_neg (show ¬ isW (TKS t_text (t_length).toInt.toNat) (t_place).toInt.toNat (WN 1) = true from wI_0.mp (by omega))]); omega), (Or.inr ⟨by decide, isFct_iff.mpr (Or.inr (Or.inr (Or.inr (Or.inr (Or.inr (Or.inr (Or.inr ((by omega)))))))))⟩)⟩) [0, 1, 2] (by decide) rfl (by decide) (by decide) dX5_fact_123
              · skip
                have el_0 : (0 : Int32).toInt = 0 := rfl
                rw [i_eq] at c_21
                have k0c_21 : ((u_19.2.1 0)).toInt = 1 := by omega
                refine j_bipush (pc := 101) (v := (-7)) C dX5_fact_101 (by decide) ?_
                have el_m7 : ((-7) : Int32).toInt = (-7) := rfl
                have el_m7 : ((-7) : Int32).toInt = (-7) := rfl
                have el_m7 : ((-7) : Int32).toInt = (-7) := rfl
                exact j_iret (pc := 103) C hr hk (fun i => [].getD i 0, fun i => [(-7)].getD i 0, fun i => [].getD i (fun _ => 0), fun i => [].getD i (fun _ => 0)) rfl (show (-100 ≤ (((-7) : Int32)).toInt ∧ (((-7) : Int32)).toInt ≤ -1) ∧ (IM (isFct (TKS t_text (t_length).toInt.toNat) (t_place).toInt.toNat = true) (((-7) : Int32).toInt = -1 - ((fci (TKS t_text (t_length).toInt.toNat) (t_place).toInt.toNat : Nat) : Int))) ∧ (OR2 (((-7) : Int32).toInt = -100 ∧ isFct (TKS t_text (t_length).toInt.toNat) (t_place).toInt.toNat = false) (¬ ((-7) : Int32).toInt = -100 ∧ isFct (TKS t_text (t_length).toInt.toNat) (t_place).toInt.toNat = true)) from ⟨by omega, (fun _ => by have hf9 : fci (TKS t_text (t_length).toInt.toNat) (t_place).toInt.toNat = 6 := (by unfold fci; rw [if_neg (show ¬ isW (TKS t_text (t_length).toInt.toNat) (t_place).toInt.toNat (WN 17) = true from wI_0.mp (by omega)), if_neg (show ¬ isW (TKS t_text (t_length).toInt.toNat) (t_place).toInt.toNat (WN 18) = true from wI_0.mp (by omega)), if_neg (show ¬ isW (TKS t_text (t_length).toInt.toNat) (t_place).toInt.toNat (WN 19) = true from wI_0.mp (by omega)), if_neg (show ¬ isW (TKS t_text (t_length).toInt.toNat) (t_place).toInt.toNat (WN 7) = true from wI_0.mp (by omega)), if_neg (show ¬ isW (TKS t_text (t_length).toInt.toNat) (t_place).toInt.toNat (WN 20) = true from wI_0.mp (by omega)), if_neg (show ¬ isW (TKS t_text (t_length).toInt.toNat) (t_place).toInt.toNat (WN 21) = true from wI_0.mp (by omega)), if_pos (show isW (TKS t_text (t_length).toInt.toNat) (t_place).toInt.toNat (WN 1) = true from wI_1.mp (by omega))]); omega), (Or.inr ⟨by decide, isFct_iff.mpr (Or.inr (Or.inr (Or.inr (Or.inr (Or.inr (Or.inr (Or.inl (by omega))))))))⟩)⟩) [0, 1, 2] (by decide) rfl (by decide) (by decide) dX5_fact_103
            · skip
              have el_0 : (0 : Int32).toInt = 0 := rfl
              rw [i_eq] at c_18
              have k0c_18 : ((u_16.2.1 0)).toInt = 1 := by omega
              refine j_bipush (pc := 86) (v := (-6)) C dX5_fact_86 (by decide) ?_
              have el_m6 : ((-6) : Int32).toInt = (-6) := rfl
              have el_m6 : ((-6) : Int32).toInt = (-6) := rfl
              have el_m6 : ((-6) : Int32).toInt = (-6) := rfl
              exact j_iret (pc := 88) C hr hk (fun i => [].getD i 0, fun i => [(-6)].getD i 0, fun i => [].getD i (fun _ => 0), fun i => [].getD i (fun _ => 0)) rfl (show (-100 ≤ (((-6) : Int32)).toInt ∧ (((-6) : Int32)).toInt ≤ -1) ∧ (IM (isFct (TKS t_text (t_length).toInt.toNat) (t_place).toInt.toNat = true) (((-6) : Int32).toInt = -1 - ((fci (TKS t_text (t_length).toInt.toNat) (t_place).toInt.toNat : Nat) : Int))) ∧ (OR2 (((-6) : Int32).toInt = -100 ∧ isFct (TKS t_text (t_length).toInt.toNat) (t_place).toInt.toNat = false) (¬ ((-6) : Int32).toInt = -100 ∧ isFct (TKS t_text (t_length).toInt.toNat) (t_place).toInt.toNat = true)) from ⟨by omega, (fun _ => by have hf9 : fci (TKS t_text (t_length).toInt.toNat) (t_place).toInt.toNat = 5 := (by unfold fci; rw [if_neg (show ¬ isW (TKS t_text (t_length).toInt.toNat) (t_place).toInt.toNat (WN 17) = true from wI_0.mp (by omega)), if_neg (show ¬ isW (TKS t_text (t_length).toInt.toNat) (t_place).toInt.toNat (WN 18) = true from wI_0.mp (by omega)), if_neg (show ¬ isW (TKS t_text (t_length).toInt.toNat) (t_place).toInt.toNat (WN 19) = true from wI_0.mp (by omega)), if_neg (show ¬ isW (TKS t_text (t_length).toInt.toNat) (t_place).toInt.toNat (WN 7) = true from wI_0.mp (by omega)), if_neg (show ¬ isW (TKS t_text (t_length).toInt.toNat) (t_place).toInt.toNat (WN 20) = true from wI_0.mp (by omega)), if_pos (show isW (TKS t_text (t_length).toInt.toNat) (t_place).toInt.toNat (WN 21) = true from wI_1.mp (by omega))]); omega), (Or.inr ⟨by decide, isFct_iff.mpr (Or.inr (Or.inr (Or.inr (Or.inr (Or.inr (Or.inl (by omega)))))))⟩)⟩) [0, 1, 2] (by decide) rfl (by decide) (by decide) dX5_fact_88
          · skip
            have el_0 : (0 : Int32).toInt = 0 := rfl
            rw [i_eq] at c_15
            have k0c_15 : ((u_13.2.1 0)).toInt = 1 := by omega
            refine j_bipush (pc := 71) (v := (-5)) C dX5_fact_71 (by decide) ?_
            have el_m5 : ((-5) : Int32).toInt = (-5) := rfl
            have el_m5 : ((-5) : Int32).toInt = (-5) := rfl
            have el_m5 : ((-5) : Int32).toInt = (-5) := rfl
            exact j_iret (pc := 73) C hr hk (fun i => [].getD i 0, fun i => [(-5)].getD i 0, fun i => [].getD i (fun _ => 0), fun i => [].getD i (fun _ => 0)) rfl (show (-100 ≤ (((-5) : Int32)).toInt ∧ (((-5) : Int32)).toInt ≤ -1) ∧ (IM (isFct (TKS t_text (t_length).toInt.toNat) (t_place).toInt.toNat = true) (((-5) : Int32).toInt = -1 - ((fci (TKS t_text (t_length).toInt.toNat) (t_place).toInt.toNat : Nat) : Int))) ∧ (OR2 (((-5) : Int32).toInt = -100 ∧ isFct (TKS t_text (t_length).toInt.toNat) (t_place).toInt.toNat = false) (¬ ((-5) : Int32).toInt = -100 ∧ isFct (TKS t_text (t_length).toInt.toNat) (t_place).toInt.toNat = true)) from ⟨by omega, (fun _ => by have hf9 : fci (TKS t_text (t_length).toInt.toNat) (t_place).toInt.toNat = 4 := (by unfold fci; rw [if_neg (show ¬ isW (TKS t_text (t_length).toInt.toNat) (t_place).toInt.toNat (WN 17) = true from wI_0.mp (by omega)), if_neg (show ¬ isW (TKS t_text (t_length).toInt.toNat) (t_place).toInt.toNat (WN 18) = true from wI_0.mp (by omega)), if_neg (show ¬ isW (TKS t_text (t_length).toInt.toNat) (t_place).toInt.toNat (WN 19) = true from wI_0.mp (by omega)), if_neg (show ¬ isW (TKS t_text (t_length).toInt.toNat) (t_place).toInt.toNat (WN 7) = true from wI_0.mp (by omega)), if_pos (show isW (TKS t_text (t_length).toInt.toNat) (t_place).toInt.toNat (WN 20) = true from wI_1.mp (by omega))]); omega), (Or.inr ⟨by decide, isFct_iff.mpr (Or.inr (Or.inr (Or.inr (Or.inr (Or.inl (by omega))))))⟩)⟩) [0, 1, 2] (by decide) rfl (by decide) (by decide) dX5_fact_73
        · skip
          have el_0 : (0 : Int32).toInt = 0 := rfl
          rw [i_eq] at c_12
          have k0c_12 : ((u_10.2.1 0)).toInt = 1 := by omega
          refine j_bipush (pc := 56) (v := (-4)) C dX5_fact_56 (by decide) ?_
          have el_m4 : ((-4) : Int32).toInt = (-4) := rfl
          have el_m4 : ((-4) : Int32).toInt = (-4) := rfl
          have el_m4 : ((-4) : Int32).toInt = (-4) := rfl
          exact j_iret (pc := 58) C hr hk (fun i => [].getD i 0, fun i => [(-4)].getD i 0, fun i => [].getD i (fun _ => 0), fun i => [].getD i (fun _ => 0)) rfl (show (-100 ≤ (((-4) : Int32)).toInt ∧ (((-4) : Int32)).toInt ≤ -1) ∧ (IM (isFct (TKS t_text (t_length).toInt.toNat) (t_place).toInt.toNat = true) (((-4) : Int32).toInt = -1 - ((fci (TKS t_text (t_length).toInt.toNat) (t_place).toInt.toNat : Nat) : Int))) ∧ (OR2 (((-4) : Int32).toInt = -100 ∧ isFct (TKS t_text (t_length).toInt.toNat) (t_place).toInt.toNat = false) (¬ ((-4) : Int32).toInt = -100 ∧ isFct (TKS t_text (t_length).toInt.toNat) (t_place).toInt.toNat = true)) from ⟨by omega, (fun _ => by have hf9 : fci (TKS t_text (t_length).toInt.toNat) (t_place).toInt.toNat = 3 := (by unfold fci; rw [if_neg (show ¬ isW (TKS t_text (t_length).toInt.toNat) (t_place).toInt.toNat (WN 17) = true from wI_0.mp (by omega)), if_neg (show ¬ isW (TKS t_text (t_length).toInt.toNat) (t_place).toInt.toNat (WN 18) = true from wI_0.mp (by omega)), if_neg (show ¬ isW (TKS t_text (t_length).toInt.toNat) (t_place).toInt.toNat (WN 19) = true from wI_0.mp (by omega)), if_pos (show isW (TKS t_text (t_length).toInt.toNat) (t_place).toInt.toNat (WN 7) = true from wI_1.mp (by omega))]); omega), (Or.inr ⟨by decide, isFct_iff.mpr (Or.inr (Or.inr (Or.inr (Or.inl (by omega)))))⟩)⟩) [0, 1, 2] (by decide) rfl (by decide) (by decide) dX5_fact_58
      · skip
        have el_0 : (0 : Int32).toInt = 0 := rfl
        rw [i_eq] at c_9
        have k0c_9 : ((u_7.2.1 0)).toInt = 1 := by omega
        refine j_bipush (pc := 41) (v := (-3)) C dX5_fact_41 (by decide) ?_
        have el_m3 : ((-3) : Int32).toInt = (-3) := rfl
        have el_m3 : ((-3) : Int32).toInt = (-3) := rfl
        have el_m3 : ((-3) : Int32).toInt = (-3) := rfl
        exact j_iret (pc := 43) C hr hk (fun i => [].getD i 0, fun i => [(-3)].getD i 0, fun i => [].getD i (fun _ => 0), fun i => [].getD i (fun _ => 0)) rfl (show (-100 ≤ (((-3) : Int32)).toInt ∧ (((-3) : Int32)).toInt ≤ -1) ∧ (IM (isFct (TKS t_text (t_length).toInt.toNat) (t_place).toInt.toNat = true) (((-3) : Int32).toInt = -1 - ((fci (TKS t_text (t_length).toInt.toNat) (t_place).toInt.toNat : Nat) : Int))) ∧ (OR2 (((-3) : Int32).toInt = -100 ∧ isFct (TKS t_text (t_length).toInt.toNat) (t_place).toInt.toNat = false) (¬ ((-3) : Int32).toInt = -100 ∧ isFct (TKS t_text (t_length).toInt.toNat) (t_place).toInt.toNat = true)) from ⟨by omega, (fun _ => by have hf9 : fci (TKS t_text (t_length).toInt.toNat) (t_place).toInt.toNat = 2 := (by unfold fci; rw [if_neg (show ¬ isW (TKS t_text (t_length).toInt.toNat) (t_place).toInt.toNat (WN 17) = true from wI_0.mp (by omega)), if_neg (show ¬ isW (TKS t_text (t_length).toInt.toNat) (t_place).toInt.toNat (WN 18) = true from wI_0.mp (by omega)), if_pos (show isW (TKS t_text (t_length).toInt.toNat) (t_place).toInt.toNat (WN 19) = true from wI_1.mp (by omega))]); omega), (Or.inr ⟨by decide, isFct_iff.mpr (Or.inr (Or.inr (Or.inl (by omega))))⟩)⟩) [0, 1, 2] (by decide) rfl (by decide) (by decide) dX5_fact_43
    · skip
      have el_0 : (0 : Int32).toInt = 0 := rfl
      rw [i_eq] at c_6
      have k0c_6 : ((u_4.2.1 0)).toInt = 1 := by omega
      refine j_bipush (pc := 26) (v := (-2)) C dX5_fact_26 (by decide) ?_
      have el_m2 : ((-2) : Int32).toInt = (-2) := rfl
      have el_m2 : ((-2) : Int32).toInt = (-2) := rfl
      have el_m2 : ((-2) : Int32).toInt = (-2) := rfl
      exact j_iret (pc := 28) C hr hk (fun i => [].getD i 0, fun i => [(-2)].getD i 0, fun i => [].getD i (fun _ => 0), fun i => [].getD i (fun _ => 0)) rfl (show (-100 ≤ (((-2) : Int32)).toInt ∧ (((-2) : Int32)).toInt ≤ -1) ∧ (IM (isFct (TKS t_text (t_length).toInt.toNat) (t_place).toInt.toNat = true) (((-2) : Int32).toInt = -1 - ((fci (TKS t_text (t_length).toInt.toNat) (t_place).toInt.toNat : Nat) : Int))) ∧ (OR2 (((-2) : Int32).toInt = -100 ∧ isFct (TKS t_text (t_length).toInt.toNat) (t_place).toInt.toNat = false) (¬ ((-2) : Int32).toInt = -100 ∧ isFct (TKS t_text (t_length).toInt.toNat) (t_place).toInt.toNat = true)) from ⟨by omega, (fun _ => by have hf9 : fci (TKS t_text (t_length).toInt.toNat) (t_place).toInt.toNat = 1 := (by unfold fci; rw [if_neg (show ¬ isW (TKS t_text (t_length).toInt.toNat) (t_place).toInt.toNat (WN 17) = true from wI_0.mp (by omega)), if_pos (show isW (TKS t_text (t_length).toInt.toNat) (t_place).toInt.toNat (WN 18) = true from wI_1.mp (by omega))]); omega), (Or.inr ⟨by decide, isFct_iff.mpr (Or.inr (Or.inl (by omega)))⟩)⟩) [0, 1, 2] (by decide) rfl (by decide) (by decide) dX5_fact_28
  · skip
    have el_0 : (0 : Int32).toInt = 0 := rfl
    rw [i_eq] at c_3
    have k0c_3 : ((u_1.2.1 0)).toInt = 1 := by omega
    refine j_iconst (pc := 12) (v := (-1)) C dX5_fact_12 (by decide) ?_
    have el_m1 : ((-1) : Int32).toInt = (-1) := rfl
    have el_m1 : ((-1) : Int32).toInt = (-1) := rfl
    have el_m1 : ((-1) : Int32).toInt = (-1) := rfl
    exact j_iret (pc := 13) C hr hk (fun i => [].getD i 0, fun i => [(-1)].getD i 0, fun i => [].getD i (fun _ => 0), fun i => [].getD i (fun _ => 0)) rfl (show (-100 ≤ (((-1) : Int32)).toInt ∧ (((-1) : Int32)).toInt ≤ -1) ∧ (IM (isFct (TKS t_text (t_length).toInt.toNat) (t_place).toInt.toNat = true) (((-1) : Int32).toInt = -1 - ((fci (TKS t_text (t_length).toInt.toNat) (t_place).toInt.toNat : Nat) : Int))) ∧ (OR2 (((-1) : Int32).toInt = -100 ∧ isFct (TKS t_text (t_length).toInt.toNat) (t_place).toInt.toNat = false) (¬ ((-1) : Int32).toInt = -100 ∧ isFct (TKS t_text (t_length).toInt.toNat) (t_place).toInt.toNat = true)) from ⟨by omega, (fun _ => by have hf9 : fci (TKS t_text (t_length).toInt.toNat) (t_place).toInt.toNat = 0 := (by unfold fci; rw [if_pos (show isW (TKS t_text (t_length).toInt.toNat) (t_place).toInt.toNat (WN 17) = true from wI_1.mp (by omega))]); omega), (Or.inr ⟨by decide, isFct_iff.mpr (Or.inl (by omega))⟩)⟩) [0, 1, 2] (by decide) rfl (by decide) (by decide) dX5_fact_13
set_option maxHeartbeats 4000000 in
set_option maxRecDepth 100000 in
theorem c_X5_joint_0 (l : Launch) (D : DG) (cyC cyI cyJ cyZ cyO : ClassId) (r0 : Nat) (t0 : Nat) (t1 : Nat) (e0 : Nat) (r1 : Nat) (r2 : Nat) (a0 : Nat) (r_habits : Int32) (r_fault : Int32) (t_length : Int32) (t_next : Int32) (t_kind : Int32) (t_place : Int32) (t_number : Int32) (t_text : Nat → Int32) (h_t_length : 0 ≤ (t_length).toInt ∧ (t_length).toInt ≤ 1000) (h_t_next : 0 ≤ (t_next).toInt ∧ (t_next).toInt ≤ 1000) (h_t_kind : 0 ≤ (t_kind).toInt ∧ (t_kind).toInt ≤ 4) (h_t_place : 0 ≤ (t_place).toInt ∧ (t_place).toInt ≤ 1000) (h_t_text : Iv 1000 (0) (126) t_text) (ht3 : ¬ (t_kind).toInt = 3 ∨ (t_place).toInt ≤ 999) (hTH : TH t_text (t_length).toInt.toNat (t_next).toInt (t_kind).toInt (t_place).toInt (t_number).toInt) : KK l D (TY cyC cyI cyJ cyZ cyO) yX5_joint cX5_joint 2 (some .int) ({ frames := 5, cells := 0, slots := 0, locals := 107 } : Room) 0 0 [.ref r0, .int 0] [(r0, .inr (5, [.ref t0, .ref e0, .ref r1, .ref r2, .ref a0, .int r_habits, .int r_fault])), (t0, .inr (8, [.ref t1, .int t_length, .int t_next, .int t_kind, .int t_place, .int t_number])), (t1, .inl (cyC, 1000, .inl t_text))] (fun u => some (.int (u.2.1 0))) (fun u => (-100 ≤ (u.2.1 0).toInt ∧ (u.2.1 0).toInt ≤ -10) ∧ (IM (jnt (TKS t_text (t_length).toInt.toNat) 0 (t_place).toInt.toNat = true) ((u.2.1 0).toInt = jcd (TKS t_text (t_length).toInt.toNat) 0 (t_place).toInt.toNat)) ∧ (OR2 ((u.2.1 0).toInt = -100 ∧ jnt (TKS t_text (t_length).toInt.toNat) 0 (t_place).toInt.toNat = false) (¬ (u.2.1 0).toInt = -100 ∧ jnt (TKS t_text (t_length).toInt.toNat) 0 (t_place).toInt.toNat = true))) (fun u => [(r0, .inr (5, [.ref t0, .ref e0, .ref r1, .ref r2, .ref a0, .int r_habits, .int r_fault])), (t0, .inr (8, [.ref t1, .int t_length, .int t_next, .int t_kind, .int t_place, .int t_number])), (t1, .inl (cyC, 1000, .inl t_text))]) := by
  refine KK.of (lv0 := [(0, .ref r0), (1, .int 0)]) (by decide) rfl (Nat.le_of_ble_eq_true rfl) ?_
  intro p e s m args below meth c A C hr hk hin
  refine j_iload_n (pc := 0) C dX5_joint_0 rfl 1 rfl ?_
  refine j_tin (pc := 1) (off := 27) (tgt := 28) C dX5_joint_1 (by decide) (by decide) (by decide) (by decide) ?_
  refine j_aload_n (pc := 28) C dX5_joint_28 rfl 0 rfl ?_
  refine j_get (pc := 29) (ci := 5) (v := .ref t0) C inw_5 0 rfl rfl 0 (by decide) wd_296 rfl rfl dX5_joint_29 ?_
  refine j_ldcS (pc := 32) (i := 16) C (by decide) rfl dX5_joint_32 ?_
  refine j_callV (pc := 34) (As := [.ref (D.2.1 16)]) (rest := []) (wr := [(r0, .inr (5, [.ref t0, .ref e0, .ref r1, .ref r2, .ref a0, .int r_habits, .int r_fault]))]) C (c_X8_isWord_f l D cyC cyI cyJ cyZ cyO t0 t1 16 t_length t_next t_kind t_place t_number t_text h_t_length h_t_next h_t_kind h_t_place h_t_text (by decide) ⟨by decide, by decide, by decide⟩ hTH) wd_288 wd_258 wd_312 wd_290 wd_291 ⟨by decide, by decide, rfl⟩ rfl ⟨rfl, rfl, by decide, by decide⟩ ⟨by decide, by decide⟩ [1, 2] [0] rfl rfl ⟨by decide, by decide, by decide⟩ 1 rfl rfl rfl (Nat.le_of_ble_eq_true rfl) dX5_joint_34 (fun u_1 hw_2 => ?_)
  refine j_eq (ws2 := [(r0, .inr (5, [.ref t0, .ref e0, .ref r1, .ref r2, .ref a0, .int r_habits, .int r_fault])), (t0, .inr (8, [.ref t1, .int t_length, .int t_next, .int t_kind, .int t_place, .int t_number])), (t1, .inl (cyC, 1000, .inl t_text))]) (pc2 := 37) (lv2 := [(0, .ref r0), (1, .int 0)]) (st2 := [.int (u_1.2.1 0)]) rfl rfl rfl rfl ?_
  obtain ⟨hw_2_0, hw_2_1⟩ := hw_2
  have hW_u_1 : (u_1.2.1 0).toInt = wI (TKS t_text (t_length).toInt.toNat) (t_place).toInt.toNat (WN 15) := by rw [← wnE_16]; exact hw_2_1
  refine j_if_eq (pc := 37) (tgt := 45) C dX5_joint_37 (by decide) (fun c_3 => ?_) (fun c_3 => ?_)
  · skip
    have el_0 : (0 : Int32).toInt = 0 := rfl
    rw [i_eq] at c_3
    refine j_aload_n (pc := 45) C dX5_joint_45 rfl 0 rfl ?_
    refine j_get (pc := 46) (ci := 5) (v := .ref t0) C inw_5 0 rfl rfl 0 (by decide) wd_296 rfl rfl dX5_joint_46 ?_
    refine j_ldcS (pc := 49) (i := 17) C (by decide) rfl dX5_joint_49 ?_
    refine j_callV (pc := 51) (As := [.ref (D.2.1 17)]) (rest := []) (wr := [(r0, .inr (5, [.ref t0, .ref e0, .ref r1, .ref r2, .ref a0, .int r_habits, .int r_fault]))]) C (c_X8_isWord_f l D cyC cyI cyJ cyZ cyO t0 t1 17 t_length t_next t_kind t_place t_number t_text h_t_length h_t_next h_t_kind h_t_place h_t_text (by decide) ⟨by decide, by decide, by decide⟩ hTH) wd_288 wd_258 wd_312 wd_290 wd_291 ⟨by decide, by decide, rfl⟩ rfl ⟨rfl, rfl, by decide, by decide⟩ ⟨by decide, by decide⟩ [1, 2] [0] rfl rfl ⟨by decide, by decide, by decide⟩ 1 rfl rfl rfl (Nat.le_of_ble_eq_true rfl) dX5_joint_51 (fun u_4 hw_5 => ?_)
    refine j_eq (ws2 := [(r0, .inr (5, [.ref t0, .ref e0, .ref r1, .ref r2, .ref a0, .int r_habits, .int r_fault])), (t0, .inr (8, [.ref t1, .int t_length, .int t_next, .int t_kind, .int t_place, .int t_number])), (t1, .inl (cyC, 1000, .inl t_text))]) (pc2 := 54) (lv2 := [(0, .ref r0), (1, .int 0)]) (st2 := [.int (u_4.2.1 0)]) rfl rfl rfl rfl ?_
    obtain ⟨hw_5_0, hw_5_1⟩ := hw_5
    have hW_u_4 : (u_4.2.1 0).toInt = wI (TKS t_text (t_length).toInt.toNat) (t_place).toInt.toNat (WN 16) := by rw [← wnE_17]; exact hw_5_1
    refine j_if_eq (pc := 54) (tgt := 62) C dX5_joint_54 (by decide) (fun c_6 => ?_) (fun c_6 => ?_)
    · skip
      have el_0 : (0 : Int32).toInt = 0 := rfl
      rw [i_eq] at c_6
      refine j_bipush (pc := 62) (v := (-100)) C dX5_joint_62 (by decide) ?_
      have el_m100 : ((-100) : Int32).toInt = (-100) := rfl
      have el_m100 : ((-100) : Int32).toInt = (-100) := rfl
      have el_m100 : ((-100) : Int32).toInt = (-100) := rfl
      exact j_iret (pc := 64) C hr hk (fun i => [].getD i 0, fun i => [(-100)].getD i 0, fun i => [].getD i (fun _ => 0), fun i => [].getD i (fun _ => 0)) rfl (show (-100 ≤ (((-100) : Int32)).toInt ∧ (((-100) : Int32)).toInt ≤ -10) ∧ (IM (jnt (TKS t_text (t_length).toInt.toNat) 0 (t_place).toInt.toNat = true) (((-100) : Int32).toInt = jcd (TKS t_text (t_length).toInt.toNat) 0 (t_place).toInt.toNat)) ∧ (OR2 (((-100) : Int32).toInt = -100 ∧ jnt (TKS t_text (t_length).toInt.toNat) 0 (t_place).toInt.toNat = false) (¬ ((-100) : Int32).toInt = -100 ∧ jnt (TKS t_text (t_length).toInt.toNat) 0 (t_place).toInt.toNat = true)) from ⟨by omega, (fun q => by exfalso; have z9 := jnt0.mp q; omega), (Or.inl ⟨by decide, Bool.eq_false_iff.mpr (fun q => by have z9 := jnt0.mp q; omega)⟩)⟩) [0, 1, 2] (by decide) rfl (by decide) (by decide) dX5_joint_64
    · skip
      have el_0 : (0 : Int32).toInt = 0 := rfl
      rw [i_eq] at c_6
      have k0c_6 : ((u_4.2.1 0)).toInt = 1 := by omega
      refine j_bipush (pc := 57) (v := (-11)) C dX5_joint_57 (by decide) ?_
      refine j_goto (pc := 59) (tgt := 64) C dX5_joint_59 (by decide) ?_
      have el_m11 : ((-11) : Int32).toInt = (-11) := rfl
      have el_m11 : ((-11) : Int32).toInt = (-11) := rfl
      have el_m11 : ((-11) : Int32).toInt = (-11) := rfl
      exact j_iret (pc := 64) C hr hk (fun i => [].getD i 0, fun i => [(-11)].getD i 0, fun i => [].getD i (fun _ => 0), fun i => [].getD i (fun _ => 0)) rfl (show (-100 ≤ (((-11) : Int32)).toInt ∧ (((-11) : Int32)).toInt ≤ -10) ∧ (IM (jnt (TKS t_text (t_length).toInt.toNat) 0 (t_place).toInt.toNat = true) (((-11) : Int32).toInt = jcd (TKS t_text (t_length).toInt.toNat) 0 (t_place).toInt.toNat)) ∧ (OR2 (((-11) : Int32).toInt = -100 ∧ jnt (TKS t_text (t_length).toInt.toNat) 0 (t_place).toInt.toNat = false) (¬ ((-11) : Int32).toInt = -100 ∧ jnt (TKS t_text (t_length).toInt.toNat) 0 (t_place).toInt.toNat = true)) from ⟨by omega, (fun _ => by rw [jcd0, if_neg (show ¬ isW (TKS t_text (t_length).toInt.toNat) (t_place).toInt.toNat (WN 15) = true from wI_0.mp (by omega))]; rfl), (Or.inr ⟨by decide, jnt0.mpr (by omega)⟩)⟩) [0, 1, 2] (by decide) rfl (by decide) (by decide) dX5_joint_64
  · skip
    have el_0 : (0 : Int32).toInt = 0 := rfl
    rw [i_eq] at c_3
    have k0c_3 : ((u_1.2.1 0)).toInt = 1 := by omega
    refine j_bipush (pc := 40) (v := (-10)) C dX5_joint_40 (by decide) ?_
    refine j_goto (pc := 42) (tgt := 64) C dX5_joint_42 (by decide) ?_
    have el_m10 : ((-10) : Int32).toInt = (-10) := rfl
    have el_m10 : ((-10) : Int32).toInt = (-10) := rfl
    have el_m10 : ((-10) : Int32).toInt = (-10) := rfl
    exact j_iret (pc := 64) C hr hk (fun i => [].getD i 0, fun i => [(-10)].getD i 0, fun i => [].getD i (fun _ => 0), fun i => [].getD i (fun _ => 0)) rfl (show (-100 ≤ (((-10) : Int32)).toInt ∧ (((-10) : Int32)).toInt ≤ -10) ∧ (IM (jnt (TKS t_text (t_length).toInt.toNat) 0 (t_place).toInt.toNat = true) (((-10) : Int32).toInt = jcd (TKS t_text (t_length).toInt.toNat) 0 (t_place).toInt.toNat)) ∧ (OR2 (((-10) : Int32).toInt = -100 ∧ jnt (TKS t_text (t_length).toInt.toNat) 0 (t_place).toInt.toNat = false) (¬ ((-10) : Int32).toInt = -100 ∧ jnt (TKS t_text (t_length).toInt.toNat) 0 (t_place).toInt.toNat = true)) from ⟨by omega, (fun _ => by rw [jcd0, if_pos (show isW (TKS t_text (t_length).toInt.toNat) (t_place).toInt.toNat (WN 15) = true from wI_1.mp (by omega))]; rfl), (Or.inr ⟨by decide, jnt0.mpr (by omega)⟩)⟩) [0, 1, 2] (by decide) rfl (by decide) (by decide) dX5_joint_64
set_option maxHeartbeats 4000000 in
set_option maxRecDepth 100000 in
theorem c_X5_joint_1 (l : Launch) (D : DG) (cyC cyI cyJ cyZ cyO : ClassId) (r0 : Nat) (t0 : Nat) (t1 : Nat) (e0 : Nat) (r1 : Nat) (r2 : Nat) (a0 : Nat) (r_habits : Int32) (r_fault : Int32) (t_length : Int32) (t_next : Int32) (t_kind : Int32) (t_place : Int32) (t_number : Int32) (t_text : Nat → Int32) (h_t_length : 0 ≤ (t_length).toInt ∧ (t_length).toInt ≤ 1000) (h_t_next : 0 ≤ (t_next).toInt ∧ (t_next).toInt ≤ 1000) (h_t_kind : 0 ≤ (t_kind).toInt ∧ (t_kind).toInt ≤ 4) (h_t_place : 0 ≤ (t_place).toInt ∧ (t_place).toInt ≤ 1000) (h_t_text : Iv 1000 (0) (126) t_text) (ht3 : ¬ (t_kind).toInt = 3 ∨ (t_place).toInt ≤ 999) (hTH : TH t_text (t_length).toInt.toNat (t_next).toInt (t_kind).toInt (t_place).toInt (t_number).toInt) : KK l D (TY cyC cyI cyJ cyZ cyO) yX5_joint cX5_joint 2 (some .int) ({ frames := 1, cells := 0, slots := 0, locals := 21 } : Room) 0 0 [.ref r0, .int 1] [(r0, .inr (5, [.ref t0, .ref e0, .ref r1, .ref r2, .ref a0, .int r_habits, .int r_fault])), (t0, .inr (8, [.ref t1, .int t_length, .int t_next, .int t_kind, .int t_place, .int t_number])), (t1, .inl (cyC, 1000, .inl t_text))] (fun u => some (.int (u.2.1 0))) (fun u => (-100 ≤ (u.2.1 0).toInt ∧ (u.2.1 0).toInt ≤ -10) ∧ (IM (jnt (TKS t_text (t_length).toInt.toNat) 1 (t_place).toInt.toNat = true) ((u.2.1 0).toInt = jcd (TKS t_text (t_length).toInt.toNat) 1 (t_place).toInt.toNat)) ∧ (OR2 ((u.2.1 0).toInt = -100 ∧ jnt (TKS t_text (t_length).toInt.toNat) 1 (t_place).toInt.toNat = false) (¬ (u.2.1 0).toInt = -100 ∧ jnt (TKS t_text (t_length).toInt.toNat) 1 (t_place).toInt.toNat = true))) (fun u => [(r0, .inr (5, [.ref t0, .ref e0, .ref r1, .ref r2, .ref a0, .int r_habits, .int r_fault])), (t0, .inr (8, [.ref t1, .int t_length, .int t_next, .int t_kind, .int t_place, .int t_number])), (t1, .inl (cyC, 1000, .inl t_text))]) := by
  refine KK.of (lv0 := [(0, .ref r0), (1, .int 1)]) (by decide) rfl (Nat.le_of_ble_eq_true rfl) ?_
  intro p e s m args below meth c A C hr hk hin
  refine j_iload_n (pc := 0) C dX5_joint_0 rfl 1 rfl ?_
  refine j_tin (pc := 1) (off := 64) (tgt := 65) C dX5_joint_1 (by decide) (by decide) (by decide) (by decide) ?_
  refine j_aload_n (pc := 65) C dX5_joint_65 rfl 0 rfl ?_
  refine j_get (pc := 66) (ci := 5) (v := .ref t0) C inw_5 0 rfl rfl 0 (by decide) wd_296 rfl rfl dX5_joint_66 ?_
  refine j_bipush (pc := 69) (v := 60) C dX5_joint_69 (by decide) ?_
  refine j_callV (pc := 71) (As := [.int 60]) (rest := []) (wr := [(r0, .inr (5, [.ref t0, .ref e0, .ref r1, .ref r2, .ref a0, .int r_habits, .int r_fault]))]) C (c_X8_isSign_f l D cyC cyI cyJ cyZ cyO t0 t1 60 t_length t_next t_kind t_place t_number t_text h_t_length h_t_next h_t_kind h_t_place h_t_text ht3 hTH) wd_300 wd_258 wd_301 wd_302 wd_303 ⟨by decide, by decide, rfl⟩ rfl ⟨rfl, rfl, by decide, by decide⟩ ⟨by decide, by decide⟩ [1, 2] [0] rfl rfl ⟨by decide, by decide, by decide⟩ 1 rfl rfl rfl (Nat.le_of_ble_eq_true rfl) dX5_joint_71 (fun u_1 hw_2 => ?_)
  refine j_eq (ws2 := [(r0, .inr (5, [.ref t0, .ref e0, .ref r1, .ref r2, .ref a0, .int r_habits, .int r_fault])), (t0, .inr (8, [.ref t1, .int t_length, .int t_next, .int t_kind, .int t_place, .int t_number])), (t1, .inl (cyC, 1000, .inl t_text))]) (pc2 := 74) (lv2 := [(0, .ref r0), (1, .int 1)]) (st2 := [.int (u_1.2.1 0)]) rfl rfl rfl rfl ?_
  obtain ⟨hw_2_0, hw_2_1⟩ := hw_2
  refine j_if_eq (pc := 74) (tgt := 82) C dX5_joint_74 (by decide) (fun c_3 => ?_) (fun c_3 => ?_)
  · skip
    have el_0 : (0 : Int32).toInt = 0 := rfl
    rw [i_eq] at c_3
    refine j_aload_n (pc := 82) C dX5_joint_82 rfl 0 rfl ?_
    refine j_get (pc := 83) (ci := 5) (v := .ref t0) C inw_5 0 rfl rfl 0 (by decide) wd_296 rfl rfl dX5_joint_83 ?_
    refine j_bipush (pc := 86) (v := 61) C dX5_joint_86 (by decide) ?_
    refine j_callV (pc := 88) (As := [.int 61]) (rest := []) (wr := [(r0, .inr (5, [.ref t0, .ref e0, .ref r1, .ref r2, .ref a0, .int r_habits, .int r_fault]))]) C (c_X8_isSign_f l D cyC cyI cyJ cyZ cyO t0 t1 61 t_length t_next t_kind t_place t_number t_text h_t_length h_t_next h_t_kind h_t_place h_t_text ht3 hTH) wd_300 wd_258 wd_301 wd_302 wd_303 ⟨by decide, by decide, rfl⟩ rfl ⟨rfl, rfl, by decide, by decide⟩ ⟨by decide, by decide⟩ [1, 2] [0] rfl rfl ⟨by decide, by decide, by decide⟩ 1 rfl rfl rfl (Nat.le_of_ble_eq_true rfl) dX5_joint_88 (fun u_4 hw_5 => ?_)
    refine j_eq (ws2 := [(r0, .inr (5, [.ref t0, .ref e0, .ref r1, .ref r2, .ref a0, .int r_habits, .int r_fault])), (t0, .inr (8, [.ref t1, .int t_length, .int t_next, .int t_kind, .int t_place, .int t_number])), (t1, .inl (cyC, 1000, .inl t_text))]) (pc2 := 91) (lv2 := [(0, .ref r0), (1, .int 1)]) (st2 := [.int (u_4.2.1 0)]) rfl rfl rfl rfl ?_
    obtain ⟨hw_5_0, hw_5_1⟩ := hw_5
    refine j_if_eq (pc := 91) (tgt := 99) C dX5_joint_91 (by decide) (fun c_6 => ?_) (fun c_6 => ?_)
    · skip
      have el_0 : (0 : Int32).toInt = 0 := rfl
      rw [i_eq] at c_6
      refine j_bipush (pc := 99) (v := (-100)) C dX5_joint_99 (by decide) ?_
      have el_m100 : ((-100) : Int32).toInt = (-100) := rfl
      have el_m100 : ((-100) : Int32).toInt = (-100) := rfl
      have el_m100 : ((-100) : Int32).toInt = (-100) := rfl
      exact j_iret (pc := 101) C hr hk (fun i => [].getD i 0, fun i => [(-100)].getD i 0, fun i => [].getD i (fun _ => 0), fun i => [].getD i (fun _ => 0)) rfl (show (-100 ≤ (((-100) : Int32)).toInt ∧ (((-100) : Int32)).toInt ≤ -10) ∧ (IM (jnt (TKS t_text (t_length).toInt.toNat) 1 (t_place).toInt.toNat = true) (((-100) : Int32).toInt = jcd (TKS t_text (t_length).toInt.toNat) 1 (t_place).toInt.toNat)) ∧ (OR2 (((-100) : Int32).toInt = -100 ∧ jnt (TKS t_text (t_length).toInt.toNat) 1 (t_place).toInt.toNat = false) (¬ ((-100) : Int32).toInt = -100 ∧ jnt (TKS t_text (t_length).toInt.toNat) 1 (t_place).toInt.toNat = true)) from ⟨by omega, (fun q => by exfalso; have z9 := jnt1.mp q; omega), (Or.inl ⟨by decide, Bool.eq_false_iff.mpr (fun q => by have z9 := jnt1.mp q; omega)⟩)⟩) [0, 1, 2] (by decide) rfl (by decide) (by decide) dX5_joint_101
    · skip
      have el_0 : (0 : Int32).toInt = 0 := rfl
      rw [i_eq] at c_6
      have k0c_6 : ((u_4.2.1 0)).toInt = 1 := by omega
      refine j_bipush (pc := 94) (v := (-13)) C dX5_joint_94 (by decide) ?_
      refine j_goto (pc := 96) (tgt := 101) C dX5_joint_96 (by decide) ?_
      have el_m13 : ((-13) : Int32).toInt = (-13) := rfl
      have el_m13 : ((-13) : Int32).toInt = (-13) := rfl
      have el_m13 : ((-13) : Int32).toInt = (-13) := rfl
      exact j_iret (pc := 101) C hr hk (fun i => [].getD i 0, fun i => [(-13)].getD i 0, fun i => [].getD i (fun _ => 0), fun i => [].getD i (fun _ => 0)) rfl (show (-100 ≤ (((-13) : Int32)).toInt ∧ (((-13) : Int32)).toInt ≤ -10) ∧ (IM (jnt (TKS t_text (t_length).toInt.toNat) 1 (t_place).toInt.toNat = true) (((-13) : Int32).toInt = jcd (TKS t_text (t_length).toInt.toNat) 1 (t_place).toInt.toNat)) ∧ (OR2 (((-13) : Int32).toInt = -100 ∧ jnt (TKS t_text (t_length).toInt.toNat) 1 (t_place).toInt.toNat = false) (¬ ((-13) : Int32).toInt = -100 ∧ jnt (TKS t_text (t_length).toInt.toNat) 1 (t_place).toInt.toNat = true)) from ⟨by omega, (fun _ => by rw [jcd1, if_neg (show ¬ isG (TKS t_text (t_length).toInt.toNat) (t_place).toInt.toNat 60 = true from gI_0.mp (by omega))]; rfl), (Or.inr ⟨by decide, jnt1.mpr (by omega)⟩)⟩) [0, 1, 2] (by decide) rfl (by decide) (by decide) dX5_joint_101
  · skip
    have el_0 : (0 : Int32).toInt = 0 := rfl
    rw [i_eq] at c_3
    have k0c_3 : ((u_1.2.1 0)).toInt = 1 := by omega
    refine j_bipush (pc := 77) (v := (-12)) C dX5_joint_77 (by decide) ?_
    refine j_goto (pc := 79) (tgt := 101) C dX5_joint_79 (by decide) ?_
    have el_m12 : ((-12) : Int32).toInt = (-12) := rfl
    have el_m12 : ((-12) : Int32).toInt = (-12) := rfl
    have el_m12 : ((-12) : Int32).toInt = (-12) := rfl
    exact j_iret (pc := 101) C hr hk (fun i => [].getD i 0, fun i => [(-12)].getD i 0, fun i => [].getD i (fun _ => 0), fun i => [].getD i (fun _ => 0)) rfl (show (-100 ≤ (((-12) : Int32)).toInt ∧ (((-12) : Int32)).toInt ≤ -10) ∧ (IM (jnt (TKS t_text (t_length).toInt.toNat) 1 (t_place).toInt.toNat = true) (((-12) : Int32).toInt = jcd (TKS t_text (t_length).toInt.toNat) 1 (t_place).toInt.toNat)) ∧ (OR2 (((-12) : Int32).toInt = -100 ∧ jnt (TKS t_text (t_length).toInt.toNat) 1 (t_place).toInt.toNat = false) (¬ ((-12) : Int32).toInt = -100 ∧ jnt (TKS t_text (t_length).toInt.toNat) 1 (t_place).toInt.toNat = true)) from ⟨by omega, (fun _ => by rw [jcd1, if_pos (show isG (TKS t_text (t_length).toInt.toNat) (t_place).toInt.toNat 60 = true from gI_1.mp (by omega))]; rfl), (Or.inr ⟨by decide, jnt1.mpr (by omega)⟩)⟩) [0, 1, 2] (by decide) rfl (by decide) (by decide) dX5_joint_101
set_option maxHeartbeats 4000000 in
set_option maxRecDepth 100000 in
theorem c_X5_joint_2 (l : Launch) (D : DG) (cyC cyI cyJ cyZ cyO : ClassId) (r0 : Nat) (t0 : Nat) (t1 : Nat) (e0 : Nat) (r1 : Nat) (r2 : Nat) (a0 : Nat) (r_habits : Int32) (r_fault : Int32) (t_length : Int32) (t_next : Int32) (t_kind : Int32) (t_place : Int32) (t_number : Int32) (t_text : Nat → Int32) (h_t_length : 0 ≤ (t_length).toInt ∧ (t_length).toInt ≤ 1000) (h_t_next : 0 ≤ (t_next).toInt ∧ (t_next).toInt ≤ 1000) (h_t_kind : 0 ≤ (t_kind).toInt ∧ (t_kind).toInt ≤ 4) (h_t_place : 0 ≤ (t_place).toInt ∧ (t_place).toInt ≤ 1000) (h_t_text : Iv 1000 (0) (126) t_text) (ht3 : ¬ (t_kind).toInt = 3 ∨ (t_place).toInt ≤ 999) (hTH : TH t_text (t_length).toInt.toNat (t_next).toInt (t_kind).toInt (t_place).toInt (t_number).toInt) : KK l D (TY cyC cyI cyJ cyZ cyO) yX5_joint cX5_joint 2 (some .int) ({ frames := 1, cells := 0, slots := 0, locals := 21 } : Room) 0 0 [.ref r0, .int 2] [(r0, .inr (5, [.ref t0, .ref e0, .ref r1, .ref r2, .ref a0, .int r_habits, .int r_fault])), (t0, .inr (8, [.ref t1, .int t_length, .int t_next, .int t_kind, .int t_place, .int t_number])), (t1, .inl (cyC, 1000, .inl t_text))] (fun u => some (.int (u.2.1 0))) (fun u => (-100 ≤ (u.2.1 0).toInt ∧ (u.2.1 0).toInt ≤ -10) ∧ (IM (jnt (TKS t_text (t_length).toInt.toNat) 2 (t_place).toInt.toNat = true) ((u.2.1 0).toInt = jcd (TKS t_text (t_length).toInt.toNat) 2 (t_place).toInt.toNat)) ∧ (OR2 ((u.2.1 0).toInt = -100 ∧ jnt (TKS t_text (t_length).toInt.toNat) 2 (t_place).toInt.toNat = false) (¬ (u.2.1 0).toInt = -100 ∧ jnt (TKS t_text (t_length).toInt.toNat) 2 (t_place).toInt.toNat = true))) (fun u => [(r0, .inr (5, [.ref t0, .ref e0, .ref r1, .ref r2, .ref a0, .int r_habits, .int r_fault])), (t0, .inr (8, [.ref t1, .int t_length, .int t_next, .int t_kind, .int t_place, .int t_number])), (t1, .inl (cyC, 1000, .inl t_text))]) := by
  refine KK.of (lv0 := [(0, .ref r0), (1, .int 2)]) (by decide) rfl (Nat.le_of_ble_eq_true rfl) ?_
  intro p e s m args below meth c A C hr hk hin
  refine j_iload_n (pc := 0) C dX5_joint_0 rfl 1 rfl ?_
  refine j_tin (pc := 1) (off := 101) (tgt := 102) C dX5_joint_1 (by decide) (by decide) (by decide) (by decide) ?_
  refine j_aload_n (pc := 102) C dX5_joint_102 rfl 0 rfl ?_
  refine j_get (pc := 103) (ci := 5) (v := .ref t0) C inw_5 0 rfl rfl 0 (by decide) wd_296 rfl rfl dX5_joint_103 ?_
  refine j_bipush (pc := 106) (v := 43) C dX5_joint_106 (by decide) ?_
  refine j_callV (pc := 108) (As := [.int 43]) (rest := []) (wr := [(r0, .inr (5, [.ref t0, .ref e0, .ref r1, .ref r2, .ref a0, .int r_habits, .int r_fault]))]) C (c_X8_isSign_f l D cyC cyI cyJ cyZ cyO t0 t1 43 t_length t_next t_kind t_place t_number t_text h_t_length h_t_next h_t_kind h_t_place h_t_text ht3 hTH) wd_300 wd_258 wd_301 wd_302 wd_303 ⟨by decide, by decide, rfl⟩ rfl ⟨rfl, rfl, by decide, by decide⟩ ⟨by decide, by decide⟩ [1, 2] [0] rfl rfl ⟨by decide, by decide, by decide⟩ 1 rfl rfl rfl (Nat.le_of_ble_eq_true rfl) dX5_joint_108 (fun u_1 hw_2 => ?_)
  refine j_eq (ws2 := [(r0, .inr (5, [.ref t0, .ref e0, .ref r1, .ref r2, .ref a0, .int r_habits, .int r_fault])), (t0, .inr (8, [.ref t1, .int t_length, .int t_next, .int t_kind, .int t_place, .int t_number])), (t1, .inl (cyC, 1000, .inl t_text))]) (pc2 := 111) (lv2 := [(0, .ref r0), (1, .int 2)]) (st2 := [.int (u_1.2.1 0)]) rfl rfl rfl rfl ?_
  obtain ⟨hw_2_0, hw_2_1⟩ := hw_2
  refine j_if_eq (pc := 111) (tgt := 119) C dX5_joint_111 (by decide) (fun c_3 => ?_) (fun c_3 => ?_)
  · skip
    have el_0 : (0 : Int32).toInt = 0 := rfl
    rw [i_eq] at c_3
    refine j_aload_n (pc := 119) C dX5_joint_119 rfl 0 rfl ?_
    refine j_get (pc := 120) (ci := 5) (v := .ref t0) C inw_5 0 rfl rfl 0 (by decide) wd_296 rfl rfl dX5_joint_120 ?_
    refine j_bipush (pc := 123) (v := 45) C dX5_joint_123 (by decide) ?_
    refine j_callV (pc := 125) (As := [.int 45]) (rest := []) (wr := [(r0, .inr (5, [.ref t0, .ref e0, .ref r1, .ref r2, .ref a0, .int r_habits, .int r_fault]))]) C (c_X8_isSign_f l D cyC cyI cyJ cyZ cyO t0 t1 45 t_length t_next t_kind t_place t_number t_text h_t_length h_t_next h_t_kind h_t_place h_t_text ht3 hTH) wd_300 wd_258 wd_301 wd_302 wd_303 ⟨by decide, by decide, rfl⟩ rfl ⟨rfl, rfl, by decide, by decide⟩ ⟨by decide, by decide⟩ [1, 2] [0] rfl rfl ⟨by decide, by decide, by decide⟩ 1 rfl rfl rfl (Nat.le_of_ble_eq_true rfl) dX5_joint_125 (fun u_4 hw_5 => ?_)
    refine j_eq (ws2 := [(r0, .inr (5, [.ref t0, .ref e0, .ref r1, .ref r2, .ref a0, .int r_habits, .int r_fault])), (t0, .inr (8, [.ref t1, .int t_length, .int t_next, .int t_kind, .int t_place, .int t_number])), (t1, .inl (cyC, 1000, .inl t_text))]) (pc2 := 128) (lv2 := [(0, .ref r0), (1, .int 2)]) (st2 := [.int (u_4.2.1 0)]) rfl rfl rfl rfl ?_
    obtain ⟨hw_5_0, hw_5_1⟩ := hw_5
    refine j_if_eq (pc := 128) (tgt := 136) C dX5_joint_128 (by decide) (fun c_6 => ?_) (fun c_6 => ?_)
    · skip
      have el_0 : (0 : Int32).toInt = 0 := rfl
      rw [i_eq] at c_6
      refine j_bipush (pc := 136) (v := (-100)) C dX5_joint_136 (by decide) ?_
      have el_m100 : ((-100) : Int32).toInt = (-100) := rfl
      have el_m100 : ((-100) : Int32).toInt = (-100) := rfl
      have el_m100 : ((-100) : Int32).toInt = (-100) := rfl
      exact j_iret (pc := 138) C hr hk (fun i => [].getD i 0, fun i => [(-100)].getD i 0, fun i => [].getD i (fun _ => 0), fun i => [].getD i (fun _ => 0)) rfl (show (-100 ≤ (((-100) : Int32)).toInt ∧ (((-100) : Int32)).toInt ≤ -10) ∧ (IM (jnt (TKS t_text (t_length).toInt.toNat) 2 (t_place).toInt.toNat = true) (((-100) : Int32).toInt = jcd (TKS t_text (t_length).toInt.toNat) 2 (t_place).toInt.toNat)) ∧ (OR2 (((-100) : Int32).toInt = -100 ∧ jnt (TKS t_text (t_length).toInt.toNat) 2 (t_place).toInt.toNat = false) (¬ ((-100) : Int32).toInt = -100 ∧ jnt (TKS t_text (t_length).toInt.toNat) 2 (t_place).toInt.toNat = true)) from ⟨by omega, (fun q => by exfalso; have z9 := jnt2.mp q; omega), (Or.inl ⟨by decide, Bool.eq_false_iff.mpr (fun q => by have z9 := jnt2.mp q; omega)⟩)⟩) [0, 1, 2] (by decide) rfl (by decide) (by decide) dX5_joint_138
    · skip
      have el_0 : (0 : Int32).toInt = 0 := rfl
      rw [i_eq] at c_6
      have k0c_6 : ((u_4.2.1 0)).toInt = 1 := by omega
      refine j_bipush (pc := 131) (v := (-15)) C dX5_joint_131 (by decide) ?_
      refine j_goto (pc := 133) (tgt := 138) C dX5_joint_133 (by decide) ?_
      have el_m15 : ((-15) : Int32).toInt = (-15) := rfl
      have el_m15 : ((-15) : Int32).toInt = (-15) := rfl
      have el_m15 : ((-15) : Int32).toInt = (-15) := rfl
      exact j_iret (pc := 138) C hr hk (fun i => [].getD i 0, fun i => [(-15)].getD i 0, fun i => [].getD i (fun _ => 0), fun i => [].getD i (fun _ => 0)) rfl (show (-100 ≤ (((-15) : Int32)).toInt ∧ (((-15) : Int32)).toInt ≤ -10) ∧ (IM (jnt (TKS t_text (t_length).toInt.toNat) 2 (t_place).toInt.toNat = true) (((-15) : Int32).toInt = jcd (TKS t_text (t_length).toInt.toNat) 2 (t_place).toInt.toNat)) ∧ (OR2 (((-15) : Int32).toInt = -100 ∧ jnt (TKS t_text (t_length).toInt.toNat) 2 (t_place).toInt.toNat = false) (¬ ((-15) : Int32).toInt = -100 ∧ jnt (TKS t_text (t_length).toInt.toNat) 2 (t_place).toInt.toNat = true)) from ⟨by omega, (fun _ => by rw [jcd2, if_neg (show ¬ isG (TKS t_text (t_length).toInt.toNat) (t_place).toInt.toNat 43 = true from gI_0.mp (by omega))]; rfl), (Or.inr ⟨by decide, jnt2.mpr (by omega)⟩)⟩) [0, 1, 2] (by decide) rfl (by decide) (by decide) dX5_joint_138
  · skip
    have el_0 : (0 : Int32).toInt = 0 := rfl
    rw [i_eq] at c_3
    have k0c_3 : ((u_1.2.1 0)).toInt = 1 := by omega
    refine j_bipush (pc := 114) (v := (-14)) C dX5_joint_114 (by decide) ?_
    refine j_goto (pc := 116) (tgt := 138) C dX5_joint_116 (by decide) ?_
    have el_m14 : ((-14) : Int32).toInt = (-14) := rfl
    have el_m14 : ((-14) : Int32).toInt = (-14) := rfl
    have el_m14 : ((-14) : Int32).toInt = (-14) := rfl
    exact j_iret (pc := 138) C hr hk (fun i => [].getD i 0, fun i => [(-14)].getD i 0, fun i => [].getD i (fun _ => 0), fun i => [].getD i (fun _ => 0)) rfl (show (-100 ≤ (((-14) : Int32)).toInt ∧ (((-14) : Int32)).toInt ≤ -10) ∧ (IM (jnt (TKS t_text (t_length).toInt.toNat) 2 (t_place).toInt.toNat = true) (((-14) : Int32).toInt = jcd (TKS t_text (t_length).toInt.toNat) 2 (t_place).toInt.toNat)) ∧ (OR2 (((-14) : Int32).toInt = -100 ∧ jnt (TKS t_text (t_length).toInt.toNat) 2 (t_place).toInt.toNat = false) (¬ ((-14) : Int32).toInt = -100 ∧ jnt (TKS t_text (t_length).toInt.toNat) 2 (t_place).toInt.toNat = true)) from ⟨by omega, (fun _ => by rw [jcd2, if_pos (show isG (TKS t_text (t_length).toInt.toNat) (t_place).toInt.toNat 43 = true from gI_1.mp (by omega))]; rfl), (Or.inr ⟨by decide, jnt2.mpr (by omega)⟩)⟩) [0, 1, 2] (by decide) rfl (by decide) (by decide) dX5_joint_138
set_option maxHeartbeats 4000000 in
set_option maxRecDepth 100000 in
theorem c_X5_joint_3 (l : Launch) (D : DG) (cyC cyI cyJ cyZ cyO : ClassId) (r0 : Nat) (t0 : Nat) (t1 : Nat) (e0 : Nat) (r1 : Nat) (r2 : Nat) (a0 : Nat) (r_habits : Int32) (r_fault : Int32) (t_length : Int32) (t_next : Int32) (t_kind : Int32) (t_place : Int32) (t_number : Int32) (t_text : Nat → Int32) (h_t_length : 0 ≤ (t_length).toInt ∧ (t_length).toInt ≤ 1000) (h_t_next : 0 ≤ (t_next).toInt ∧ (t_next).toInt ≤ 1000) (h_t_kind : 0 ≤ (t_kind).toInt ∧ (t_kind).toInt ≤ 4) (h_t_place : 0 ≤ (t_place).toInt ∧ (t_place).toInt ≤ 1000) (h_t_text : Iv 1000 (0) (126) t_text) (ht3 : ¬ (t_kind).toInt = 3 ∨ (t_place).toInt ≤ 999) (hTH : TH t_text (t_length).toInt.toNat (t_next).toInt (t_kind).toInt (t_place).toInt (t_number).toInt) : KK l D (TY cyC cyI cyJ cyZ cyO) yX5_joint cX5_joint 2 (some .int) ({ frames := 1, cells := 0, slots := 0, locals := 21 } : Room) 0 0 [.ref r0, .int 3] [(r0, .inr (5, [.ref t0, .ref e0, .ref r1, .ref r2, .ref a0, .int r_habits, .int r_fault])), (t0, .inr (8, [.ref t1, .int t_length, .int t_next, .int t_kind, .int t_place, .int t_number])), (t1, .inl (cyC, 1000, .inl t_text))] (fun u => some (.int (u.2.1 0))) (fun u => (-100 ≤ (u.2.1 0).toInt ∧ (u.2.1 0).toInt ≤ -10) ∧ (IM (jnt (TKS t_text (t_length).toInt.toNat) 3 (t_place).toInt.toNat = true) ((u.2.1 0).toInt = jcd (TKS t_text (t_length).toInt.toNat) 3 (t_place).toInt.toNat)) ∧ (OR2 ((u.2.1 0).toInt = -100 ∧ jnt (TKS t_text (t_length).toInt.toNat) 3 (t_place).toInt.toNat = false) (¬ (u.2.1 0).toInt = -100 ∧ jnt (TKS t_text (t_length).toInt.toNat) 3 (t_place).toInt.toNat = true))) (fun u => [(r0, .inr (5, [.ref t0, .ref e0, .ref r1, .ref r2, .ref a0, .int r_habits, .int r_fault])), (t0, .inr (8, [.ref t1, .int t_length, .int t_next, .int t_kind, .int t_place, .int t_number])), (t1, .inl (cyC, 1000, .inl t_text))]) := by
  refine KK.of (lv0 := [(0, .ref r0), (1, .int 3)]) (by decide) rfl (Nat.le_of_ble_eq_true rfl) ?_
  intro p e s m args below meth c A C hr hk hin
  refine j_iload_n (pc := 0) C dX5_joint_0 rfl 1 rfl ?_
  refine j_tout (pc := 1) (tgt := 139) C dX5_joint_1 (by decide) (by decide) ?_
  refine j_aload_n (pc := 139) C dX5_joint_139 rfl 0 rfl ?_
  refine j_get (pc := 140) (ci := 5) (v := .ref t0) C inw_5 0 rfl rfl 0 (by decide) wd_296 rfl rfl dX5_joint_140 ?_
  refine j_bipush (pc := 143) (v := 42) C dX5_joint_143 (by decide) ?_
  refine j_callV (pc := 145) (As := [.int 42]) (rest := []) (wr := [(r0, .inr (5, [.ref t0, .ref e0, .ref r1, .ref r2, .ref a0, .int r_habits, .int r_fault]))]) C (c_X8_isSign_f l D cyC cyI cyJ cyZ cyO t0 t1 42 t_length t_next t_kind t_place t_number t_text h_t_length h_t_next h_t_kind h_t_place h_t_text ht3 hTH) wd_300 wd_258 wd_301 wd_302 wd_303 ⟨by decide, by decide, rfl⟩ rfl ⟨rfl, rfl, by decide, by decide⟩ ⟨by decide, by decide⟩ [1, 2] [0] rfl rfl ⟨by decide, by decide, by decide⟩ 1 rfl rfl rfl (Nat.le_of_ble_eq_true rfl) dX5_joint_145 (fun u_1 hw_2 => ?_)
  refine j_eq (ws2 := [(r0, .inr (5, [.ref t0, .ref e0, .ref r1, .ref r2, .ref a0, .int r_habits, .int r_fault])), (t0, .inr (8, [.ref t1, .int t_length, .int t_next, .int t_kind, .int t_place, .int t_number])), (t1, .inl (cyC, 1000, .inl t_text))]) (pc2 := 148) (lv2 := [(0, .ref r0), (1, .int 3)]) (st2 := [.int (u_1.2.1 0)]) rfl rfl rfl rfl ?_
  obtain ⟨hw_2_0, hw_2_1⟩ := hw_2
  refine j_if_eq (pc := 148) (tgt := 156) C dX5_joint_148 (by decide) (fun c_3 => ?_) (fun c_3 => ?_)
  · skip
    have el_0 : (0 : Int32).toInt = 0 := rfl
    rw [i_eq] at c_3
    refine j_bipush (pc := 156) (v := (-100)) C dX5_joint_156 (by decide) ?_
    have el_m100 : ((-100) : Int32).toInt = (-100) := rfl
    have el_m100 : ((-100) : Int32).toInt = (-100) := rfl
    have el_m100 : ((-100) : Int32).toInt = (-100) := rfl
    exact j_iret (pc := 158) C hr hk (fun i => [].getD i 0, fun i => [(-100)].getD i 0, fun i => [].getD i (fun _ => 0), fun i => [].getD i (fun _ => 0)) rfl (show (-100 ≤ (((-100) : Int32)).toInt ∧ (((-100) : Int32)).toInt ≤ -10) ∧ (IM (jnt (TKS t_text (t_length).toInt.toNat) 3 (t_place).toInt.toNat = true) (((-100) : Int32).toInt = jcd (TKS t_text (t_length).toInt.toNat) 3 (t_place).toInt.toNat)) ∧ (OR2 (((-100) : Int32).toInt = -100 ∧ jnt (TKS t_text (t_length).toInt.toNat) 3 (t_place).toInt.toNat = false) (¬ ((-100) : Int32).toInt = -100 ∧ jnt (TKS t_text (t_length).toInt.toNat) 3 (t_place).toInt.toNat = true)) from ⟨by omega, (fun q => by exfalso; have z9 := jnt3.mp q; omega), (Or.inl ⟨by decide, Bool.eq_false_iff.mpr (fun q => by have z9 := jnt3.mp q; omega)⟩)⟩) [0, 1, 2] (by decide) rfl (by decide) (by decide) dX5_joint_158
  · skip
    have el_0 : (0 : Int32).toInt = 0 := rfl
    rw [i_eq] at c_3
    have k0c_3 : ((u_1.2.1 0)).toInt = 1 := by omega
    refine j_bipush (pc := 151) (v := (-16)) C dX5_joint_151 (by decide) ?_
    refine j_goto (pc := 153) (tgt := 158) C dX5_joint_153 (by decide) ?_
    have el_m16 : ((-16) : Int32).toInt = (-16) := rfl
    have el_m16 : ((-16) : Int32).toInt = (-16) := rfl
    have el_m16 : ((-16) : Int32).toInt = (-16) := rfl
    exact j_iret (pc := 158) C hr hk (fun i => [].getD i 0, fun i => [(-16)].getD i 0, fun i => [].getD i (fun _ => 0), fun i => [].getD i (fun _ => 0)) rfl (show (-100 ≤ (((-16) : Int32)).toInt ∧ (((-16) : Int32)).toInt ≤ -10) ∧ (IM (jnt (TKS t_text (t_length).toInt.toNat) 3 (t_place).toInt.toNat = true) (((-16) : Int32).toInt = jcd (TKS t_text (t_length).toInt.toNat) 3 (t_place).toInt.toNat)) ∧ (OR2 (((-16) : Int32).toInt = -100 ∧ jnt (TKS t_text (t_length).toInt.toNat) 3 (t_place).toInt.toNat = false) (¬ ((-16) : Int32).toInt = -100 ∧ jnt (TKS t_text (t_length).toInt.toNat) 3 (t_place).toInt.toNat = true)) from ⟨by omega, (fun _ => by rw [jcd3]; rfl), (Or.inr ⟨by decide, jnt3.mpr (by omega)⟩)⟩) [0, 1, 2] (by decide) rfl (by decide) (by decide) dX5_joint_158
