theorem wd_344 : Cond.fieldLink RX5 21 "BowlShelf$Reader" "nests" "LBowlShelf$Nests;" ∈ WALL := wl_in (by decide +kernel) (by decide +kernel)
theorem wd_345 : Cond.code yX1_add cX1_add 2 none ∈ WALL := wl_in (by decide +kernel) (by decide +kernel)
theorem wd_346 : Cond.methodLink RX5 222 yX1_add ∈ WALL := wl_in (by decide +kernel) (by decide +kernel)
theorem wd_347 : Cond.instanceMethod yX1_add ∈ WALL := wl_in (by decide +kernel) (by decide +kernel)
theorem wd_348 : Cond.selects RX1 yX1_add yX1_add ∈ WALL := wl_in (by decide +kernel) (by decide +kernel)
theorem wd_349 : Cond.code yX5_joint cX5_joint 2 (some .int) ∈ WALL := wl_in (by decide +kernel) (by decide +kernel)
theorem wd_350 : Cond.methodLink RX5 219 yX5_joint ∈ WALL := wl_in (by decide +kernel) (by decide +kernel)
theorem wd_351 : Cond.instanceMethod yX5_joint ∈ WALL := wl_in (by decide +kernel) (by decide +kernel)
theorem wd_352 : Cond.selects RX5 yX5_joint yX5_joint ∈ WALL := wl_in (by decide +kernel) (by decide +kernel)
theorem dX5_readPart_79 : decode cX5_readPart 79 = .ok (.aload_n 0, 1) := by decide +kernel
theorem dX5_readPart_80 : decode cX5_readPart 80 = .ok (.getfield 12, 3) := by decide +kernel
theorem dX5_readPart_83 : decode cX5_readPart 83 = .ok (.invokevirtual 189, 3) := by decide +kernel
theorem dX5_readPart_86 : decode cX5_readPart 86 = .ok (.iload_n 3, 1) := by decide +kernel
theorem dX5_readPart_87 : decode cX5_readPart 87 = .ok (.ifCond .eq 29, 3) := by decide +kernel
theorem dX5_readPart_90 : decode cX5_readPart 90 = .ok (.aload_n 0, 1) := by decide +kernel
theorem dX5_readPart_91 : decode cX5_readPart 91 = .ok (.iconst 0, 1) := by decide +kernel
theorem dX5_readPart_92 : decode cX5_readPart 92 = .ok (.iload_n 1, 1) := by decide +kernel
theorem dX5_readPart_93 : decode cX5_readPart 93 = .ok (.iconst 1, 1) := by decide +kernel
theorem dX5_readPart_94 : decode cX5_readPart 94 = .ok (.iadd, 1) := by decide +kernel
theorem dX5_readPart_95 : decode cX5_readPart 95 = .ok (.invokevirtual 192, 3) := by decide +kernel
theorem dX5_readPart_98 : decode cX5_readPart 98 = .ok (.ifCond .eq 16, 3) := by decide +kernel
theorem dX5_readPart_114 : decode cX5_readPart 114 = .ok (.iconst 0, 1) := by decide +kernel
theorem dX5_readPart_115 : decode cX5_readPart 115 = .ok (.ireturn, 1) := by decide +kernel
theorem dX5_readPart_116 : decode cX5_readPart 116 = .ok (.iload_n 2, 1) := by decide +kernel
theorem dX5_readPart_117 : decode cX5_readPart 117 = .ok (.ifCond .eq 13, 3) := by decide +kernel
theorem dX5_readPart_120 : decode cX5_readPart 120 = .ok (.aload_n 0, 1) := by decide +kernel
theorem dX5_readPart_121 : decode cX5_readPart 121 = .ok (.iload_n 1, 1) := by decide +kernel
theorem dX5_readPart_122 : decode cX5_readPart 122 = .ok (.iconst 1, 1) := by decide +kernel
theorem dX5_readPart_123 : decode cX5_readPart 123 = .ok (.iadd, 1) := by decide +kernel
theorem dX5_readPart_124 : decode cX5_readPart 124 = .ok (.invokevirtual 216, 3) := by decide +kernel
theorem dX5_readPart_127 : decode cX5_readPart 127 = .ok (.ifCond .eq 7, 3) := by decide +kernel
theorem dX5_readPart_130 : decode cX5_readPart 130 = .ok (.iconst 1, 1) := by decide +kernel
theorem dX5_readPart_131 : decode cX5_readPart 131 = .ok (.goto 4, 3) := by decide +kernel
theorem dX5_readPart_134 : decode cX5_readPart 134 = .ok (.iconst 0, 1) := by decide +kernel
theorem dX5_readPart_135 : decode cX5_readPart 135 = .ok (.istore 5, 2) := by decide +kernel
theorem dX5_readPart_137 : decode cX5_readPart 137 = .ok (.aload_n 0, 1) := by decide +kernel
theorem dX5_readPart_138 : decode cX5_readPart 138 = .ok (.getfield 21, 3) := by decide +kernel
theorem dX5_readPart_141 : decode cX5_readPart 141 = .ok (.iload_n 2, 1) := by decide +kernel
theorem dX5_readPart_142 : decode cX5_readPart 142 = .ok (.ifCond .eq 8, 3) := by decide +kernel
theorem dX5_readPart_145 : decode cX5_readPart 145 = .ok (.bipush (-9), 2) := by decide +kernel
theorem dX5_readPart_147 : decode cX5_readPart 147 = .ok (.goto 5, 3) := by decide +kernel
theorem dX5_readPart_150 : decode cX5_readPart 150 = .ok (.iload 4, 2) := by decide +kernel
theorem dX5_readPart_152 : decode cX5_readPart 152 = .ok (.invokevirtual 222, 3) := by decide +kernel
theorem dX5_readPart_155 : decode cX5_readPart 155 = .ok (.iload 5, 2) := by decide +kernel
theorem dX5_readPart_157 : decode cX5_readPart 157 = .ok (.ireturn, 1) := by decide +kernel
theorem dX5_readChain_48 : decode cX5_readChain 48 = .ok (.aload_n 0, 1) := by decide +kernel
theorem dX5_readChain_49 : decode cX5_readChain 49 = .ok (.iload_n 1, 1) := by decide +kernel
theorem dX5_readChain_50 : decode cX5_readChain 50 = .ok (.invokevirtual 219, 3) := by decide +kernel
theorem dX5_readChain_53 : decode cX5_readChain 53 = .ok (.istore 6, 2) := by decide +kernel
theorem dX5_readChain_55 : decode cX5_readChain 55 = .ok (.iload 6, 2) := by decide +kernel
theorem dX5_readChain_57 : decode cX5_readChain 57 = .ok (.bipush (-100), 2) := by decide +kernel
theorem dX5_readChain_59 : decode cX5_readChain 59 = .ok (.if_icmp .ne 5, 3) := by decide +kernel
theorem dX5_readChain_62 : decode cX5_readChain 62 = .ok (.iconst 1, 1) := by decide +kernel
theorem dX5_readChain_63 : decode cX5_readChain 63 = .ok (.ireturn, 1) := by decide +kernel
theorem dX5_readChain_64 : decode cX5_readChain 64 = .ok (.aload_n 0, 1) := by decide +kernel
theorem dX5_readChain_65 : decode cX5_readChain 65 = .ok (.getfield 12, 3) := by decide +kernel
theorem dX5_readChain_68 : decode cX5_readChain 68 = .ok (.invokevirtual 189, 3) := by decide +kernel
theorem dX5_readChain_71 : decode cX5_readChain 71 = .ok (.aload_n 0, 1) := by decide +kernel
theorem dX5_readChain_72 : decode cX5_readChain 72 = .ok (.iload_n 1, 1) := by decide +kernel
theorem dX5_readChain_73 : decode cX5_readChain 73 = .ok (.iconst 1, 1) := by decide +kernel
theorem dX5_readChain_74 : decode cX5_readChain 74 = .ok (.iadd, 1) := by decide +kernel
theorem dX5_readChain_75 : decode cX5_readChain 75 = .ok (.iload_n 2, 1) := by decide +kernel
theorem dX5_readChain_76 : decode cX5_readChain 76 = .ok (.invokevirtual 192, 3) := by decide +kernel
theorem dX5_readChain_79 : decode cX5_readChain 79 = .ok (.istore_n 3, 1) := by decide +kernel
theorem dX5_readChain_80 : decode cX5_readChain 80 = .ok (.aload_n 0, 1) := by decide +kernel
theorem dX5_readChain_81 : decode cX5_readChain 81 = .ok (.getfield 21, 3) := by decide +kernel
theorem dX5_readChain_84 : decode cX5_readChain 84 = .ok (.iload 6, 2) := by decide +kernel
theorem dX5_readChain_86 : decode cX5_readChain 86 = .ok (.invokevirtual 222, 3) := by decide +kernel
theorem dX5_readChain_89 : decode cX5_readChain 89 = .ok (.iinc 5 1, 3) := by decide +kernel
theorem dX5_readChain_92 : decode cX5_readChain 92 = .ok (.goto (-55), 3) := by decide +kernel
set_option maxHeartbeats 4000000 in
set_option maxRecDepth 100000 in
theorem c_X5_readPart_4 (l : Launch) (D : DG) (cyC cyI cyJ cyZ cyO : ClassId) (r0 : Nat) (t0 : Nat) (t1 : Nat) (e0 : Nat) (e1 : Nat) (r1 : Nat) (r2 : Nat) (a0 : Nat) (e2 : Nat) (e3 : Nat) (r_habits : Int32) (r_fault : Int32) (t_length : Int32) (t_next : Int32) (t_kind : Int32) (t_place : Int32) (t_number : Int32) (e_size : Int32) (e_nests : Int32) (t_text : Nat → Int32) (e_steps : Nat → Int32) (h_t_length : 0 ≤ (t_length).toInt ∧ (t_length).toInt ≤ 1000) (h_t_next : 0 ≤ (t_next).toInt ∧ (t_next).toInt ≤ 1000) (h_t_kind : 0 ≤ (t_kind).toInt ∧ (t_kind).toInt ≤ 4) (h_t_place : 0 ≤ (t_place).toInt ∧ (t_place).toInt ≤ 1000) (h_e_size : 0 ≤ (e_size).toInt ∧ (e_size).toInt ≤ 1000) (h_e_nests : 0 ≤ (e_nests).toInt ∧ (e_nests).toInt ≤ 4) (h_t_text : Iv 1000 (0) (126) t_text) (ht3 : ¬ (t_kind).toInt = 3 ∨ (t_place).toInt ≤ 999) (hTH : TH t_text (t_length).toInt.toNat (t_next).toInt (t_kind).toInt (t_place).toInt (t_number).toInt) (hsz6 : (e_size).toInt ≤ (t_place).toInt) : KK l D (TY cyC cyI cyJ cyZ cyO) yX5_readPart cX5_readPart 6 (some .boolean) ({ frames := 12, cells := 0, slots := 0, locals := 282 } : Room) 0 0 [.ref r0, .int 4] [(r0, .inr (5, [.ref t0, .ref e0, .ref r1, .ref r2, .ref a0, .int r_habits, .int r_fault])), (t0, .inr (8, [.ref t1, .int t_length, .int t_next, .int t_kind, .int t_place, .int t_number])), (t1, .inl (cyC, 1000, .inl t_text)), (e0, .inr (1, [.int e_size, .int e_nests, .ref e1, .ref e2, .ref e3])), (e1, .inl (cyI, 1000, .inl e_steps))] (fun u => some (.int (u.2.1 0))) (fun u => (0 ≤ (u.2.1 0).toInt ∧ (u.2.1 0).toInt ≤ 1) ∧ (0 ≤ (u.2.1 2).toInt ∧ (u.2.1 2).toInt ≤ 1000) ∧ (0 ≤ (u.2.1 3).toInt ∧ (u.2.1 3).toInt ≤ 4) ∧ (0 ≤ (u.2.1 4).toInt ∧ (u.2.1 4).toInt ≤ 1000) ∧ (0 ≤ (u.2.1 6).toInt ∧ (u.2.1 6).toInt ≤ 1000) ∧ (¬ ((u.2.1 3)).toInt = 3 ∨ ((u.2.1 4)).toInt ≤ 999) ∧ ((e_size).toInt ≤ ((u.2.1 6)).toInt) ∧ (((u.2.1 6)).toInt + (t_place).toInt ≤ (e_size).toInt + ((u.2.1 4)).toInt) ∧ (IM (((u.2.1 0)).toInt = 1) (CG e_steps (u.2.2.1 0) (e_size).toInt.toNat ((u.2.1 6)).toInt.toNat 5 (vPt (TKS t_text (t_length).toInt.toNat) 1 (t_place).toInt.toNat))) ∧ (TH t_text (t_length).toInt.toNat ((u.2.1 2)).toInt ((u.2.1 3)).toInt ((u.2.1 4)).toInt ((u.2.1 5)).toInt) ∧ (CP ((u.2.1 0)).toInt ((u.2.1 4)).toInt ((u.2.1 1)).toInt (r_fault).toInt (rPt (TKS t_text (t_length).toInt.toNat) 1 (t_place).toInt.toNat))) (fun u => [(r0, .inr (5, [.ref t0, .ref e0, .ref r1, .ref r2, .ref a0, .int r_habits, .int (u.2.1 1)])), (t0, .inr (8, [.ref t1, .int t_length, .int (u.2.1 2), .int (u.2.1 3), .int (u.2.1 4), .int (u.2.1 5)])), (t1, .inl (cyC, 1000, .inl t_text)), (e0, .inr (1, [.int (u.2.1 6), .int e_nests, .ref e1, .ref e2, .ref e3])), (e1, .inl (cyI, 1000, .inl (u.2.2.1 0)))]) := by
  refine KK.of (lv0 := [(0, .ref r0), (1, .int 4)]) (by decide) rfl (Nat.le_of_ble_eq_true rfl) ?_
  intro p e s m args below meth c A C hr hk hin
  refine j_aload_n (pc := 0) C dX5_readPart_0 rfl 0 rfl ?_
  refine j_get (pc := 1) (ci := 5) (v := .ref t0) C inw_5 0 rfl rfl 0 (by decide) wd_296 rfl rfl dX5_readPart_1 ?_
  refine j_ldcS (pc := 4) (i := 18) C (by decide) rfl dX5_readPart_4 ?_
  refine j_callV (pc := 6) (As := [.ref (D.2.1 18)]) (rest := []) (wr := [(r0, .inr (5, [.ref t0, .ref e0, .ref r1, .ref r2, .ref a0, .int r_habits, .int r_fault])), (e0, .inr (1, [.int e_size, .int e_nests, .ref e1, .ref e2, .ref e3])), (e1, .inl (cyI, 1000, .inl e_steps))]) C (c_X8_isWord_f l D cyC cyI cyJ cyZ cyO t0 t1 18 t_length t_next t_kind t_place t_number t_text (by omega) (by omega) (by omega) (by omega) h_t_text (by decide) ⟨by decide, by decide, by decide⟩ hTH) wd_288 wd_258 wd_312 wd_290 wd_291 ⟨by decide, by decide, rfl⟩ rfl ⟨rfl, rfl, by decide, by decide⟩ ⟨by decide, by decide⟩ [1, 2] [0, 3, 4] rfl rfl ⟨by decide, by decide, by decide⟩ 1 rfl rfl rfl (Nat.le_of_ble_eq_true rfl) dX5_readPart_6 (fun u_1 hw_2 => ?_)
  refine j_eq (ws2 := [(r0, .inr (5, [.ref t0, .ref e0, .ref r1, .ref r2, .ref a0, .int r_habits, .int r_fault])), (e0, .inr (1, [.int e_size, .int e_nests, .ref e1, .ref e2, .ref e3])), (e1, .inl (cyI, 1000, .inl e_steps)), (t0, .inr (8, [.ref t1, .int t_length, .int t_next, .int t_kind, .int t_place, .int t_number])), (t1, .inl (cyC, 1000, .inl t_text))]) (pc2 := 9) (lv2 := [(0, .ref r0), (1, .int 4)]) (st2 := [.int (u_1.2.1 0)]) rfl rfl rfl rfl ?_
  obtain ⟨hw_2_0, hw_2_1⟩ := hw_2
  have hW_u_1 : (u_1.2.1 0).toInt = wI (TKS t_text (t_length).toInt.toNat) (t_place).toInt.toNat (WN 14) := by rw [← wnE_18]; exact hw_2_1
  refine j_istore_n (pc := 9) (lv' := [(2, .int (u_1.2.1 0)), (0, .ref r0), (1, .int 4)]) C dX5_readPart_9 rfl (by decide) rfl ?_
  refine j_aload_n (pc := 10) C dX5_readPart_10 rfl 1 rfl ?_
  refine j_get (pc := 11) (ci := 5) (v := .ref t0) C inw_5 0 rfl rfl 0 (by decide) wd_296 rfl rfl dX5_readPart_11 ?_
  refine j_bipush (pc := 14) (v := 40) C dX5_readPart_14 (by decide) ?_
  refine j_callV (pc := 16) (As := [.int 40]) (rest := []) (wr := [(r0, .inr (5, [.ref t0, .ref e0, .ref r1, .ref r2, .ref a0, .int r_habits, .int r_fault])), (e0, .inr (1, [.int e_size, .int e_nests, .ref e1, .ref e2, .ref e3])), (e1, .inl (cyI, 1000, .inl e_steps))]) C (c_X8_isSign_f l D cyC cyI cyJ cyZ cyO t0 t1 40 t_length t_next t_kind t_place t_number t_text (by omega) (by omega) (by omega) (by omega) h_t_text (by omega) hTH) wd_300 wd_258 wd_301 wd_302 wd_303 ⟨by decide, by decide, rfl⟩ rfl ⟨rfl, rfl, by decide, by decide⟩ ⟨by decide, by decide⟩ [3, 4] [0, 1, 2] rfl rfl ⟨by decide, by decide, by decide⟩ 3 rfl rfl rfl (Nat.le_of_ble_eq_true rfl) dX5_readPart_16 (fun u_3 hw_4 => ?_)
  refine j_eq (ws2 := [(r0, .inr (5, [.ref t0, .ref e0, .ref r1, .ref r2, .ref a0, .int r_habits, .int r_fault])), (e0, .inr (1, [.int e_size, .int e_nests, .ref e1, .ref e2, .ref e3])), (e1, .inl (cyI, 1000, .inl e_steps)), (t0, .inr (8, [.ref t1, .int t_length, .int t_next, .int t_kind, .int t_place, .int t_number])), (t1, .inl (cyC, 1000, .inl t_text))]) (pc2 := 19) (lv2 := [(2, .int (u_1.2.1 0)), (0, .ref r0), (1, .int 4)]) (st2 := [.int (u_3.2.1 0)]) rfl rfl rfl rfl ?_
  obtain ⟨hw_4_0, hw_4_1⟩ := hw_4
  refine j_istore_n (pc := 19) (lv' := [(3, .int (u_3.2.1 0)), (2, .int (u_1.2.1 0)), (0, .ref r0), (1, .int 4)]) C dX5_readPart_19 rfl (by decide) rfl ?_
  refine j_aload_n (pc := 20) C dX5_readPart_20 rfl 2 rfl ?_
  refine j_get (pc := 21) (ci := 5) (v := .ref t0) C inw_5 0 rfl rfl 0 (by decide) wd_296 rfl rfl dX5_readPart_21 ?_
  refine j_get (pc := 24) (ci := 8) (v := .int t_kind) C inw_8 3 rfl rfl 3 (by decide) wd_310 rfl rfl dX5_readPart_24 ?_
  refine j_iconst (pc := 27) (v := 2) C dX5_readPart_27 (by decide) ?_
  refine j_icmp_ne (pc := 28) (tgt := 41) C dX5_readPart_28 (by decide) (fun c_5 => ?_) (fun c_5 => ?_)
  · skip
    have el_2 : (2 : Int32).toInt = 2 := rfl
    rw [i_eq] at c_5
    refine j_aload_n (pc := 41) C dX5_readPart_41 rfl 2 rfl ?_
    refine j_callV (pc := 42) (As := []) (rest := []) (wr := [(e0, .inr (1, [.int e_size, .int e_nests, .ref e1, .ref e2, .ref e3])), (e1, .inl (cyI, 1000, .inl e_steps))]) C (c_X5_fact l D cyC cyI cyJ cyZ cyO r0 t0 t1 e0 r1 r2 a0 r_habits r_fault t_length t_next t_kind t_place t_number t_text (by omega) (by omega) (by omega) (by omega) h_t_text hTH) wd_332 wd_306 wd_333 wd_334 wd_335 ⟨by decide, by decide, rfl⟩ rfl ⟨rfl, rfl, by decide, by decide⟩ ⟨by decide, by decide⟩ [0, 3, 4] [1, 2] rfl rfl ⟨by decide, by decide, by decide⟩ 0 rfl rfl rfl (Nat.le_of_ble_eq_true rfl) dX5_readPart_42 (fun u_6 hw_7 => ?_)
    refine j_eq (ws2 := [(e0, .inr (1, [.int e_size, .int e_nests, .ref e1, .ref e2, .ref e3])), (e1, .inl (cyI, 1000, .inl e_steps)), (r0, .inr (5, [.ref t0, .ref e0, .ref r1, .ref r2, .ref a0, .int r_habits, .int r_fault])), (t0, .inr (8, [.ref t1, .int t_length, .int t_next, .int t_kind, .int t_place, .int t_number])), (t1, .inl (cyC, 1000, .inl t_text))]) (pc2 := 45) (lv2 := [(3, .int (u_3.2.1 0)), (2, .int (u_1.2.1 0)), (0, .ref r0), (1, .int 4)]) (st2 := [.int (u_6.2.1 0)]) rfl rfl rfl rfl ?_
    obtain ⟨hw_7_0, hw_7_1, hw_7_2⟩ := hw_7
    refine j_istore (pc := 45) (lv' := [(4, .int (u_6.2.1 0)), (3, .int (u_3.2.1 0)), (2, .int (u_1.2.1 0)), (0, .ref r0), (1, .int 4)]) C dX5_readPart_45 (by decide) rfl ?_
    refine j_iload_n (pc := 47) C dX5_readPart_47 rfl 2 rfl ?_
    refine j_if_ne (pc := 48) (tgt := 68) C dX5_readPart_48 (by decide) (fun c_8 => ?_) (fun c_8 => ?_)
    · skip
      have el_0 : (0 : Int32).toInt = 0 := rfl
      rw [i_eq] at c_8
      have k0c_8 : ((u_1.2.1 0)).toInt = 1 := by omega
      refine j_iload_n (pc := 68) C dX5_readPart_68 rfl 4 rfl ?_
      refine j_iconst (pc := 69) (v := 5) C dX5_readPart_69 (by decide) ?_
      refine j_icmp_lt_t (pc := 70) (tgt := 79) C dX5_readPart_70 (by decide) (by decide) ?_
      refine j_aload_n (pc := 79) C dX5_readPart_79 rfl 3 rfl ?_
      refine j_get (pc := 80) (ci := 5) (v := .ref t0) C inw_5 2 rfl rfl 0 (by decide) wd_296 rfl rfl dX5_readPart_80 ?_
      refine j_callV (pc := 83) (As := []) (rest := []) (wr := [(e0, .inr (1, [.int e_size, .int e_nests, .ref e1, .ref e2, .ref e3])), (e1, .inl (cyI, 1000, .inl e_steps)), (r0, .inr (5, [.ref t0, .ref e0, .ref r1, .ref r2, .ref a0, .int r_habits, .int r_fault]))]) C (c_X8_advance_f l D cyC cyI cyJ cyZ cyO t0 t1 t_length t_next t_kind t_place t_number t_text (by omega) (by omega) (by omega) (by omega) h_t_text) wd_277 wd_258 wd_304 wd_279 wd_280 ⟨by decide, by decide, rfl⟩ rfl ⟨rfl, rfl, by decide, by decide⟩ ⟨by decide, by decide⟩ [3, 4] [0, 1, 2] rfl rfl ⟨by decide, by decide, by decide⟩ 3 rfl rfl rfl (Nat.le_of_ble_eq_true rfl) dX5_readPart_83 (fun u_9 hw_10 => ?_)
      refine j_eq (ws2 := [(e0, .inr (1, [.int e_size, .int e_nests, .ref e1, .ref e2, .ref e3])), (e1, .inl (cyI, 1000, .inl e_steps)), (r0, .inr (5, [.ref t0, .ref e0, .ref r1, .ref r2, .ref a0, .int r_habits, .int r_fault])), (t0, .inr (8, [.ref t1, .int t_length, .int (u_9.2.1 0), .int (u_9.2.1 1), .int (u_9.2.1 2), .int (u_9.2.1 3)])), (t1, .inl (cyC, 1000, .inl t_text))]) (pc2 := 86) (lv2 := [(4, .int (u_6.2.1 0)), (3, .int (u_3.2.1 0)), (2, .int (u_1.2.1 0)), (0, .ref r0), (1, .int 4)]) (st2 := []) rfl rfl rfl rfl ?_
      obtain ⟨hw_10_0, hw_10_1, hw_10_2, hw_10_3, hw_10_4, hw_10_5⟩ := hw_10
      have ha_u_9 := (hw_10_5).trans (TH.adv hTH)
      have hg9 := canP_gt (PT_TKS (f := t_text) (n := (t_length).toInt.toNat) (by omega)) (show canP (TKS t_text (t_length).toInt.toNat) (t_place).toInt.toNat = true from canP_iff.mpr (Or.inr (Or.inr (Or.inr (by omega)))))
      have hga9 := ha_u_9
      refine j_iload_n (pc := 86) C dX5_readPart_86 rfl 1 rfl ?_
      refine j_if_eq (pc := 87) (tgt := 116) C dX5_readPart_87 (by decide) (fun c_11 => ?_) (fun c_11 => ?_)
      · skip
        have el_0 : (0 : Int32).toInt = 0 := rfl
        rw [i_eq] at c_11
        refine j_iload_n (pc := 116) C dX5_readPart_116 rfl 2 rfl ?_
        have el_0 : (0 : Int32).toInt = 0 := rfl
        refine j_if_eq_f (pc := 117) (tgt := 130) C dX5_readPart_117 (by decide) (by rw [i_eq]; omega) ?_
        refine j_aload_n (pc := 120) C dX5_readPart_120 rfl 3 rfl ?_
        refine j_iload_n (pc := 121) C dX5_readPart_121 rfl 4 rfl ?_
        refine j_iconst (pc := 122) (v := 1) C dX5_readPart_122 (by decide) ?_
        refine j_iadd (pc := 123) (v := 5) C dX5_readPart_123 (by decide) ?_
        refine j_callV (pc := 124) (As := [.int 5]) (rest := []) (wr := []) C (c_X5_readPart_5 l D cyC cyI cyJ cyZ cyO r0 t0 t1 e0 e1 r1 r2 a0 e2 e3 r_habits r_fault t_length (u_9.2.1 0) (u_9.2.1 1) (u_9.2.1 2) (u_9.2.1 3) e_size e_nests t_text e_steps (by omega) (by omega) (by omega) (by omega) (by omega) (by omega) h_t_text (by omega) hw_10_4 (by omega)) wd_336 wd_306 wd_337 wd_338 wd_339 ⟨by decide, by decide, rfl⟩ rfl ⟨rfl, rfl, by decide, by decide⟩ ⟨by decide, by decide⟩ [2, 3, 4, 0, 1] [] rfl rfl ⟨by decide, by decide, by decide⟩ 2 rfl rfl rfl (Nat.le_of_ble_eq_true rfl) dX5_readPart_124 (fun u_12 hw_13 => ?_)
        refine j_eq (ws2 := [(r0, .inr (5, [.ref t0, .ref e0, .ref r1, .ref r2, .ref a0, .int r_habits, .int (u_12.2.1 0)])), (t0, .inr (8, [.ref t1, .int t_length, .int (u_9.2.1 0), .int (u_9.2.1 1), .int (u_9.2.1 2), .int (u_9.2.1 3)])), (t1, .inl (cyC, 1000, .inl t_text)), (e0, .inr (1, [.int e_size, .int e_nests, .ref e1, .ref e2, .ref e3])), (e1, .inl (cyI, 1000, .inl e_steps))]) (pc2 := 127) (lv2 := [(4, .int (u_6.2.1 0)), (3, .int (u_3.2.1 0)), (2, .int (u_1.2.1 0)), (0, .ref r0), (1, .int 4)]) (st2 := [.int 0]) rfl rfl rfl rfl ?_
        obtain ⟨hw_13_0, hw_13_1, hw_13_2, hw_13_3, hw_13_4, hw_13_5⟩ := hw_13
        refine j_if_eq_t (pc := 127) (tgt := 134) C dX5_readPart_127 (by decide) (by decide) ?_
        refine j_iconst (pc := 134) (v := 0) C dX5_readPart_134 (by decide) ?_
        refine j_istore (pc := 135) (lv' := [(5, .int 0), (4, .int (u_6.2.1 0)), (3, .int (u_3.2.1 0)), (2, .int (u_1.2.1 0)), (0, .ref r0), (1, .int 4)]) C dX5_readPart_135 (by decide) rfl ?_
        refine j_aload_n (pc := 137) C dX5_readPart_137 rfl 4 rfl ?_
        refine j_get (pc := 138) (ci := 5) (v := .ref e0) C inw_5 0 rfl rfl 1 (by decide) wd_344 rfl rfl dX5_readPart_138 ?_
        refine j_iload_n (pc := 141) C dX5_readPart_141 rfl 3 rfl ?_
        have el_0 : (0 : Int32).toInt = 0 := rfl
        refine j_if_eq_f (pc := 142) (tgt := 150) C dX5_readPart_142 (by decide) (by rw [i_eq]; omega) ?_
        refine j_bipush (pc := 145) (v := (-9)) C dX5_readPart_145 (by decide) ?_
        refine j_goto (pc := 147) (tgt := 152) C dX5_readPart_147 (by decide) ?_
        refine j_callV (pc := 152) (As := [.int (-9)]) (rest := []) (wr := [(r0, .inr (5, [.ref t0, .ref e0, .ref r1, .ref r2, .ref a0, .int r_habits, .int (u_12.2.1 0)])), (t0, .inr (8, [.ref t1, .int t_length, .int (u_9.2.1 0), .int (u_9.2.1 1), .int (u_9.2.1 2), .int (u_9.2.1 3)])), (t1, .inl (cyC, 1000, .inl t_text))]) C (c_X1_add l D cyC cyI cyJ cyZ cyO e0 e1 e2 e3 (-9) e_size e_nests e_steps (by omega) (by omega)) wd_345 wd_200 wd_346 wd_347 wd_348 ⟨by decide, by decide, rfl⟩ rfl ⟨rfl, rfl, by decide, by decide⟩ ⟨by decide, by decide⟩ [3, 4] [0, 1, 2] rfl rfl ⟨by decide, by decide, by decide⟩ 3 rfl rfl rfl (Nat.le_of_ble_eq_true rfl) dX5_readPart_152 (fun u_14 hw_15 => ?_)
        refine j_eq (ws2 := [(r0, .inr (5, [.ref t0, .ref e0, .ref r1, .ref r2, .ref a0, .int r_habits, .int (u_12.2.1 0)])), (t0, .inr (8, [.ref t1, .int t_length, .int (u_9.2.1 0), .int (u_9.2.1 1), .int (u_9.2.1 2), .int (u_9.2.1 3)])), (t1, .inl (cyC, 1000, .inl t_text)), (e0, .inr (1, [.int (u_14.2.1 0), .int e_nests, .ref e1, .ref e2, .ref e3])), (e1, .inl (cyI, 1000, .inl (u_14.2.2.1 0)))]) (pc2 := 155) (lv2 := [(5, .int 0), (4, .int (u_6.2.1 0)), (3, .int (u_3.2.1 0)), (2, .int (u_1.2.1 0)), (0, .ref r0), (1, .int 4)]) (st2 := []) rfl rfl rfl rfl ?_
        obtain ⟨hw_15_0, hw_15_1, hw_15_2, hw_15_3, hw_15_4⟩ := hw_15
        refine j_iload (pc := 155) C dX5_readPart_155 0 rfl ?_
        have el_0 : (0 : Int32).toInt = 0 := rfl
        have el_0 : (0 : Int32).toInt = 0 := rfl
        have el_0 : (0 : Int32).toInt = 0 := rfl
        have el_0 : (0 : Int32).toInt = 0 := rfl
        have el_0 : (0 : Int32).toInt = 0 := rfl
        have el_0 : (0 : Int32).toInt = 0 := rfl
        have el_0 : (0 : Int32).toInt = 0 := rfl
        exact j_zret (pc := 157) C hr rfl hk (fun i => [].getD i 0, fun i => [0, (u_12.2.1 0), (u_9.2.1 0), (u_9.2.1 1), (u_9.2.1 2), (u_9.2.1 3), (u_14.2.1 0)].getD i 0, fun i => [(u_14.2.2.1 0)].getD i (fun _ => 0), fun i => [].getD i (fun _ => 0)) rfl (show (0 ≤ ((0 : Int32)).toInt ∧ ((0 : Int32)).toInt ≤ 1) ∧ (0 ≤ ((u_9.2.1 0)).toInt ∧ ((u_9.2.1 0)).toInt ≤ 1000) ∧ (0 ≤ ((u_9.2.1 1)).toInt ∧ ((u_9.2.1 1)).toInt ≤ 4) ∧ (0 ≤ ((u_9.2.1 2)).toInt ∧ ((u_9.2.1 2)).toInt ≤ 1000) ∧ (0 ≤ ((u_14.2.1 0)).toInt ∧ ((u_14.2.1 0)).toInt ≤ 1000) ∧ (¬ ((u_9.2.1 1)).toInt = 3 ∨ ((u_9.2.1 2)).toInt ≤ 999) ∧ ((e_size).toInt ≤ ((u_14.2.1 0)).toInt) ∧ (((u_14.2.1 0)).toInt + (t_place).toInt ≤ (e_size).toInt + ((u_9.2.1 2)).toInt) ∧ (IM (((0 : Int32)).toInt = 1) (CG e_steps (u_14.2.2.1 0) (e_size).toInt.toNat ((u_14.2.1 0)).toInt.toNat 5 (vPt (TKS t_text (t_length).toInt.toNat) 1 (t_place).toInt.toNat))) ∧ (TH t_text (t_length).toInt.toNat ((u_9.2.1 0)).toInt ((u_9.2.1 1)).toInt ((u_9.2.1 2)).toInt ((u_9.2.1 3)).toInt) ∧ (CP ((0 : Int32)).toInt ((u_9.2.1 2)).toInt ((u_12.2.1 0)).toInt (r_fault).toInt (rPt (TKS t_text (t_length).toInt.toNat) 1 (t_place).toInt.toNat)) from ⟨by omega, by omega, by omega, by omega, by omega, by omega, by omega, by omega, (fun h => absurd h (by decide)), hw_13_4, (CP.bad (by omega) (by rw [rPt_s (d := 0)]; rw [if_pos (show canP (TKS t_text (t_length).toInt.toNat) (t_place).toInt.toNat = true from canP_iff.mpr (Or.inr (Or.inr (Or.inr (by omega))))), if_neg (show ¬ isG (TKS t_text (t_length).toInt.toNat) (t_place).toInt.toNat 40 = true from gI_0.mp (by omega)), if_pos (show isW (TKS t_text (t_length).toInt.toNat) (t_place).toInt.toNat (WN 14) = true from wI_1.mp (by omega)), ← ha_u_9]; exact (hw_13_5).2 (by omega)))⟩) [0, 1, 2, 3, 4] (by decide) rfl (by decide) (by decide) dX5_readPart_157
      · skip
        have el_0 : (0 : Int32).toInt = 0 := rfl
        rw [i_eq] at c_11
        have k0c_11 : ((u_3.2.1 0)).toInt = 1 := by omega
        refine j_aload_n (pc := 90) C dX5_readPart_90 rfl 3 rfl ?_
        refine j_iconst (pc := 91) (v := 0) C dX5_readPart_91 (by decide) ?_
        refine j_iload_n (pc := 92) C dX5_readPart_92 rfl 4 rfl ?_
        refine j_iconst (pc := 93) (v := 1) C dX5_readPart_93 (by decide) ?_
        refine j_iadd (pc := 94) (v := 5) C dX5_readPart_94 (by decide) ?_
        refine j_callV (pc := 95) (As := [.int 0, .int 5]) (rest := []) (wr := []) C (c_X5_readChain_0_5 l D cyC cyI cyJ cyZ cyO r0 t0 t1 e0 e1 r1 r2 a0 e2 e3 r_habits r_fault t_length (u_9.2.1 0) (u_9.2.1 1) (u_9.2.1 2) (u_9.2.1 3) e_size e_nests t_text e_steps (by omega) (by omega) (by omega) (by omega) (by omega) (by omega) h_t_text (by omega) hw_10_4 (by omega)) wd_340 wd_306 wd_341 wd_342 wd_343 ⟨by decide, by decide, rfl⟩ rfl ⟨rfl, rfl, by decide, by decide⟩ ⟨by decide, by decide⟩ [2, 3, 4, 0, 1] [] rfl rfl ⟨by decide, by decide, by decide⟩ 2 rfl rfl rfl (Nat.le_of_ble_eq_true rfl) dX5_readPart_95 (fun u_16 hw_17 => ?_)
        refine j_eq (ws2 := [(r0, .inr (5, [.ref t0, .ref e0, .ref r1, .ref r2, .ref a0, .int r_habits, .int (u_16.2.1 0)])), (t0, .inr (8, [.ref t1, .int t_length, .int (u_9.2.1 0), .int (u_9.2.1 1), .int (u_9.2.1 2), .int (u_9.2.1 3)])), (t1, .inl (cyC, 1000, .inl t_text)), (e0, .inr (1, [.int e_size, .int e_nests, .ref e1, .ref e2, .ref e3])), (e1, .inl (cyI, 1000, .inl e_steps))]) (pc2 := 98) (lv2 := [(4, .int (u_6.2.1 0)), (3, .int (u_3.2.1 0)), (2, .int (u_1.2.1 0)), (0, .ref r0), (1, .int 4)]) (st2 := [.int 0]) rfl rfl rfl rfl ?_
        obtain ⟨hw_17_0, hw_17_1, hw_17_2, hw_17_3, hw_17_4, hw_17_5⟩ := hw_17
        refine j_if_eq_t (pc := 98) (tgt := 114) C dX5_readPart_98 (by decide) (by decide) ?_
        refine j_iconst (pc := 114) (v := 0) C dX5_readPart_114 (by decide) ?_
        have el_0 : (0 : Int32).toInt = 0 := rfl
        have el_0 : (0 : Int32).toInt = 0 := rfl
        have el_0 : (0 : Int32).toInt = 0 := rfl
        have el_0 : (0 : Int32).toInt = 0 := rfl
        have el_0 : (0 : Int32).toInt = 0 := rfl
        have el_0 : (0 : Int32).toInt = 0 := rfl
        have el_0 : (0 : Int32).toInt = 0 := rfl
        exact j_zret (pc := 115) C hr rfl hk (fun i => [].getD i 0, fun i => [0, (u_16.2.1 0), (u_9.2.1 0), (u_9.2.1 1), (u_9.2.1 2), (u_9.2.1 3), e_size].getD i 0, fun i => [e_steps].getD i (fun _ => 0), fun i => [].getD i (fun _ => 0)) rfl (show (0 ≤ ((0 : Int32)).toInt ∧ ((0 : Int32)).toInt ≤ 1) ∧ (0 ≤ ((u_9.2.1 0)).toInt ∧ ((u_9.2.1 0)).toInt ≤ 1000) ∧ (0 ≤ ((u_9.2.1 1)).toInt ∧ ((u_9.2.1 1)).toInt ≤ 4) ∧ (0 ≤ ((u_9.2.1 2)).toInt ∧ ((u_9.2.1 2)).toInt ≤ 1000) ∧ (0 ≤ (e_size).toInt ∧ (e_size).toInt ≤ 1000) ∧ (¬ ((u_9.2.1 1)).toInt = 3 ∨ ((u_9.2.1 2)).toInt ≤ 999) ∧ ((e_size).toInt ≤ (e_size).toInt) ∧ ((e_size).toInt + (t_place).toInt ≤ (e_size).toInt + ((u_9.2.1 2)).toInt) ∧ (IM (((0 : Int32)).toInt = 1) (CG e_steps e_steps (e_size).toInt.toNat (e_size).toInt.toNat 5 (vPt (TKS t_text (t_length).toInt.toNat) 1 (t_place).toInt.toNat))) ∧ (TH t_text (t_length).toInt.toNat ((u_9.2.1 0)).toInt ((u_9.2.1 1)).toInt ((u_9.2.1 2)).toInt ((u_9.2.1 3)).toInt) ∧ (CP ((0 : Int32)).toInt ((u_9.2.1 2)).toInt ((u_16.2.1 0)).toInt (r_fault).toInt (rPt (TKS t_text (t_length).toInt.toNat) 1 (t_place).toInt.toNat)) from ⟨by omega, by omega, by omega, by omega, by omega, by omega, by omega, by omega, (fun h => absurd h (by decide)), hw_17_4, (CP.bad (by omega) (by rw [rPt_s (d := 0)]; rw [if_pos (show canP (TKS t_text (t_length).toInt.toNat) (t_place).toInt.toNat = true from canP_iff.mpr (Or.inr (Or.inr (Or.inl (by omega))))), if_pos (show isG (TKS t_text (t_length).toInt.toNat) (t_place).toInt.toNat 40 = true from gI_1.mp (by omega)), ← ha_u_9]; rw [bnd_bad ((hw_17_5).2 (by omega)).2]; exact (hw_17_5).2 (by omega)))⟩) [0, 1, 2, 3, 4] (by decide) rfl (by decide) (by decide) dX5_readPart_115
    · skip
      have el_0 : (0 : Int32).toInt = 0 := rfl
      rw [i_eq] at c_8
      refine j_iload_n (pc := 51) C dX5_readPart_51 rfl 1 rfl ?_
      refine j_if_ne (pc := 52) (tgt := 68) C dX5_readPart_52 (by decide) (fun c_18 => ?_) (fun c_18 => ?_)
      · skip
        have el_0 : (0 : Int32).toInt = 0 := rfl
        rw [i_eq] at c_18
        have k0c_18 : ((u_3.2.1 0)).toInt = 1 := by omega
        refine j_iload_n (pc := 68) C dX5_readPart_68 rfl 4 rfl ?_
        refine j_iconst (pc := 69) (v := 5) C dX5_readPart_69 (by decide) ?_
        refine j_icmp_lt_t (pc := 70) (tgt := 79) C dX5_readPart_70 (by decide) (by decide) ?_
        refine j_aload_n (pc := 79) C dX5_readPart_79 rfl 3 rfl ?_
        refine j_get (pc := 80) (ci := 5) (v := .ref t0) C inw_5 2 rfl rfl 0 (by decide) wd_296 rfl rfl dX5_readPart_80 ?_
        refine j_callV (pc := 83) (As := []) (rest := []) (wr := [(e0, .inr (1, [.int e_size, .int e_nests, .ref e1, .ref e2, .ref e3])), (e1, .inl (cyI, 1000, .inl e_steps)), (r0, .inr (5, [.ref t0, .ref e0, .ref r1, .ref r2, .ref a0, .int r_habits, .int r_fault]))]) C (c_X8_advance_f l D cyC cyI cyJ cyZ cyO t0 t1 t_length t_next t_kind t_place t_number t_text (by omega) (by omega) (by omega) (by omega) h_t_text) wd_277 wd_258 wd_304 wd_279 wd_280 ⟨by decide, by decide, rfl⟩ rfl ⟨rfl, rfl, by decide, by decide⟩ ⟨by decide, by decide⟩ [3, 4] [0, 1, 2] rfl rfl ⟨by decide, by decide, by decide⟩ 3 rfl rfl rfl (Nat.le_of_ble_eq_true rfl) dX5_readPart_83 (fun u_19 hw_20 => ?_)
        refine j_eq (ws2 := [(e0, .inr (1, [.int e_size, .int e_nests, .ref e1, .ref e2, .ref e3])), (e1, .inl (cyI, 1000, .inl e_steps)), (r0, .inr (5, [.ref t0, .ref e0, .ref r1, .ref r2, .ref a0, .int r_habits, .int r_fault])), (t0, .inr (8, [.ref t1, .int t_length, .int (u_19.2.1 0), .int (u_19.2.1 1), .int (u_19.2.1 2), .int (u_19.2.1 3)])), (t1, .inl (cyC, 1000, .inl t_text))]) (pc2 := 86) (lv2 := [(4, .int (u_6.2.1 0)), (3, .int (u_3.2.1 0)), (2, .int (u_1.2.1 0)), (0, .ref r0), (1, .int 4)]) (st2 := []) rfl rfl rfl rfl ?_
        obtain ⟨hw_20_0, hw_20_1, hw_20_2, hw_20_3, hw_20_4, hw_20_5⟩ := hw_20
        have ha_u_19 := (hw_20_5).trans (TH.adv hTH)
        have hg9 := canP_gt (PT_TKS (f := t_text) (n := (t_length).toInt.toNat) (by omega)) (show canP (TKS t_text (t_length).toInt.toNat) (t_place).toInt.toNat = true from canP_iff.mpr (Or.inr (Or.inr (Or.inl (by omega)))))
        have hga9 := ha_u_19
        refine j_iload_n (pc := 86) C dX5_readPart_86 rfl 1 rfl ?_
        have el_0 : (0 : Int32).toInt = 0 := rfl
        refine j_if_eq_f (pc := 87) (tgt := 116) C dX5_readPart_87 (by decide) (by rw [i_eq]; omega) ?_
        refine j_aload_n (pc := 90) C dX5_readPart_90 rfl 3 rfl ?_
        refine j_iconst (pc := 91) (v := 0) C dX5_readPart_91 (by decide) ?_
        refine j_iload_n (pc := 92) C dX5_readPart_92 rfl 4 rfl ?_
        refine j_iconst (pc := 93) (v := 1) C dX5_readPart_93 (by decide) ?_
        refine j_iadd (pc := 94) (v := 5) C dX5_readPart_94 (by decide) ?_
        refine j_callV (pc := 95) (As := [.int 0, .int 5]) (rest := []) (wr := []) C (c_X5_readChain_0_5 l D cyC cyI cyJ cyZ cyO r0 t0 t1 e0 e1 r1 r2 a0 e2 e3 r_habits r_fault t_length (u_19.2.1 0) (u_19.2.1 1) (u_19.2.1 2) (u_19.2.1 3) e_size e_nests t_text e_steps (by omega) (by omega) (by omega) (by omega) (by omega) (by omega) h_t_text (by omega) hw_20_4 (by omega)) wd_340 wd_306 wd_341 wd_342 wd_343 ⟨by decide, by decide, rfl⟩ rfl ⟨rfl, rfl, by decide, by decide⟩ ⟨by decide, by decide⟩ [2, 3, 4, 0, 1] [] rfl rfl ⟨by decide, by decide, by decide⟩ 2 rfl rfl rfl (Nat.le_of_ble_eq_true rfl) dX5_readPart_95 (fun u_21 hw_22 => ?_)
        refine j_eq (ws2 := [(r0, .inr (5, [.ref t0, .ref e0, .ref r1, .ref r2, .ref a0, .int r_habits, .int (u_21.2.1 0)])), (t0, .inr (8, [.ref t1, .int t_length, .int (u_19.2.1 0), .int (u_19.2.1 1), .int (u_19.2.1 2), .int (u_19.2.1 3)])), (t1, .inl (cyC, 1000, .inl t_text)), (e0, .inr (1, [.int e_size, .int e_nests, .ref e1, .ref e2, .ref e3])), (e1, .inl (cyI, 1000, .inl e_steps))]) (pc2 := 98) (lv2 := [(4, .int (u_6.2.1 0)), (3, .int (u_3.2.1 0)), (2, .int (u_1.2.1 0)), (0, .ref r0), (1, .int 4)]) (st2 := [.int 0]) rfl rfl rfl rfl ?_
        obtain ⟨hw_22_0, hw_22_1, hw_22_2, hw_22_3, hw_22_4, hw_22_5⟩ := hw_22
        refine j_if_eq_t (pc := 98) (tgt := 114) C dX5_readPart_98 (by decide) (by decide) ?_
        refine j_iconst (pc := 114) (v := 0) C dX5_readPart_114 (by decide) ?_
        have el_0 : (0 : Int32).toInt = 0 := rfl
        have el_0 : (0 : Int32).toInt = 0 := rfl
        have el_0 : (0 : Int32).toInt = 0 := rfl
        have el_0 : (0 : Int32).toInt = 0 := rfl
        have el_0 : (0 : Int32).toInt = 0 := rfl
        have el_0 : (0 : Int32).toInt = 0 := rfl
        have el_0 : (0 : Int32).toInt = 0 := rfl
        exact j_zret (pc := 115) C hr rfl hk (fun i => [].getD i 0, fun i => [0, (u_21.2.1 0), (u_19.2.1 0), (u_19.2.1 1), (u_19.2.1 2), (u_19.2.1 3), e_size].getD i 0, fun i => [e_steps].getD i (fun _ => 0), fun i => [].getD i (fun _ => 0)) rfl (show (0 ≤ ((0 : Int32)).toInt ∧ ((0 : Int32)).toInt ≤ 1) ∧ (0 ≤ ((u_19.2.1 0)).toInt ∧ ((u_19.2.1 0)).toInt ≤ 1000) ∧ (0 ≤ ((u_19.2.1 1)).toInt ∧ ((u_19.2.1 1)).toInt ≤ 4) ∧ (0 ≤ ((u_19.2.1 2)).toInt ∧ ((u_19.2.1 2)).toInt ≤ 1000) ∧ (0 ≤ (e_size).toInt ∧ (e_size).toInt ≤ 1000) ∧ (¬ ((u_19.2.1 1)).toInt = 3 ∨ ((u_19.2.1 2)).toInt ≤ 999) ∧ ((e_size).toInt ≤ (e_size).toInt) ∧ ((e_size).toInt + (t_place).toInt ≤ (e_size).toInt + ((u_19.2.1 2)).toInt) ∧ (IM (((0 : Int32)).toInt = 1) (CG e_steps e_steps (e_size).toInt.toNat (e_size).toInt.toNat 5 (vPt (TKS t_text (t_length).toInt.toNat) 1 (t_place).toInt.toNat))) ∧ (TH t_text (t_length).toInt.toNat ((u_19.2.1 0)).toInt ((u_19.2.1 1)).toInt ((u_19.2.1 2)).toInt ((u_19.2.1 3)).toInt) ∧ (CP ((0 : Int32)).toInt ((u_19.2.1 2)).toInt ((u_21.2.1 0)).toInt (r_fault).toInt (rPt (TKS t_text (t_length).toInt.toNat) 1 (t_place).toInt.toNat)) from ⟨by omega, by omega, by omega, by omega, by omega, by omega, by omega, by omega, (fun h => absurd h (by decide)), hw_22_4, (CP.bad (by omega) (by rw [rPt_s (d := 0)]; rw [if_pos (show canP (TKS t_text (t_length).toInt.toNat) (t_place).toInt.toNat = true from canP_iff.mpr (Or.inr (Or.inr (Or.inl (by omega))))), if_pos (show isG (TKS t_text (t_length).toInt.toNat) (t_place).toInt.toNat 40 = true from gI_1.mp (by omega)), ← ha_u_19]; rw [bnd_bad ((hw_22_5).2 (by omega)).2]; exact (hw_22_5).2 (by omega)))⟩) [0, 1, 2, 3, 4] (by decide) rfl (by decide) (by decide) dX5_readPart_115
      · skip
        have el_0 : (0 : Int32).toInt = 0 := rfl
        rw [i_eq] at c_18
        refine j_iload (pc := 55) C dX5_readPart_55 0 rfl ?_
        refine j_bipush (pc := 57) (v := (-100)) C dX5_readPart_57 (by decide) ?_
        refine j_icmp_ne (pc := 59) (tgt := 68) C dX5_readPart_59 (by decide) (fun c_23 => ?_) (fun c_23 => ?_)
        · skip
          have el_m100 : ((-100) : Int32).toInt = (-100) := rfl
          rw [i_eq] at c_23
          refine j_iload_n (pc := 68) C dX5_readPart_68 rfl 4 rfl ?_
          refine j_iconst (pc := 69) (v := 5) C dX5_readPart_69 (by decide) ?_
          refine j_icmp_lt_t (pc := 70) (tgt := 79) C dX5_readPart_70 (by decide) (by decide) ?_
          refine j_aload_n (pc := 79) C dX5_readPart_79 rfl 3 rfl ?_
          refine j_get (pc := 80) (ci := 5) (v := .ref t0) C inw_5 2 rfl rfl 0 (by decide) wd_296 rfl rfl dX5_readPart_80 ?_
          refine j_callV (pc := 83) (As := []) (rest := []) (wr := [(e0, .inr (1, [.int e_size, .int e_nests, .ref e1, .ref e2, .ref e3])), (e1, .inl (cyI, 1000, .inl e_steps)), (r0, .inr (5, [.ref t0, .ref e0, .ref r1, .ref r2, .ref a0, .int r_habits, .int r_fault]))]) C (c_X8_advance_f l D cyC cyI cyJ cyZ cyO t0 t1 t_length t_next t_kind t_place t_number t_text (by omega) (by omega) (by omega) (by omega) h_t_text) wd_277 wd_258 wd_304 wd_279 wd_280 ⟨by decide, by decide, rfl⟩ rfl ⟨rfl, rfl, by decide, by decide⟩ ⟨by decide, by decide⟩ [3, 4] [0, 1, 2] rfl rfl ⟨by decide, by decide, by decide⟩ 3 rfl rfl rfl (Nat.le_of_ble_eq_true rfl) dX5_readPart_83 (fun u_24 hw_25 => ?_)
          refine j_eq (ws2 := [(e0, .inr (1, [.int e_size, .int e_nests, .ref e1, .ref e2, .ref e3])), (e1, .inl (cyI, 1000, .inl e_steps)), (r0, .inr (5, [.ref t0, .ref e0, .ref r1, .ref r2, .ref a0, .int r_habits, .int r_fault])), (t0, .inr (8, [.ref t1, .int t_length, .int (u_24.2.1 0), .int (u_24.2.1 1), .int (u_24.2.1 2), .int (u_24.2.1 3)])), (t1, .inl (cyC, 1000, .inl t_text))]) (pc2 := 86) (lv2 := [(4, .int (u_6.2.1 0)), (3, .int (u_3.2.1 0)), (2, .int (u_1.2.1 0)), (0, .ref r0), (1, .int 4)]) (st2 := []) rfl rfl rfl rfl ?_
          obtain ⟨hw_25_0, hw_25_1, hw_25_2, hw_25_3, hw_25_4, hw_25_5⟩ := hw_25
          have ha_u_24 := (hw_25_5).trans (TH.adv hTH)
          have hg9 := canP_gt (PT_TKS (f := t_text) (n := (t_length).toInt.toNat) (by omega)) (show canP (TKS t_text (t_length).toInt.toNat) (t_place).toInt.toNat = true from canP_iff.mpr (Or.inr (Or.inl (by rcases hw_7_2 with hz9 | hz9; (exfalso; omega); exact hz9.2))))
          have hga9 := ha_u_24
          refine j_iload_n (pc := 86) C dX5_readPart_86 rfl 1 rfl ?_
          have el_0 : (0 : Int32).toInt = 0 := rfl
          refine j_if_eq_t (pc := 87) (tgt := 116) C dX5_readPart_87 (by decide) (by rw [i_eq]; omega) ?_
          refine j_iload_n (pc := 116) C dX5_readPart_116 rfl 2 rfl ?_
          have el_0 : (0 : Int32).toInt = 0 := rfl
          refine j_if_eq_t (pc := 117) (tgt := 130) C dX5_readPart_117 (by decide) (by rw [i_eq]; omega) ?_
          refine j_iconst (pc := 130) (v := 1) C dX5_readPart_130 (by decide) ?_
          refine j_goto (pc := 131) (tgt := 135) C dX5_readPart_131 (by decide) ?_
          refine j_istore (pc := 135) (lv' := [(5, .int 1), (4, .int (u_6.2.1 0)), (3, .int (u_3.2.1 0)), (2, .int (u_1.2.1 0)), (0, .ref r0), (1, .int 4)]) C dX5_readPart_135 (by decide) rfl ?_
          refine j_aload_n (pc := 137) C dX5_readPart_137 rfl 4 rfl ?_
          refine j_get (pc := 138) (ci := 5) (v := .ref e0) C inw_5 2 rfl rfl 1 (by decide) wd_344 rfl rfl dX5_readPart_138 ?_
          refine j_iload_n (pc := 141) C dX5_readPart_141 rfl 3 rfl ?_
          have el_0 : (0 : Int32).toInt = 0 := rfl
          refine j_if_eq_t (pc := 142) (tgt := 150) C dX5_readPart_142 (by decide) (by rw [i_eq]; omega) ?_
          refine j_iload (pc := 150) C dX5_readPart_150 1 rfl ?_
          refine j_callV (pc := 152) (As := [.int (u_6.2.1 0)]) (rest := []) (wr := [(r0, .inr (5, [.ref t0, .ref e0, .ref r1, .ref r2, .ref a0, .int r_habits, .int r_fault])), (t0, .inr (8, [.ref t1, .int t_length, .int (u_24.2.1 0), .int (u_24.2.1 1), .int (u_24.2.1 2), .int (u_24.2.1 3)])), (t1, .inl (cyC, 1000, .inl t_text))]) C (c_X1_add l D cyC cyI cyJ cyZ cyO e0 e1 e2 e3 (u_6.2.1 0) e_size e_nests e_steps (by omega) (by omega)) wd_345 wd_200 wd_346 wd_347 wd_348 ⟨by decide, by decide, rfl⟩ rfl ⟨rfl, rfl, by decide, by decide⟩ ⟨by decide, by decide⟩ [0, 1] [2, 3, 4] rfl rfl ⟨by decide, by decide, by decide⟩ 0 rfl rfl rfl (Nat.le_of_ble_eq_true rfl) dX5_readPart_152 (fun u_26 hw_27 => ?_)
          refine j_eq (ws2 := [(r0, .inr (5, [.ref t0, .ref e0, .ref r1, .ref r2, .ref a0, .int r_habits, .int r_fault])), (t0, .inr (8, [.ref t1, .int t_length, .int (u_24.2.1 0), .int (u_24.2.1 1), .int (u_24.2.1 2), .int (u_24.2.1 3)])), (t1, .inl (cyC, 1000, .inl t_text)), (e0, .inr (1, [.int (u_26.2.1 0), .int e_nests, .ref e1, .ref e2, .ref e3])), (e1, .inl (cyI, 1000, .inl (u_26.2.2.1 0)))]) (pc2 := 155) (lv2 := [(5, .int 1), (4, .int (u_6.2.1 0)), (3, .int (u_3.2.1 0)), (2, .int (u_1.2.1 0)), (0, .ref r0), (1, .int 4)]) (st2 := []) rfl rfl rfl rfl ?_
          obtain ⟨hw_27_0, hw_27_1, hw_27_2, hw_27_3, hw_27_4⟩ := hw_27
          refine j_iload (pc := 155) C dX5_readPart_155 0 rfl ?_
          have el_1 : (1 : Int32).toInt = 1 := rfl
          have el_1 : (1 : Int32).toInt = 1 := rfl
          have el_1 : (1 : Int32).toInt = 1 := rfl
          have el_1 : (1 : Int32).toInt = 1 := rfl
          have el_1 : (1 : Int32).toInt = 1 := rfl
          have el_1 : (1 : Int32).toInt = 1 := rfl
          have el_1 : (1 : Int32).toInt = 1 := rfl
          exact j_zret (pc := 157) C hr rfl hk (fun i => [].getD i 0, fun i => [1, r_fault, (u_24.2.1 0), (u_24.2.1 1), (u_24.2.1 2), (u_24.2.1 3), (u_26.2.1 0)].getD i 0, fun i => [(u_26.2.2.1 0)].getD i (fun _ => 0), fun i => [].getD i (fun _ => 0)) rfl (show (0 ≤ ((1 : Int32)).toInt ∧ ((1 : Int32)).toInt ≤ 1) ∧ (0 ≤ ((u_24.2.1 0)).toInt ∧ ((u_24.2.1 0)).toInt ≤ 1000) ∧ (0 ≤ ((u_24.2.1 1)).toInt ∧ ((u_24.2.1 1)).toInt ≤ 4) ∧ (0 ≤ ((u_24.2.1 2)).toInt ∧ ((u_24.2.1 2)).toInt ≤ 1000) ∧ (0 ≤ ((u_26.2.1 0)).toInt ∧ ((u_26.2.1 0)).toInt ≤ 1000) ∧ (¬ ((u_24.2.1 1)).toInt = 3 ∨ ((u_24.2.1 2)).toInt ≤ 999) ∧ ((e_size).toInt ≤ ((u_26.2.1 0)).toInt) ∧ (((u_26.2.1 0)).toInt + (t_place).toInt ≤ (e_size).toInt + ((u_24.2.1 2)).toInt) ∧ (IM (((1 : Int32)).toInt = 1) (CG e_steps (u_26.2.2.1 0) (e_size).toInt.toNat ((u_26.2.1 0)).toInt.toNat 5 (vPt (TKS t_text (t_length).toInt.toNat) 1 (t_place).toInt.toNat))) ∧ (TH t_text (t_length).toInt.toNat ((u_24.2.1 0)).toInt ((u_24.2.1 1)).toInt ((u_24.2.1 2)).toInt ((u_24.2.1 3)).toInt) ∧ (CP ((1 : Int32)).toInt ((u_24.2.1 2)).toInt (r_fault).toInt (r_fault).toInt (rPt (TKS t_text (t_length).toInt.toNat) 1 (t_place).toInt.toNat)) from ⟨by omega, by omega, by omega, by omega, by omega, by omega, by omega, by omega, (fun _ => CG.fct (k := fci (TKS t_text (t_length).toInt.toNat) (t_place).toInt.toNat) (hw_27_4 (by omega)) (by have y := hw_7_1 (show isFct (TKS t_text (t_length).toInt.toNat) (t_place).toInt.toNat = true from (by rcases hw_7_2 with hz9 | hz9; (exfalso; omega); exact hz9.2)); omega) (fci_lt _ _) (by omega) (by have y9 := hw_27_3 (by omega); omega) (by rw [vPt_fct (show ¬ isG (TKS t_text (t_length).toInt.toNat) (t_place).toInt.toNat 40 = true from gI_0.mp (by omega)) (show ¬ isW (TKS t_text (t_length).toInt.toNat) (t_place).toInt.toNat (WN 14) = true from wI_0.mp (by omega)) (show ¬ ((TKS t_text (t_length).toInt.toNat) (t_place).toInt.toNat).1 = 2 from (by have hk9 := hTH.kind; omega))])), hw_25_4, (CP.ok (by omega) (by omega) (by rw [rPt_s (d := 0)]; rw [if_pos (show canP (TKS t_text (t_length).toInt.toNat) (t_place).toInt.toNat = true from canP_iff.mpr (Or.inr (Or.inl (by rcases hw_7_2 with hz9 | hz9; (exfalso; omega); exact hz9.2)))), if_neg (show ¬ isG (TKS t_text (t_length).toInt.toNat) (t_place).toInt.toNat 40 = true from gI_0.mp (by omega)), if_neg (show ¬ isW (TKS t_text (t_length).toInt.toNat) (t_place).toInt.toNat (WN 14) = true from wI_0.mp (by omega)), ← ha_u_24]))⟩) [0, 1, 2, 3, 4] (by decide) rfl (by decide) (by decide) dX5_readPart_157
        · skip
          have el_m100 : ((-100) : Int32).toInt = (-100) := rfl
          rw [i_eq] at c_23
          refine j_aload_n (pc := 62) C dX5_readPart_62 rfl 3 rfl ?_
          refine j_iconst (pc := 63) (v := 1) C dX5_readPart_63 (by decide) ?_
          refine j_callV (pc := 64) (As := [.int 1]) (rest := []) (wr := [(e0, .inr (1, [.int e_size, .int e_nests, .ref e1, .ref e2, .ref e3])), (e1, .inl (cyI, 1000, .inl e_steps)), (t1, .inl (cyC, 1000, .inl t_text))]) C (c_X5_wrong l D cyC cyI cyJ cyZ cyO r0 t0 e0 r1 r2 a0 t1 1 r_habits r_fault t_length t_next t_kind t_place t_number (by omega) (by omega) (by omega) (by omega) (by decide)) wd_305 wd_306 wd_307 wd_308 wd_309 ⟨by decide, by decide, rfl⟩ rfl ⟨rfl, rfl, by decide, by decide⟩ ⟨by decide, by decide⟩ [2, 3] [0, 1, 4] rfl rfl ⟨by decide, by decide, by decide⟩ 2 rfl rfl rfl (Nat.le_of_ble_eq_true rfl) dX5_readPart_64 (fun u_28 hw_29 => ?_)
          refine j_eq (ws2 := [(e0, .inr (1, [.int e_size, .int e_nests, .ref e1, .ref e2, .ref e3])), (e1, .inl (cyI, 1000, .inl e_steps)), (t1, .inl (cyC, 1000, .inl t_text)), (r0, .inr (5, [.ref t0, .ref e0, .ref r1, .ref r2, .ref a0, .int r_habits, .int (u_28.2.1 0)])), (t0, .inr (8, [.ref t1, .int t_length, .int t_next, .int t_kind, .int t_place, .int t_number]))]) (pc2 := 67) (lv2 := [(4, .int (u_6.2.1 0)), (3, .int (u_3.2.1 0)), (2, .int (u_1.2.1 0)), (0, .ref r0), (1, .int 4)]) (st2 := [.int 0]) rfl rfl rfl rfl ?_
          have hw_29_0 : ((u_28.2.1 0)).toInt = ((1 : Int32)).toInt + 16 * (t_place).toInt := hw_29
          have el_0 : (0 : Int32).toInt = 0 := rfl
          have el_0 : (0 : Int32).toInt = 0 := rfl
          have el_0 : (0 : Int32).toInt = 0 := rfl
          have el_0 : (0 : Int32).toInt = 0 := rfl
          have el_0 : (0 : Int32).toInt = 0 := rfl
          have el_0 : (0 : Int32).toInt = 0 := rfl
          have el_0 : (0 : Int32).toInt = 0 := rfl
          have el_1 : (1 : Int32).toInt = 1 := rfl
          exact j_zret (pc := 67) C hr rfl hk (fun i => [].getD i 0, fun i => [0, (u_28.2.1 0), t_next, t_kind, t_place, t_number, e_size].getD i 0, fun i => [e_steps].getD i (fun _ => 0), fun i => [].getD i (fun _ => 0)) rfl (show (0 ≤ ((0 : Int32)).toInt ∧ ((0 : Int32)).toInt ≤ 1) ∧ (0 ≤ (t_next).toInt ∧ (t_next).toInt ≤ 1000) ∧ (0 ≤ (t_kind).toInt ∧ (t_kind).toInt ≤ 4) ∧ (0 ≤ (t_place).toInt ∧ (t_place).toInt ≤ 1000) ∧ (0 ≤ (e_size).toInt ∧ (e_size).toInt ≤ 1000) ∧ (¬ (t_kind).toInt = 3 ∨ (t_place).toInt ≤ 999) ∧ ((e_size).toInt ≤ (e_size).toInt) ∧ ((e_size).toInt + (t_place).toInt ≤ (e_size).toInt + (t_place).toInt) ∧ (IM (((0 : Int32)).toInt = 1) (CG e_steps e_steps (e_size).toInt.toNat (e_size).toInt.toNat 5 (vPt (TKS t_text (t_length).toInt.toNat) 1 (t_place).toInt.toNat))) ∧ (TH t_text (t_length).toInt.toNat (t_next).toInt (t_kind).toInt (t_place).toInt (t_number).toInt) ∧ (CP ((0 : Int32)).toInt (t_place).toInt ((u_28.2.1 0)).toInt (r_fault).toInt (rPt (TKS t_text (t_length).toInt.toNat) 1 (t_place).toInt.toNat)) from ⟨by omega, by omega, by omega, by omega, by omega, by omega, by omega, by omega, (fun h => absurd h (by decide)), hTH, (CP.mv (CP.wr (k := 1) (by omega) (by omega) (by omega) (by omega)) (by rw [rPt_s (d := 0)]; rw [if_neg (show ¬ canP (TKS t_text (t_length).toInt.toNat) (t_place).toInt.toNat = true from (fun q => by have hk9 := hTH.kind; rcases canP_iff.mp q with z | z | z | z; omega; (rcases hw_7_2 with hz9 | hz9; (rw [hz9.2] at z; exact absurd z (by decide)); omega); omega; omega))]))⟩) [3, 4, 2, 0, 1] (by decide) rfl (by decide) (by decide) dX5_readPart_67
  · skip
    have el_2 : (2 : Int32).toInt = 2 := rfl
    rw [i_eq] at c_5
    refine j_aload_n (pc := 31) C dX5_readPart_31 rfl 2 rfl ?_
    refine j_get (pc := 32) (ci := 5) (v := .ref t0) C inw_5 0 rfl rfl 0 (by decide) wd_296 rfl rfl dX5_readPart_32 ?_
    refine j_get (pc := 35) (ci := 8) (v := .int t_number) C inw_8 3 rfl rfl 5 (by decide) wd_311 rfl rfl dX5_readPart_35 ?_
    refine j_goto (pc := 38) (tgt := 45) C dX5_readPart_38 (by decide) ?_
    have hn8 := (hTH.2.2.2 (by omega)).2
    refine j_istore (pc := 45) (lv' := [(4, .int t_number), (3, .int (u_3.2.1 0)), (2, .int (u_1.2.1 0)), (0, .ref r0), (1, .int 4)]) C dX5_readPart_45 (by decide) rfl ?_
    refine j_iload_n (pc := 47) C dX5_readPart_47 rfl 2 rfl ?_
    refine j_if_ne (pc := 48) (tgt := 68) C dX5_readPart_48 (by decide) (fun c_30 => ?_) (fun c_30 => ?_)
    · skip
      have el_0 : (0 : Int32).toInt = 0 := rfl
      rw [i_eq] at c_30
      have k0c_30 : ((u_1.2.1 0)).toInt = 1 := by omega
      refine j_iload_n (pc := 68) C dX5_readPart_68 rfl 4 rfl ?_
      refine j_iconst (pc := 69) (v := 5) C dX5_readPart_69 (by decide) ?_
      refine j_icmp_lt_t (pc := 70) (tgt := 79) C dX5_readPart_70 (by decide) (by decide) ?_
      refine j_aload_n (pc := 79) C dX5_readPart_79 rfl 3 rfl ?_
      refine j_get (pc := 80) (ci := 5) (v := .ref t0) C inw_5 0 rfl rfl 0 (by decide) wd_296 rfl rfl dX5_readPart_80 ?_
      refine j_callV (pc := 83) (As := []) (rest := []) (wr := [(r0, .inr (5, [.ref t0, .ref e0, .ref r1, .ref r2, .ref a0, .int r_habits, .int r_fault])), (e0, .inr (1, [.int e_size, .int e_nests, .ref e1, .ref e2, .ref e3])), (e1, .inl (cyI, 1000, .inl e_steps))]) C (c_X8_advance_f l D cyC cyI cyJ cyZ cyO t0 t1 t_length t_next t_kind t_place t_number t_text (by omega) (by omega) (by omega) (by omega) h_t_text) wd_277 wd_258 wd_304 wd_279 wd_280 ⟨by decide, by decide, rfl⟩ rfl ⟨rfl, rfl, by decide, by decide⟩ ⟨by decide, by decide⟩ [3, 4] [0, 1, 2] rfl rfl ⟨by decide, by decide, by decide⟩ 3 rfl rfl rfl (Nat.le_of_ble_eq_true rfl) dX5_readPart_83 (fun u_31 hw_32 => ?_)
      refine j_eq (ws2 := [(r0, .inr (5, [.ref t0, .ref e0, .ref r1, .ref r2, .ref a0, .int r_habits, .int r_fault])), (e0, .inr (1, [.int e_size, .int e_nests, .ref e1, .ref e2, .ref e3])), (e1, .inl (cyI, 1000, .inl e_steps)), (t0, .inr (8, [.ref t1, .int t_length, .int (u_31.2.1 0), .int (u_31.2.1 1), .int (u_31.2.1 2), .int (u_31.2.1 3)])), (t1, .inl (cyC, 1000, .inl t_text))]) (pc2 := 86) (lv2 := [(4, .int t_number), (3, .int (u_3.2.1 0)), (2, .int (u_1.2.1 0)), (0, .ref r0), (1, .int 4)]) (st2 := []) rfl rfl rfl rfl ?_
      obtain ⟨hw_32_0, hw_32_1, hw_32_2, hw_32_3, hw_32_4, hw_32_5⟩ := hw_32
      have ha_u_31 := (hw_32_5).trans (TH.adv hTH)
      have hg9 := canP_gt (PT_TKS (f := t_text) (n := (t_length).toInt.toNat) (by omega)) (show canP (TKS t_text (t_length).toInt.toNat) (t_place).toInt.toNat = true from canP_iff.mpr (Or.inr (Or.inr (Or.inr (by omega)))))
      have hga9 := ha_u_31
      refine j_iload_n (pc := 86) C dX5_readPart_86 rfl 1 rfl ?_
      refine j_if_eq (pc := 87) (tgt := 116) C dX5_readPart_87 (by decide) (fun c_33 => ?_) (fun c_33 => ?_)
      · skip
        have el_0 : (0 : Int32).toInt = 0 := rfl
        rw [i_eq] at c_33
        refine j_iload_n (pc := 116) C dX5_readPart_116 rfl 2 rfl ?_
        have el_0 : (0 : Int32).toInt = 0 := rfl
        refine j_if_eq_f (pc := 117) (tgt := 130) C dX5_readPart_117 (by decide) (by rw [i_eq]; omega) ?_
        refine j_aload_n (pc := 120) C dX5_readPart_120 rfl 3 rfl ?_
        refine j_iload_n (pc := 121) C dX5_readPart_121 rfl 4 rfl ?_
        refine j_iconst (pc := 122) (v := 1) C dX5_readPart_122 (by decide) ?_
        refine j_iadd (pc := 123) (v := 5) C dX5_readPart_123 (by decide) ?_
        refine j_callV (pc := 124) (As := [.int 5]) (rest := []) (wr := []) C (c_X5_readPart_5 l D cyC cyI cyJ cyZ cyO r0 t0 t1 e0 e1 r1 r2 a0 e2 e3 r_habits r_fault t_length (u_31.2.1 0) (u_31.2.1 1) (u_31.2.1 2) (u_31.2.1 3) e_size e_nests t_text e_steps (by omega) (by omega) (by omega) (by omega) (by omega) (by omega) h_t_text (by omega) hw_32_4 (by omega)) wd_336 wd_306 wd_337 wd_338 wd_339 ⟨by decide, by decide, rfl⟩ rfl ⟨rfl, rfl, by decide, by decide⟩ ⟨by decide, by decide⟩ [0, 3, 4, 1, 2] [] rfl rfl ⟨by decide, by decide, by decide⟩ 0 rfl rfl rfl (Nat.le_of_ble_eq_true rfl) dX5_readPart_124 (fun u_34 hw_35 => ?_)
        refine j_eq (ws2 := [(r0, .inr (5, [.ref t0, .ref e0, .ref r1, .ref r2, .ref a0, .int r_habits, .int (u_34.2.1 0)])), (t0, .inr (8, [.ref t1, .int t_length, .int (u_31.2.1 0), .int (u_31.2.1 1), .int (u_31.2.1 2), .int (u_31.2.1 3)])), (t1, .inl (cyC, 1000, .inl t_text)), (e0, .inr (1, [.int e_size, .int e_nests, .ref e1, .ref e2, .ref e3])), (e1, .inl (cyI, 1000, .inl e_steps))]) (pc2 := 127) (lv2 := [(4, .int t_number), (3, .int (u_3.2.1 0)), (2, .int (u_1.2.1 0)), (0, .ref r0), (1, .int 4)]) (st2 := [.int 0]) rfl rfl rfl rfl ?_
        obtain ⟨hw_35_0, hw_35_1, hw_35_2, hw_35_3, hw_35_4, hw_35_5⟩ := hw_35
        refine j_if_eq_t (pc := 127) (tgt := 134) C dX5_readPart_127 (by decide) (by decide) ?_
        refine j_iconst (pc := 134) (v := 0) C dX5_readPart_134 (by decide) ?_
        refine j_istore (pc := 135) (lv' := [(5, .int 0), (4, .int t_number), (3, .int (u_3.2.1 0)), (2, .int (u_1.2.1 0)), (0, .ref r0), (1, .int 4)]) C dX5_readPart_135 (by decide) rfl ?_
        refine j_aload_n (pc := 137) C dX5_readPart_137 rfl 4 rfl ?_
        refine j_get (pc := 138) (ci := 5) (v := .ref e0) C inw_5 0 rfl rfl 1 (by decide) wd_344 rfl rfl dX5_readPart_138 ?_
        refine j_iload_n (pc := 141) C dX5_readPart_141 rfl 3 rfl ?_
        have el_0 : (0 : Int32).toInt = 0 := rfl
        refine j_if_eq_f (pc := 142) (tgt := 150) C dX5_readPart_142 (by decide) (by rw [i_eq]; omega) ?_
        refine j_bipush (pc := 145) (v := (-9)) C dX5_readPart_145 (by decide) ?_
        refine j_goto (pc := 147) (tgt := 152) C dX5_readPart_147 (by decide) ?_
        refine j_callV (pc := 152) (As := [.int (-9)]) (rest := []) (wr := [(r0, .inr (5, [.ref t0, .ref e0, .ref r1, .ref r2, .ref a0, .int r_habits, .int (u_34.2.1 0)])), (t0, .inr (8, [.ref t1, .int t_length, .int (u_31.2.1 0), .int (u_31.2.1 1), .int (u_31.2.1 2), .int (u_31.2.1 3)])), (t1, .inl (cyC, 1000, .inl t_text))]) C (c_X1_add l D cyC cyI cyJ cyZ cyO e0 e1 e2 e3 (-9) e_size e_nests e_steps (by omega) (by omega)) wd_345 wd_200 wd_346 wd_347 wd_348 ⟨by decide, by decide, rfl⟩ rfl ⟨rfl, rfl, by decide, by decide⟩ ⟨by decide, by decide⟩ [3, 4] [0, 1, 2] rfl rfl ⟨by decide, by decide, by decide⟩ 3 rfl rfl rfl (Nat.le_of_ble_eq_true rfl) dX5_readPart_152 (fun u_36 hw_37 => ?_)
        refine j_eq (ws2 := [(r0, .inr (5, [.ref t0, .ref e0, .ref r1, .ref r2, .ref a0, .int r_habits, .int (u_34.2.1 0)])), (t0, .inr (8, [.ref t1, .int t_length, .int (u_31.2.1 0), .int (u_31.2.1 1), .int (u_31.2.1 2), .int (u_31.2.1 3)])), (t1, .inl (cyC, 1000, .inl t_text)), (e0, .inr (1, [.int (u_36.2.1 0), .int e_nests, .ref e1, .ref e2, .ref e3])), (e1, .inl (cyI, 1000, .inl (u_36.2.2.1 0)))]) (pc2 := 155) (lv2 := [(5, .int 0), (4, .int t_number), (3, .int (u_3.2.1 0)), (2, .int (u_1.2.1 0)), (0, .ref r0), (1, .int 4)]) (st2 := []) rfl rfl rfl rfl ?_
        obtain ⟨hw_37_0, hw_37_1, hw_37_2, hw_37_3, hw_37_4⟩ := hw_37
        refine j_iload (pc := 155) C dX5_readPart_155 0 rfl ?_
        have el_0 : (0 : Int32).toInt = 0 := rfl
        have el_0 : (0 : Int32).toInt = 0 := rfl
        have el_0 : (0 : Int32).toInt = 0 := rfl
        have el_0 : (0 : Int32).toInt = 0 := rfl
        have el_0 : (0 : Int32).toInt = 0 := rfl
        have el_0 : (0 : Int32).toInt = 0 := rfl
        have el_0 : (0 : Int32).toInt = 0 := rfl
        exact j_zret (pc := 157) C hr rfl hk (fun i => [].getD i 0, fun i => [0, (u_34.2.1 0), (u_31.2.1 0), (u_31.2.1 1), (u_31.2.1 2), (u_31.2.1 3), (u_36.2.1 0)].getD i 0, fun i => [(u_36.2.2.1 0)].getD i (fun _ => 0), fun i => [].getD i (fun _ => 0)) rfl (show (0 ≤ ((0 : Int32)).toInt ∧ ((0 : Int32)).toInt ≤ 1) ∧ (0 ≤ ((u_31.2.1 0)).toInt ∧ ((u_31.2.1 0)).toInt ≤ 1000) ∧ (0 ≤ ((u_31.2.1 1)).toInt ∧ ((u_31.2.1 1)).toInt ≤ 4) ∧ (0 ≤ ((u_31.2.1 2)).toInt ∧ ((u_31.2.1 2)).toInt ≤ 1000) ∧ (0 ≤ ((u_36.2.1 0)).toInt ∧ ((u_36.2.1 0)).toInt ≤ 1000) ∧ (¬ ((u_31.2.1 1)).toInt = 3 ∨ ((u_31.2.1 2)).toInt ≤ 999) ∧ ((e_size).toInt ≤ ((u_36.2.1 0)).toInt) ∧ (((u_36.2.1 0)).toInt + (t_place).toInt ≤ (e_size).toInt + ((u_31.2.1 2)).toInt) ∧ (IM (((0 : Int32)).toInt = 1) (CG e_steps (u_36.2.2.1 0) (e_size).toInt.toNat ((u_36.2.1 0)).toInt.toNat 5 (vPt (TKS t_text (t_length).toInt.toNat) 1 (t_place).toInt.toNat))) ∧ (TH t_text (t_length).toInt.toNat ((u_31.2.1 0)).toInt ((u_31.2.1 1)).toInt ((u_31.2.1 2)).toInt ((u_31.2.1 3)).toInt) ∧ (CP ((0 : Int32)).toInt ((u_31.2.1 2)).toInt ((u_34.2.1 0)).toInt (r_fault).toInt (rPt (TKS t_text (t_length).toInt.toNat) 1 (t_place).toInt.toNat)) from ⟨by omega, by omega, by omega, by omega, by omega, by omega, by omega, by omega, (fun h => absurd h (by decide)), hw_35_4, (CP.bad (by omega) (by rw [rPt_s (d := 0)]; rw [if_pos (show canP (TKS t_text (t_length).toInt.toNat) (t_place).toInt.toNat = true from canP_iff.mpr (Or.inr (Or.inr (Or.inr (by omega))))), if_neg (show ¬ isG (TKS t_text (t_length).toInt.toNat) (t_place).toInt.toNat 40 = true from gI_0.mp (by omega)), if_pos (show isW (TKS t_text (t_length).toInt.toNat) (t_place).toInt.toNat (WN 14) = true from wI_1.mp (by omega)), ← ha_u_31]; exact (hw_35_5).2 (by omega)))⟩) [0, 1, 2, 3, 4] (by decide) rfl (by decide) (by decide) dX5_readPart_157
      · skip
        have el_0 : (0 : Int32).toInt = 0 := rfl
        rw [i_eq] at c_33
        have k0c_33 : ((u_3.2.1 0)).toInt = 1 := by omega
        refine j_aload_n (pc := 90) C dX5_readPart_90 rfl 3 rfl ?_
        refine j_iconst (pc := 91) (v := 0) C dX5_readPart_91 (by decide) ?_
        refine j_iload_n (pc := 92) C dX5_readPart_92 rfl 4 rfl ?_
        refine j_iconst (pc := 93) (v := 1) C dX5_readPart_93 (by decide) ?_
        refine j_iadd (pc := 94) (v := 5) C dX5_readPart_94 (by decide) ?_
        refine j_callV (pc := 95) (As := [.int 0, .int 5]) (rest := []) (wr := []) C (c_X5_readChain_0_5 l D cyC cyI cyJ cyZ cyO r0 t0 t1 e0 e1 r1 r2 a0 e2 e3 r_habits r_fault t_length (u_31.2.1 0) (u_31.2.1 1) (u_31.2.1 2) (u_31.2.1 3) e_size e_nests t_text e_steps (by omega) (by omega) (by omega) (by omega) (by omega) (by omega) h_t_text (by omega) hw_32_4 (by omega)) wd_340 wd_306 wd_341 wd_342 wd_343 ⟨by decide, by decide, rfl⟩ rfl ⟨rfl, rfl, by decide, by decide⟩ ⟨by decide, by decide⟩ [0, 3, 4, 1, 2] [] rfl rfl ⟨by decide, by decide, by decide⟩ 0 rfl rfl rfl (Nat.le_of_ble_eq_true rfl) dX5_readPart_95 (fun u_38 hw_39 => ?_)
        refine j_eq (ws2 := [(r0, .inr (5, [.ref t0, .ref e0, .ref r1, .ref r2, .ref a0, .int r_habits, .int (u_38.2.1 0)])), (t0, .inr (8, [.ref t1, .int t_length, .int (u_31.2.1 0), .int (u_31.2.1 1), .int (u_31.2.1 2), .int (u_31.2.1 3)])), (t1, .inl (cyC, 1000, .inl t_text)), (e0, .inr (1, [.int e_size, .int e_nests, .ref e1, .ref e2, .ref e3])), (e1, .inl (cyI, 1000, .inl e_steps))]) (pc2 := 98) (lv2 := [(4, .int t_number), (3, .int (u_3.2.1 0)), (2, .int (u_1.2.1 0)), (0, .ref r0), (1, .int 4)]) (st2 := [.int 0]) rfl rfl rfl rfl ?_
        obtain ⟨hw_39_0, hw_39_1, hw_39_2, hw_39_3, hw_39_4, hw_39_5⟩ := hw_39
        refine j_if_eq_t (pc := 98) (tgt := 114) C dX5_readPart_98 (by decide) (by decide) ?_
        refine j_iconst (pc := 114) (v := 0) C dX5_readPart_114 (by decide) ?_
        have el_0 : (0 : Int32).toInt = 0 := rfl
        have el_0 : (0 : Int32).toInt = 0 := rfl
        have el_0 : (0 : Int32).toInt = 0 := rfl
        have el_0 : (0 : Int32).toInt = 0 := rfl
        have el_0 : (0 : Int32).toInt = 0 := rfl
        have el_0 : (0 : Int32).toInt = 0 := rfl
        have el_0 : (0 : Int32).toInt = 0 := rfl
        exact j_zret (pc := 115) C hr rfl hk (fun i => [].getD i 0, fun i => [0, (u_38.2.1 0), (u_31.2.1 0), (u_31.2.1 1), (u_31.2.1 2), (u_31.2.1 3), e_size].getD i 0, fun i => [e_steps].getD i (fun _ => 0), fun i => [].getD i (fun _ => 0)) rfl (show (0 ≤ ((0 : Int32)).toInt ∧ ((0 : Int32)).toInt ≤ 1) ∧ (0 ≤ ((u_31.2.1 0)).toInt ∧ ((u_31.2.1 0)).toInt ≤ 1000) ∧ (0 ≤ ((u_31.2.1 1)).toInt ∧ ((u_31.2.1 1)).toInt ≤ 4) ∧ (0 ≤ ((u_31.2.1 2)).toInt ∧ ((u_31.2.1 2)).toInt ≤ 1000) ∧ (0 ≤ (e_size).toInt ∧ (e_size).toInt ≤ 1000) ∧ (¬ ((u_31.2.1 1)).toInt = 3 ∨ ((u_31.2.1 2)).toInt ≤ 999) ∧ ((e_size).toInt ≤ (e_size).toInt) ∧ ((e_size).toInt + (t_place).toInt ≤ (e_size).toInt + ((u_31.2.1 2)).toInt) ∧ (IM (((0 : Int32)).toInt = 1) (CG e_steps e_steps (e_size).toInt.toNat (e_size).toInt.toNat 5 (vPt (TKS t_text (t_length).toInt.toNat) 1 (t_place).toInt.toNat))) ∧ (TH t_text (t_length).toInt.toNat ((u_31.2.1 0)).toInt ((u_31.2.1 1)).toInt ((u_31.2.1 2)).toInt ((u_31.2.1 3)).toInt) ∧ (CP ((0 : Int32)).toInt ((u_31.2.1 2)).toInt ((u_38.2.1 0)).toInt (r_fault).toInt (rPt (TKS t_text (t_length).toInt.toNat) 1 (t_place).toInt.toNat)) from ⟨by omega, by omega, by omega, by omega, by omega, by omega, by omega, by omega, (fun h => absurd h (by decide)), hw_39_4, (CP.bad (by omega) (by rw [rPt_s (d := 0)]; rw [if_pos (show canP (TKS t_text (t_length).toInt.toNat) (t_place).toInt.toNat = true from canP_iff.mpr (Or.inr (Or.inr (Or.inl (by omega))))), if_pos (show isG (TKS t_text (t_length).toInt.toNat) (t_place).toInt.toNat 40 = true from gI_1.mp (by omega)), ← ha_u_31]; rw [bnd_bad ((hw_39_5).2 (by omega)).2]; exact (hw_39_5).2 (by omega)))⟩) [0, 1, 2, 3, 4] (by decide) rfl (by decide) (by decide) dX5_readPart_115
    · skip
      have el_0 : (0 : Int32).toInt = 0 := rfl
      rw [i_eq] at c_30
      refine j_iload_n (pc := 51) C dX5_readPart_51 rfl 1 rfl ?_
      refine j_if_ne (pc := 52) (tgt := 68) C dX5_readPart_52 (by decide) (fun c_40 => ?_) (fun c_40 => ?_)
      · skip
        have el_0 : (0 : Int32).toInt = 0 := rfl
        rw [i_eq] at c_40
        have k0c_40 : ((u_3.2.1 0)).toInt = 1 := by omega
        refine j_iload_n (pc := 68) C dX5_readPart_68 rfl 4 rfl ?_
        refine j_iconst (pc := 69) (v := 5) C dX5_readPart_69 (by decide) ?_
        refine j_icmp_lt_t (pc := 70) (tgt := 79) C dX5_readPart_70 (by decide) (by decide) ?_
        refine j_aload_n (pc := 79) C dX5_readPart_79 rfl 3 rfl ?_
        refine j_get (pc := 80) (ci := 5) (v := .ref t0) C inw_5 0 rfl rfl 0 (by decide) wd_296 rfl rfl dX5_readPart_80 ?_
        refine j_callV (pc := 83) (As := []) (rest := []) (wr := [(r0, .inr (5, [.ref t0, .ref e0, .ref r1, .ref r2, .ref a0, .int r_habits, .int r_fault])), (e0, .inr (1, [.int e_size, .int e_nests, .ref e1, .ref e2, .ref e3])), (e1, .inl (cyI, 1000, .inl e_steps))]) C (c_X8_advance_f l D cyC cyI cyJ cyZ cyO t0 t1 t_length t_next t_kind t_place t_number t_text (by omega) (by omega) (by omega) (by omega) h_t_text) wd_277 wd_258 wd_304 wd_279 wd_280 ⟨by decide, by decide, rfl⟩ rfl ⟨rfl, rfl, by decide, by decide⟩ ⟨by decide, by decide⟩ [3, 4] [0, 1, 2] rfl rfl ⟨by decide, by decide, by decide⟩ 3 rfl rfl rfl (Nat.le_of_ble_eq_true rfl) dX5_readPart_83 (fun u_41 hw_42 => ?_)
        refine j_eq (ws2 := [(r0, .inr (5, [.ref t0, .ref e0, .ref r1, .ref r2, .ref a0, .int r_habits, .int r_fault])), (e0, .inr (1, [.int e_size, .int e_nests, .ref e1, .ref e2, .ref e3])), (e1, .inl (cyI, 1000, .inl e_steps)), (t0, .inr (8, [.ref t1, .int t_length, .int (u_41.2.1 0), .int (u_41.2.1 1), .int (u_41.2.1 2), .int (u_41.2.1 3)])), (t1, .inl (cyC, 1000, .inl t_text))]) (pc2 := 86) (lv2 := [(4, .int t_number), (3, .int (u_3.2.1 0)), (2, .int (u_1.2.1 0)), (0, .ref r0), (1, .int 4)]) (st2 := []) rfl rfl rfl rfl ?_
        obtain ⟨hw_42_0, hw_42_1, hw_42_2, hw_42_3, hw_42_4, hw_42_5⟩ := hw_42
        have ha_u_41 := (hw_42_5).trans (TH.adv hTH)
        have hg9 := canP_gt (PT_TKS (f := t_text) (n := (t_length).toInt.toNat) (by omega)) (show canP (TKS t_text (t_length).toInt.toNat) (t_place).toInt.toNat = true from canP_iff.mpr (Or.inr (Or.inr (Or.inl (by omega)))))
        have hga9 := ha_u_41
        refine j_iload_n (pc := 86) C dX5_readPart_86 rfl 1 rfl ?_
        have el_0 : (0 : Int32).toInt = 0 := rfl
        refine j_if_eq_f (pc := 87) (tgt := 116) C dX5_readPart_87 (by decide) (by rw [i_eq]; omega) ?_
        refine j_aload_n (pc := 90) C dX5_readPart_90 rfl 3 rfl ?_
        refine j_iconst (pc := 91) (v := 0) C dX5_readPart_91 (by decide) ?_
        refine j_iload_n (pc := 92) C dX5_readPart_92 rfl 4 rfl ?_
        refine j_iconst (pc := 93) (v := 1) C dX5_readPart_93 (by decide) ?_
        refine j_iadd (pc := 94) (v := 5) C dX5_readPart_94 (by decide) ?_
        refine j_callV (pc := 95) (As := [.int 0, .int 5]) (rest := []) (wr := []) C (c_X5_readChain_0_5 l D cyC cyI cyJ cyZ cyO r0 t0 t1 e0 e1 r1 r2 a0 e2 e3 r_habits r_fault t_length (u_41.2.1 0) (u_41.2.1 1) (u_41.2.1 2) (u_41.2.1 3) e_size e_nests t_text e_steps (by omega) (by omega) (by omega) (by omega) (by omega) (by omega) h_t_text (by omega) hw_42_4 (by omega)) wd_340 wd_306 wd_341 wd_342 wd_343 ⟨by decide, by decide, rfl⟩ rfl ⟨rfl, rfl, by decide, by decide⟩ ⟨by decide, by decide⟩ [0, 3, 4, 1, 2] [] rfl rfl ⟨by decide, by decide, by decide⟩ 0 rfl rfl rfl (Nat.le_of_ble_eq_true rfl) dX5_readPart_95 (fun u_43 hw_44 => ?_)
        refine j_eq (ws2 := [(r0, .inr (5, [.ref t0, .ref e0, .ref r1, .ref r2, .ref a0, .int r_habits, .int (u_43.2.1 0)])), (t0, .inr (8, [.ref t1, .int t_length, .int (u_41.2.1 0), .int (u_41.2.1 1), .int (u_41.2.1 2), .int (u_41.2.1 3)])), (t1, .inl (cyC, 1000, .inl t_text)), (e0, .inr (1, [.int e_size, .int e_nests, .ref e1, .ref e2, .ref e3])), (e1, .inl (cyI, 1000, .inl e_steps))]) (pc2 := 98) (lv2 := [(4, .int t_number), (3, .int (u_3.2.1 0)), (2, .int (u_1.2.1 0)), (0, .ref r0), (1, .int 4)]) (st2 := [.int 0]) rfl rfl rfl rfl ?_
        obtain ⟨hw_44_0, hw_44_1, hw_44_2, hw_44_3, hw_44_4, hw_44_5⟩ := hw_44
        refine j_if_eq_t (pc := 98) (tgt := 114) C dX5_readPart_98 (by decide) (by decide) ?_
        refine j_iconst (pc := 114) (v := 0) C dX5_readPart_114 (by decide) ?_
        have el_0 : (0 : Int32).toInt = 0 := rfl
        have el_0 : (0 : Int32).toInt = 0 := rfl
        have el_0 : (0 : Int32).toInt = 0 := rfl
        have el_0 : (0 : Int32).toInt = 0 := rfl
        have el_0 : (0 : Int32).toInt = 0 := rfl
        have el_0 : (0 : Int32).toInt = 0 := rfl
        have el_0 : (0 : Int32).toInt = 0 := rfl
        exact j_zret (pc := 115) C hr rfl hk (fun i => [].getD i 0, fun i => [0, (u_43.2.1 0), (u_41.2.1 0), (u_41.2.1 1), (u_41.2.1 2), (u_41.2.1 3), e_size].getD i 0, fun i => [e_steps].getD i (fun _ => 0), fun i => [].getD i (fun _ => 0)) rfl (show (0 ≤ ((0 : Int32)).toInt ∧ ((0 : Int32)).toInt ≤ 1) ∧ (0 ≤ ((u_41.2.1 0)).toInt ∧ ((u_41.2.1 0)).toInt ≤ 1000) ∧ (0 ≤ ((u_41.2.1 1)).toInt ∧ ((u_41.2.1 1)).toInt ≤ 4) ∧ (0 ≤ ((u_41.2.1 2)).toInt ∧ ((u_41.2.1 2)).toInt ≤ 1000) ∧ (0 ≤ (e_size).toInt ∧ (e_size).toInt ≤ 1000) ∧ (¬ ((u_41.2.1 1)).toInt = 3 ∨ ((u_41.2.1 2)).toInt ≤ 999) ∧ ((e_size).toInt ≤ (e_size).toInt) ∧ ((e_size).toInt + (t_place).toInt ≤ (e_size).toInt + ((u_41.2.1 2)).toInt) ∧ (IM (((0 : Int32)).toInt = 1) (CG e_steps e_steps (e_size).toInt.toNat (e_size).toInt.toNat 5 (vPt (TKS t_text (t_length).toInt.toNat) 1 (t_place).toInt.toNat))) ∧ (TH t_text (t_length).toInt.toNat ((u_41.2.1 0)).toInt ((u_41.2.1 1)).toInt ((u_41.2.1 2)).toInt ((u_41.2.1 3)).toInt) ∧ (CP ((0 : Int32)).toInt ((u_41.2.1 2)).toInt ((u_43.2.1 0)).toInt (r_fault).toInt (rPt (TKS t_text (t_length).toInt.toNat) 1 (t_place).toInt.toNat)) from ⟨by omega, by omega, by omega, by omega, by omega, by omega, by omega, by omega, (fun h => absurd h (by decide)), hw_44_4, (CP.bad (by omega) (by rw [rPt_s (d := 0)]; rw [if_pos (show canP (TKS t_text (t_length).toInt.toNat) (t_place).toInt.toNat = true from canP_iff.mpr (Or.inr (Or.inr (Or.inl (by omega))))), if_pos (show isG (TKS t_text (t_length).toInt.toNat) (t_place).toInt.toNat 40 = true from gI_1.mp (by omega)), ← ha_u_41]; rw [bnd_bad ((hw_44_5).2 (by omega)).2]; exact (hw_44_5).2 (by omega)))⟩) [0, 1, 2, 3, 4] (by decide) rfl (by decide) (by decide) dX5_readPart_115
      · skip
        have el_0 : (0 : Int32).toInt = 0 := rfl
        rw [i_eq] at c_40
        refine j_iload (pc := 55) C dX5_readPart_55 0 rfl ?_
        refine j_bipush (pc := 57) (v := (-100)) C dX5_readPart_57 (by decide) ?_
        have el_m100 : ((-100) : Int32).toInt = (-100) := rfl
        refine j_icmp_ne_t (pc := 59) (tgt := 68) C dX5_readPart_59 (by decide) (by rw [i_eq]; omega) ?_
        refine j_iload_n (pc := 68) C dX5_readPart_68 rfl 4 rfl ?_
        refine j_iconst (pc := 69) (v := 5) C dX5_readPart_69 (by decide) ?_
        refine j_icmp_lt_t (pc := 70) (tgt := 79) C dX5_readPart_70 (by decide) (by decide) ?_
        refine j_aload_n (pc := 79) C dX5_readPart_79 rfl 3 rfl ?_
        refine j_get (pc := 80) (ci := 5) (v := .ref t0) C inw_5 0 rfl rfl 0 (by decide) wd_296 rfl rfl dX5_readPart_80 ?_
        refine j_callV (pc := 83) (As := []) (rest := []) (wr := [(r0, .inr (5, [.ref t0, .ref e0, .ref r1, .ref r2, .ref a0, .int r_habits, .int r_fault])), (e0, .inr (1, [.int e_size, .int e_nests, .ref e1, .ref e2, .ref e3])), (e1, .inl (cyI, 1000, .inl e_steps))]) C (c_X8_advance_f l D cyC cyI cyJ cyZ cyO t0 t1 t_length t_next t_kind t_place t_number t_text (by omega) (by omega) (by omega) (by omega) h_t_text) wd_277 wd_258 wd_304 wd_279 wd_280 ⟨by decide, by decide, rfl⟩ rfl ⟨rfl, rfl, by decide, by decide⟩ ⟨by decide, by decide⟩ [3, 4] [0, 1, 2] rfl rfl ⟨by decide, by decide, by decide⟩ 3 rfl rfl rfl (Nat.le_of_ble_eq_true rfl) dX5_readPart_83 (fun u_45 hw_46 => ?_)
        refine j_eq (ws2 := [(r0, .inr (5, [.ref t0, .ref e0, .ref r1, .ref r2, .ref a0, .int r_habits, .int r_fault])), (e0, .inr (1, [.int e_size, .int e_nests, .ref e1, .ref e2, .ref e3])), (e1, .inl (cyI, 1000, .inl e_steps)), (t0, .inr (8, [.ref t1, .int t_length, .int (u_45.2.1 0), .int (u_45.2.1 1), .int (u_45.2.1 2), .int (u_45.2.1 3)])), (t1, .inl (cyC, 1000, .inl t_text))]) (pc2 := 86) (lv2 := [(4, .int t_number), (3, .int (u_3.2.1 0)), (2, .int (u_1.2.1 0)), (0, .ref r0), (1, .int 4)]) (st2 := []) rfl rfl rfl rfl ?_
        obtain ⟨hw_46_0, hw_46_1, hw_46_2, hw_46_3, hw_46_4, hw_46_5⟩ := hw_46
        have ha_u_45 := (hw_46_5).trans (TH.adv hTH)
        have hg9 := canP_gt (PT_TKS (f := t_text) (n := (t_length).toInt.toNat) (by omega)) (show canP (TKS t_text (t_length).toInt.toNat) (t_place).toInt.toNat = true from canP_iff.mpr (Or.inl (by have hk9 := hTH.kind; omega)))
        have hga9 := ha_u_45
        refine j_iload_n (pc := 86) C dX5_readPart_86 rfl 1 rfl ?_
        have el_0 : (0 : Int32).toInt = 0 := rfl
        refine j_if_eq_t (pc := 87) (tgt := 116) C dX5_readPart_87 (by decide) (by rw [i_eq]; omega) ?_
        refine j_iload_n (pc := 116) C dX5_readPart_116 rfl 2 rfl ?_
        have el_0 : (0 : Int32).toInt = 0 := rfl
        refine j_if_eq_t (pc := 117) (tgt := 130) C dX5_readPart_117 (by decide) (by rw [i_eq]; omega) ?_
        refine j_iconst (pc := 130) (v := 1) C dX5_readPart_130 (by decide) ?_
        refine j_goto (pc := 131) (tgt := 135) C dX5_readPart_131 (by decide) ?_
        refine j_istore (pc := 135) (lv' := [(5, .int 1), (4, .int t_number), (3, .int (u_3.2.1 0)), (2, .int (u_1.2.1 0)), (0, .ref r0), (1, .int 4)]) C dX5_readPart_135 (by decide) rfl ?_
        refine j_aload_n (pc := 137) C dX5_readPart_137 rfl 4 rfl ?_
        refine j_get (pc := 138) (ci := 5) (v := .ref e0) C inw_5 0 rfl rfl 1 (by decide) wd_344 rfl rfl dX5_readPart_138 ?_
        refine j_iload_n (pc := 141) C dX5_readPart_141 rfl 3 rfl ?_
        have el_0 : (0 : Int32).toInt = 0 := rfl
        refine j_if_eq_t (pc := 142) (tgt := 150) C dX5_readPart_142 (by decide) (by rw [i_eq]; omega) ?_
        refine j_iload (pc := 150) C dX5_readPart_150 1 rfl ?_
        refine j_callV (pc := 152) (As := [.int t_number]) (rest := []) (wr := [(r0, .inr (5, [.ref t0, .ref e0, .ref r1, .ref r2, .ref a0, .int r_habits, .int r_fault])), (t0, .inr (8, [.ref t1, .int t_length, .int (u_45.2.1 0), .int (u_45.2.1 1), .int (u_45.2.1 2), .int (u_45.2.1 3)])), (t1, .inl (cyC, 1000, .inl t_text))]) C (c_X1_add l D cyC cyI cyJ cyZ cyO e0 e1 e2 e3 t_number e_size e_nests e_steps (by omega) (by omega)) wd_345 wd_200 wd_346 wd_347 wd_348 ⟨by decide, by decide, rfl⟩ rfl ⟨rfl, rfl, by decide, by decide⟩ ⟨by decide, by decide⟩ [1, 2] [0, 3, 4] rfl rfl ⟨by decide, by decide, by decide⟩ 1 rfl rfl rfl (Nat.le_of_ble_eq_true rfl) dX5_readPart_152 (fun u_47 hw_48 => ?_)
        refine j_eq (ws2 := [(r0, .inr (5, [.ref t0, .ref e0, .ref r1, .ref r2, .ref a0, .int r_habits, .int r_fault])), (t0, .inr (8, [.ref t1, .int t_length, .int (u_45.2.1 0), .int (u_45.2.1 1), .int (u_45.2.1 2), .int (u_45.2.1 3)])), (t1, .inl (cyC, 1000, .inl t_text)), (e0, .inr (1, [.int (u_47.2.1 0), .int e_nests, .ref e1, .ref e2, .ref e3])), (e1, .inl (cyI, 1000, .inl (u_47.2.2.1 0)))]) (pc2 := 155) (lv2 := [(5, .int 1), (4, .int t_number), (3, .int (u_3.2.1 0)), (2, .int (u_1.2.1 0)), (0, .ref r0), (1, .int 4)]) (st2 := []) rfl rfl rfl rfl ?_
        obtain ⟨hw_48_0, hw_48_1, hw_48_2, hw_48_3, hw_48_4⟩ := hw_48
        refine j_iload (pc := 155) C dX5_readPart_155 0 rfl ?_
        have el_1 : (1 : Int32).toInt = 1 := rfl
        have el_1 : (1 : Int32).toInt = 1 := rfl
        have el_1 : (1 : Int32).toInt = 1 := rfl
        have el_1 : (1 : Int32).toInt = 1 := rfl
        have el_1 : (1 : Int32).toInt = 1 := rfl
        have el_1 : (1 : Int32).toInt = 1 := rfl
        have el_1 : (1 : Int32).toInt = 1 := rfl
        exact j_zret (pc := 157) C hr rfl hk (fun i => [].getD i 0, fun i => [1, r_fault, (u_45.2.1 0), (u_45.2.1 1), (u_45.2.1 2), (u_45.2.1 3), (u_47.2.1 0)].getD i 0, fun i => [(u_47.2.2.1 0)].getD i (fun _ => 0), fun i => [].getD i (fun _ => 0)) rfl (show (0 ≤ ((1 : Int32)).toInt ∧ ((1 : Int32)).toInt ≤ 1) ∧ (0 ≤ ((u_45.2.1 0)).toInt ∧ ((u_45.2.1 0)).toInt ≤ 1000) ∧ (0 ≤ ((u_45.2.1 1)).toInt ∧ ((u_45.2.1 1)).toInt ≤ 4) ∧ (0 ≤ ((u_45.2.1 2)).toInt ∧ ((u_45.2.1 2)).toInt ≤ 1000) ∧ (0 ≤ ((u_47.2.1 0)).toInt ∧ ((u_47.2.1 0)).toInt ≤ 1000) ∧ (¬ ((u_45.2.1 1)).toInt = 3 ∨ ((u_45.2.1 2)).toInt ≤ 999) ∧ ((e_size).toInt ≤ ((u_47.2.1 0)).toInt) ∧ (((u_47.2.1 0)).toInt + (t_place).toInt ≤ (e_size).toInt + ((u_45.2.1 2)).toInt) ∧ (IM (((1 : Int32)).toInt = 1) (CG e_steps (u_47.2.2.1 0) (e_size).toInt.toNat ((u_47.2.1 0)).toInt.toNat 5 (vPt (TKS t_text (t_length).toInt.toNat) 1 (t_place).toInt.toNat))) ∧ (TH t_text (t_length).toInt.toNat ((u_45.2.1 0)).toInt ((u_45.2.1 1)).toInt ((u_45.2.1 2)).toInt ((u_45.2.1 3)).toInt) ∧ (CP ((1 : Int32)).toInt ((u_45.2.1 2)).toInt (r_fault).toInt (r_fault).toInt (rPt (TKS t_text (t_length).toInt.toNat) 1 (t_place).toInt.toNat)) from ⟨by omega, by omega, by omega, by omega, by omega, by omega, by omega, by omega, (fun _ => by have hn8 := (hTH.2.2.2 (by omega)).2; exact CG.num (hw_48_4 (by omega)) (by omega) (by omega) (by have y9 := hw_48_3 (by omega); omega) (by rw [vPt_num (show ¬ isG (TKS t_text (t_length).toInt.toNat) (t_place).toInt.toNat 40 = true from gI_0.mp (by omega)) (show ¬ isW (TKS t_text (t_length).toInt.toNat) (t_place).toInt.toNat (WN 14) = true from wI_0.mp (by omega)) (show ((TKS t_text (t_length).toInt.toNat) (t_place).toInt.toNat).1 = 2 from hTH.kind.trans (by omega)), l2i_of (hTH.num (by omega))])), hw_46_4, (CP.ok (by omega) (by omega) (by rw [rPt_s (d := 0)]; rw [if_pos (show canP (TKS t_text (t_length).toInt.toNat) (t_place).toInt.toNat = true from canP_iff.mpr (Or.inl (by have hk9 := hTH.kind; omega))), if_neg (show ¬ isG (TKS t_text (t_length).toInt.toNat) (t_place).toInt.toNat 40 = true from gI_0.mp (by omega)), if_neg (show ¬ isW (TKS t_text (t_length).toInt.toNat) (t_place).toInt.toNat (WN 14) = true from wI_0.mp (by omega)), ← ha_u_45]))⟩) [0, 1, 2, 3, 4] (by decide) rfl (by decide) (by decide) dX5_readPart_157
set_option maxHeartbeats 4000000 in
set_option maxRecDepth 100000 in
theorem c_X5_readChain_4_4 (l : Launch) (D : DG) (cyC cyI cyJ cyZ cyO : ClassId) (r0 : Nat) (t0 : Nat) (t1 : Nat) (e0 : Nat) (e1 : Nat) (r1 : Nat) (r2 : Nat) (a0 : Nat) (e2 : Nat) (e3 : Nat) (r_habits : Int32) (r_fault : Int32) (t_length : Int32) (t_next : Int32) (t_kind : Int32) (t_place : Int32) (t_number : Int32) (e_size : Int32) (e_nests : Int32) (t_text : Nat → Int32) (e_steps : Nat → Int32) (h_t_length : 0 ≤ (t_length).toInt ∧ (t_length).toInt ≤ 1000) (h_t_next : 0 ≤ (t_next).toInt ∧ (t_next).toInt ≤ 1000) (h_t_kind : 0 ≤ (t_kind).toInt ∧ (t_kind).toInt ≤ 4) (h_t_place : 0 ≤ (t_place).toInt ∧ (t_place).toInt ≤ 1000) (h_e_size : 0 ≤ (e_size).toInt ∧ (e_size).toInt ≤ 1000) (h_e_nests : 0 ≤ (e_nests).toInt ∧ (e_nests).toInt ≤ 4) (h_t_text : Iv 1000 (0) (126) t_text) (ht3 : ¬ (t_kind).toInt = 3 ∨ (t_place).toInt ≤ 999) (hTH : TH t_text (t_length).toInt.toNat (t_next).toInt (t_kind).toInt (t_place).toInt (t_number).toInt) (hsz6 : (e_size).toInt ≤ (t_place).toInt) : KK l D (TY cyC cyI cyJ cyZ cyO) yX5_readChain cX5_readChain 7 (some .boolean) ({ frames := 13, cells := 0, slots := 0, locals := 307 } : Room) 0 0 [.ref r0, .int 4, .int 4] [(r0, .inr (5, [.ref t0, .ref e0, .ref r1, .ref r2, .ref a0, .int r_habits, .int r_fault])), (t0, .inr (8, [.ref t1, .int t_length, .int t_next, .int t_kind, .int t_place, .int t_number])), (t1, .inl (cyC, 1000, .inl t_text)), (e0, .inr (1, [.int e_size, .int e_nests, .ref e1, .ref e2, .ref e3])), (e1, .inl (cyI, 1000, .inl e_steps))] (fun u => some (.int (u.2.1 0))) (fun u => (0 ≤ (u.2.1 0).toInt ∧ (u.2.1 0).toInt ≤ 1) ∧ (0 ≤ (u.2.1 2).toInt ∧ (u.2.1 2).toInt ≤ 1000) ∧ (0 ≤ (u.2.1 3).toInt ∧ (u.2.1 3).toInt ≤ 4) ∧ (0 ≤ (u.2.1 4).toInt ∧ (u.2.1 4).toInt ≤ 1000) ∧ (0 ≤ (u.2.1 6).toInt ∧ (u.2.1 6).toInt ≤ 1000) ∧ (¬ ((u.2.1 3)).toInt = 3 ∨ ((u.2.1 4)).toInt ≤ 999) ∧ ((e_size).toInt ≤ ((u.2.1 6)).toInt) ∧ (((u.2.1 6)).toInt + (t_place).toInt ≤ (e_size).toInt + ((u.2.1 4)).toInt) ∧ (IM (((u.2.1 0)).toInt = 1) (CG e_steps (u.2.2.1 0) (e_size).toInt.toNat ((u.2.1 6)).toInt.toNat 5 (vLv (TKS t_text (t_length).toInt.toNat) (rPt (TKS t_text (t_length).toInt.toNat) 1) (vPt (TKS t_text (t_length).toInt.toNat) 1) 0 (t_place).toInt.toNat))) ∧ (TH t_text (t_length).toInt.toNat ((u.2.1 2)).toInt ((u.2.1 3)).toInt ((u.2.1 4)).toInt ((u.2.1 5)).toInt) ∧ (CP ((u.2.1 0)).toInt ((u.2.1 4)).toInt ((u.2.1 1)).toInt (r_fault).toInt (rLv (TKS t_text (t_length).toInt.toNat) (rPt (TKS t_text (t_length).toInt.toNat) 1) 0 (t_place).toInt.toNat))) (fun u => [(r0, .inr (5, [.ref t0, .ref e0, .ref r1, .ref r2, .ref a0, .int r_habits, .int (u.2.1 1)])), (t0, .inr (8, [.ref t1, .int t_length, .int (u.2.1 2), .int (u.2.1 3), .int (u.2.1 4), .int (u.2.1 5)])), (t1, .inl (cyC, 1000, .inl t_text)), (e0, .inr (1, [.int (u.2.1 6), .int e_nests, .ref e1, .ref e2, .ref e3])), (e1, .inl (cyI, 1000, .inl (u.2.2.1 0)))]) := by
  refine KK.of (lv0 := [(0, .ref r0), (1, .int 4), (2, .int 4)]) (by decide) rfl (Nat.le_of_ble_eq_true rfl) ?_
  intro p e s m args below meth c A C hr hk hin
  refine j_iload_n (pc := 0) C dX5_readChain_0 rfl 1 rfl ?_
  refine j_iconst (pc := 1) (v := 4) C dX5_readChain_1 (by decide) ?_
  refine j_icmp_lt_f (pc := 2) (tgt := 11) C dX5_readChain_2 (by decide) (by decide) ?_
  refine j_aload_n (pc := 5) C dX5_readChain_5 rfl 0 rfl ?_
  refine j_iload_n (pc := 6) C dX5_readChain_6 rfl 2 rfl ?_
  refine j_callV (pc := 7) (As := [.int 4]) (rest := []) (wr := []) C (c_X5_readPart_4 l D cyC cyI cyJ cyZ cyO r0 t0 t1 e0 e1 r1 r2 a0 e2 e3 r_habits r_fault t_length t_next t_kind t_place t_number e_size e_nests t_text e_steps (by omega) (by omega) (by omega) (by omega) (by omega) (by omega) h_t_text (by omega) hTH (by omega)) wd_336 wd_306 wd_337 wd_338 wd_339 ⟨by decide, by decide, rfl⟩ rfl ⟨rfl, rfl, by decide, by decide⟩ ⟨by decide, by decide⟩ [0, 1, 2, 3, 4] [] rfl rfl ⟨by decide, by decide, by decide⟩ 0 rfl rfl rfl (Nat.le_of_ble_eq_true rfl) dX5_readChain_7 (fun u_1 hw_2 => ?_)
  refine j_eq (ws2 := [(r0, .inr (5, [.ref t0, .ref e0, .ref r1, .ref r2, .ref a0, .int r_habits, .int (u_1.2.1 1)])), (t0, .inr (8, [.ref t1, .int t_length, .int (u_1.2.1 2), .int (u_1.2.1 3), .int (u_1.2.1 4), .int (u_1.2.1 5)])), (t1, .inl (cyC, 1000, .inl t_text)), (e0, .inr (1, [.int (u_1.2.1 6), .int e_nests, .ref e1, .ref e2, .ref e3])), (e1, .inl (cyI, 1000, .inl (u_1.2.2.1 0)))]) (pc2 := 10) (lv2 := [(0, .ref r0), (1, .int 4), (2, .int 4)]) (st2 := [.int (u_1.2.1 0)]) rfl rfl rfl rfl ?_
  obtain ⟨hw_2_0, hw_2_1, hw_2_2, hw_2_3, hw_2_4, hw_2_5, hw_2_6, hw_2_7, hw_2_8, hw_2_9, hw_2_10⟩ := hw_2
  exact j_zret (pc := 10) C hr (nb_01 ⟨by omega, by omega⟩).1 hk (fun i => [].getD i 0, fun i => [(u_1.2.1 0), (u_1.2.1 1), (u_1.2.1 2), (u_1.2.1 3), (u_1.2.1 4), (u_1.2.1 5), (u_1.2.1 6)].getD i 0, fun i => [(u_1.2.2.1 0)].getD i (fun _ => 0), fun i => [].getD i (fun _ => 0)) rfl (show (0 ≤ ((u_1.2.1 0)).toInt ∧ ((u_1.2.1 0)).toInt ≤ 1) ∧ (0 ≤ ((u_1.2.1 2)).toInt ∧ ((u_1.2.1 2)).toInt ≤ 1000) ∧ (0 ≤ ((u_1.2.1 3)).toInt ∧ ((u_1.2.1 3)).toInt ≤ 4) ∧ (0 ≤ ((u_1.2.1 4)).toInt ∧ ((u_1.2.1 4)).toInt ≤ 1000) ∧ (0 ≤ ((u_1.2.1 6)).toInt ∧ ((u_1.2.1 6)).toInt ≤ 1000) ∧ (¬ ((u_1.2.1 3)).toInt = 3 ∨ ((u_1.2.1 4)).toInt ≤ 999) ∧ ((e_size).toInt ≤ ((u_1.2.1 6)).toInt) ∧ (((u_1.2.1 6)).toInt + (t_place).toInt ≤ (e_size).toInt + ((u_1.2.1 4)).toInt) ∧ (IM (((u_1.2.1 0)).toInt = 1) (CG e_steps (u_1.2.2.1 0) (e_size).toInt.toNat ((u_1.2.1 6)).toInt.toNat 5 (vLv (TKS t_text (t_length).toInt.toNat) (rPt (TKS t_text (t_length).toInt.toNat) 1) (vPt (TKS t_text (t_length).toInt.toNat) 1) 0 (t_place).toInt.toNat))) ∧ (TH t_text (t_length).toInt.toNat ((u_1.2.1 2)).toInt ((u_1.2.1 3)).toInt ((u_1.2.1 4)).toInt ((u_1.2.1 5)).toInt) ∧ (CP ((u_1.2.1 0)).toInt ((u_1.2.1 4)).toInt ((u_1.2.1 1)).toInt (r_fault).toInt (rLv (TKS t_text (t_length).toInt.toNat) (rPt (TKS t_text (t_length).toInt.toNat) 1) 0 (t_place).toInt.toNat)) from ⟨by omega, by omega, by omega, by omega, by omega, by omega, by omega, by omega, hw_2_8, hw_2_9, (CP.mv hw_2_10 rLv0)⟩) [0, 1, 2, 3, 4] (by decide) rfl (by decide) (by decide) dX5_readChain_10
set_option maxHeartbeats 4000000 in
set_option maxRecDepth 100000 in
theorem c_X5_readChain_3_4 (l : Launch) (D : DG) (cyC cyI cyJ cyZ cyO : ClassId) (r0 : Nat) (t0 : Nat) (t1 : Nat) (e0 : Nat) (e1 : Nat) (r1 : Nat) (r2 : Nat) (a0 : Nat) (e2 : Nat) (e3 : Nat) (r_habits : Int32) (r_fault : Int32) (t_length : Int32) (t_next : Int32) (t_kind : Int32) (t_place : Int32) (t_number : Int32) (e_size : Int32) (e_nests : Int32) (t_text : Nat → Int32) (e_steps : Nat → Int32) (h_t_length : 0 ≤ (t_length).toInt ∧ (t_length).toInt ≤ 1000) (h_t_next : 0 ≤ (t_next).toInt ∧ (t_next).toInt ≤ 1000) (h_t_kind : 0 ≤ (t_kind).toInt ∧ (t_kind).toInt ≤ 4) (h_t_place : 0 ≤ (t_place).toInt ∧ (t_place).toInt ≤ 1000) (h_e_size : 0 ≤ (e_size).toInt ∧ (e_size).toInt ≤ 1000) (h_e_nests : 0 ≤ (e_nests).toInt ∧ (e_nests).toInt ≤ 4) (h_t_text : Iv 1000 (0) (126) t_text) (ht3 : ¬ (t_kind).toInt = 3 ∨ (t_place).toInt ≤ 999) (hTH : TH t_text (t_length).toInt.toNat (t_next).toInt (t_kind).toInt (t_place).toInt (t_number).toInt) (hsz6 : (e_size).toInt ≤ (t_place).toInt) : KK l D (TY cyC cyI cyJ cyZ cyO) yX5_readChain cX5_readChain 7 (some .boolean) ({ frames := 14, cells := 0, slots := 0, locals := 333 } : Room) 0 0 [.ref r0, .int 3, .int 4] [(r0, .inr (5, [.ref t0, .ref e0, .ref r1, .ref r2, .ref a0, .int r_habits, .int r_fault])), (t0, .inr (8, [.ref t1, .int t_length, .int t_next, .int t_kind, .int t_place, .int t_number])), (t1, .inl (cyC, 1000, .inl t_text)), (e0, .inr (1, [.int e_size, .int e_nests, .ref e1, .ref e2, .ref e3])), (e1, .inl (cyI, 1000, .inl e_steps))] (fun u => some (.int (u.2.1 0))) (fun u => (0 ≤ (u.2.1 0).toInt ∧ (u.2.1 0).toInt ≤ 1) ∧ (0 ≤ (u.2.1 2).toInt ∧ (u.2.1 2).toInt ≤ 1000) ∧ (0 ≤ (u.2.1 3).toInt ∧ (u.2.1 3).toInt ≤ 4) ∧ (0 ≤ (u.2.1 4).toInt ∧ (u.2.1 4).toInt ≤ 1000) ∧ (0 ≤ (u.2.1 6).toInt ∧ (u.2.1 6).toInt ≤ 1000) ∧ (¬ ((u.2.1 3)).toInt = 3 ∨ ((u.2.1 4)).toInt ≤ 999) ∧ ((e_size).toInt ≤ ((u.2.1 6)).toInt) ∧ (((u.2.1 6)).toInt + (t_place).toInt ≤ (e_size).toInt + ((u.2.1 4)).toInt) ∧ (IM (((u.2.1 0)).toInt = 1) (CG e_steps (u.2.2.1 0) (e_size).toInt.toNat ((u.2.1 6)).toInt.toNat 6 (vLv (TKS t_text (t_length).toInt.toNat) (rPt (TKS t_text (t_length).toInt.toNat) 1) (vPt (TKS t_text (t_length).toInt.toNat) 1) 1 (t_place).toInt.toNat))) ∧ (TH t_text (t_length).toInt.toNat ((u.2.1 2)).toInt ((u.2.1 3)).toInt ((u.2.1 4)).toInt ((u.2.1 5)).toInt) ∧ (CP ((u.2.1 0)).toInt ((u.2.1 4)).toInt ((u.2.1 1)).toInt (r_fault).toInt (rLv (TKS t_text (t_length).toInt.toNat) (rPt (TKS t_text (t_length).toInt.toNat) 1) 1 (t_place).toInt.toNat))) (fun u => [(r0, .inr (5, [.ref t0, .ref e0, .ref r1, .ref r2, .ref a0, .int r_habits, .int (u.2.1 1)])), (t0, .inr (8, [.ref t1, .int t_length, .int (u.2.1 2), .int (u.2.1 3), .int (u.2.1 4), .int (u.2.1 5)])), (t1, .inl (cyC, 1000, .inl t_text)), (e0, .inr (1, [.int (u.2.1 6), .int e_nests, .ref e1, .ref e2, .ref e3])), (e1, .inl (cyI, 1000, .inl (u.2.2.1 0)))]) := by
  refine KK.of (lv0 := [(0, .ref r0), (1, .int 3), (2, .int 4)]) (by decide) rfl (Nat.le_of_ble_eq_true rfl) ?_
  intro p e s m args below meth c A C hr hk hin
  refine j_iload_n (pc := 0) C dX5_readChain_0 rfl 1 rfl ?_
  refine j_iconst (pc := 1) (v := 4) C dX5_readChain_1 (by decide) ?_
  refine j_icmp_lt_t (pc := 2) (tgt := 11) C dX5_readChain_2 (by decide) (by decide) ?_
  refine j_aload_n (pc := 11) C dX5_readChain_11 rfl 0 rfl ?_
  refine j_iload_n (pc := 12) C dX5_readChain_12 rfl 1 rfl ?_
  refine j_iconst (pc := 13) (v := 1) C dX5_readChain_13 (by decide) ?_
  refine j_iadd (pc := 14) (v := 4) C dX5_readChain_14 (by decide) ?_
  refine j_iload_n (pc := 15) C dX5_readChain_15 rfl 2 rfl ?_
  refine j_callV (pc := 16) (As := [.int 4, .int 4]) (rest := []) (wr := []) C (c_X5_readChain_4_4 l D cyC cyI cyJ cyZ cyO r0 t0 t1 e0 e1 r1 r2 a0 e2 e3 r_habits r_fault t_length t_next t_kind t_place t_number e_size e_nests t_text e_steps (by omega) (by omega) (by omega) (by omega) (by omega) (by omega) h_t_text (by omega) hTH (by omega)) wd_340 wd_306 wd_341 wd_342 wd_343 ⟨by decide, by decide, rfl⟩ rfl ⟨rfl, rfl, by decide, by decide⟩ ⟨by decide, by decide⟩ [0, 1, 2, 3, 4] [] rfl rfl ⟨by decide, by decide, by decide⟩ 0 rfl rfl rfl (Nat.le_of_ble_eq_true rfl) dX5_readChain_16 (fun u_1 hw_2 => ?_)
  refine j_eq (ws2 := [(r0, .inr (5, [.ref t0, .ref e0, .ref r1, .ref r2, .ref a0, .int r_habits, .int (u_1.2.1 1)])), (t0, .inr (8, [.ref t1, .int t_length, .int (u_1.2.1 2), .int (u_1.2.1 3), .int (u_1.2.1 4), .int (u_1.2.1 5)])), (t1, .inl (cyC, 1000, .inl t_text)), (e0, .inr (1, [.int (u_1.2.1 6), .int e_nests, .ref e1, .ref e2, .ref e3])), (e1, .inl (cyI, 1000, .inl (u_1.2.2.1 0)))]) (pc2 := 19) (lv2 := [(0, .ref r0), (1, .int 3), (2, .int 4)]) (st2 := [.int (u_1.2.1 0)]) rfl rfl rfl rfl ?_
  obtain ⟨hw_2_0, hw_2_1, hw_2_2, hw_2_3, hw_2_4, hw_2_5, hw_2_6, hw_2_7, hw_2_8, hw_2_9, hw_2_10⟩ := hw_2
  refine j_istore_n (pc := 19) (lv' := [(3, .int (u_1.2.1 0)), (0, .ref r0), (1, .int 3), (2, .int 4)]) C dX5_readChain_19 rfl (by decide) rfl ?_
  refine j_iload_n (pc := 20) C dX5_readChain_20 rfl 2 rfl ?_
  refine j_iconst (pc := 21) (v := 1) C dX5_readChain_21 (by decide) ?_
  refine j_icmp_ne_t (pc := 22) (tgt := 29) C dX5_readChain_22 (by decide) (by decide) ?_
  refine j_sipush (pc := 29) (v := 1000) C dX5_readChain_29 (by decide) ?_
  refine j_istore (pc := 32) (lv' := [(4, .int 1000), (3, .int (u_1.2.1 0)), (0, .ref r0), (1, .int 3), (2, .int 4)]) C dX5_readChain_32 (by decide) rfl ?_
  refine j_iconst (pc := 34) (v := 0) C dX5_readChain_34 (by decide) ?_
  refine j_istore (pc := 35) (lv' := [(5, .int 0), (4, .int 1000), (3, .int (u_1.2.1 0)), (0, .ref r0), (1, .int 3), (2, .int 4)]) C dX5_readChain_35 (by decide) rfl ?_
  have loop_3 : ∀ (k_3 : Nat) (x3_5 : Int32) (x3_3 : Int32) (y3_r0_6 : Int32) (y3_t0_2 : Int32) (y3_t0_3 : Int32) (y3_t0_4 : Int32) (y3_t0_5 : Int32) (y3_e0_0 : Int32) (g3_e1 : Nat → Int32), (0 ≤ (x3_5).toInt ∧ (x3_5).toInt ≤ 1000) → (0 ≤ (x3_3).toInt ∧ (x3_3).toInt ≤ 1) → (0 ≤ (y3_t0_2).toInt ∧ (y3_t0_2).toInt ≤ 1000) → (0 ≤ (y3_t0_3).toInt ∧ (y3_t0_3).toInt ≤ 4) → (0 ≤ (y3_t0_4).toInt ∧ (y3_t0_4).toInt ≤ 1000) → (0 ≤ (y3_e0_0).toInt ∧ (y3_e0_0).toInt ≤ 1000) → ((¬ y3_t0_3.toInt = 3 ∨ y3_t0_4.toInt ≤ 999) ∧ (e_size).toInt ≤ y3_e0_0.toInt ∧ y3_e0_0.toInt + (t_place).toInt ≤ (e_size).toInt + y3_t0_4.toInt) → (TH t_text (t_length).toInt.toNat y3_t0_2.toInt y3_t0_3.toInt y3_t0_4.toInt y3_t0_5.toInt) → (CH (TKS t_text (t_length).toInt.toNat) (rLv (TKS t_text (t_length).toInt.toNat) (rPt (TKS t_text (t_length).toInt.toNat) 1) 0) (jnt (TKS t_text (t_length).toInt.toNat) 3) (1000 - x3_5.toInt).toNat x3_3.toInt y3_t0_4.toInt y3_r0_6.toInt (r_fault).toInt (rLv (TKS t_text (t_length).toInt.toNat) (rPt (TKS t_text (t_length).toInt.toNat) 1) 1 (t_place).toInt.toNat)) → (IM (x3_3.toInt = 1) (CHV (TKS t_text (t_length).toInt.toNat) e_steps g3_e1 (e_size).toInt.toNat (y3_e0_0.toInt).toNat 6 (rLv (TKS t_text (t_length).toInt.toNat) (rPt (TKS t_text (t_length).toInt.toNat) 1) 0) (vLv (TKS t_text (t_length).toInt.toNat) (rPt (TKS t_text (t_length).toInt.toNat) 1) (vPt (TKS t_text (t_length).toInt.toNat) 1) 0) (jnt (TKS t_text (t_length).toInt.toNat) 3) (jcd (TKS t_text (t_length).toInt.toNat) 3) (1000 - x3_5.toInt).toNat (y3_t0_4.toInt).toNat (vLv (TKS t_text (t_length).toInt.toNat) (rPt (TKS t_text (t_length).toInt.toNat) 1) (vPt (TKS t_text (t_length).toInt.toNat) 1) 1 (t_place).toInt.toNat))) → (1000 - x3_5.toInt).toNat < k_3 → J p l e ({ frames := 14, cells := 0, slots := 0, locals := 333 } : Room) s m args below meth c D A 7 0 0 (QX below D (TY cyC cyI cyJ cyZ cyO) A (fun u => some (.int (u.2.1 0))) (fun u => (0 ≤ (u.2.1 0).toInt ∧ (u.2.1 0).toInt ≤ 1) ∧ (0 ≤ (u.2.1 2).toInt ∧ (u.2.1 2).toInt ≤ 1000) ∧ (0 ≤ (u.2.1 3).toInt ∧ (u.2.1 3).toInt ≤ 4) ∧ (0 ≤ (u.2.1 4).toInt ∧ (u.2.1 4).toInt ≤ 1000) ∧ (0 ≤ (u.2.1 6).toInt ∧ (u.2.1 6).toInt ≤ 1000) ∧ (¬ ((u.2.1 3)).toInt = 3 ∨ ((u.2.1 4)).toInt ≤ 999) ∧ ((e_size).toInt ≤ ((u.2.1 6)).toInt) ∧ (((u.2.1 6)).toInt + (t_place).toInt ≤ (e_size).toInt + ((u.2.1 4)).toInt) ∧ (IM (((u.2.1 0)).toInt = 1) (CG e_steps (u.2.2.1 0) (e_size).toInt.toNat ((u.2.1 6)).toInt.toNat 6 (vLv (TKS t_text (t_length).toInt.toNat) (rPt (TKS t_text (t_length).toInt.toNat) 1) (vPt (TKS t_text (t_length).toInt.toNat) 1) 1 (t_place).toInt.toNat))) ∧ (TH t_text (t_length).toInt.toNat ((u.2.1 2)).toInt ((u.2.1 3)).toInt ((u.2.1 4)).toInt ((u.2.1 5)).toInt) ∧ (CP ((u.2.1 0)).toInt ((u.2.1 4)).toInt ((u.2.1 1)).toInt (r_fault).toInt (rLv (TKS t_text (t_length).toInt.toNat) (rPt (TKS t_text (t_length).toInt.toNat) 1) 1 (t_place).toInt.toNat))) (fun u => [(r0, .inr (5, [.ref t0, .ref e0, .ref r1, .ref r2, .ref a0, .int r_habits, .int (u.2.1 1)])), (t0, .inr (8, [.ref t1, .int t_length, .int (u.2.1 2), .int (u.2.1 3), .int (u.2.1 4), .int (u.2.1 5)])), (t1, .inl (cyC, 1000, .inl t_text)), (e0, .inr (1, [.int (u.2.1 6), .int e_nests, .ref e1, .ref e2, .ref e3])), (e1, .inl (cyI, 1000, .inl (u.2.2.1 0)))]) args s 0 0) [(r0, .inr (5, [.ref t0, .ref e0, .ref r1, .ref r2, .ref a0, .int r_habits, .int y3_r0_6])), (t0, .inr (8, [.ref t1, .int t_length, .int y3_t0_2, .int y3_t0_3, .int y3_t0_4, .int y3_t0_5])), (t1, .inl (cyC, 1000, .inl t_text)), (e0, .inr (1, [.int y3_e0_0, .int e_nests, .ref e1, .ref e2, .ref e3])), (e1, .inl (cyI, 1000, .inl g3_e1))] 37 [(5, .int x3_5), (4, .int 1000), (3, .int x3_3), (0, .ref r0), (1, .int 3), (2, .int 4)] [] := by
    intro k_3
    induction k_3 with
    | zero =>
      intro x3_5 x3_3 y3_r0_6 y3_t0_2 y3_t0_3 y3_t0_4 y3_t0_5 y3_e0_0 g3_e1 hi_3_0 hi_3_1 hi_3_3 hi_3_4 hi_3_5 hi_3_7 hr_3 hq_3_0 hq_3_1 hq_3_2 hm_3
      exact absurd hm_3 (Nat.not_lt_zero _)
    | succ k_3 ih_3 =>
      intro x3_5 x3_3 y3_r0_6 y3_t0_2 y3_t0_3 y3_t0_4 y3_t0_5 y3_e0_0 g3_e1 hi_3_0 hi_3_1 hi_3_3 hi_3_4 hi_3_5 hi_3_7 hr_3 hq_3_0 hq_3_1 hq_3_2 hm_3
      refine j_iload (pc := 37) C dX5_readChain_37 0 rfl ?_
      refine j_iload (pc := 39) C dX5_readChain_39 1 rfl ?_
      refine j_icmp_ge (pc := 41) (tgt := 95) C dX5_readChain_41 (by decide) (fun c_4 => ?_) (fun c_4 => ?_)
      · skip
        have el_1000 : (1000 : Int32).toInt = 1000 := rfl
        rw [i_le] at c_4
        have k0c_4 : x3_5.toInt = 1000 := by omega
        refine j_iload_n (pc := 95) C dX5_readChain_95 rfl 2 rfl ?_
        exact j_zret (pc := 96) C hr (nb_01 ⟨by omega, by omega⟩).1 hk (fun i => [].getD i 0, fun i => [x3_3, y3_r0_6, y3_t0_2, y3_t0_3, y3_t0_4, y3_t0_5, y3_e0_0].getD i 0, fun i => [g3_e1].getD i (fun _ => 0), fun i => [].getD i (fun _ => 0)) rfl (show (0 ≤ (x3_3).toInt ∧ (x3_3).toInt ≤ 1) ∧ (0 ≤ (y3_t0_2).toInt ∧ (y3_t0_2).toInt ≤ 1000) ∧ (0 ≤ (y3_t0_3).toInt ∧ (y3_t0_3).toInt ≤ 4) ∧ (0 ≤ (y3_t0_4).toInt ∧ (y3_t0_4).toInt ≤ 1000) ∧ (0 ≤ (y3_e0_0).toInt ∧ (y3_e0_0).toInt ≤ 1000) ∧ (¬ (y3_t0_3).toInt = 3 ∨ (y3_t0_4).toInt ≤ 999) ∧ ((e_size).toInt ≤ (y3_e0_0).toInt) ∧ ((y3_e0_0).toInt + (t_place).toInt ≤ (e_size).toInt + (y3_t0_4).toInt) ∧ (IM ((x3_3).toInt = 1) (CG e_steps g3_e1 (e_size).toInt.toNat (y3_e0_0).toInt.toNat 6 (vLv (TKS t_text (t_length).toInt.toNat) (rPt (TKS t_text (t_length).toInt.toNat) 1) (vPt (TKS t_text (t_length).toInt.toNat) 1) 1 (t_place).toInt.toNat))) ∧ (TH t_text (t_length).toInt.toNat (y3_t0_2).toInt (y3_t0_3).toInt (y3_t0_4).toInt (y3_t0_5).toInt) ∧ (CP (x3_3).toInt (y3_t0_4).toInt (y3_r0_6).toInt (r_fault).toInt (rLv (TKS t_text (t_length).toInt.toNat) (rPt (TKS t_text (t_length).toInt.toNat) 1) 1 (t_place).toInt.toNat)) from ⟨by omega, by omega, by omega, by omega, by omega, by omega, by omega, by omega, (fun z => CHV.stop (hq_3_2 (by omega)) (Or.inl (by omega))), hq_3_0, (CH.stop hq_3_1 (fun z => Or.inl (by omega)))⟩) [0, 1, 2, 3, 4] (by decide) rfl (by decide) (by decide) dX5_readChain_96
      · skip
        have el_1000 : (1000 : Int32).toInt = 1000 := rfl
        rw [i_le] at c_4
        refine j_iload_n (pc := 44) C dX5_readChain_44 rfl 2 rfl ?_
        refine j_if_eq (pc := 45) (tgt := 95) C dX5_readChain_45 (by decide) (fun c_5 => ?_) (fun c_5 => ?_)
        · skip
          have el_0 : (0 : Int32).toInt = 0 := rfl
          rw [i_eq] at c_5
          refine j_iload_n (pc := 95) C dX5_readChain_95 rfl 2 rfl ?_
          exact j_zret (pc := 96) C hr (nb_01 ⟨by omega, by omega⟩).1 hk (fun i => [].getD i 0, fun i => [x3_3, y3_r0_6, y3_t0_2, y3_t0_3, y3_t0_4, y3_t0_5, y3_e0_0].getD i 0, fun i => [g3_e1].getD i (fun _ => 0), fun i => [].getD i (fun _ => 0)) rfl (show (0 ≤ (x3_3).toInt ∧ (x3_3).toInt ≤ 1) ∧ (0 ≤ (y3_t0_2).toInt ∧ (y3_t0_2).toInt ≤ 1000) ∧ (0 ≤ (y3_t0_3).toInt ∧ (y3_t0_3).toInt ≤ 4) ∧ (0 ≤ (y3_t0_4).toInt ∧ (y3_t0_4).toInt ≤ 1000) ∧ (0 ≤ (y3_e0_0).toInt ∧ (y3_e0_0).toInt ≤ 1000) ∧ (¬ (y3_t0_3).toInt = 3 ∨ (y3_t0_4).toInt ≤ 999) ∧ ((e_size).toInt ≤ (y3_e0_0).toInt) ∧ ((y3_e0_0).toInt + (t_place).toInt ≤ (e_size).toInt + (y3_t0_4).toInt) ∧ (IM ((x3_3).toInt = 1) (CG e_steps g3_e1 (e_size).toInt.toNat (y3_e0_0).toInt.toNat 6 (vLv (TKS t_text (t_length).toInt.toNat) (rPt (TKS t_text (t_length).toInt.toNat) 1) (vPt (TKS t_text (t_length).toInt.toNat) 1) 1 (t_place).toInt.toNat))) ∧ (TH t_text (t_length).toInt.toNat (y3_t0_2).toInt (y3_t0_3).toInt (y3_t0_4).toInt (y3_t0_5).toInt) ∧ (CP (x3_3).toInt (y3_t0_4).toInt (y3_r0_6).toInt (r_fault).toInt (rLv (TKS t_text (t_length).toInt.toNat) (rPt (TKS t_text (t_length).toInt.toNat) 1) 1 (t_place).toInt.toNat)) from ⟨by omega, by omega, by omega, by omega, by omega, by omega, by omega, by omega, (fun z => absurd z (by omega)), hq_3_0, (CH.stop hq_3_1 (fun z => absurd z (by omega)))⟩) [0, 1, 2, 3, 4] (by decide) rfl (by decide) (by decide) dX5_readChain_96
        · skip
          have el_0 : (0 : Int32).toInt = 0 := rfl
          rw [i_eq] at c_5
          have k0c_5 : x3_3.toInt = 1 := by omega
          refine j_aload_n (pc := 48) C dX5_readChain_48 rfl 3 rfl ?_
          refine j_iload_n (pc := 49) C dX5_readChain_49 rfl 4 rfl ?_
          refine j_callV (pc := 50) (As := [.int 3]) (rest := []) (wr := [(e0, .inr (1, [.int y3_e0_0, .int e_nests, .ref e1, .ref e2, .ref e3])), (e1, .inl (cyI, 1000, .inl g3_e1))]) C (c_X5_joint_3 l D cyC cyI cyJ cyZ cyO r0 t0 t1 e0 r1 r2 a0 r_habits y3_r0_6 t_length y3_t0_2 y3_t0_3 y3_t0_4 y3_t0_5 t_text (by omega) (by omega) (by omega) (by omega) h_t_text (by omega) hq_3_0) wd_349 wd_306 wd_350 wd_351 wd_352 ⟨by decide, by decide, rfl⟩ rfl ⟨rfl, rfl, by decide, by decide⟩ ⟨by decide, by decide⟩ [0, 1, 2] [3, 4] rfl rfl ⟨by decide, by decide, by decide⟩ 0 rfl rfl rfl (Nat.le_of_ble_eq_true rfl) dX5_readChain_50 (fun u_6 hw_7 => ?_)
          refine j_eq (ws2 := [(e0, .inr (1, [.int y3_e0_0, .int e_nests, .ref e1, .ref e2, .ref e3])), (e1, .inl (cyI, 1000, .inl g3_e1)), (r0, .inr (5, [.ref t0, .ref e0, .ref r1, .ref r2, .ref a0, .int r_habits, .int y3_r0_6])), (t0, .inr (8, [.ref t1, .int t_length, .int y3_t0_2, .int y3_t0_3, .int y3_t0_4, .int y3_t0_5])), (t1, .inl (cyC, 1000, .inl t_text))]) (pc2 := 53) (lv2 := [(5, .int x3_5), (4, .int 1000), (3, .int x3_3), (0, .ref r0), (1, .int 3), (2, .int 4)]) (st2 := [.int (u_6.2.1 0)]) rfl rfl rfl rfl ?_
          obtain ⟨hw_7_0, hw_7_1, hw_7_2⟩ := hw_7
          refine j_istore (pc := 53) (lv' := [(6, .int (u_6.2.1 0)), (5, .int x3_5), (4, .int 1000), (3, .int x3_3), (0, .ref r0), (1, .int 3), (2, .int 4)]) C dX5_readChain_53 (by decide) rfl ?_
          refine j_iload (pc := 55) C dX5_readChain_55 0 rfl ?_
          refine j_bipush (pc := 57) (v := (-100)) C dX5_readChain_57 (by decide) ?_
          refine j_icmp_ne (pc := 59) (tgt := 64) C dX5_readChain_59 (by decide) (fun c_8 => ?_) (fun c_8 => ?_)
          · skip
            have el_m100 : ((-100) : Int32).toInt = (-100) := rfl
            rw [i_eq] at c_8
            refine j_aload_n (pc := 64) C dX5_readChain_64 rfl 4 rfl ?_
            refine j_get (pc := 65) (ci := 5) (v := .ref t0) C inw_5 2 rfl rfl 0 (by decide) wd_296 rfl rfl dX5_readChain_65 ?_
            refine j_callV (pc := 68) (As := []) (rest := []) (wr := [(e0, .inr (1, [.int y3_e0_0, .int e_nests, .ref e1, .ref e2, .ref e3])), (e1, .inl (cyI, 1000, .inl g3_e1)), (r0, .inr (5, [.ref t0, .ref e0, .ref r1, .ref r2, .ref a0, .int r_habits, .int y3_r0_6]))]) C (c_X8_advance_f l D cyC cyI cyJ cyZ cyO t0 t1 t_length y3_t0_2 y3_t0_3 y3_t0_4 y3_t0_5 t_text (by omega) (by omega) (by omega) (by omega) h_t_text) wd_277 wd_258 wd_304 wd_279 wd_280 ⟨by decide, by decide, rfl⟩ rfl ⟨rfl, rfl, by decide, by decide⟩ ⟨by decide, by decide⟩ [3, 4] [0, 1, 2] rfl rfl ⟨by decide, by decide, by decide⟩ 3 rfl rfl rfl (Nat.le_of_ble_eq_true rfl) dX5_readChain_68 (fun u_9 hw_10 => ?_)
            refine j_eq (ws2 := [(e0, .inr (1, [.int y3_e0_0, .int e_nests, .ref e1, .ref e2, .ref e3])), (e1, .inl (cyI, 1000, .inl g3_e1)), (r0, .inr (5, [.ref t0, .ref e0, .ref r1, .ref r2, .ref a0, .int r_habits, .int y3_r0_6])), (t0, .inr (8, [.ref t1, .int t_length, .int (u_9.2.1 0), .int (u_9.2.1 1), .int (u_9.2.1 2), .int (u_9.2.1 3)])), (t1, .inl (cyC, 1000, .inl t_text))]) (pc2 := 71) (lv2 := [(6, .int (u_6.2.1 0)), (5, .int x3_5), (4, .int 1000), (3, .int x3_3), (0, .ref r0), (1, .int 3), (2, .int 4)]) (st2 := []) rfl rfl rfl rfl ?_
            obtain ⟨hw_10_0, hw_10_1, hw_10_2, hw_10_3, hw_10_4, hw_10_5⟩ := hw_10
            have ha_u_9 := (hw_10_5).trans (TH.adv hq_3_0)
            have hj9 : jnt (TKS t_text (t_length).toInt.toNat) 3 (y3_t0_4).toInt.toNat = true := by rcases hw_7_2 with z | z; (exfalso; omega); exact z.2
            have hg9 := jnt_gt (PT_TKS (f := t_text) (n := (t_length).toInt.toNat) (by omega)) hj9
            have hga9 := ha_u_9
            refine j_aload_n (pc := 71) C dX5_readChain_71 rfl 4 rfl ?_
            refine j_iload_n (pc := 72) C dX5_readChain_72 rfl 5 rfl ?_
            refine j_iconst (pc := 73) (v := 1) C dX5_readChain_73 (by decide) ?_
            refine j_iadd (pc := 74) (v := 4) C dX5_readChain_74 (by decide) ?_
            refine j_iload_n (pc := 75) C dX5_readChain_75 rfl 6 rfl ?_
            refine j_callV (pc := 76) (As := [.int 4, .int 4]) (rest := []) (wr := []) C (c_X5_readChain_4_4 l D cyC cyI cyJ cyZ cyO r0 t0 t1 e0 e1 r1 r2 a0 e2 e3 r_habits y3_r0_6 t_length (u_9.2.1 0) (u_9.2.1 1) (u_9.2.1 2) (u_9.2.1 3) y3_e0_0 e_nests t_text g3_e1 (by omega) (by omega) (by omega) (by omega) (by omega) (by omega) h_t_text (by omega) hw_10_4 (by omega)) wd_340 wd_306 wd_341 wd_342 wd_343 ⟨by decide, by decide, rfl⟩ rfl ⟨rfl, rfl, by decide, by decide⟩ ⟨by decide, by decide⟩ [2, 3, 4, 0, 1] [] rfl rfl ⟨by decide, by decide, by decide⟩ 2 rfl rfl rfl (Nat.le_of_ble_eq_true rfl) dX5_readChain_76 (fun u_11 hw_12 => ?_)
            refine j_eq (ws2 := [(r0, .inr (5, [.ref t0, .ref e0, .ref r1, .ref r2, .ref a0, .int r_habits, .int (u_11.2.1 1)])), (t0, .inr (8, [.ref t1, .int t_length, .int (u_11.2.1 2), .int (u_11.2.1 3), .int (u_11.2.1 4), .int (u_11.2.1 5)])), (t1, .inl (cyC, 1000, .inl t_text)), (e0, .inr (1, [.int (u_11.2.1 6), .int e_nests, .ref e1, .ref e2, .ref e3])), (e1, .inl (cyI, 1000, .inl (u_11.2.2.1 0)))]) (pc2 := 79) (lv2 := [(6, .int (u_6.2.1 0)), (5, .int x3_5), (4, .int 1000), (3, .int x3_3), (0, .ref r0), (1, .int 3), (2, .int 4)]) (st2 := [.int (u_11.2.1 0)]) rfl rfl rfl rfl ?_
            obtain ⟨hw_12_0, hw_12_1, hw_12_2, hw_12_3, hw_12_4, hw_12_5, hw_12_6, hw_12_7, hw_12_8, hw_12_9, hw_12_10⟩ := hw_12
            refine j_istore_n (pc := 79) (lv' := [(3, .int (u_11.2.1 0)), (6, .int (u_6.2.1 0)), (5, .int x3_5), (4, .int 1000), (0, .ref r0), (1, .int 3), (2, .int 4)]) C dX5_readChain_79 rfl (by decide) rfl ?_
            refine j_aload_n (pc := 80) C dX5_readChain_80 rfl 4 rfl ?_
            refine j_get (pc := 81) (ci := 5) (v := .ref e0) C inw_5 0 rfl rfl 1 (by decide) wd_344 rfl rfl dX5_readChain_81 ?_
            refine j_iload (pc := 84) C dX5_readChain_84 1 rfl ?_
            refine j_callV (pc := 86) (As := [.int (u_6.2.1 0)]) (rest := []) (wr := [(r0, .inr (5, [.ref t0, .ref e0, .ref r1, .ref r2, .ref a0, .int r_habits, .int (u_11.2.1 1)])), (t0, .inr (8, [.ref t1, .int t_length, .int (u_11.2.1 2), .int (u_11.2.1 3), .int (u_11.2.1 4), .int (u_11.2.1 5)])), (t1, .inl (cyC, 1000, .inl t_text))]) C (c_X1_add l D cyC cyI cyJ cyZ cyO e0 e1 e2 e3 (u_6.2.1 0) (u_11.2.1 6) e_nests (u_11.2.2.1 0) (by omega) (by omega)) wd_345 wd_200 wd_346 wd_347 wd_348 ⟨by decide, by decide, rfl⟩ rfl ⟨rfl, rfl, by decide, by decide⟩ ⟨by decide, by decide⟩ [3, 4] [0, 1, 2] rfl rfl ⟨by decide, by decide, by decide⟩ 3 rfl rfl rfl (Nat.le_of_ble_eq_true rfl) dX5_readChain_86 (fun u_13 hw_14 => ?_)
            refine j_eq (ws2 := [(r0, .inr (5, [.ref t0, .ref e0, .ref r1, .ref r2, .ref a0, .int r_habits, .int (u_11.2.1 1)])), (t0, .inr (8, [.ref t1, .int t_length, .int (u_11.2.1 2), .int (u_11.2.1 3), .int (u_11.2.1 4), .int (u_11.2.1 5)])), (t1, .inl (cyC, 1000, .inl t_text)), (e0, .inr (1, [.int (u_13.2.1 0), .int e_nests, .ref e1, .ref e2, .ref e3])), (e1, .inl (cyI, 1000, .inl (u_13.2.2.1 0)))]) (pc2 := 89) (lv2 := [(3, .int (u_11.2.1 0)), (6, .int (u_6.2.1 0)), (5, .int x3_5), (4, .int 1000), (0, .ref r0), (1, .int 3), (2, .int 4)]) (st2 := []) rfl rfl rfl rfl ?_
            obtain ⟨hw_14_0, hw_14_1, hw_14_2, hw_14_3, hw_14_4⟩ := hw_14
            obtain ⟨v_15, ev_15⟩ : ∃ z : Int32, x3_5 + 1 = z := ⟨_, rfl⟩
            have el_1 : (1 : Int32).toInt = 1 := rfl
            have hv_15 : v_15.toInt = x3_5.toInt + (1 : Int32).toInt := by rw [← ev_15]; exact fb_addI (by omega) (by omega)
            refine j_iinc (pc := 89) (v := v_15) (lv' := [(5, .int v_15), (3, .int (u_11.2.1 0)), (6, .int (u_6.2.1 0)), (4, .int 1000), (0, .ref r0), (1, .int 3), (2, .int 4)]) C dX5_readChain_89 2 rfl ev_15 (by decide) rfl ?_
            refine j_goto (pc := 92) (tgt := 37) C dX5_readChain_92 (by decide) ?_
            exact j_lv [0, 3, 1, 4, 5, 6] rfl (ih_3 v_15 (u_11.2.1 0) (u_11.2.1 1) (u_11.2.1 2) (u_11.2.1 3) (u_11.2.1 4) (u_11.2.1 5) (u_13.2.1 0) (u_13.2.2.1 0) (by omega) (by omega) (by omega) (by omega) (by omega) (by omega) (by omega) hw_12_9 (CH.step (k := (1000 - (v_15).toInt).toNat) (by rw [show (1000 - (v_15).toInt).toNat + 1 = (1000 - (x3_5).toInt).toNat from (by omega)]; exact hq_3_1) (by omega) (by rcases hw_7_2 with z | z; omega; exact z.2) ha_u_9 hw_12_10) (fun z => CHV.step (k := (1000 - (v_15).toInt).toNat) (by rw [show (1000 - (v_15).toInt).toNat + 1 = (1000 - (x3_5).toInt).toNat from (by omega)]; exact hq_3_2 (by omega)) hj9 hga9 ((hw_12_10).1 (by omega)).1 (hw_12_8 (by omega)) (hw_14_4 (by omega)) (hw_7_1 hj9) (jcd_lt _ _ _) (by have y9 := hw_14_3 (by omega); omega)) (by omega))
          · skip
            have el_m100 : ((-100) : Int32).toInt = (-100) := rfl
            rw [i_eq] at c_8
            refine j_iconst (pc := 62) (v := 1) C dX5_readChain_62 (by decide) ?_
            have el_1 : (1 : Int32).toInt = 1 := rfl
            have el_1 : (1 : Int32).toInt = 1 := rfl
            have el_1 : (1 : Int32).toInt = 1 := rfl
            have el_1 : (1 : Int32).toInt = 1 := rfl
            have el_1 : (1 : Int32).toInt = 1 := rfl
            have el_1 : (1 : Int32).toInt = 1 := rfl
            have el_1 : (1 : Int32).toInt = 1 := rfl
            exact j_zret (pc := 63) C hr rfl hk (fun i => [].getD i 0, fun i => [1, y3_r0_6, y3_t0_2, y3_t0_3, y3_t0_4, y3_t0_5, y3_e0_0].getD i 0, fun i => [g3_e1].getD i (fun _ => 0), fun i => [].getD i (fun _ => 0)) rfl (show (0 ≤ ((1 : Int32)).toInt ∧ ((1 : Int32)).toInt ≤ 1) ∧ (0 ≤ (y3_t0_2).toInt ∧ (y3_t0_2).toInt ≤ 1000) ∧ (0 ≤ (y3_t0_3).toInt ∧ (y3_t0_3).toInt ≤ 4) ∧ (0 ≤ (y3_t0_4).toInt ∧ (y3_t0_4).toInt ≤ 1000) ∧ (0 ≤ (y3_e0_0).toInt ∧ (y3_e0_0).toInt ≤ 1000) ∧ (¬ (y3_t0_3).toInt = 3 ∨ (y3_t0_4).toInt ≤ 999) ∧ ((e_size).toInt ≤ (y3_e0_0).toInt) ∧ ((y3_e0_0).toInt + (t_place).toInt ≤ (e_size).toInt + (y3_t0_4).toInt) ∧ (IM (((1 : Int32)).toInt = 1) (CG e_steps g3_e1 (e_size).toInt.toNat (y3_e0_0).toInt.toNat 6 (vLv (TKS t_text (t_length).toInt.toNat) (rPt (TKS t_text (t_length).toInt.toNat) 1) (vPt (TKS t_text (t_length).toInt.toNat) 1) 1 (t_place).toInt.toNat))) ∧ (TH t_text (t_length).toInt.toNat (y3_t0_2).toInt (y3_t0_3).toInt (y3_t0_4).toInt (y3_t0_5).toInt) ∧ (CP ((1 : Int32)).toInt (y3_t0_4).toInt (y3_r0_6).toInt (r_fault).toInt (rLv (TKS t_text (t_length).toInt.toNat) (rPt (TKS t_text (t_length).toInt.toNat) 1) 1 (t_place).toInt.toNat)) from ⟨by omega, by omega, by omega, by omega, by omega, by omega, by omega, by omega, (fun z => CHV.stop (hq_3_2 (by omega)) (Or.inr (by rcases hw_7_2 with z | z; (rw [z.2]; decide); omega))), hq_3_0, (CP.ok (by omega) ((CH.stop hq_3_1 (fun _ => Or.inr (by rcases hw_7_2 with z | z; (rw [z.2]; decide); omega))).1 (by omega)).2 ((CH.stop hq_3_1 (fun _ => Or.inr (by rcases hw_7_2 with z | z; (rw [z.2]; decide); omega))).1 (by omega)).1)⟩) [2, 3, 4, 0, 1] (by decide) rfl (by decide) (by decide) dX5_readChain_63
  have el_0 : (0 : Int32).toInt = 0 := rfl
  exact j_lv [0, 1, 2, 3, 4, 5] rfl (loop_3 4096 0 (u_1.2.1 0) (u_1.2.1 1) (u_1.2.1 2) (u_1.2.1 3) (u_1.2.1 4) (u_1.2.1 5) (u_1.2.1 6) (u_1.2.2.1 0) (by decide) (by omega) (by omega) (by omega) (by omega) (by omega) (by omega) hw_2_9 (by rw [rLv1, show (1000 - (0 : Int32).toInt).toNat = 1000 from by decide]; exact CH.start hw_2_10) (fun z => by rw [show (1000 - (0 : Int32).toInt).toNat = 1000 from by decide]; exact CHV.start (hw_2_8 (by omega)) ((hw_2_10).1 (by omega)).1) (by omega))
set_option maxHeartbeats 4000000 in
set_option maxRecDepth 100000 in
theorem c_X5_readChain_2_4 (l : Launch) (D : DG) (cyC cyI cyJ cyZ cyO : ClassId) (r0 : Nat) (t0 : Nat) (t1 : Nat) (e0 : Nat) (e1 : Nat) (r1 : Nat) (r2 : Nat) (a0 : Nat) (e2 : Nat) (e3 : Nat) (r_habits : Int32) (r_fault : Int32) (t_length : Int32) (t_next : Int32) (t_kind : Int32) (t_place : Int32) (t_number : Int32) (e_size : Int32) (e_nests : Int32) (t_text : Nat → Int32) (e_steps : Nat → Int32) (h_t_length : 0 ≤ (t_length).toInt ∧ (t_length).toInt ≤ 1000) (h_t_next : 0 ≤ (t_next).toInt ∧ (t_next).toInt ≤ 1000) (h_t_kind : 0 ≤ (t_kind).toInt ∧ (t_kind).toInt ≤ 4) (h_t_place : 0 ≤ (t_place).toInt ∧ (t_place).toInt ≤ 1000) (h_e_size : 0 ≤ (e_size).toInt ∧ (e_size).toInt ≤ 1000) (h_e_nests : 0 ≤ (e_nests).toInt ∧ (e_nests).toInt ≤ 4) (h_t_text : Iv 1000 (0) (126) t_text) (ht3 : ¬ (t_kind).toInt = 3 ∨ (t_place).toInt ≤ 999) (hTH : TH t_text (t_length).toInt.toNat (t_next).toInt (t_kind).toInt (t_place).toInt (t_number).toInt) (hsz6 : (e_size).toInt ≤ (t_place).toInt) : KK l D (TY cyC cyI cyJ cyZ cyO) yX5_readChain cX5_readChain 7 (some .boolean) ({ frames := 15, cells := 0, slots := 0, locals := 359 } : Room) 0 0 [.ref r0, .int 2, .int 4] [(r0, .inr (5, [.ref t0, .ref e0, .ref r1, .ref r2, .ref a0, .int r_habits, .int r_fault])), (t0, .inr (8, [.ref t1, .int t_length, .int t_next, .int t_kind, .int t_place, .int t_number])), (t1, .inl (cyC, 1000, .inl t_text)), (e0, .inr (1, [.int e_size, .int e_nests, .ref e1, .ref e2, .ref e3])), (e1, .inl (cyI, 1000, .inl e_steps))] (fun u => some (.int (u.2.1 0))) (fun u => (0 ≤ (u.2.1 0).toInt ∧ (u.2.1 0).toInt ≤ 1) ∧ (0 ≤ (u.2.1 2).toInt ∧ (u.2.1 2).toInt ≤ 1000) ∧ (0 ≤ (u.2.1 3).toInt ∧ (u.2.1 3).toInt ≤ 4) ∧ (0 ≤ (u.2.1 4).toInt ∧ (u.2.1 4).toInt ≤ 1000) ∧ (0 ≤ (u.2.1 6).toInt ∧ (u.2.1 6).toInt ≤ 1000) ∧ (¬ ((u.2.1 3)).toInt = 3 ∨ ((u.2.1 4)).toInt ≤ 999) ∧ ((e_size).toInt ≤ ((u.2.1 6)).toInt) ∧ (((u.2.1 6)).toInt + (t_place).toInt ≤ (e_size).toInt + ((u.2.1 4)).toInt) ∧ (IM (((u.2.1 0)).toInt = 1) (CG e_steps (u.2.2.1 0) (e_size).toInt.toNat ((u.2.1 6)).toInt.toNat 7 (vLv (TKS t_text (t_length).toInt.toNat) (rPt (TKS t_text (t_length).toInt.toNat) 1) (vPt (TKS t_text (t_length).toInt.toNat) 1) 2 (t_place).toInt.toNat))) ∧ (TH t_text (t_length).toInt.toNat ((u.2.1 2)).toInt ((u.2.1 3)).toInt ((u.2.1 4)).toInt ((u.2.1 5)).toInt) ∧ (CP ((u.2.1 0)).toInt ((u.2.1 4)).toInt ((u.2.1 1)).toInt (r_fault).toInt (rLv (TKS t_text (t_length).toInt.toNat) (rPt (TKS t_text (t_length).toInt.toNat) 1) 2 (t_place).toInt.toNat))) (fun u => [(r0, .inr (5, [.ref t0, .ref e0, .ref r1, .ref r2, .ref a0, .int r_habits, .int (u.2.1 1)])), (t0, .inr (8, [.ref t1, .int t_length, .int (u.2.1 2), .int (u.2.1 3), .int (u.2.1 4), .int (u.2.1 5)])), (t1, .inl (cyC, 1000, .inl t_text)), (e0, .inr (1, [.int (u.2.1 6), .int e_nests, .ref e1, .ref e2, .ref e3])), (e1, .inl (cyI, 1000, .inl (u.2.2.1 0)))]) := by
  refine KK.of (lv0 := [(0, .ref r0), (1, .int 2), (2, .int 4)]) (by decide) rfl (Nat.le_of_ble_eq_true rfl) ?_
  intro p e s m args below meth c A C hr hk hin
  refine j_iload_n (pc := 0) C dX5_readChain_0 rfl 1 rfl ?_
  refine j_iconst (pc := 1) (v := 4) C dX5_readChain_1 (by decide) ?_
  refine j_icmp_lt_t (pc := 2) (tgt := 11) C dX5_readChain_2 (by decide) (by decide) ?_
  refine j_aload_n (pc := 11) C dX5_readChain_11 rfl 0 rfl ?_
  refine j_iload_n (pc := 12) C dX5_readChain_12 rfl 1 rfl ?_
  refine j_iconst (pc := 13) (v := 1) C dX5_readChain_13 (by decide) ?_
  refine j_iadd (pc := 14) (v := 3) C dX5_readChain_14 (by decide) ?_
  refine j_iload_n (pc := 15) C dX5_readChain_15 rfl 2 rfl ?_
  refine j_callV (pc := 16) (As := [.int 3, .int 4]) (rest := []) (wr := []) C (c_X5_readChain_3_4 l D cyC cyI cyJ cyZ cyO r0 t0 t1 e0 e1 r1 r2 a0 e2 e3 r_habits r_fault t_length t_next t_kind t_place t_number e_size e_nests t_text e_steps (by omega) (by omega) (by omega) (by omega) (by omega) (by omega) h_t_text (by omega) hTH (by omega)) wd_340 wd_306 wd_341 wd_342 wd_343 ⟨by decide, by decide, rfl⟩ rfl ⟨rfl, rfl, by decide, by decide⟩ ⟨by decide, by decide⟩ [0, 1, 2, 3, 4] [] rfl rfl ⟨by decide, by decide, by decide⟩ 0 rfl rfl rfl (Nat.le_of_ble_eq_true rfl) dX5_readChain_16 (fun u_1 hw_2 => ?_)
  refine j_eq (ws2 := [(r0, .inr (5, [.ref t0, .ref e0, .ref r1, .ref r2, .ref a0, .int r_habits, .int (u_1.2.1 1)])), (t0, .inr (8, [.ref t1, .int t_length, .int (u_1.2.1 2), .int (u_1.2.1 3), .int (u_1.2.1 4), .int (u_1.2.1 5)])), (t1, .inl (cyC, 1000, .inl t_text)), (e0, .inr (1, [.int (u_1.2.1 6), .int e_nests, .ref e1, .ref e2, .ref e3])), (e1, .inl (cyI, 1000, .inl (u_1.2.2.1 0)))]) (pc2 := 19) (lv2 := [(0, .ref r0), (1, .int 2), (2, .int 4)]) (st2 := [.int (u_1.2.1 0)]) rfl rfl rfl rfl ?_
  obtain ⟨hw_2_0, hw_2_1, hw_2_2, hw_2_3, hw_2_4, hw_2_5, hw_2_6, hw_2_7, hw_2_8, hw_2_9, hw_2_10⟩ := hw_2
  refine j_istore_n (pc := 19) (lv' := [(3, .int (u_1.2.1 0)), (0, .ref r0), (1, .int 2), (2, .int 4)]) C dX5_readChain_19 rfl (by decide) rfl ?_
  refine j_iload_n (pc := 20) C dX5_readChain_20 rfl 2 rfl ?_
  refine j_iconst (pc := 21) (v := 1) C dX5_readChain_21 (by decide) ?_
  refine j_icmp_ne_t (pc := 22) (tgt := 29) C dX5_readChain_22 (by decide) (by decide) ?_
  refine j_sipush (pc := 29) (v := 1000) C dX5_readChain_29 (by decide) ?_
  refine j_istore (pc := 32) (lv' := [(4, .int 1000), (3, .int (u_1.2.1 0)), (0, .ref r0), (1, .int 2), (2, .int 4)]) C dX5_readChain_32 (by decide) rfl ?_
  refine j_iconst (pc := 34) (v := 0) C dX5_readChain_34 (by decide) ?_
  refine j_istore (pc := 35) (lv' := [(5, .int 0), (4, .int 1000), (3, .int (u_1.2.1 0)), (0, .ref r0), (1, .int 2), (2, .int 4)]) C dX5_readChain_35 (by decide) rfl ?_
  have loop_3 : ∀ (k_3 : Nat) (x3_5 : Int32) (x3_3 : Int32) (y3_r0_6 : Int32) (y3_t0_2 : Int32) (y3_t0_3 : Int32) (y3_t0_4 : Int32) (y3_t0_5 : Int32) (y3_e0_0 : Int32) (g3_e1 : Nat → Int32), (0 ≤ (x3_5).toInt ∧ (x3_5).toInt ≤ 1000) → (0 ≤ (x3_3).toInt ∧ (x3_3).toInt ≤ 1) → (0 ≤ (y3_t0_2).toInt ∧ (y3_t0_2).toInt ≤ 1000) → (0 ≤ (y3_t0_3).toInt ∧ (y3_t0_3).toInt ≤ 4) → (0 ≤ (y3_t0_4).toInt ∧ (y3_t0_4).toInt ≤ 1000) → (0 ≤ (y3_e0_0).toInt ∧ (y3_e0_0).toInt ≤ 1000) → ((¬ y3_t0_3.toInt = 3 ∨ y3_t0_4.toInt ≤ 999) ∧ (e_size).toInt ≤ y3_e0_0.toInt ∧ y3_e0_0.toInt + (t_place).toInt ≤ (e_size).toInt + y3_t0_4.toInt) → (TH t_text (t_length).toInt.toNat y3_t0_2.toInt y3_t0_3.toInt y3_t0_4.toInt y3_t0_5.toInt) → (CH (TKS t_text (t_length).toInt.toNat) (rLv (TKS t_text (t_length).toInt.toNat) (rPt (TKS t_text (t_length).toInt.toNat) 1) 1) (jnt (TKS t_text (t_length).toInt.toNat) 2) (1000 - x3_5.toInt).toNat x3_3.toInt y3_t0_4.toInt y3_r0_6.toInt (r_fault).toInt (rLv (TKS t_text (t_length).toInt.toNat) (rPt (TKS t_text (t_length).toInt.toNat) 1) 2 (t_place).toInt.toNat)) → (IM (x3_3.toInt = 1) (CHV (TKS t_text (t_length).toInt.toNat) e_steps g3_e1 (e_size).toInt.toNat (y3_e0_0.toInt).toNat 7 (rLv (TKS t_text (t_length).toInt.toNat) (rPt (TKS t_text (t_length).toInt.toNat) 1) 1) (vLv (TKS t_text (t_length).toInt.toNat) (rPt (TKS t_text (t_length).toInt.toNat) 1) (vPt (TKS t_text (t_length).toInt.toNat) 1) 1) (jnt (TKS t_text (t_length).toInt.toNat) 2) (jcd (TKS t_text (t_length).toInt.toNat) 2) (1000 - x3_5.toInt).toNat (y3_t0_4.toInt).toNat (vLv (TKS t_text (t_length).toInt.toNat) (rPt (TKS t_text (t_length).toInt.toNat) 1) (vPt (TKS t_text (t_length).toInt.toNat) 1) 2 (t_place).toInt.toNat))) → (1000 - x3_5.toInt).toNat < k_3 → J p l e ({ frames := 15, cells := 0, slots := 0, locals := 359 } : Room) s m args below meth c D A 7 0 0 (QX below D (TY cyC cyI cyJ cyZ cyO) A (fun u => some (.int (u.2.1 0))) (fun u => (0 ≤ (u.2.1 0).toInt ∧ (u.2.1 0).toInt ≤ 1) ∧ (0 ≤ (u.2.1 2).toInt ∧ (u.2.1 2).toInt ≤ 1000) ∧ (0 ≤ (u.2.1 3).toInt ∧ (u.2.1 3).toInt ≤ 4) ∧ (0 ≤ (u.2.1 4).toInt ∧ (u.2.1 4).toInt ≤ 1000) ∧ (0 ≤ (u.2.1 6).toInt ∧ (u.2.1 6).toInt ≤ 1000) ∧ (¬ ((u.2.1 3)).toInt = 3 ∨ ((u.2.1 4)).toInt ≤ 999) ∧ ((e_size).toInt ≤ ((u.2.1 6)).toInt) ∧ (((u.2.1 6)).toInt + (t_place).toInt ≤ (e_size).toInt + ((u.2.1 4)).toInt) ∧ (IM (((u.2.1 0)).toInt = 1) (CG e_steps (u.2.2.1 0) (e_size).toInt.toNat ((u.2.1 6)).toInt.toNat 7 (vLv (TKS t_text (t_length).toInt.toNat) (rPt (TKS t_text (t_length).toInt.toNat) 1) (vPt (TKS t_text (t_length).toInt.toNat) 1) 2 (t_place).toInt.toNat))) ∧ (TH t_text (t_length).toInt.toNat ((u.2.1 2)).toInt ((u.2.1 3)).toInt ((u.2.1 4)).toInt ((u.2.1 5)).toInt) ∧ (CP ((u.2.1 0)).toInt ((u.2.1 4)).toInt ((u.2.1 1)).toInt (r_fault).toInt (rLv (TKS t_text (t_length).toInt.toNat) (rPt (TKS t_text (t_length).toInt.toNat) 1) 2 (t_place).toInt.toNat))) (fun u => [(r0, .inr (5, [.ref t0, .ref e0, .ref r1, .ref r2, .ref a0, .int r_habits, .int (u.2.1 1)])), (t0, .inr (8, [.ref t1, .int t_length, .int (u.2.1 2), .int (u.2.1 3), .int (u.2.1 4), .int (u.2.1 5)])), (t1, .inl (cyC, 1000, .inl t_text)), (e0, .inr (1, [.int (u.2.1 6), .int e_nests, .ref e1, .ref e2, .ref e3])), (e1, .inl (cyI, 1000, .inl (u.2.2.1 0)))]) args s 0 0) [(r0, .inr (5, [.ref t0, .ref e0, .ref r1, .ref r2, .ref a0, .int r_habits, .int y3_r0_6])), (t0, .inr (8, [.ref t1, .int t_length, .int y3_t0_2, .int y3_t0_3, .int y3_t0_4, .int y3_t0_5])), (t1, .inl (cyC, 1000, .inl t_text)), (e0, .inr (1, [.int y3_e0_0, .int e_nests, .ref e1, .ref e2, .ref e3])), (e1, .inl (cyI, 1000, .inl g3_e1))] 37 [(5, .int x3_5), (4, .int 1000), (3, .int x3_3), (0, .ref r0), (1, .int 2), (2, .int 4)] [] := by
    intro k_3
    induction k_3 with
    | zero =>
      intro x3_5 x3_3 y3_r0_6 y3_t0_2 y3_t0_3 y3_t0_4 y3_t0_5 y3_e0_0 g3_e1 hi_3_0 hi_3_1 hi_3_3 hi_3_4 hi_3_5 hi_3_7 hr_3 hq_3_0 hq_3_1 hq_3_2 hm_3
      exact absurd hm_3 (Nat.not_lt_zero _)
    | succ k_3 ih_3 =>
      intro x3_5 x3_3 y3_r0_6 y3_t0_2 y3_t0_3 y3_t0_4 y3_t0_5 y3_e0_0 g3_e1 hi_3_0 hi_3_1 hi_3_3 hi_3_4 hi_3_5 hi_3_7 hr_3 hq_3_0 hq_3_1 hq_3_2 hm_3
      refine j_iload (pc := 37) C dX5_readChain_37 0 rfl ?_
      refine j_iload (pc := 39) C dX5_readChain_39 1 rfl ?_
      refine j_icmp_ge (pc := 41) (tgt := 95) C dX5_readChain_41 (by decide) (fun c_4 => ?_) (fun c_4 => ?_)
      · skip
        have el_1000 : (1000 : Int32).toInt = 1000 := rfl
        rw [i_le] at c_4
        have k0c_4 : x3_5.toInt = 1000 := by omega
        refine j_iload_n (pc := 95) C dX5_readChain_95 rfl 2 rfl ?_
        exact j_zret (pc := 96) C hr (nb_01 ⟨by omega, by omega⟩).1 hk (fun i => [].getD i 0, fun i => [x3_3, y3_r0_6, y3_t0_2, y3_t0_3, y3_t0_4, y3_t0_5, y3_e0_0].getD i 0, fun i => [g3_e1].getD i (fun _ => 0), fun i => [].getD i (fun _ => 0)) rfl (show (0 ≤ (x3_3).toInt ∧ (x3_3).toInt ≤ 1) ∧ (0 ≤ (y3_t0_2).toInt ∧ (y3_t0_2).toInt ≤ 1000) ∧ (0 ≤ (y3_t0_3).toInt ∧ (y3_t0_3).toInt ≤ 4) ∧ (0 ≤ (y3_t0_4).toInt ∧ (y3_t0_4).toInt ≤ 1000) ∧ (0 ≤ (y3_e0_0).toInt ∧ (y3_e0_0).toInt ≤ 1000) ∧ (¬ (y3_t0_3).toInt = 3 ∨ (y3_t0_4).toInt ≤ 999) ∧ ((e_size).toInt ≤ (y3_e0_0).toInt) ∧ ((y3_e0_0).toInt + (t_place).toInt ≤ (e_size).toInt + (y3_t0_4).toInt) ∧ (IM ((x3_3).toInt = 1) (CG e_steps g3_e1 (e_size).toInt.toNat (y3_e0_0).toInt.toNat 7 (vLv (TKS t_text (t_length).toInt.toNat) (rPt (TKS t_text (t_length).toInt.toNat) 1) (vPt (TKS t_text (t_length).toInt.toNat) 1) 2 (t_place).toInt.toNat))) ∧ (TH t_text (t_length).toInt.toNat (y3_t0_2).toInt (y3_t0_3).toInt (y3_t0_4).toInt (y3_t0_5).toInt) ∧ (CP (x3_3).toInt (y3_t0_4).toInt (y3_r0_6).toInt (r_fault).toInt (rLv (TKS t_text (t_length).toInt.toNat) (rPt (TKS t_text (t_length).toInt.toNat) 1) 2 (t_place).toInt.toNat)) from ⟨by omega, by omega, by omega, by omega, by omega, by omega, by omega, by omega, (fun z => CHV.stop (hq_3_2 (by omega)) (Or.inl (by omega))), hq_3_0, (CH.stop hq_3_1 (fun z => Or.inl (by omega)))⟩) [0, 1, 2, 3, 4] (by decide) rfl (by decide) (by decide) dX5_readChain_96
      · skip
        have el_1000 : (1000 : Int32).toInt = 1000 := rfl
        rw [i_le] at c_4
        refine j_iload_n (pc := 44) C dX5_readChain_44 rfl 2 rfl ?_
        refine j_if_eq (pc := 45) (tgt := 95) C dX5_readChain_45 (by decide) (fun c_5 => ?_) (fun c_5 => ?_)
        · skip
          have el_0 : (0 : Int32).toInt = 0 := rfl
          rw [i_eq] at c_5
          refine j_iload_n (pc := 95) C dX5_readChain_95 rfl 2 rfl ?_
          exact j_zret (pc := 96) C hr (nb_01 ⟨by omega, by omega⟩).1 hk (fun i => [].getD i 0, fun i => [x3_3, y3_r0_6, y3_t0_2, y3_t0_3, y3_t0_4, y3_t0_5, y3_e0_0].getD i 0, fun i => [g3_e1].getD i (fun _ => 0), fun i => [].getD i (fun _ => 0)) rfl (show (0 ≤ (x3_3).toInt ∧ (x3_3).toInt ≤ 1) ∧ (0 ≤ (y3_t0_2).toInt ∧ (y3_t0_2).toInt ≤ 1000) ∧ (0 ≤ (y3_t0_3).toInt ∧ (y3_t0_3).toInt ≤ 4) ∧ (0 ≤ (y3_t0_4).toInt ∧ (y3_t0_4).toInt ≤ 1000) ∧ (0 ≤ (y3_e0_0).toInt ∧ (y3_e0_0).toInt ≤ 1000) ∧ (¬ (y3_t0_3).toInt = 3 ∨ (y3_t0_4).toInt ≤ 999) ∧ ((e_size).toInt ≤ (y3_e0_0).toInt) ∧ ((y3_e0_0).toInt + (t_place).toInt ≤ (e_size).toInt + (y3_t0_4).toInt) ∧ (IM ((x3_3).toInt = 1) (CG e_steps g3_e1 (e_size).toInt.toNat (y3_e0_0).toInt.toNat 7 (vLv (TKS t_text (t_length).toInt.toNat) (rPt (TKS t_text (t_length).toInt.toNat) 1) (vPt (TKS t_text (t_length).toInt.toNat) 1) 2 (t_place).toInt.toNat))) ∧ (TH t_text (t_length).toInt.toNat (y3_t0_2).toInt (y3_t0_3).toInt (y3_t0_4).toInt (y3_t0_5).toInt) ∧ (CP (x3_3).toInt (y3_t0_4).toInt (y3_r0_6).toInt (r_fault).toInt (rLv (TKS t_text (t_length).toInt.toNat) (rPt (TKS t_text (t_length).toInt.toNat) 1) 2 (t_place).toInt.toNat)) from ⟨by omega, by omega, by omega, by omega, by omega, by omega, by omega, by omega, (fun z => absurd z (by omega)), hq_3_0, (CH.stop hq_3_1 (fun z => absurd z (by omega)))⟩) [0, 1, 2, 3, 4] (by decide) rfl (by decide) (by decide) dX5_readChain_96
        · skip
          have el_0 : (0 : Int32).toInt = 0 := rfl
          rw [i_eq] at c_5
          have k0c_5 : x3_3.toInt = 1 := by omega
          refine j_aload_n (pc := 48) C dX5_readChain_48 rfl 3 rfl ?_
          refine j_iload_n (pc := 49) C dX5_readChain_49 rfl 4 rfl ?_
          refine j_callV (pc := 50) (As := [.int 2]) (rest := []) (wr := [(e0, .inr (1, [.int y3_e0_0, .int e_nests, .ref e1, .ref e2, .ref e3])), (e1, .inl (cyI, 1000, .inl g3_e1))]) C (c_X5_joint_2 l D cyC cyI cyJ cyZ cyO r0 t0 t1 e0 r1 r2 a0 r_habits y3_r0_6 t_length y3_t0_2 y3_t0_3 y3_t0_4 y3_t0_5 t_text (by omega) (by omega) (by omega) (by omega) h_t_text (by omega) hq_3_0) wd_349 wd_306 wd_350 wd_351 wd_352 ⟨by decide, by decide, rfl⟩ rfl ⟨rfl, rfl, by decide, by decide⟩ ⟨by decide, by decide⟩ [0, 1, 2] [3, 4] rfl rfl ⟨by decide, by decide, by decide⟩ 0 rfl rfl rfl (Nat.le_of_ble_eq_true rfl) dX5_readChain_50 (fun u_6 hw_7 => ?_)
          refine j_eq (ws2 := [(e0, .inr (1, [.int y3_e0_0, .int e_nests, .ref e1, .ref e2, .ref e3])), (e1, .inl (cyI, 1000, .inl g3_e1)), (r0, .inr (5, [.ref t0, .ref e0, .ref r1, .ref r2, .ref a0, .int r_habits, .int y3_r0_6])), (t0, .inr (8, [.ref t1, .int t_length, .int y3_t0_2, .int y3_t0_3, .int y3_t0_4, .int y3_t0_5])), (t1, .inl (cyC, 1000, .inl t_text))]) (pc2 := 53) (lv2 := [(5, .int x3_5), (4, .int 1000), (3, .int x3_3), (0, .ref r0), (1, .int 2), (2, .int 4)]) (st2 := [.int (u_6.2.1 0)]) rfl rfl rfl rfl ?_
          obtain ⟨hw_7_0, hw_7_1, hw_7_2⟩ := hw_7
          refine j_istore (pc := 53) (lv' := [(6, .int (u_6.2.1 0)), (5, .int x3_5), (4, .int 1000), (3, .int x3_3), (0, .ref r0), (1, .int 2), (2, .int 4)]) C dX5_readChain_53 (by decide) rfl ?_
          refine j_iload (pc := 55) C dX5_readChain_55 0 rfl ?_
          refine j_bipush (pc := 57) (v := (-100)) C dX5_readChain_57 (by decide) ?_
          refine j_icmp_ne (pc := 59) (tgt := 64) C dX5_readChain_59 (by decide) (fun c_8 => ?_) (fun c_8 => ?_)
          · skip
            have el_m100 : ((-100) : Int32).toInt = (-100) := rfl
            rw [i_eq] at c_8
            refine j_aload_n (pc := 64) C dX5_readChain_64 rfl 4 rfl ?_
            refine j_get (pc := 65) (ci := 5) (v := .ref t0) C inw_5 2 rfl rfl 0 (by decide) wd_296 rfl rfl dX5_readChain_65 ?_
            refine j_callV (pc := 68) (As := []) (rest := []) (wr := [(e0, .inr (1, [.int y3_e0_0, .int e_nests, .ref e1, .ref e2, .ref e3])), (e1, .inl (cyI, 1000, .inl g3_e1)), (r0, .inr (5, [.ref t0, .ref e0, .ref r1, .ref r2, .ref a0, .int r_habits, .int y3_r0_6]))]) C (c_X8_advance_f l D cyC cyI cyJ cyZ cyO t0 t1 t_length y3_t0_2 y3_t0_3 y3_t0_4 y3_t0_5 t_text (by omega) (by omega) (by omega) (by omega) h_t_text) wd_277 wd_258 wd_304 wd_279 wd_280 ⟨by decide, by decide, rfl⟩ rfl ⟨rfl, rfl, by decide, by decide⟩ ⟨by decide, by decide⟩ [3, 4] [0, 1, 2] rfl rfl ⟨by decide, by decide, by decide⟩ 3 rfl rfl rfl (Nat.le_of_ble_eq_true rfl) dX5_readChain_68 (fun u_9 hw_10 => ?_)
            refine j_eq (ws2 := [(e0, .inr (1, [.int y3_e0_0, .int e_nests, .ref e1, .ref e2, .ref e3])), (e1, .inl (cyI, 1000, .inl g3_e1)), (r0, .inr (5, [.ref t0, .ref e0, .ref r1, .ref r2, .ref a0, .int r_habits, .int y3_r0_6])), (t0, .inr (8, [.ref t1, .int t_length, .int (u_9.2.1 0), .int (u_9.2.1 1), .int (u_9.2.1 2), .int (u_9.2.1 3)])), (t1, .inl (cyC, 1000, .inl t_text))]) (pc2 := 71) (lv2 := [(6, .int (u_6.2.1 0)), (5, .int x3_5), (4, .int 1000), (3, .int x3_3), (0, .ref r0), (1, .int 2), (2, .int 4)]) (st2 := []) rfl rfl rfl rfl ?_
            obtain ⟨hw_10_0, hw_10_1, hw_10_2, hw_10_3, hw_10_4, hw_10_5⟩ := hw_10
            have ha_u_9 := (hw_10_5).trans (TH.adv hq_3_0)
            have hj9 : jnt (TKS t_text (t_length).toInt.toNat) 2 (y3_t0_4).toInt.toNat = true := by rcases hw_7_2 with z | z; (exfalso; omega); exact z.2
            have hg9 := jnt_gt (PT_TKS (f := t_text) (n := (t_length).toInt.toNat) (by omega)) hj9
            have hga9 := ha_u_9
            refine j_aload_n (pc := 71) C dX5_readChain_71 rfl 4 rfl ?_
            refine j_iload_n (pc := 72) C dX5_readChain_72 rfl 5 rfl ?_
            refine j_iconst (pc := 73) (v := 1) C dX5_readChain_73 (by decide) ?_
            refine j_iadd (pc := 74) (v := 3) C dX5_readChain_74 (by decide) ?_
            refine j_iload_n (pc := 75) C dX5_readChain_75 rfl 6 rfl ?_
            refine j_callV (pc := 76) (As := [.int 3, .int 4]) (rest := []) (wr := []) C (c_X5_readChain_3_4 l D cyC cyI cyJ cyZ cyO r0 t0 t1 e0 e1 r1 r2 a0 e2 e3 r_habits y3_r0_6 t_length (u_9.2.1 0) (u_9.2.1 1) (u_9.2.1 2) (u_9.2.1 3) y3_e0_0 e_nests t_text g3_e1 (by omega) (by omega) (by omega) (by omega) (by omega) (by omega) h_t_text (by omega) hw_10_4 (by omega)) wd_340 wd_306 wd_341 wd_342 wd_343 ⟨by decide, by decide, rfl⟩ rfl ⟨rfl, rfl, by decide, by decide⟩ ⟨by decide, by decide⟩ [2, 3, 4, 0, 1] [] rfl rfl ⟨by decide, by decide, by decide⟩ 2 rfl rfl rfl (Nat.le_of_ble_eq_true rfl) dX5_readChain_76 (fun u_11 hw_12 => ?_)
            refine j_eq (ws2 := [(r0, .inr (5, [.ref t0, .ref e0, .ref r1, .ref r2, .ref a0, .int r_habits, .int (u_11.2.1 1)])), (t0, .inr (8, [.ref t1, .int t_length, .int (u_11.2.1 2), .int (u_11.2.1 3), .int (u_11.2.1 4), .int (u_11.2.1 5)])), (t1, .inl (cyC, 1000, .inl t_text)), (e0, .inr (1, [.int (u_11.2.1 6), .int e_nests, .ref e1, .ref e2, .ref e3])), (e1, .inl (cyI, 1000, .inl (u_11.2.2.1 0)))]) (pc2 := 79) (lv2 := [(6, .int (u_6.2.1 0)), (5, .int x3_5), (4, .int 1000), (3, .int x3_3), (0, .ref r0), (1, .int 2), (2, .int 4)]) (st2 := [.int (u_11.2.1 0)]) rfl rfl rfl rfl ?_
            obtain ⟨hw_12_0, hw_12_1, hw_12_2, hw_12_3, hw_12_4, hw_12_5, hw_12_6, hw_12_7, hw_12_8, hw_12_9, hw_12_10⟩ := hw_12
            refine j_istore_n (pc := 79) (lv' := [(3, .int (u_11.2.1 0)), (6, .int (u_6.2.1 0)), (5, .int x3_5), (4, .int 1000), (0, .ref r0), (1, .int 2), (2, .int 4)]) C dX5_readChain_79 rfl (by decide) rfl ?_
            refine j_aload_n (pc := 80) C dX5_readChain_80 rfl 4 rfl ?_
            refine j_get (pc := 81) (ci := 5) (v := .ref e0) C inw_5 0 rfl rfl 1 (by decide) wd_344 rfl rfl dX5_readChain_81 ?_
            refine j_iload (pc := 84) C dX5_readChain_84 1 rfl ?_
            refine j_callV (pc := 86) (As := [.int (u_6.2.1 0)]) (rest := []) (wr := [(r0, .inr (5, [.ref t0, .ref e0, .ref r1, .ref r2, .ref a0, .int r_habits, .int (u_11.2.1 1)])), (t0, .inr (8, [.ref t1, .int t_length, .int (u_11.2.1 2), .int (u_11.2.1 3), .int (u_11.2.1 4), .int (u_11.2.1 5)])), (t1, .inl (cyC, 1000, .inl t_text))]) C (c_X1_add l D cyC cyI cyJ cyZ cyO e0 e1 e2 e3 (u_6.2.1 0) (u_11.2.1 6) e_nests (u_11.2.2.1 0) (by omega) (by omega)) wd_345 wd_200 wd_346 wd_347 wd_348 ⟨by decide, by decide, rfl⟩ rfl ⟨rfl, rfl, by decide, by decide⟩ ⟨by decide, by decide⟩ [3, 4] [0, 1, 2] rfl rfl ⟨by decide, by decide, by decide⟩ 3 rfl rfl rfl (Nat.le_of_ble_eq_true rfl) dX5_readChain_86 (fun u_13 hw_14 => ?_)
            refine j_eq (ws2 := [(r0, .inr (5, [.ref t0, .ref e0, .ref r1, .ref r2, .ref a0, .int r_habits, .int (u_11.2.1 1)])), (t0, .inr (8, [.ref t1, .int t_length, .int (u_11.2.1 2), .int (u_11.2.1 3), .int (u_11.2.1 4), .int (u_11.2.1 5)])), (t1, .inl (cyC, 1000, .inl t_text)), (e0, .inr (1, [.int (u_13.2.1 0), .int e_nests, .ref e1, .ref e2, .ref e3])), (e1, .inl (cyI, 1000, .inl (u_13.2.2.1 0)))]) (pc2 := 89) (lv2 := [(3, .int (u_11.2.1 0)), (6, .int (u_6.2.1 0)), (5, .int x3_5), (4, .int 1000), (0, .ref r0), (1, .int 2), (2, .int 4)]) (st2 := []) rfl rfl rfl rfl ?_
            obtain ⟨hw_14_0, hw_14_1, hw_14_2, hw_14_3, hw_14_4⟩ := hw_14
            obtain ⟨v_15, ev_15⟩ : ∃ z : Int32, x3_5 + 1 = z := ⟨_, rfl⟩
            have el_1 : (1 : Int32).toInt = 1 := rfl
            have hv_15 : v_15.toInt = x3_5.toInt + (1 : Int32).toInt := by rw [← ev_15]; exact fb_addI (by omega) (by omega)
            refine j_iinc (pc := 89) (v := v_15) (lv' := [(5, .int v_15), (3, .int (u_11.2.1 0)), (6, .int (u_6.2.1 0)), (4, .int 1000), (0, .ref r0), (1, .int 2), (2, .int 4)]) C dX5_readChain_89 2 rfl ev_15 (by decide) rfl ?_
            refine j_goto (pc := 92) (tgt := 37) C dX5_readChain_92 (by decide) ?_
            exact j_lv [0, 3, 1, 4, 5, 6] rfl (ih_3 v_15 (u_11.2.1 0) (u_11.2.1 1) (u_11.2.1 2) (u_11.2.1 3) (u_11.2.1 4) (u_11.2.1 5) (u_13.2.1 0) (u_13.2.2.1 0) (by omega) (by omega) (by omega) (by omega) (by omega) (by omega) (by omega) hw_12_9 (CH.step (k := (1000 - (v_15).toInt).toNat) (by rw [show (1000 - (v_15).toInt).toNat + 1 = (1000 - (x3_5).toInt).toNat from (by omega)]; exact hq_3_1) (by omega) (by rcases hw_7_2 with z | z; omega; exact z.2) ha_u_9 hw_12_10) (fun z => CHV.step (k := (1000 - (v_15).toInt).toNat) (by rw [show (1000 - (v_15).toInt).toNat + 1 = (1000 - (x3_5).toInt).toNat from (by omega)]; exact hq_3_2 (by omega)) hj9 hga9 ((hw_12_10).1 (by omega)).1 (hw_12_8 (by omega)) (hw_14_4 (by omega)) (hw_7_1 hj9) (jcd_lt _ _ _) (by have y9 := hw_14_3 (by omega); omega)) (by omega))
          · skip
            have el_m100 : ((-100) : Int32).toInt = (-100) := rfl
            rw [i_eq] at c_8
            refine j_iconst (pc := 62) (v := 1) C dX5_readChain_62 (by decide) ?_
            have el_1 : (1 : Int32).toInt = 1 := rfl
            have el_1 : (1 : Int32).toInt = 1 := rfl
            have el_1 : (1 : Int32).toInt = 1 := rfl
            have el_1 : (1 : Int32).toInt = 1 := rfl
            have el_1 : (1 : Int32).toInt = 1 := rfl
            have el_1 : (1 : Int32).toInt = 1 := rfl
            have el_1 : (1 : Int32).toInt = 1 := rfl
            exact j_zret (pc := 63) C hr rfl hk (fun i => [].getD i 0, fun i => [1, y3_r0_6, y3_t0_2, y3_t0_3, y3_t0_4, y3_t0_5, y3_e0_0].getD i 0, fun i => [g3_e1].getD i (fun _ => 0), fun i => [].getD i (fun _ => 0)) rfl (show (0 ≤ ((1 : Int32)).toInt ∧ ((1 : Int32)).toInt ≤ 1) ∧ (0 ≤ (y3_t0_2).toInt ∧ (y3_t0_2).toInt ≤ 1000) ∧ (0 ≤ (y3_t0_3).toInt ∧ (y3_t0_3).toInt ≤ 4) ∧ (0 ≤ (y3_t0_4).toInt ∧ (y3_t0_4).toInt ≤ 1000) ∧ (0 ≤ (y3_e0_0).toInt ∧ (y3_e0_0).toInt ≤ 1000) ∧ (¬ (y3_t0_3).toInt = 3 ∨ (y3_t0_4).toInt ≤ 999) ∧ ((e_size).toInt ≤ (y3_e0_0).toInt) ∧ ((y3_e0_0).toInt + (t_place).toInt ≤ (e_size).toInt + (y3_t0_4).toInt) ∧ (IM (((1 : Int32)).toInt = 1) (CG e_steps g3_e1 (e_size).toInt.toNat (y3_e0_0).toInt.toNat 7 (vLv (TKS t_text (t_length).toInt.toNat) (rPt (TKS t_text (t_length).toInt.toNat) 1) (vPt (TKS t_text (t_length).toInt.toNat) 1) 2 (t_place).toInt.toNat))) ∧ (TH t_text (t_length).toInt.toNat (y3_t0_2).toInt (y3_t0_3).toInt (y3_t0_4).toInt (y3_t0_5).toInt) ∧ (CP ((1 : Int32)).toInt (y3_t0_4).toInt (y3_r0_6).toInt (r_fault).toInt (rLv (TKS t_text (t_length).toInt.toNat) (rPt (TKS t_text (t_length).toInt.toNat) 1) 2 (t_place).toInt.toNat)) from ⟨by omega, by omega, by omega, by omega, by omega, by omega, by omega, by omega, (fun z => CHV.stop (hq_3_2 (by omega)) (Or.inr (by rcases hw_7_2 with z | z; (rw [z.2]; decide); omega))), hq_3_0, (CP.ok (by omega) ((CH.stop hq_3_1 (fun _ => Or.inr (by rcases hw_7_2 with z | z; (rw [z.2]; decide); omega))).1 (by omega)).2 ((CH.stop hq_3_1 (fun _ => Or.inr (by rcases hw_7_2 with z | z; (rw [z.2]; decide); omega))).1 (by omega)).1)⟩) [2, 3, 4, 0, 1] (by decide) rfl (by decide) (by decide) dX5_readChain_63
  have el_0 : (0 : Int32).toInt = 0 := rfl
  exact j_lv [0, 1, 2, 3, 4, 5] rfl (loop_3 4096 0 (u_1.2.1 0) (u_1.2.1 1) (u_1.2.1 2) (u_1.2.1 3) (u_1.2.1 4) (u_1.2.1 5) (u_1.2.1 6) (u_1.2.2.1 0) (by decide) (by omega) (by omega) (by omega) (by omega) (by omega) (by omega) hw_2_9 (by rw [rLv2, show (1000 - (0 : Int32).toInt).toNat = 1000 from by decide]; exact CH.start hw_2_10) (fun z => by rw [show (1000 - (0 : Int32).toInt).toNat = 1000 from by decide]; exact CHV.start (hw_2_8 (by omega)) ((hw_2_10).1 (by omega)).1) (by omega))
set_option maxHeartbeats 4000000 in
set_option maxRecDepth 100000 in
theorem c_X5_readChain_1_4 (l : Launch) (D : DG) (cyC cyI cyJ cyZ cyO : ClassId) (r0 : Nat) (t0 : Nat) (t1 : Nat) (e0 : Nat) (e1 : Nat) (r1 : Nat) (r2 : Nat) (a0 : Nat) (e2 : Nat) (e3 : Nat) (r_habits : Int32) (r_fault : Int32) (t_length : Int32) (t_next : Int32) (t_kind : Int32) (t_place : Int32) (t_number : Int32) (e_size : Int32) (e_nests : Int32) (t_text : Nat → Int32) (e_steps : Nat → Int32) (h_t_length : 0 ≤ (t_length).toInt ∧ (t_length).toInt ≤ 1000) (h_t_next : 0 ≤ (t_next).toInt ∧ (t_next).toInt ≤ 1000) (h_t_kind : 0 ≤ (t_kind).toInt ∧ (t_kind).toInt ≤ 4) (h_t_place : 0 ≤ (t_place).toInt ∧ (t_place).toInt ≤ 1000) (h_e_size : 0 ≤ (e_size).toInt ∧ (e_size).toInt ≤ 1000) (h_e_nests : 0 ≤ (e_nests).toInt ∧ (e_nests).toInt ≤ 4) (h_t_text : Iv 1000 (0) (126) t_text) (ht3 : ¬ (t_kind).toInt = 3 ∨ (t_place).toInt ≤ 999) (hTH : TH t_text (t_length).toInt.toNat (t_next).toInt (t_kind).toInt (t_place).toInt (t_number).toInt) (hsz6 : (e_size).toInt ≤ (t_place).toInt) : KK l D (TY cyC cyI cyJ cyZ cyO) yX5_readChain cX5_readChain 7 (some .boolean) ({ frames := 16, cells := 0, slots := 0, locals := 385 } : Room) 0 0 [.ref r0, .int 1, .int 4] [(r0, .inr (5, [.ref t0, .ref e0, .ref r1, .ref r2, .ref a0, .int r_habits, .int r_fault])), (t0, .inr (8, [.ref t1, .int t_length, .int t_next, .int t_kind, .int t_place, .int t_number])), (t1, .inl (cyC, 1000, .inl t_text)), (e0, .inr (1, [.int e_size, .int e_nests, .ref e1, .ref e2, .ref e3])), (e1, .inl (cyI, 1000, .inl e_steps))] (fun u => some (.int (u.2.1 0))) (fun u => (0 ≤ (u.2.1 0).toInt ∧ (u.2.1 0).toInt ≤ 1) ∧ (0 ≤ (u.2.1 2).toInt ∧ (u.2.1 2).toInt ≤ 1000) ∧ (0 ≤ (u.2.1 3).toInt ∧ (u.2.1 3).toInt ≤ 4) ∧ (0 ≤ (u.2.1 4).toInt ∧ (u.2.1 4).toInt ≤ 1000) ∧ (0 ≤ (u.2.1 6).toInt ∧ (u.2.1 6).toInt ≤ 1000) ∧ (¬ ((u.2.1 3)).toInt = 3 ∨ ((u.2.1 4)).toInt ≤ 999) ∧ ((e_size).toInt ≤ ((u.2.1 6)).toInt) ∧ (((u.2.1 6)).toInt + (t_place).toInt ≤ (e_size).toInt + ((u.2.1 4)).toInt) ∧ (IM (((u.2.1 0)).toInt = 1) (CG e_steps (u.2.2.1 0) (e_size).toInt.toNat ((u.2.1 6)).toInt.toNat 8 (vLv (TKS t_text (t_length).toInt.toNat) (rPt (TKS t_text (t_length).toInt.toNat) 1) (vPt (TKS t_text (t_length).toInt.toNat) 1) 3 (t_place).toInt.toNat))) ∧ (TH t_text (t_length).toInt.toNat ((u.2.1 2)).toInt ((u.2.1 3)).toInt ((u.2.1 4)).toInt ((u.2.1 5)).toInt) ∧ (CP ((u.2.1 0)).toInt ((u.2.1 4)).toInt ((u.2.1 1)).toInt (r_fault).toInt (rLv (TKS t_text (t_length).toInt.toNat) (rPt (TKS t_text (t_length).toInt.toNat) 1) 3 (t_place).toInt.toNat))) (fun u => [(r0, .inr (5, [.ref t0, .ref e0, .ref r1, .ref r2, .ref a0, .int r_habits, .int (u.2.1 1)])), (t0, .inr (8, [.ref t1, .int t_length, .int (u.2.1 2), .int (u.2.1 3), .int (u.2.1 4), .int (u.2.1 5)])), (t1, .inl (cyC, 1000, .inl t_text)), (e0, .inr (1, [.int (u.2.1 6), .int e_nests, .ref e1, .ref e2, .ref e3])), (e1, .inl (cyI, 1000, .inl (u.2.2.1 0)))]) := by
  refine KK.of (lv0 := [(0, .ref r0), (1, .int 1), (2, .int 4)]) (by decide) rfl (Nat.le_of_ble_eq_true rfl) ?_
  intro p e s m args below meth c A C hr hk hin
  refine j_iload_n (pc := 0) C dX5_readChain_0 rfl 1 rfl ?_
  refine j_iconst (pc := 1) (v := 4) C dX5_readChain_1 (by decide) ?_
  refine j_icmp_lt_t (pc := 2) (tgt := 11) C dX5_readChain_2 (by decide) (by decide) ?_
  refine j_aload_n (pc := 11) C dX5_readChain_11 rfl 0 rfl ?_
  refine j_iload_n (pc := 12) C dX5_readChain_12 rfl 1 rfl ?_
  refine j_iconst (pc := 13) (v := 1) C dX5_readChain_13 (by decide) ?_
  refine j_iadd (pc := 14) (v := 2) C dX5_readChain_14 (by decide) ?_
  refine j_iload_n (pc := 15) C dX5_readChain_15 rfl 2 rfl ?_
  refine j_callV (pc := 16) (As := [.int 2, .int 4]) (rest := []) (wr := []) C (c_X5_readChain_2_4 l D cyC cyI cyJ cyZ cyO r0 t0 t1 e0 e1 r1 r2 a0 e2 e3 r_habits r_fault t_length t_next t_kind t_place t_number e_size e_nests t_text e_steps (by omega) (by omega) (by omega) (by omega) (by omega) (by omega) h_t_text (by omega) hTH (by omega)) wd_340 wd_306 wd_341 wd_342 wd_343 ⟨by decide, by decide, rfl⟩ rfl ⟨rfl, rfl, by decide, by decide⟩ ⟨by decide, by decide⟩ [0, 1, 2, 3, 4] [] rfl rfl ⟨by decide, by decide, by decide⟩ 0 rfl rfl rfl (Nat.le_of_ble_eq_true rfl) dX5_readChain_16 (fun u_1 hw_2 => ?_)
  refine j_eq (ws2 := [(r0, .inr (5, [.ref t0, .ref e0, .ref r1, .ref r2, .ref a0, .int r_habits, .int (u_1.2.1 1)])), (t0, .inr (8, [.ref t1, .int t_length, .int (u_1.2.1 2), .int (u_1.2.1 3), .int (u_1.2.1 4), .int (u_1.2.1 5)])), (t1, .inl (cyC, 1000, .inl t_text)), (e0, .inr (1, [.int (u_1.2.1 6), .int e_nests, .ref e1, .ref e2, .ref e3])), (e1, .inl (cyI, 1000, .inl (u_1.2.2.1 0)))]) (pc2 := 19) (lv2 := [(0, .ref r0), (1, .int 1), (2, .int 4)]) (st2 := [.int (u_1.2.1 0)]) rfl rfl rfl rfl ?_
  obtain ⟨hw_2_0, hw_2_1, hw_2_2, hw_2_3, hw_2_4, hw_2_5, hw_2_6, hw_2_7, hw_2_8, hw_2_9, hw_2_10⟩ := hw_2
  refine j_istore_n (pc := 19) (lv' := [(3, .int (u_1.2.1 0)), (0, .ref r0), (1, .int 1), (2, .int 4)]) C dX5_readChain_19 rfl (by decide) rfl ?_
  refine j_iload_n (pc := 20) C dX5_readChain_20 rfl 2 rfl ?_
  refine j_iconst (pc := 21) (v := 1) C dX5_readChain_21 (by decide) ?_
  refine j_icmp_ne_f (pc := 22) (tgt := 29) C dX5_readChain_22 (by decide) (by decide) ?_
  refine j_iconst (pc := 25) (v := 1) C dX5_readChain_25 (by decide) ?_
  refine j_goto (pc := 26) (tgt := 32) C dX5_readChain_26 (by decide) ?_
  refine j_istore (pc := 32) (lv' := [(4, .int 1), (3, .int (u_1.2.1 0)), (0, .ref r0), (1, .int 1), (2, .int 4)]) C dX5_readChain_32 (by decide) rfl ?_
  refine j_iconst (pc := 34) (v := 0) C dX5_readChain_34 (by decide) ?_
  refine j_istore (pc := 35) (lv' := [(5, .int 0), (4, .int 1), (3, .int (u_1.2.1 0)), (0, .ref r0), (1, .int 1), (2, .int 4)]) C dX5_readChain_35 (by decide) rfl ?_
  have loop_3 : ∀ (k_3 : Nat) (x3_5 : Int32) (x3_3 : Int32) (y3_r0_6 : Int32) (y3_t0_2 : Int32) (y3_t0_3 : Int32) (y3_t0_4 : Int32) (y3_t0_5 : Int32) (y3_e0_0 : Int32) (g3_e1 : Nat → Int32), (0 ≤ (x3_5).toInt ∧ (x3_5).toInt ≤ 1000) → (0 ≤ (x3_3).toInt ∧ (x3_3).toInt ≤ 1) → (0 ≤ (y3_t0_2).toInt ∧ (y3_t0_2).toInt ≤ 1000) → (0 ≤ (y3_t0_3).toInt ∧ (y3_t0_3).toInt ≤ 4) → (0 ≤ (y3_t0_4).toInt ∧ (y3_t0_4).toInt ≤ 1000) → (0 ≤ (y3_e0_0).toInt ∧ (y3_e0_0).toInt ≤ 1000) → ((¬ y3_t0_3.toInt = 3 ∨ y3_t0_4.toInt ≤ 999) ∧ (e_size).toInt ≤ y3_e0_0.toInt ∧ y3_e0_0.toInt + (t_place).toInt ≤ (e_size).toInt + y3_t0_4.toInt) → (TH t_text (t_length).toInt.toNat y3_t0_2.toInt y3_t0_3.toInt y3_t0_4.toInt y3_t0_5.toInt) → (CH (TKS t_text (t_length).toInt.toNat) (rLv (TKS t_text (t_length).toInt.toNat) (rPt (TKS t_text (t_length).toInt.toNat) 1) 2) (jnt (TKS t_text (t_length).toInt.toNat) 1) (1 - x3_5.toInt).toNat x3_3.toInt y3_t0_4.toInt y3_r0_6.toInt (r_fault).toInt (rLv (TKS t_text (t_length).toInt.toNat) (rPt (TKS t_text (t_length).toInt.toNat) 1) 3 (t_place).toInt.toNat)) → (IM (x3_3.toInt = 1) (CHV (TKS t_text (t_length).toInt.toNat) e_steps g3_e1 (e_size).toInt.toNat (y3_e0_0.toInt).toNat 8 (rLv (TKS t_text (t_length).toInt.toNat) (rPt (TKS t_text (t_length).toInt.toNat) 1) 2) (vLv (TKS t_text (t_length).toInt.toNat) (rPt (TKS t_text (t_length).toInt.toNat) 1) (vPt (TKS t_text (t_length).toInt.toNat) 1) 2) (jnt (TKS t_text (t_length).toInt.toNat) 1) (jcd (TKS t_text (t_length).toInt.toNat) 1) (1 - x3_5.toInt).toNat (y3_t0_4.toInt).toNat (vLv (TKS t_text (t_length).toInt.toNat) (rPt (TKS t_text (t_length).toInt.toNat) 1) (vPt (TKS t_text (t_length).toInt.toNat) 1) 3 (t_place).toInt.toNat))) → (1000 - x3_5.toInt).toNat < k_3 → J p l e ({ frames := 16, cells := 0, slots := 0, locals := 385 } : Room) s m args below meth c D A 7 0 0 (QX below D (TY cyC cyI cyJ cyZ cyO) A (fun u => some (.int (u.2.1 0))) (fun u => (0 ≤ (u.2.1 0).toInt ∧ (u.2.1 0).toInt ≤ 1) ∧ (0 ≤ (u.2.1 2).toInt ∧ (u.2.1 2).toInt ≤ 1000) ∧ (0 ≤ (u.2.1 3).toInt ∧ (u.2.1 3).toInt ≤ 4) ∧ (0 ≤ (u.2.1 4).toInt ∧ (u.2.1 4).toInt ≤ 1000) ∧ (0 ≤ (u.2.1 6).toInt ∧ (u.2.1 6).toInt ≤ 1000) ∧ (¬ ((u.2.1 3)).toInt = 3 ∨ ((u.2.1 4)).toInt ≤ 999) ∧ ((e_size).toInt ≤ ((u.2.1 6)).toInt) ∧ (((u.2.1 6)).toInt + (t_place).toInt ≤ (e_size).toInt + ((u.2.1 4)).toInt) ∧ (IM (((u.2.1 0)).toInt = 1) (CG e_steps (u.2.2.1 0) (e_size).toInt.toNat ((u.2.1 6)).toInt.toNat 8 (vLv (TKS t_text (t_length).toInt.toNat) (rPt (TKS t_text (t_length).toInt.toNat) 1) (vPt (TKS t_text (t_length).toInt.toNat) 1) 3 (t_place).toInt.toNat))) ∧ (TH t_text (t_length).toInt.toNat ((u.2.1 2)).toInt ((u.2.1 3)).toInt ((u.2.1 4)).toInt ((u.2.1 5)).toInt) ∧ (CP ((u.2.1 0)).toInt ((u.2.1 4)).toInt ((u.2.1 1)).toInt (r_fault).toInt (rLv (TKS t_text (t_length).toInt.toNat) (rPt (TKS t_text (t_length).toInt.toNat) 1) 3 (t_place).toInt.toNat))) (fun u => [(r0, .inr (5, [.ref t0, .ref e0, .ref r1, .ref r2, .ref a0, .int r_habits, .int (u.2.1 1)])), (t0, .inr (8, [.ref t1, .int t_length, .int (u.2.1 2), .int (u.2.1 3), .int (u.2.1 4), .int (u.2.1 5)])), (t1, .inl (cyC, 1000, .inl t_text)), (e0, .inr (1, [.int (u.2.1 6), .int e_nests, .ref e1, .ref e2, .ref e3])), (e1, .inl (cyI, 1000, .inl (u.2.2.1 0)))]) args s 0 0) [(r0, .inr (5, [.ref t0, .ref e0, .ref r1, .ref r2, .ref a0, .int r_habits, .int y3_r0_6])), (t0, .inr (8, [.ref t1, .int t_length, .int y3_t0_2, .int y3_t0_3, .int y3_t0_4, .int y3_t0_5])), (t1, .inl (cyC, 1000, .inl t_text)), (e0, .inr (1, [.int y3_e0_0, .int e_nests, .ref e1, .ref e2, .ref e3])), (e1, .inl (cyI, 1000, .inl g3_e1))] 37 [(5, .int x3_5), (4, .int 1), (3, .int x3_3), (0, .ref r0), (1, .int 1), (2, .int 4)] [] := by
    intro k_3
    induction k_3 with
    | zero =>
      intro x3_5 x3_3 y3_r0_6 y3_t0_2 y3_t0_3 y3_t0_4 y3_t0_5 y3_e0_0 g3_e1 hi_3_0 hi_3_1 hi_3_3 hi_3_4 hi_3_5 hi_3_7 hr_3 hq_3_0 hq_3_1 hq_3_2 hm_3
      exact absurd hm_3 (Nat.not_lt_zero _)
    | succ k_3 ih_3 =>
      intro x3_5 x3_3 y3_r0_6 y3_t0_2 y3_t0_3 y3_t0_4 y3_t0_5 y3_e0_0 g3_e1 hi_3_0 hi_3_1 hi_3_3 hi_3_4 hi_3_5 hi_3_7 hr_3 hq_3_0 hq_3_1 hq_3_2 hm_3
      refine j_iload (pc := 37) C dX5_readChain_37 0 rfl ?_
      refine j_iload (pc := 39) C dX5_readChain_39 1 rfl ?_
      refine j_icmp_ge (pc := 41) (tgt := 95) C dX5_readChain_41 (by decide) (fun c_4 => ?_) (fun c_4 => ?_)
      · skip
        have el_1 : (1 : Int32).toInt = 1 := rfl
        rw [i_le] at c_4
        refine j_iload_n (pc := 95) C dX5_readChain_95 rfl 2 rfl ?_
        exact j_zret (pc := 96) C hr (nb_01 ⟨by omega, by omega⟩).1 hk (fun i => [].getD i 0, fun i => [x3_3, y3_r0_6, y3_t0_2, y3_t0_3, y3_t0_4, y3_t0_5, y3_e0_0].getD i 0, fun i => [g3_e1].getD i (fun _ => 0), fun i => [].getD i (fun _ => 0)) rfl (show (0 ≤ (x3_3).toInt ∧ (x3_3).toInt ≤ 1) ∧ (0 ≤ (y3_t0_2).toInt ∧ (y3_t0_2).toInt ≤ 1000) ∧ (0 ≤ (y3_t0_3).toInt ∧ (y3_t0_3).toInt ≤ 4) ∧ (0 ≤ (y3_t0_4).toInt ∧ (y3_t0_4).toInt ≤ 1000) ∧ (0 ≤ (y3_e0_0).toInt ∧ (y3_e0_0).toInt ≤ 1000) ∧ (¬ (y3_t0_3).toInt = 3 ∨ (y3_t0_4).toInt ≤ 999) ∧ ((e_size).toInt ≤ (y3_e0_0).toInt) ∧ ((y3_e0_0).toInt + (t_place).toInt ≤ (e_size).toInt + (y3_t0_4).toInt) ∧ (IM ((x3_3).toInt = 1) (CG e_steps g3_e1 (e_size).toInt.toNat (y3_e0_0).toInt.toNat 8 (vLv (TKS t_text (t_length).toInt.toNat) (rPt (TKS t_text (t_length).toInt.toNat) 1) (vPt (TKS t_text (t_length).toInt.toNat) 1) 3 (t_place).toInt.toNat))) ∧ (TH t_text (t_length).toInt.toNat (y3_t0_2).toInt (y3_t0_3).toInt (y3_t0_4).toInt (y3_t0_5).toInt) ∧ (CP (x3_3).toInt (y3_t0_4).toInt (y3_r0_6).toInt (r_fault).toInt (rLv (TKS t_text (t_length).toInt.toNat) (rPt (TKS t_text (t_length).toInt.toNat) 1) 3 (t_place).toInt.toNat)) from ⟨by omega, by omega, by omega, by omega, by omega, by omega, by omega, by omega, (fun z => CHV.stop (hq_3_2 (by omega)) (Or.inl (by omega))), hq_3_0, (CH.stop hq_3_1 (fun z => Or.inl (by omega)))⟩) [0, 1, 2, 3, 4] (by decide) rfl (by decide) (by decide) dX5_readChain_96
      · skip
        have el_1 : (1 : Int32).toInt = 1 := rfl
        rw [i_le] at c_4
        have k0c_4 : x3_5.toInt = 0 := by omega
        refine j_iload_n (pc := 44) C dX5_readChain_44 rfl 2 rfl ?_
        refine j_if_eq (pc := 45) (tgt := 95) C dX5_readChain_45 (by decide) (fun c_5 => ?_) (fun c_5 => ?_)
        · skip
          have el_0 : (0 : Int32).toInt = 0 := rfl
          rw [i_eq] at c_5
          refine j_iload_n (pc := 95) C dX5_readChain_95 rfl 2 rfl ?_
          exact j_zret (pc := 96) C hr (nb_01 ⟨by omega, by omega⟩).1 hk (fun i => [].getD i 0, fun i => [x3_3, y3_r0_6, y3_t0_2, y3_t0_3, y3_t0_4, y3_t0_5, y3_e0_0].getD i 0, fun i => [g3_e1].getD i (fun _ => 0), fun i => [].getD i (fun _ => 0)) rfl (show (0 ≤ (x3_3).toInt ∧ (x3_3).toInt ≤ 1) ∧ (0 ≤ (y3_t0_2).toInt ∧ (y3_t0_2).toInt ≤ 1000) ∧ (0 ≤ (y3_t0_3).toInt ∧ (y3_t0_3).toInt ≤ 4) ∧ (0 ≤ (y3_t0_4).toInt ∧ (y3_t0_4).toInt ≤ 1000) ∧ (0 ≤ (y3_e0_0).toInt ∧ (y3_e0_0).toInt ≤ 1000) ∧ (¬ (y3_t0_3).toInt = 3 ∨ (y3_t0_4).toInt ≤ 999) ∧ ((e_size).toInt ≤ (y3_e0_0).toInt) ∧ ((y3_e0_0).toInt + (t_place).toInt ≤ (e_size).toInt + (y3_t0_4).toInt) ∧ (IM ((x3_3).toInt = 1) (CG e_steps g3_e1 (e_size).toInt.toNat (y3_e0_0).toInt.toNat 8 (vLv (TKS t_text (t_length).toInt.toNat) (rPt (TKS t_text (t_length).toInt.toNat) 1) (vPt (TKS t_text (t_length).toInt.toNat) 1) 3 (t_place).toInt.toNat))) ∧ (TH t_text (t_length).toInt.toNat (y3_t0_2).toInt (y3_t0_3).toInt (y3_t0_4).toInt (y3_t0_5).toInt) ∧ (CP (x3_3).toInt (y3_t0_4).toInt (y3_r0_6).toInt (r_fault).toInt (rLv (TKS t_text (t_length).toInt.toNat) (rPt (TKS t_text (t_length).toInt.toNat) 1) 3 (t_place).toInt.toNat)) from ⟨by omega, by omega, by omega, by omega, by omega, by omega, by omega, by omega, (fun z => absurd z (by omega)), hq_3_0, (CH.stop hq_3_1 (fun z => absurd z (by omega)))⟩) [0, 1, 2, 3, 4] (by decide) rfl (by decide) (by decide) dX5_readChain_96
        · skip
          have el_0 : (0 : Int32).toInt = 0 := rfl
          rw [i_eq] at c_5
          have k0c_5 : x3_3.toInt = 1 := by omega
          refine j_aload_n (pc := 48) C dX5_readChain_48 rfl 3 rfl ?_
          refine j_iload_n (pc := 49) C dX5_readChain_49 rfl 4 rfl ?_
          refine j_callV (pc := 50) (As := [.int 1]) (rest := []) (wr := [(e0, .inr (1, [.int y3_e0_0, .int e_nests, .ref e1, .ref e2, .ref e3])), (e1, .inl (cyI, 1000, .inl g3_e1))]) C (c_X5_joint_1 l D cyC cyI cyJ cyZ cyO r0 t0 t1 e0 r1 r2 a0 r_habits y3_r0_6 t_length y3_t0_2 y3_t0_3 y3_t0_4 y3_t0_5 t_text (by omega) (by omega) (by omega) (by omega) h_t_text (by omega) hq_3_0) wd_349 wd_306 wd_350 wd_351 wd_352 ⟨by decide, by decide, rfl⟩ rfl ⟨rfl, rfl, by decide, by decide⟩ ⟨by decide, by decide⟩ [0, 1, 2] [3, 4] rfl rfl ⟨by decide, by decide, by decide⟩ 0 rfl rfl rfl (Nat.le_of_ble_eq_true rfl) dX5_readChain_50 (fun u_6 hw_7 => ?_)
          refine j_eq (ws2 := [(e0, .inr (1, [.int y3_e0_0, .int e_nests, .ref e1, .ref e2, .ref e3])), (e1, .inl (cyI, 1000, .inl g3_e1)), (r0, .inr (5, [.ref t0, .ref e0, .ref r1, .ref r2, .ref a0, .int r_habits, .int y3_r0_6])), (t0, .inr (8, [.ref t1, .int t_length, .int y3_t0_2, .int y3_t0_3, .int y3_t0_4, .int y3_t0_5])), (t1, .inl (cyC, 1000, .inl t_text))]) (pc2 := 53) (lv2 := [(5, .int x3_5), (4, .int 1), (3, .int x3_3), (0, .ref r0), (1, .int 1), (2, .int 4)]) (st2 := [.int (u_6.2.1 0)]) rfl rfl rfl rfl ?_
          obtain ⟨hw_7_0, hw_7_1, hw_7_2⟩ := hw_7
          refine j_istore (pc := 53) (lv' := [(6, .int (u_6.2.1 0)), (5, .int x3_5), (4, .int 1), (3, .int x3_3), (0, .ref r0), (1, .int 1), (2, .int 4)]) C dX5_readChain_53 (by decide) rfl ?_
          refine j_iload (pc := 55) C dX5_readChain_55 0 rfl ?_
          refine j_bipush (pc := 57) (v := (-100)) C dX5_readChain_57 (by decide) ?_
          refine j_icmp_ne (pc := 59) (tgt := 64) C dX5_readChain_59 (by decide) (fun c_8 => ?_) (fun c_8 => ?_)
          · skip
            have el_m100 : ((-100) : Int32).toInt = (-100) := rfl
            rw [i_eq] at c_8
            refine j_aload_n (pc := 64) C dX5_readChain_64 rfl 4 rfl ?_
            refine j_get (pc := 65) (ci := 5) (v := .ref t0) C inw_5 2 rfl rfl 0 (by decide) wd_296 rfl rfl dX5_readChain_65 ?_
            refine j_callV (pc := 68) (As := []) (rest := []) (wr := [(e0, .inr (1, [.int y3_e0_0, .int e_nests, .ref e1, .ref e2, .ref e3])), (e1, .inl (cyI, 1000, .inl g3_e1)), (r0, .inr (5, [.ref t0, .ref e0, .ref r1, .ref r2, .ref a0, .int r_habits, .int y3_r0_6]))]) C (c_X8_advance_f l D cyC cyI cyJ cyZ cyO t0 t1 t_length y3_t0_2 y3_t0_3 y3_t0_4 y3_t0_5 t_text (by omega) (by omega) (by omega) (by omega) h_t_text) wd_277 wd_258 wd_304 wd_279 wd_280 ⟨by decide, by decide, rfl⟩ rfl ⟨rfl, rfl, by decide, by decide⟩ ⟨by decide, by decide⟩ [3, 4] [0, 1, 2] rfl rfl ⟨by decide, by decide, by decide⟩ 3 rfl rfl rfl (Nat.le_of_ble_eq_true rfl) dX5_readChain_68 (fun u_9 hw_10 => ?_)
            refine j_eq (ws2 := [(e0, .inr (1, [.int y3_e0_0, .int e_nests, .ref e1, .ref e2, .ref e3])), (e1, .inl (cyI, 1000, .inl g3_e1)), (r0, .inr (5, [.ref t0, .ref e0, .ref r1, .ref r2, .ref a0, .int r_habits, .int y3_r0_6])), (t0, .inr (8, [.ref t1, .int t_length, .int (u_9.2.1 0), .int (u_9.2.1 1), .int (u_9.2.1 2), .int (u_9.2.1 3)])), (t1, .inl (cyC, 1000, .inl t_text))]) (pc2 := 71) (lv2 := [(6, .int (u_6.2.1 0)), (5, .int x3_5), (4, .int 1), (3, .int x3_3), (0, .ref r0), (1, .int 1), (2, .int 4)]) (st2 := []) rfl rfl rfl rfl ?_
            obtain ⟨hw_10_0, hw_10_1, hw_10_2, hw_10_3, hw_10_4, hw_10_5⟩ := hw_10
            have ha_u_9 := (hw_10_5).trans (TH.adv hq_3_0)
            have hj9 : jnt (TKS t_text (t_length).toInt.toNat) 1 (y3_t0_4).toInt.toNat = true := by rcases hw_7_2 with z | z; (exfalso; omega); exact z.2
            have hg9 := jnt_gt (PT_TKS (f := t_text) (n := (t_length).toInt.toNat) (by omega)) hj9
            have hga9 := ha_u_9
            refine j_aload_n (pc := 71) C dX5_readChain_71 rfl 4 rfl ?_
            refine j_iload_n (pc := 72) C dX5_readChain_72 rfl 5 rfl ?_
            refine j_iconst (pc := 73) (v := 1) C dX5_readChain_73 (by decide) ?_
            refine j_iadd (pc := 74) (v := 2) C dX5_readChain_74 (by decide) ?_
            refine j_iload_n (pc := 75) C dX5_readChain_75 rfl 6 rfl ?_
            refine j_callV (pc := 76) (As := [.int 2, .int 4]) (rest := []) (wr := []) C (c_X5_readChain_2_4 l D cyC cyI cyJ cyZ cyO r0 t0 t1 e0 e1 r1 r2 a0 e2 e3 r_habits y3_r0_6 t_length (u_9.2.1 0) (u_9.2.1 1) (u_9.2.1 2) (u_9.2.1 3) y3_e0_0 e_nests t_text g3_e1 (by omega) (by omega) (by omega) (by omega) (by omega) (by omega) h_t_text (by omega) hw_10_4 (by omega)) wd_340 wd_306 wd_341 wd_342 wd_343 ⟨by decide, by decide, rfl⟩ rfl ⟨rfl, rfl, by decide, by decide⟩ ⟨by decide, by decide⟩ [2, 3, 4, 0, 1] [] rfl rfl ⟨by decide, by decide, by decide⟩ 2 rfl rfl rfl (Nat.le_of_ble_eq_true rfl) dX5_readChain_76 (fun u_11 hw_12 => ?_)
            refine j_eq (ws2 := [(r0, .inr (5, [.ref t0, .ref e0, .ref r1, .ref r2, .ref a0, .int r_habits, .int (u_11.2.1 1)])), (t0, .inr (8, [.ref t1, .int t_length, .int (u_11.2.1 2), .int (u_11.2.1 3), .int (u_11.2.1 4), .int (u_11.2.1 5)])), (t1, .inl (cyC, 1000, .inl t_text)), (e0, .inr (1, [.int (u_11.2.1 6), .int e_nests, .ref e1, .ref e2, .ref e3])), (e1, .inl (cyI, 1000, .inl (u_11.2.2.1 0)))]) (pc2 := 79) (lv2 := [(6, .int (u_6.2.1 0)), (5, .int x3_5), (4, .int 1), (3, .int x3_3), (0, .ref r0), (1, .int 1), (2, .int 4)]) (st2 := [.int (u_11.2.1 0)]) rfl rfl rfl rfl ?_
            obtain ⟨hw_12_0, hw_12_1, hw_12_2, hw_12_3, hw_12_4, hw_12_5, hw_12_6, hw_12_7, hw_12_8, hw_12_9, hw_12_10⟩ := hw_12
            refine j_istore_n (pc := 79) (lv' := [(3, .int (u_11.2.1 0)), (6, .int (u_6.2.1 0)), (5, .int x3_5), (4, .int 1), (0, .ref r0), (1, .int 1), (2, .int 4)]) C dX5_readChain_79 rfl (by decide) rfl ?_
            refine j_aload_n (pc := 80) C dX5_readChain_80 rfl 4 rfl ?_
            refine j_get (pc := 81) (ci := 5) (v := .ref e0) C inw_5 0 rfl rfl 1 (by decide) wd_344 rfl rfl dX5_readChain_81 ?_
            refine j_iload (pc := 84) C dX5_readChain_84 1 rfl ?_
            refine j_callV (pc := 86) (As := [.int (u_6.2.1 0)]) (rest := []) (wr := [(r0, .inr (5, [.ref t0, .ref e0, .ref r1, .ref r2, .ref a0, .int r_habits, .int (u_11.2.1 1)])), (t0, .inr (8, [.ref t1, .int t_length, .int (u_11.2.1 2), .int (u_11.2.1 3), .int (u_11.2.1 4), .int (u_11.2.1 5)])), (t1, .inl (cyC, 1000, .inl t_text))]) C (c_X1_add l D cyC cyI cyJ cyZ cyO e0 e1 e2 e3 (u_6.2.1 0) (u_11.2.1 6) e_nests (u_11.2.2.1 0) (by omega) (by omega)) wd_345 wd_200 wd_346 wd_347 wd_348 ⟨by decide, by decide, rfl⟩ rfl ⟨rfl, rfl, by decide, by decide⟩ ⟨by decide, by decide⟩ [3, 4] [0, 1, 2] rfl rfl ⟨by decide, by decide, by decide⟩ 3 rfl rfl rfl (Nat.le_of_ble_eq_true rfl) dX5_readChain_86 (fun u_13 hw_14 => ?_)
            refine j_eq (ws2 := [(r0, .inr (5, [.ref t0, .ref e0, .ref r1, .ref r2, .ref a0, .int r_habits, .int (u_11.2.1 1)])), (t0, .inr (8, [.ref t1, .int t_length, .int (u_11.2.1 2), .int (u_11.2.1 3), .int (u_11.2.1 4), .int (u_11.2.1 5)])), (t1, .inl (cyC, 1000, .inl t_text)), (e0, .inr (1, [.int (u_13.2.1 0), .int e_nests, .ref e1, .ref e2, .ref e3])), (e1, .inl (cyI, 1000, .inl (u_13.2.2.1 0)))]) (pc2 := 89) (lv2 := [(3, .int (u_11.2.1 0)), (6, .int (u_6.2.1 0)), (5, .int x3_5), (4, .int 1), (0, .ref r0), (1, .int 1), (2, .int 4)]) (st2 := []) rfl rfl rfl rfl ?_
            obtain ⟨hw_14_0, hw_14_1, hw_14_2, hw_14_3, hw_14_4⟩ := hw_14
            obtain ⟨v_15, ev_15⟩ : ∃ z : Int32, x3_5 + 1 = z := ⟨_, rfl⟩
            have el_1 : (1 : Int32).toInt = 1 := rfl
            have hv_15 : v_15.toInt = x3_5.toInt + (1 : Int32).toInt := by rw [← ev_15]; exact fb_addI (by omega) (by omega)
            refine j_iinc (pc := 89) (v := v_15) (lv' := [(5, .int v_15), (3, .int (u_11.2.1 0)), (6, .int (u_6.2.1 0)), (4, .int 1), (0, .ref r0), (1, .int 1), (2, .int 4)]) C dX5_readChain_89 2 rfl ev_15 (by decide) rfl ?_
            refine j_goto (pc := 92) (tgt := 37) C dX5_readChain_92 (by decide) ?_
            exact j_lv [0, 3, 1, 4, 5, 6] rfl (ih_3 v_15 (u_11.2.1 0) (u_11.2.1 1) (u_11.2.1 2) (u_11.2.1 3) (u_11.2.1 4) (u_11.2.1 5) (u_13.2.1 0) (u_13.2.2.1 0) (by omega) (by omega) (by omega) (by omega) (by omega) (by omega) (by omega) hw_12_9 (CH.step (k := (1 - (v_15).toInt).toNat) (by rw [show (1 - (v_15).toInt).toNat + 1 = (1 - (x3_5).toInt).toNat from (by omega)]; exact hq_3_1) (by omega) (by rcases hw_7_2 with z | z; omega; exact z.2) ha_u_9 hw_12_10) (fun z => CHV.step (k := (1 - (v_15).toInt).toNat) (by rw [show (1 - (v_15).toInt).toNat + 1 = (1 - (x3_5).toInt).toNat from (by omega)]; exact hq_3_2 (by omega)) hj9 hga9 ((hw_12_10).1 (by omega)).1 (hw_12_8 (by omega)) (hw_14_4 (by omega)) (hw_7_1 hj9) (jcd_lt _ _ _) (by have y9 := hw_14_3 (by omega); omega)) (by omega))
          · skip
            have el_m100 : ((-100) : Int32).toInt = (-100) := rfl
            rw [i_eq] at c_8
            refine j_iconst (pc := 62) (v := 1) C dX5_readChain_62 (by decide) ?_
            have el_1 : (1 : Int32).toInt = 1 := rfl
            have el_1 : (1 : Int32).toInt = 1 := rfl
            have el_1 : (1 : Int32).toInt = 1 := rfl
            have el_1 : (1 : Int32).toInt = 1 := rfl
            have el_1 : (1 : Int32).toInt = 1 := rfl
            have el_1 : (1 : Int32).toInt = 1 := rfl
            have el_1 : (1 : Int32).toInt = 1 := rfl
            exact j_zret (pc := 63) C hr rfl hk (fun i => [].getD i 0, fun i => [1, y3_r0_6, y3_t0_2, y3_t0_3, y3_t0_4, y3_t0_5, y3_e0_0].getD i 0, fun i => [g3_e1].getD i (fun _ => 0), fun i => [].getD i (fun _ => 0)) rfl (show (0 ≤ ((1 : Int32)).toInt ∧ ((1 : Int32)).toInt ≤ 1) ∧ (0 ≤ (y3_t0_2).toInt ∧ (y3_t0_2).toInt ≤ 1000) ∧ (0 ≤ (y3_t0_3).toInt ∧ (y3_t0_3).toInt ≤ 4) ∧ (0 ≤ (y3_t0_4).toInt ∧ (y3_t0_4).toInt ≤ 1000) ∧ (0 ≤ (y3_e0_0).toInt ∧ (y3_e0_0).toInt ≤ 1000) ∧ (¬ (y3_t0_3).toInt = 3 ∨ (y3_t0_4).toInt ≤ 999) ∧ ((e_size).toInt ≤ (y3_e0_0).toInt) ∧ ((y3_e0_0).toInt + (t_place).toInt ≤ (e_size).toInt + (y3_t0_4).toInt) ∧ (IM (((1 : Int32)).toInt = 1) (CG e_steps g3_e1 (e_size).toInt.toNat (y3_e0_0).toInt.toNat 8 (vLv (TKS t_text (t_length).toInt.toNat) (rPt (TKS t_text (t_length).toInt.toNat) 1) (vPt (TKS t_text (t_length).toInt.toNat) 1) 3 (t_place).toInt.toNat))) ∧ (TH t_text (t_length).toInt.toNat (y3_t0_2).toInt (y3_t0_3).toInt (y3_t0_4).toInt (y3_t0_5).toInt) ∧ (CP ((1 : Int32)).toInt (y3_t0_4).toInt (y3_r0_6).toInt (r_fault).toInt (rLv (TKS t_text (t_length).toInt.toNat) (rPt (TKS t_text (t_length).toInt.toNat) 1) 3 (t_place).toInt.toNat)) from ⟨by omega, by omega, by omega, by omega, by omega, by omega, by omega, by omega, (fun z => CHV.stop (hq_3_2 (by omega)) (Or.inr (by rcases hw_7_2 with z | z; (rw [z.2]; decide); omega))), hq_3_0, (CP.ok (by omega) ((CH.stop hq_3_1 (fun _ => Or.inr (by rcases hw_7_2 with z | z; (rw [z.2]; decide); omega))).1 (by omega)).2 ((CH.stop hq_3_1 (fun _ => Or.inr (by rcases hw_7_2 with z | z; (rw [z.2]; decide); omega))).1 (by omega)).1)⟩) [2, 3, 4, 0, 1] (by decide) rfl (by decide) (by decide) dX5_readChain_63
  have el_0 : (0 : Int32).toInt = 0 := rfl
  exact j_lv [0, 1, 2, 3, 4, 5] rfl (loop_3 4096 0 (u_1.2.1 0) (u_1.2.1 1) (u_1.2.1 2) (u_1.2.1 3) (u_1.2.1 4) (u_1.2.1 5) (u_1.2.1 6) (u_1.2.2.1 0) (by decide) (by omega) (by omega) (by omega) (by omega) (by omega) (by omega) hw_2_9 (by rw [rLv3, show (1 - (0 : Int32).toInt).toNat = 1 from by decide]; exact CH.start hw_2_10) (fun z => by rw [show (1 - (0 : Int32).toInt).toNat = 1 from by decide]; exact CHV.start (hw_2_8 (by omega)) ((hw_2_10).1 (by omega)).1) (by omega))
set_option maxHeartbeats 4000000 in
set_option maxRecDepth 100000 in
theorem c_X5_readChain_0_4 (l : Launch) (D : DG) (cyC cyI cyJ cyZ cyO : ClassId) (r0 : Nat) (t0 : Nat) (t1 : Nat) (e0 : Nat) (e1 : Nat) (r1 : Nat) (r2 : Nat) (a0 : Nat) (e2 : Nat) (e3 : Nat) (r_habits : Int32) (r_fault : Int32) (t_length : Int32) (t_next : Int32) (t_kind : Int32) (t_place : Int32) (t_number : Int32) (e_size : Int32) (e_nests : Int32) (t_text : Nat → Int32) (e_steps : Nat → Int32) (h_t_length : 0 ≤ (t_length).toInt ∧ (t_length).toInt ≤ 1000) (h_t_next : 0 ≤ (t_next).toInt ∧ (t_next).toInt ≤ 1000) (h_t_kind : 0 ≤ (t_kind).toInt ∧ (t_kind).toInt ≤ 4) (h_t_place : 0 ≤ (t_place).toInt ∧ (t_place).toInt ≤ 1000) (h_e_size : 0 ≤ (e_size).toInt ∧ (e_size).toInt ≤ 1000) (h_e_nests : 0 ≤ (e_nests).toInt ∧ (e_nests).toInt ≤ 4) (h_t_text : Iv 1000 (0) (126) t_text) (ht3 : ¬ (t_kind).toInt = 3 ∨ (t_place).toInt ≤ 999) (hTH : TH t_text (t_length).toInt.toNat (t_next).toInt (t_kind).toInt (t_place).toInt (t_number).toInt) (hsz6 : (e_size).toInt ≤ (t_place).toInt) : KK l D (TY cyC cyI cyJ cyZ cyO) yX5_readChain cX5_readChain 7 (some .boolean) ({ frames := 17, cells := 0, slots := 0, locals := 411 } : Room) 0 0 [.ref r0, .int 0, .int 4] [(r0, .inr (5, [.ref t0, .ref e0, .ref r1, .ref r2, .ref a0, .int r_habits, .int r_fault])), (t0, .inr (8, [.ref t1, .int t_length, .int t_next, .int t_kind, .int t_place, .int t_number])), (t1, .inl (cyC, 1000, .inl t_text)), (e0, .inr (1, [.int e_size, .int e_nests, .ref e1, .ref e2, .ref e3])), (e1, .inl (cyI, 1000, .inl e_steps))] (fun u => some (.int (u.2.1 0))) (fun u => (0 ≤ (u.2.1 0).toInt ∧ (u.2.1 0).toInt ≤ 1) ∧ (0 ≤ (u.2.1 2).toInt ∧ (u.2.1 2).toInt ≤ 1000) ∧ (0 ≤ (u.2.1 3).toInt ∧ (u.2.1 3).toInt ≤ 4) ∧ (0 ≤ (u.2.1 4).toInt ∧ (u.2.1 4).toInt ≤ 1000) ∧ (0 ≤ (u.2.1 6).toInt ∧ (u.2.1 6).toInt ≤ 1000) ∧ (¬ ((u.2.1 3)).toInt = 3 ∨ ((u.2.1 4)).toInt ≤ 999) ∧ ((e_size).toInt ≤ ((u.2.1 6)).toInt) ∧ (((u.2.1 6)).toInt + (t_place).toInt ≤ (e_size).toInt + ((u.2.1 4)).toInt) ∧ (IM (((u.2.1 0)).toInt = 1) (CG e_steps (u.2.2.1 0) (e_size).toInt.toNat ((u.2.1 6)).toInt.toNat 9 (vLv (TKS t_text (t_length).toInt.toNat) (rPt (TKS t_text (t_length).toInt.toNat) 1) (vPt (TKS t_text (t_length).toInt.toNat) 1) 4 (t_place).toInt.toNat))) ∧ (TH t_text (t_length).toInt.toNat ((u.2.1 2)).toInt ((u.2.1 3)).toInt ((u.2.1 4)).toInt ((u.2.1 5)).toInt) ∧ (CP ((u.2.1 0)).toInt ((u.2.1 4)).toInt ((u.2.1 1)).toInt (r_fault).toInt (rLv (TKS t_text (t_length).toInt.toNat) (rPt (TKS t_text (t_length).toInt.toNat) 1) 4 (t_place).toInt.toNat))) (fun u => [(r0, .inr (5, [.ref t0, .ref e0, .ref r1, .ref r2, .ref a0, .int r_habits, .int (u.2.1 1)])), (t0, .inr (8, [.ref t1, .int t_length, .int (u.2.1 2), .int (u.2.1 3), .int (u.2.1 4), .int (u.2.1 5)])), (t1, .inl (cyC, 1000, .inl t_text)), (e0, .inr (1, [.int (u.2.1 6), .int e_nests, .ref e1, .ref e2, .ref e3])), (e1, .inl (cyI, 1000, .inl (u.2.2.1 0)))]) := by
  refine KK.of (lv0 := [(0, .ref r0), (1, .int 0), (2, .int 4)]) (by decide) rfl (Nat.le_of_ble_eq_true rfl) ?_
  intro p e s m args below meth c A C hr hk hin
  refine j_iload_n (pc := 0) C dX5_readChain_0 rfl 1 rfl ?_
  refine j_iconst (pc := 1) (v := 4) C dX5_readChain_1 (by decide) ?_
  refine j_icmp_lt_t (pc := 2) (tgt := 11) C dX5_readChain_2 (by decide) (by decide) ?_
  refine j_aload_n (pc := 11) C dX5_readChain_11 rfl 0 rfl ?_
  refine j_iload_n (pc := 12) C dX5_readChain_12 rfl 1 rfl ?_
  refine j_iconst (pc := 13) (v := 1) C dX5_readChain_13 (by decide) ?_
  refine j_iadd (pc := 14) (v := 1) C dX5_readChain_14 (by decide) ?_
  refine j_iload_n (pc := 15) C dX5_readChain_15 rfl 2 rfl ?_
  refine j_callV (pc := 16) (As := [.int 1, .int 4]) (rest := []) (wr := []) C (c_X5_readChain_1_4 l D cyC cyI cyJ cyZ cyO r0 t0 t1 e0 e1 r1 r2 a0 e2 e3 r_habits r_fault t_length t_next t_kind t_place t_number e_size e_nests t_text e_steps (by omega) (by omega) (by omega) (by omega) (by omega) (by omega) h_t_text (by omega) hTH (by omega)) wd_340 wd_306 wd_341 wd_342 wd_343 ⟨by decide, by decide, rfl⟩ rfl ⟨rfl, rfl, by decide, by decide⟩ ⟨by decide, by decide⟩ [0, 1, 2, 3, 4] [] rfl rfl ⟨by decide, by decide, by decide⟩ 0 rfl rfl rfl (Nat.le_of_ble_eq_true rfl) dX5_readChain_16 (fun u_1 hw_2 => ?_)
  refine j_eq (ws2 := [(r0, .inr (5, [.ref t0, .ref e0, .ref r1, .ref r2, .ref a0, .int r_habits, .int (u_1.2.1 1)])), (t0, .inr (8, [.ref t1, .int t_length, .int (u_1.2.1 2), .int (u_1.2.1 3), .int (u_1.2.1 4), .int (u_1.2.1 5)])), (t1, .inl (cyC, 1000, .inl t_text)), (e0, .inr (1, [.int (u_1.2.1 6), .int e_nests, .ref e1, .ref e2, .ref e3])), (e1, .inl (cyI, 1000, .inl (u_1.2.2.1 0)))]) (pc2 := 19) (lv2 := [(0, .ref r0), (1, .int 0), (2, .int 4)]) (st2 := [.int (u_1.2.1 0)]) rfl rfl rfl rfl ?_
  obtain ⟨hw_2_0, hw_2_1, hw_2_2, hw_2_3, hw_2_4, hw_2_5, hw_2_6, hw_2_7, hw_2_8, hw_2_9, hw_2_10⟩ := hw_2
  refine j_istore_n (pc := 19) (lv' := [(3, .int (u_1.2.1 0)), (0, .ref r0), (1, .int 0), (2, .int 4)]) C dX5_readChain_19 rfl (by decide) rfl ?_
  refine j_iload_n (pc := 20) C dX5_readChain_20 rfl 2 rfl ?_
  refine j_iconst (pc := 21) (v := 1) C dX5_readChain_21 (by decide) ?_
  refine j_icmp_ne_t (pc := 22) (tgt := 29) C dX5_readChain_22 (by decide) (by decide) ?_
  refine j_sipush (pc := 29) (v := 1000) C dX5_readChain_29 (by decide) ?_
  refine j_istore (pc := 32) (lv' := [(4, .int 1000), (3, .int (u_1.2.1 0)), (0, .ref r0), (1, .int 0), (2, .int 4)]) C dX5_readChain_32 (by decide) rfl ?_
  refine j_iconst (pc := 34) (v := 0) C dX5_readChain_34 (by decide) ?_
  refine j_istore (pc := 35) (lv' := [(5, .int 0), (4, .int 1000), (3, .int (u_1.2.1 0)), (0, .ref r0), (1, .int 0), (2, .int 4)]) C dX5_readChain_35 (by decide) rfl ?_
  have loop_3 : ∀ (k_3 : Nat) (x3_5 : Int32) (x3_3 : Int32) (y3_r0_6 : Int32) (y3_t0_2 : Int32) (y3_t0_3 : Int32) (y3_t0_4 : Int32) (y3_t0_5 : Int32) (y3_e0_0 : Int32) (g3_e1 : Nat → Int32), (0 ≤ (x3_5).toInt ∧ (x3_5).toInt ≤ 1000) → (0 ≤ (x3_3).toInt ∧ (x3_3).toInt ≤ 1) → (0 ≤ (y3_t0_2).toInt ∧ (y3_t0_2).toInt ≤ 1000) → (0 ≤ (y3_t0_3).toInt ∧ (y3_t0_3).toInt ≤ 4) → (0 ≤ (y3_t0_4).toInt ∧ (y3_t0_4).toInt ≤ 1000) → (0 ≤ (y3_e0_0).toInt ∧ (y3_e0_0).toInt ≤ 1000) → ((¬ y3_t0_3.toInt = 3 ∨ y3_t0_4.toInt ≤ 999) ∧ (e_size).toInt ≤ y3_e0_0.toInt ∧ y3_e0_0.toInt + (t_place).toInt ≤ (e_size).toInt + y3_t0_4.toInt) → (TH t_text (t_length).toInt.toNat y3_t0_2.toInt y3_t0_3.toInt y3_t0_4.toInt y3_t0_5.toInt) → (CH (TKS t_text (t_length).toInt.toNat) (rLv (TKS t_text (t_length).toInt.toNat) (rPt (TKS t_text (t_length).toInt.toNat) 1) 3) (jnt (TKS t_text (t_length).toInt.toNat) 0) (1000 - x3_5.toInt).toNat x3_3.toInt y3_t0_4.toInt y3_r0_6.toInt (r_fault).toInt (rLv (TKS t_text (t_length).toInt.toNat) (rPt (TKS t_text (t_length).toInt.toNat) 1) 4 (t_place).toInt.toNat)) → (IM (x3_3.toInt = 1) (CHV (TKS t_text (t_length).toInt.toNat) e_steps g3_e1 (e_size).toInt.toNat (y3_e0_0.toInt).toNat 9 (rLv (TKS t_text (t_length).toInt.toNat) (rPt (TKS t_text (t_length).toInt.toNat) 1) 3) (vLv (TKS t_text (t_length).toInt.toNat) (rPt (TKS t_text (t_length).toInt.toNat) 1) (vPt (TKS t_text (t_length).toInt.toNat) 1) 3) (jnt (TKS t_text (t_length).toInt.toNat) 0) (jcd (TKS t_text (t_length).toInt.toNat) 0) (1000 - x3_5.toInt).toNat (y3_t0_4.toInt).toNat (vLv (TKS t_text (t_length).toInt.toNat) (rPt (TKS t_text (t_length).toInt.toNat) 1) (vPt (TKS t_text (t_length).toInt.toNat) 1) 4 (t_place).toInt.toNat))) → (1000 - x3_5.toInt).toNat < k_3 → J p l e ({ frames := 17, cells := 0, slots := 0, locals := 411 } : Room) s m args below meth c D A 7 0 0 (QX below D (TY cyC cyI cyJ cyZ cyO) A (fun u => some (.int (u.2.1 0))) (fun u => (0 ≤ (u.2.1 0).toInt ∧ (u.2.1 0).toInt ≤ 1) ∧ (0 ≤ (u.2.1 2).toInt ∧ (u.2.1 2).toInt ≤ 1000) ∧ (0 ≤ (u.2.1 3).toInt ∧ (u.2.1 3).toInt ≤ 4) ∧ (0 ≤ (u.2.1 4).toInt ∧ (u.2.1 4).toInt ≤ 1000) ∧ (0 ≤ (u.2.1 6).toInt ∧ (u.2.1 6).toInt ≤ 1000) ∧ (¬ ((u.2.1 3)).toInt = 3 ∨ ((u.2.1 4)).toInt ≤ 999) ∧ ((e_size).toInt ≤ ((u.2.1 6)).toInt) ∧ (((u.2.1 6)).toInt + (t_place).toInt ≤ (e_size).toInt + ((u.2.1 4)).toInt) ∧ (IM (((u.2.1 0)).toInt = 1) (CG e_steps (u.2.2.1 0) (e_size).toInt.toNat ((u.2.1 6)).toInt.toNat 9 (vLv (TKS t_text (t_length).toInt.toNat) (rPt (TKS t_text (t_length).toInt.toNat) 1) (vPt (TKS t_text (t_length).toInt.toNat) 1) 4 (t_place).toInt.toNat))) ∧ (TH t_text (t_length).toInt.toNat ((u.2.1 2)).toInt ((u.2.1 3)).toInt ((u.2.1 4)).toInt ((u.2.1 5)).toInt) ∧ (CP ((u.2.1 0)).toInt ((u.2.1 4)).toInt ((u.2.1 1)).toInt (r_fault).toInt (rLv (TKS t_text (t_length).toInt.toNat) (rPt (TKS t_text (t_length).toInt.toNat) 1) 4 (t_place).toInt.toNat))) (fun u => [(r0, .inr (5, [.ref t0, .ref e0, .ref r1, .ref r2, .ref a0, .int r_habits, .int (u.2.1 1)])), (t0, .inr (8, [.ref t1, .int t_length, .int (u.2.1 2), .int (u.2.1 3), .int (u.2.1 4), .int (u.2.1 5)])), (t1, .inl (cyC, 1000, .inl t_text)), (e0, .inr (1, [.int (u.2.1 6), .int e_nests, .ref e1, .ref e2, .ref e3])), (e1, .inl (cyI, 1000, .inl (u.2.2.1 0)))]) args s 0 0) [(r0, .inr (5, [.ref t0, .ref e0, .ref r1, .ref r2, .ref a0, .int r_habits, .int y3_r0_6])), (t0, .inr (8, [.ref t1, .int t_length, .int y3_t0_2, .int y3_t0_3, .int y3_t0_4, .int y3_t0_5])), (t1, .inl (cyC, 1000, .inl t_text)), (e0, .inr (1, [.int y3_e0_0, .int e_nests, .ref e1, .ref e2, .ref e3])), (e1, .inl (cyI, 1000, .inl g3_e1))] 37 [(5, .int x3_5), (4, .int 1000), (3, .int x3_3), (0, .ref r0), (1, .int 0), (2, .int 4)] [] := by
    intro k_3
    induction k_3 with
    | zero =>
      intro x3_5 x3_3 y3_r0_6 y3_t0_2 y3_t0_3 y3_t0_4 y3_t0_5 y3_e0_0 g3_e1 hi_3_0 hi_3_1 hi_3_3 hi_3_4 hi_3_5 hi_3_7 hr_3 hq_3_0 hq_3_1 hq_3_2 hm_3
      exact absurd hm_3 (Nat.not_lt_zero _)
    | succ k_3 ih_3 =>
      intro x3_5 x3_3 y3_r0_6 y3_t0_2 y3_t0_3 y3_t0_4 y3_t0_5 y3_e0_0 g3_e1 hi_3_0 hi_3_1 hi_3_3 hi_3_4 hi_3_5 hi_3_7 hr_3 hq_3_0 hq_3_1 hq_3_2 hm_3
      refine j_iload (pc := 37) C dX5_readChain_37 0 rfl ?_
      refine j_iload (pc := 39) C dX5_readChain_39 1 rfl ?_
      refine j_icmp_ge (pc := 41) (tgt := 95) C dX5_readChain_41 (by decide) (fun c_4 => ?_) (fun c_4 => ?_)
      · skip
        have el_1000 : (1000 : Int32).toInt = 1000 := rfl
        rw [i_le] at c_4
        have k0c_4 : x3_5.toInt = 1000 := by omega
        refine j_iload_n (pc := 95) C dX5_readChain_95 rfl 2 rfl ?_
        exact j_zret (pc := 96) C hr (nb_01 ⟨by omega, by omega⟩).1 hk (fun i => [].getD i 0, fun i => [x3_3, y3_r0_6, y3_t0_2, y3_t0_3, y3_t0_4, y3_t0_5, y3_e0_0].getD i 0, fun i => [g3_e1].getD i (fun _ => 0), fun i => [].getD i (fun _ => 0)) rfl (show (0 ≤ (x3_3).toInt ∧ (x3_3).toInt ≤ 1) ∧ (0 ≤ (y3_t0_2).toInt ∧ (y3_t0_2).toInt ≤ 1000) ∧ (0 ≤ (y3_t0_3).toInt ∧ (y3_t0_3).toInt ≤ 4) ∧ (0 ≤ (y3_t0_4).toInt ∧ (y3_t0_4).toInt ≤ 1000) ∧ (0 ≤ (y3_e0_0).toInt ∧ (y3_e0_0).toInt ≤ 1000) ∧ (¬ (y3_t0_3).toInt = 3 ∨ (y3_t0_4).toInt ≤ 999) ∧ ((e_size).toInt ≤ (y3_e0_0).toInt) ∧ ((y3_e0_0).toInt + (t_place).toInt ≤ (e_size).toInt + (y3_t0_4).toInt) ∧ (IM ((x3_3).toInt = 1) (CG e_steps g3_e1 (e_size).toInt.toNat (y3_e0_0).toInt.toNat 9 (vLv (TKS t_text (t_length).toInt.toNat) (rPt (TKS t_text (t_length).toInt.toNat) 1) (vPt (TKS t_text (t_length).toInt.toNat) 1) 4 (t_place).toInt.toNat))) ∧ (TH t_text (t_length).toInt.toNat (y3_t0_2).toInt (y3_t0_3).toInt (y3_t0_4).toInt (y3_t0_5).toInt) ∧ (CP (x3_3).toInt (y3_t0_4).toInt (y3_r0_6).toInt (r_fault).toInt (rLv (TKS t_text (t_length).toInt.toNat) (rPt (TKS t_text (t_length).toInt.toNat) 1) 4 (t_place).toInt.toNat)) from ⟨by omega, by omega, by omega, by omega, by omega, by omega, by omega, by omega, (fun z => CHV.stop (hq_3_2 (by omega)) (Or.inl (by omega))), hq_3_0, (CH.stop hq_3_1 (fun z => Or.inl (by omega)))⟩) [0, 1, 2, 3, 4] (by decide) rfl (by decide) (by decide) dX5_readChain_96
      · skip
        have el_1000 : (1000 : Int32).toInt = 1000 := rfl
        rw [i_le] at c_4
        refine j_iload_n (pc := 44) C dX5_readChain_44 rfl 2 rfl ?_
        refine j_if_eq (pc := 45) (tgt := 95) C dX5_readChain_45 (by decide) (fun c_5 => ?_) (fun c_5 => ?_)
        · skip
          have el_0 : (0 : Int32).toInt = 0 := rfl
          rw [i_eq] at c_5
          refine j_iload_n (pc := 95) C dX5_readChain_95 rfl 2 rfl ?_
          exact j_zret (pc := 96) C hr (nb_01 ⟨by omega, by omega⟩).1 hk (fun i => [].getD i 0, fun i => [x3_3, y3_r0_6, y3_t0_2, y3_t0_3, y3_t0_4, y3_t0_5, y3_e0_0].getD i 0, fun i => [g3_e1].getD i (fun _ => 0), fun i => [].getD i (fun _ => 0)) rfl (show (0 ≤ (x3_3).toInt ∧ (x3_3).toInt ≤ 1) ∧ (0 ≤ (y3_t0_2).toInt ∧ (y3_t0_2).toInt ≤ 1000) ∧ (0 ≤ (y3_t0_3).toInt ∧ (y3_t0_3).toInt ≤ 4) ∧ (0 ≤ (y3_t0_4).toInt ∧ (y3_t0_4).toInt ≤ 1000) ∧ (0 ≤ (y3_e0_0).toInt ∧ (y3_e0_0).toInt ≤ 1000) ∧ (¬ (y3_t0_3).toInt = 3 ∨ (y3_t0_4).toInt ≤ 999) ∧ ((e_size).toInt ≤ (y3_e0_0).toInt) ∧ ((y3_e0_0).toInt + (t_place).toInt ≤ (e_size).toInt + (y3_t0_4).toInt) ∧ (IM ((x3_3).toInt = 1) (CG e_steps g3_e1 (e_size).toInt.toNat (y3_e0_0).toInt.toNat 9 (vLv (TKS t_text (t_length).toInt.toNat) (rPt (TKS t_text (t_length).toInt.toNat) 1) (vPt (TKS t_text (t_length).toInt.toNat) 1) 4 (t_place).toInt.toNat))) ∧ (TH t_text (t_length).toInt.toNat (y3_t0_2).toInt (y3_t0_3).toInt (y3_t0_4).toInt (y3_t0_5).toInt) ∧ (CP (x3_3).toInt (y3_t0_4).toInt (y3_r0_6).toInt (r_fault).toInt (rLv (TKS t_text (t_length).toInt.toNat) (rPt (TKS t_text (t_length).toInt.toNat) 1) 4 (t_place).toInt.toNat)) from ⟨by omega, by omega, by omega, by omega, by omega, by omega, by omega, by omega, (fun z => absurd z (by omega)), hq_3_0, (CH.stop hq_3_1 (fun z => absurd z (by omega)))⟩) [0, 1, 2, 3, 4] (by decide) rfl (by decide) (by decide) dX5_readChain_96
        · skip
          have el_0 : (0 : Int32).toInt = 0 := rfl
          rw [i_eq] at c_5
          have k0c_5 : x3_3.toInt = 1 := by omega
          refine j_aload_n (pc := 48) C dX5_readChain_48 rfl 3 rfl ?_
          refine j_iload_n (pc := 49) C dX5_readChain_49 rfl 4 rfl ?_
          refine j_callV (pc := 50) (As := [.int 0]) (rest := []) (wr := [(e0, .inr (1, [.int y3_e0_0, .int e_nests, .ref e1, .ref e2, .ref e3])), (e1, .inl (cyI, 1000, .inl g3_e1))]) C (c_X5_joint_0 l D cyC cyI cyJ cyZ cyO r0 t0 t1 e0 r1 r2 a0 r_habits y3_r0_6 t_length y3_t0_2 y3_t0_3 y3_t0_4 y3_t0_5 t_text (by omega) (by omega) (by omega) (by omega) h_t_text (by omega) hq_3_0) wd_349 wd_306 wd_350 wd_351 wd_352 ⟨by decide, by decide, rfl⟩ rfl ⟨rfl, rfl, by decide, by decide⟩ ⟨by decide, by decide⟩ [0, 1, 2] [3, 4] rfl rfl ⟨by decide, by decide, by decide⟩ 0 rfl rfl rfl (Nat.le_of_ble_eq_true rfl) dX5_readChain_50 (fun u_6 hw_7 => ?_)
          refine j_eq (ws2 := [(e0, .inr (1, [.int y3_e0_0, .int e_nests, .ref e1, .ref e2, .ref e3])), (e1, .inl (cyI, 1000, .inl g3_e1)), (r0, .inr (5, [.ref t0, .ref e0, .ref r1, .ref r2, .ref a0, .int r_habits, .int y3_r0_6])), (t0, .inr (8, [.ref t1, .int t_length, .int y3_t0_2, .int y3_t0_3, .int y3_t0_4, .int y3_t0_5])), (t1, .inl (cyC, 1000, .inl t_text))]) (pc2 := 53) (lv2 := [(5, .int x3_5), (4, .int 1000), (3, .int x3_3), (0, .ref r0), (1, .int 0), (2, .int 4)]) (st2 := [.int (u_6.2.1 0)]) rfl rfl rfl rfl ?_
          obtain ⟨hw_7_0, hw_7_1, hw_7_2⟩ := hw_7
          refine j_istore (pc := 53) (lv' := [(6, .int (u_6.2.1 0)), (5, .int x3_5), (4, .int 1000), (3, .int x3_3), (0, .ref r0), (1, .int 0), (2, .int 4)]) C dX5_readChain_53 (by decide) rfl ?_
          refine j_iload (pc := 55) C dX5_readChain_55 0 rfl ?_
          refine j_bipush (pc := 57) (v := (-100)) C dX5_readChain_57 (by decide) ?_
          refine j_icmp_ne (pc := 59) (tgt := 64) C dX5_readChain_59 (by decide) (fun c_8 => ?_) (fun c_8 => ?_)
          · skip
            have el_m100 : ((-100) : Int32).toInt = (-100) := rfl
            rw [i_eq] at c_8
            refine j_aload_n (pc := 64) C dX5_readChain_64 rfl 4 rfl ?_
            refine j_get (pc := 65) (ci := 5) (v := .ref t0) C inw_5 2 rfl rfl 0 (by decide) wd_296 rfl rfl dX5_readChain_65 ?_
            refine j_callV (pc := 68) (As := []) (rest := []) (wr := [(e0, .inr (1, [.int y3_e0_0, .int e_nests, .ref e1, .ref e2, .ref e3])), (e1, .inl (cyI, 1000, .inl g3_e1)), (r0, .inr (5, [.ref t0, .ref e0, .ref r1, .ref r2, .ref a0, .int r_habits, .int y3_r0_6]))]) C (c_X8_advance_f l D cyC cyI cyJ cyZ cyO t0 t1 t_length y3_t0_2 y3_t0_3 y3_t0_4 y3_t0_5 t_text (by omega) (by omega) (by omega) (by omega) h_t_text) wd_277 wd_258 wd_304 wd_279 wd_280 ⟨by decide, by decide, rfl⟩ rfl ⟨rfl, rfl, by decide, by decide⟩ ⟨by decide, by decide⟩ [3, 4] [0, 1, 2] rfl rfl ⟨by decide, by decide, by decide⟩ 3 rfl rfl rfl (Nat.le_of_ble_eq_true rfl) dX5_readChain_68 (fun u_9 hw_10 => ?_)
            refine j_eq (ws2 := [(e0, .inr (1, [.int y3_e0_0, .int e_nests, .ref e1, .ref e2, .ref e3])), (e1, .inl (cyI, 1000, .inl g3_e1)), (r0, .inr (5, [.ref t0, .ref e0, .ref r1, .ref r2, .ref a0, .int r_habits, .int y3_r0_6])), (t0, .inr (8, [.ref t1, .int t_length, .int (u_9.2.1 0), .int (u_9.2.1 1), .int (u_9.2.1 2), .int (u_9.2.1 3)])), (t1, .inl (cyC, 1000, .inl t_text))]) (pc2 := 71) (lv2 := [(6, .int (u_6.2.1 0)), (5, .int x3_5), (4, .int 1000), (3, .int x3_3), (0, .ref r0), (1, .int 0), (2, .int 4)]) (st2 := []) rfl rfl rfl rfl ?_
            obtain ⟨hw_10_0, hw_10_1, hw_10_2, hw_10_3, hw_10_4, hw_10_5⟩ := hw_10
            have ha_u_9 := (hw_10_5).trans (TH.adv hq_3_0)
            have hj9 : jnt (TKS t_text (t_length).toInt.toNat) 0 (y3_t0_4).toInt.toNat = true := by rcases hw_7_2 with z | z; (exfalso; omega); exact z.2
            have hg9 := jnt_gt (PT_TKS (f := t_text) (n := (t_length).toInt.toNat) (by omega)) hj9
            have hga9 := ha_u_9
            refine j_aload_n (pc := 71) C dX5_readChain_71 rfl 4 rfl ?_
            refine j_iload_n (pc := 72) C dX5_readChain_72 rfl 5 rfl ?_
            refine j_iconst (pc := 73) (v := 1) C dX5_readChain_73 (by decide) ?_
            refine j_iadd (pc := 74) (v := 1) C dX5_readChain_74 (by decide) ?_
            refine j_iload_n (pc := 75) C dX5_readChain_75 rfl 6 rfl ?_
            refine j_callV (pc := 76) (As := [.int 1, .int 4]) (rest := []) (wr := []) C (c_X5_readChain_1_4 l D cyC cyI cyJ cyZ cyO r0 t0 t1 e0 e1 r1 r2 a0 e2 e3 r_habits y3_r0_6 t_length (u_9.2.1 0) (u_9.2.1 1) (u_9.2.1 2) (u_9.2.1 3) y3_e0_0 e_nests t_text g3_e1 (by omega) (by omega) (by omega) (by omega) (by omega) (by omega) h_t_text (by omega) hw_10_4 (by omega)) wd_340 wd_306 wd_341 wd_342 wd_343 ⟨by decide, by decide, rfl⟩ rfl ⟨rfl, rfl, by decide, by decide⟩ ⟨by decide, by decide⟩ [2, 3, 4, 0, 1] [] rfl rfl ⟨by decide, by decide, by decide⟩ 2 rfl rfl rfl (Nat.le_of_ble_eq_true rfl) dX5_readChain_76 (fun u_11 hw_12 => ?_)
            refine j_eq (ws2 := [(r0, .inr (5, [.ref t0, .ref e0, .ref r1, .ref r2, .ref a0, .int r_habits, .int (u_11.2.1 1)])), (t0, .inr (8, [.ref t1, .int t_length, .int (u_11.2.1 2), .int (u_11.2.1 3), .int (u_11.2.1 4), .int (u_11.2.1 5)])), (t1, .inl (cyC, 1000, .inl t_text)), (e0, .inr (1, [.int (u_11.2.1 6), .int e_nests, .ref e1, .ref e2, .ref e3])), (e1, .inl (cyI, 1000, .inl (u_11.2.2.1 0)))]) (pc2 := 79) (lv2 := [(6, .int (u_6.2.1 0)), (5, .int x3_5), (4, .int 1000), (3, .int x3_3), (0, .ref r0), (1, .int 0), (2, .int 4)]) (st2 := [.int (u_11.2.1 0)]) rfl rfl rfl rfl ?_
            obtain ⟨hw_12_0, hw_12_1, hw_12_2, hw_12_3, hw_12_4, hw_12_5, hw_12_6, hw_12_7, hw_12_8, hw_12_9, hw_12_10⟩ := hw_12
            refine j_istore_n (pc := 79) (lv' := [(3, .int (u_11.2.1 0)), (6, .int (u_6.2.1 0)), (5, .int x3_5), (4, .int 1000), (0, .ref r0), (1, .int 0), (2, .int 4)]) C dX5_readChain_79 rfl (by decide) rfl ?_
            refine j_aload_n (pc := 80) C dX5_readChain_80 rfl 4 rfl ?_
            refine j_get (pc := 81) (ci := 5) (v := .ref e0) C inw_5 0 rfl rfl 1 (by decide) wd_344 rfl rfl dX5_readChain_81 ?_
            refine j_iload (pc := 84) C dX5_readChain_84 1 rfl ?_
            refine j_callV (pc := 86) (As := [.int (u_6.2.1 0)]) (rest := []) (wr := [(r0, .inr (5, [.ref t0, .ref e0, .ref r1, .ref r2, .ref a0, .int r_habits, .int (u_11.2.1 1)])), (t0, .inr (8, [.ref t1, .int t_length, .int (u_11.2.1 2), .int (u_11.2.1 3), .int (u_11.2.1 4), .int (u_11.2.1 5)])), (t1, .inl (cyC, 1000, .inl t_text))]) C (c_X1_add l D cyC cyI cyJ cyZ cyO e0 e1 e2 e3 (u_6.2.1 0) (u_11.2.1 6) e_nests (u_11.2.2.1 0) (by omega) (by omega)) wd_345 wd_200 wd_346 wd_347 wd_348 ⟨by decide, by decide, rfl⟩ rfl ⟨rfl, rfl, by decide, by decide⟩ ⟨by decide, by decide⟩ [3, 4] [0, 1, 2] rfl rfl ⟨by decide, by decide, by decide⟩ 3 rfl rfl rfl (Nat.le_of_ble_eq_true rfl) dX5_readChain_86 (fun u_13 hw_14 => ?_)
            refine j_eq (ws2 := [(r0, .inr (5, [.ref t0, .ref e0, .ref r1, .ref r2, .ref a0, .int r_habits, .int (u_11.2.1 1)])), (t0, .inr (8, [.ref t1, .int t_length, .int (u_11.2.1 2), .int (u_11.2.1 3), .int (u_11.2.1 4), .int (u_11.2.1 5)])), (t1, .inl (cyC, 1000, .inl t_text)), (e0, .inr (1, [.int (u_13.2.1 0), .int e_nests, .ref e1, .ref e2, .ref e3])), (e1, .inl (cyI, 1000, .inl (u_13.2.2.1 0)))]) (pc2 := 89) (lv2 := [(3, .int (u_11.2.1 0)), (6, .int (u_6.2.1 0)), (5, .int x3_5), (4, .int 1000), (0, .ref r0), (1, .int 0), (2, .int 4)]) (st2 := []) rfl rfl rfl rfl ?_
            obtain ⟨hw_14_0, hw_14_1, hw_14_2, hw_14_3, hw_14_4⟩ := hw_14
            obtain ⟨v_15, ev_15⟩ : ∃ z : Int32, x3_5 + 1 = z := ⟨_, rfl⟩
            have el_1 : (1 : Int32).toInt = 1 := rfl
            have hv_15 : v_15.toInt = x3_5.toInt + (1 : Int32).toInt := by rw [← ev_15]; exact fb_addI (by omega) (by omega)
            refine j_iinc (pc := 89) (v := v_15) (lv' := [(5, .int v_15), (3, .int (u_11.2.1 0)), (6, .int (u_6.2.1 0)), (4, .int 1000), (0, .ref r0), (1, .int 0), (2, .int 4)]) C dX5_readChain_89 2 rfl ev_15 (by decide) rfl ?_
            refine j_goto (pc := 92) (tgt := 37) C dX5_readChain_92 (by decide) ?_
            exact j_lv [0, 3, 1, 4, 5, 6] rfl (ih_3 v_15 (u_11.2.1 0) (u_11.2.1 1) (u_11.2.1 2) (u_11.2.1 3) (u_11.2.1 4) (u_11.2.1 5) (u_13.2.1 0) (u_13.2.2.1 0) (by omega) (by omega) (by omega) (by omega) (by omega) (by omega) (by omega) hw_12_9 (CH.step (k := (1000 - (v_15).toInt).toNat) (by rw [show (1000 - (v_15).toInt).toNat + 1 = (1000 - (x3_5).toInt).toNat from (by omega)]; exact hq_3_1) (by omega) (by rcases hw_7_2 with z | z; omega; exact z.2) ha_u_9 hw_12_10) (fun z => CHV.step (k := (1000 - (v_15).toInt).toNat) (by rw [show (1000 - (v_15).toInt).toNat + 1 = (1000 - (x3_5).toInt).toNat from (by omega)]; exact hq_3_2 (by omega)) hj9 hga9 ((hw_12_10).1 (by omega)).1 (hw_12_8 (by omega)) (hw_14_4 (by omega)) (hw_7_1 hj9) (jcd_lt _ _ _) (by have y9 := hw_14_3 (by omega); omega)) (by omega))
          · skip
            have el_m100 : ((-100) : Int32).toInt = (-100) := rfl
            rw [i_eq] at c_8
            refine j_iconst (pc := 62) (v := 1) C dX5_readChain_62 (by decide) ?_
            have el_1 : (1 : Int32).toInt = 1 := rfl
            have el_1 : (1 : Int32).toInt = 1 := rfl
            have el_1 : (1 : Int32).toInt = 1 := rfl
            have el_1 : (1 : Int32).toInt = 1 := rfl
            have el_1 : (1 : Int32).toInt = 1 := rfl
            have el_1 : (1 : Int32).toInt = 1 := rfl
            have el_1 : (1 : Int32).toInt = 1 := rfl
            exact j_zret (pc := 63) C hr rfl hk (fun i => [].getD i 0, fun i => [1, y3_r0_6, y3_t0_2, y3_t0_3, y3_t0_4, y3_t0_5, y3_e0_0].getD i 0, fun i => [g3_e1].getD i (fun _ => 0), fun i => [].getD i (fun _ => 0)) rfl (show (0 ≤ ((1 : Int32)).toInt ∧ ((1 : Int32)).toInt ≤ 1) ∧ (0 ≤ (y3_t0_2).toInt ∧ (y3_t0_2).toInt ≤ 1000) ∧ (0 ≤ (y3_t0_3).toInt ∧ (y3_t0_3).toInt ≤ 4) ∧ (0 ≤ (y3_t0_4).toInt ∧ (y3_t0_4).toInt ≤ 1000) ∧ (0 ≤ (y3_e0_0).toInt ∧ (y3_e0_0).toInt ≤ 1000) ∧ (¬ (y3_t0_3).toInt = 3 ∨ (y3_t0_4).toInt ≤ 999) ∧ ((e_size).toInt ≤ (y3_e0_0).toInt) ∧ ((y3_e0_0).toInt + (t_place).toInt ≤ (e_size).toInt + (y3_t0_4).toInt) ∧ (IM (((1 : Int32)).toInt = 1) (CG e_steps g3_e1 (e_size).toInt.toNat (y3_e0_0).toInt.toNat 9 (vLv (TKS t_text (t_length).toInt.toNat) (rPt (TKS t_text (t_length).toInt.toNat) 1) (vPt (TKS t_text (t_length).toInt.toNat) 1) 4 (t_place).toInt.toNat))) ∧ (TH t_text (t_length).toInt.toNat (y3_t0_2).toInt (y3_t0_3).toInt (y3_t0_4).toInt (y3_t0_5).toInt) ∧ (CP ((1 : Int32)).toInt (y3_t0_4).toInt (y3_r0_6).toInt (r_fault).toInt (rLv (TKS t_text (t_length).toInt.toNat) (rPt (TKS t_text (t_length).toInt.toNat) 1) 4 (t_place).toInt.toNat)) from ⟨by omega, by omega, by omega, by omega, by omega, by omega, by omega, by omega, (fun z => CHV.stop (hq_3_2 (by omega)) (Or.inr (by rcases hw_7_2 with z | z; (rw [z.2]; decide); omega))), hq_3_0, (CP.ok (by omega) ((CH.stop hq_3_1 (fun _ => Or.inr (by rcases hw_7_2 with z | z; (rw [z.2]; decide); omega))).1 (by omega)).2 ((CH.stop hq_3_1 (fun _ => Or.inr (by rcases hw_7_2 with z | z; (rw [z.2]; decide); omega))).1 (by omega)).1)⟩) [2, 3, 4, 0, 1] (by decide) rfl (by decide) (by decide) dX5_readChain_63
  have el_0 : (0 : Int32).toInt = 0 := rfl
  exact j_lv [0, 1, 2, 3, 4, 5] rfl (loop_3 4096 0 (u_1.2.1 0) (u_1.2.1 1) (u_1.2.1 2) (u_1.2.1 3) (u_1.2.1 4) (u_1.2.1 5) (u_1.2.1 6) (u_1.2.2.1 0) (by decide) (by omega) (by omega) (by omega) (by omega) (by omega) (by omega) hw_2_9 (by rw [rLv4, show (1000 - (0 : Int32).toInt).toNat = 1000 from by decide]; exact CH.start hw_2_10) (fun z => by rw [show (1000 - (0 : Int32).toInt).toNat = 1000 from by decide]; exact CHV.start (hw_2_8 (by omega)) ((hw_2_10).1 (by omega)).1) (by omega))
