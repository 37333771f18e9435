set_option maxHeartbeats 4000000 in
set_option maxRecDepth 100000 in
theorem c_X5_readPart_1 (l : Launch) (D : DG) (cyC cyI cyJ cyZ cyO : ClassId) (r0 : Nat) (t0 : Nat) (t1 : Nat) (e0 : Nat) (e1 : Nat) (r1 : Nat) (r2 : Nat) (a0 : Nat) (e2 : Nat) (e3 : Nat) (r_habits : Int32) (r_fault : Int32) (t_length : Int32) (t_next : Int32) (t_kind : Int32) (t_place : Int32) (t_number : Int32) (e_size : Int32) (e_nests : Int32) (t_text : Nat → Int32) (e_steps : Nat → Int32) (h_t_length : 0 ≤ (t_length).toInt ∧ (t_length).toInt ≤ 1000) (h_t_next : 0 ≤ (t_next).toInt ∧ (t_next).toInt ≤ 1000) (h_t_kind : 0 ≤ (t_kind).toInt ∧ (t_kind).toInt ≤ 4) (h_t_place : 0 ≤ (t_place).toInt ∧ (t_place).toInt ≤ 1000) (h_e_size : 0 ≤ (e_size).toInt ∧ (e_size).toInt ≤ 1000) (h_e_nests : 0 ≤ (e_nests).toInt ∧ (e_nests).toInt ≤ 4) (h_t_text : Iv 1000 (0) (126) t_text) (ht3 : ¬ (t_kind).toInt = 3 ∨ (t_place).toInt ≤ 999) (hTH : TH t_text (t_length).toInt.toNat (t_next).toInt (t_kind).toInt (t_place).toInt (t_number).toInt) : KK l D (TY cyC cyI cyJ cyZ cyO) yX5_readPart cX5_readPart 6 (some .boolean) ({ frames := 30, cells := 0, slots := 0, locals := 747 } : Room) 0 0 [.ref r0, .int 1] [(r0, .inr (5, [.ref t0, .ref e0, .ref r1, .ref r2, .ref a0, .int r_habits, .int r_fault])), (t0, .inr (8, [.ref t1, .int t_length, .int t_next, .int t_kind, .int t_place, .int t_number])), (t1, .inl (cyC, 1000, .inl t_text)), (e0, .inr (1, [.int e_size, .int e_nests, .ref e1, .ref e2, .ref e3])), (e1, .inl (cyI, 1000, .inl e_steps))] (fun u => some (.int (u.2.1 0))) (fun u => (0 ≤ (u.2.1 0).toInt ∧ (u.2.1 0).toInt ≤ 1) ∧ (0 ≤ (u.2.1 2).toInt ∧ (u.2.1 2).toInt ≤ 1000) ∧ (0 ≤ (u.2.1 3).toInt ∧ (u.2.1 3).toInt ≤ 4) ∧ (0 ≤ (u.2.1 4).toInt ∧ (u.2.1 4).toInt ≤ 1000) ∧ (0 ≤ (u.2.1 6).toInt ∧ (u.2.1 6).toInt ≤ 1000) ∧ (¬ ((u.2.1 3)).toInt = 3 ∨ ((u.2.1 4)).toInt ≤ 999) ∧ (TH t_text (t_length).toInt.toNat ((u.2.1 2)).toInt ((u.2.1 3)).toInt ((u.2.1 4)).toInt ((u.2.1 5)).toInt) ∧ (CP ((u.2.1 0)).toInt ((u.2.1 4)).toInt ((u.2.1 1)).toInt (r_fault).toInt (rPt (TKS t_text (t_length).toInt.toNat) 4 (t_place).toInt.toNat))) (fun u => [(r0, .inr (5, [.ref t0, .ref e0, .ref r1, .ref r2, .ref a0, .int r_habits, .int (u.2.1 1)])), (t0, .inr (8, [.ref t1, .int t_length, .int (u.2.1 2), .int (u.2.1 3), .int (u.2.1 4), .int (u.2.1 5)])), (t1, .inl (cyC, 1000, .inl t_text)), (e0, .inr (1, [.int (u.2.1 6), .int e_nests, .ref e1, .ref e2, .ref e3])), (e1, .inl (cyI, 1000, .inl (u.2.2.1 0)))]) := by
  refine KK.of (lv0 := [(0, .ref r0), (1, .int 1)]) (by decide) rfl (Nat.le_of_ble_eq_true rfl) ?_
  intro p e s m args below meth c A C hr hk hin
  refine j_aload_n (pc := 0) C dX5_readPart_0 rfl 0 rfl ?_
  refine j_get (pc := 1) (ci := 5) (v := .ref t0) C inw_5 0 rfl rfl 0 (by decide) wd_296 rfl rfl dX5_readPart_1 ?_
  refine j_ldcS (pc := 4) (i := 18) C (by decide) rfl dX5_readPart_4 ?_
  refine j_callV (pc := 6) (As := [.ref (D.2.1 18)]) (rest := []) (wr := [(r0, .inr (5, [.ref t0, .ref e0, .ref r1, .ref r2, .ref a0, .int r_habits, .int r_fault])), (e0, .inr (1, [.int e_size, .int e_nests, .ref e1, .ref e2, .ref e3])), (e1, .inl (cyI, 1000, .inl e_steps))]) C (c_X8_isWord_f l D cyC cyI cyJ cyZ cyO t0 t1 18 t_length t_next t_kind t_place t_number t_text (by omega) (by omega) (by omega) (by omega) h_t_text (by decide) ⟨by decide, by decide, by decide⟩ hTH) wd_288 wd_258 wd_312 wd_290 wd_291 ⟨by decide, by decide, rfl⟩ rfl ⟨rfl, rfl, by decide, by decide⟩ ⟨by decide, by decide⟩ [1, 2] [0, 3, 4] rfl rfl ⟨by decide, by decide, by decide⟩ 1 rfl rfl rfl (Nat.le_of_ble_eq_true rfl) dX5_readPart_6 (fun u_1 hw_2 => ?_)
  refine j_eq (ws2 := [(r0, .inr (5, [.ref t0, .ref e0, .ref r1, .ref r2, .ref a0, .int r_habits, .int r_fault])), (e0, .inr (1, [.int e_size, .int e_nests, .ref e1, .ref e2, .ref e3])), (e1, .inl (cyI, 1000, .inl e_steps)), (t0, .inr (8, [.ref t1, .int t_length, .int t_next, .int t_kind, .int t_place, .int t_number])), (t1, .inl (cyC, 1000, .inl t_text))]) (pc2 := 9) (lv2 := [(0, .ref r0), (1, .int 1)]) (st2 := [.int (u_1.2.1 0)]) rfl rfl rfl rfl ?_
  obtain ⟨hw_2_0, hw_2_1⟩ := hw_2
  have hW_u_1 : (u_1.2.1 0).toInt = wI (TKS t_text (t_length).toInt.toNat) (t_place).toInt.toNat (WN 14) := by rw [← wnE_18]; exact hw_2_1
  refine j_istore_n (pc := 9) (lv' := [(2, .int (u_1.2.1 0)), (0, .ref r0), (1, .int 1)]) C dX5_readPart_9 rfl (by decide) rfl ?_
  refine j_aload_n (pc := 10) C dX5_readPart_10 rfl 1 rfl ?_
  refine j_get (pc := 11) (ci := 5) (v := .ref t0) C inw_5 0 rfl rfl 0 (by decide) wd_296 rfl rfl dX5_readPart_11 ?_
  refine j_bipush (pc := 14) (v := 40) C dX5_readPart_14 (by decide) ?_
  refine j_callV (pc := 16) (As := [.int 40]) (rest := []) (wr := [(r0, .inr (5, [.ref t0, .ref e0, .ref r1, .ref r2, .ref a0, .int r_habits, .int r_fault])), (e0, .inr (1, [.int e_size, .int e_nests, .ref e1, .ref e2, .ref e3])), (e1, .inl (cyI, 1000, .inl e_steps))]) C (c_X8_isSign_f l D cyC cyI cyJ cyZ cyO t0 t1 40 t_length t_next t_kind t_place t_number t_text (by omega) (by omega) (by omega) (by omega) h_t_text (by omega) hTH) wd_300 wd_258 wd_301 wd_302 wd_303 ⟨by decide, by decide, rfl⟩ rfl ⟨rfl, rfl, by decide, by decide⟩ ⟨by decide, by decide⟩ [3, 4] [0, 1, 2] rfl rfl ⟨by decide, by decide, by decide⟩ 3 rfl rfl rfl (Nat.le_of_ble_eq_true rfl) dX5_readPart_16 (fun u_3 hw_4 => ?_)
  refine j_eq (ws2 := [(r0, .inr (5, [.ref t0, .ref e0, .ref r1, .ref r2, .ref a0, .int r_habits, .int r_fault])), (e0, .inr (1, [.int e_size, .int e_nests, .ref e1, .ref e2, .ref e3])), (e1, .inl (cyI, 1000, .inl e_steps)), (t0, .inr (8, [.ref t1, .int t_length, .int t_next, .int t_kind, .int t_place, .int t_number])), (t1, .inl (cyC, 1000, .inl t_text))]) (pc2 := 19) (lv2 := [(2, .int (u_1.2.1 0)), (0, .ref r0), (1, .int 1)]) (st2 := [.int (u_3.2.1 0)]) rfl rfl rfl rfl ?_
  obtain ⟨hw_4_0, hw_4_1⟩ := hw_4
  refine j_istore_n (pc := 19) (lv' := [(3, .int (u_3.2.1 0)), (2, .int (u_1.2.1 0)), (0, .ref r0), (1, .int 1)]) C dX5_readPart_19 rfl (by decide) rfl ?_
  refine j_aload_n (pc := 20) C dX5_readPart_20 rfl 2 rfl ?_
  refine j_get (pc := 21) (ci := 5) (v := .ref t0) C inw_5 0 rfl rfl 0 (by decide) wd_296 rfl rfl dX5_readPart_21 ?_
  refine j_get (pc := 24) (ci := 8) (v := .int t_kind) C inw_8 3 rfl rfl 3 (by decide) wd_310 rfl rfl dX5_readPart_24 ?_
  refine j_iconst (pc := 27) (v := 2) C dX5_readPart_27 (by decide) ?_
  refine j_icmp_ne (pc := 28) (tgt := 41) C dX5_readPart_28 (by decide) (fun c_5 => ?_) (fun c_5 => ?_)
  · skip
    have el_2 : (2 : Int32).toInt = 2 := rfl
    rw [i_eq] at c_5
    refine j_aload_n (pc := 41) C dX5_readPart_41 rfl 2 rfl ?_
    refine j_callV (pc := 42) (As := []) (rest := []) (wr := [(e0, .inr (1, [.int e_size, .int e_nests, .ref e1, .ref e2, .ref e3])), (e1, .inl (cyI, 1000, .inl e_steps))]) C (c_X5_fact l D cyC cyI cyJ cyZ cyO r0 t0 t1 e0 r1 r2 a0 r_habits r_fault t_length t_next t_kind t_place t_number t_text (by omega) (by omega) (by omega) (by omega) h_t_text hTH) wd_332 wd_306 wd_333 wd_334 wd_335 ⟨by decide, by decide, rfl⟩ rfl ⟨rfl, rfl, by decide, by decide⟩ ⟨by decide, by decide⟩ [0, 3, 4] [1, 2] rfl rfl ⟨by decide, by decide, by decide⟩ 0 rfl rfl rfl (Nat.le_of_ble_eq_true rfl) dX5_readPart_42 (fun u_6 hw_7 => ?_)
    refine j_eq (ws2 := [(e0, .inr (1, [.int e_size, .int e_nests, .ref e1, .ref e2, .ref e3])), (e1, .inl (cyI, 1000, .inl e_steps)), (r0, .inr (5, [.ref t0, .ref e0, .ref r1, .ref r2, .ref a0, .int r_habits, .int r_fault])), (t0, .inr (8, [.ref t1, .int t_length, .int t_next, .int t_kind, .int t_place, .int t_number])), (t1, .inl (cyC, 1000, .inl t_text))]) (pc2 := 45) (lv2 := [(3, .int (u_3.2.1 0)), (2, .int (u_1.2.1 0)), (0, .ref r0), (1, .int 1)]) (st2 := [.int (u_6.2.1 0)]) rfl rfl rfl rfl ?_
    obtain ⟨hw_7_0, hw_7_1⟩ := hw_7
    refine j_istore (pc := 45) (lv' := [(4, .int (u_6.2.1 0)), (3, .int (u_3.2.1 0)), (2, .int (u_1.2.1 0)), (0, .ref r0), (1, .int 1)]) C dX5_readPart_45 (by decide) rfl ?_
    refine j_iload_n (pc := 47) C dX5_readPart_47 rfl 2 rfl ?_
    refine j_if_ne (pc := 48) (tgt := 68) C dX5_readPart_48 (by decide) (fun c_8 => ?_) (fun c_8 => ?_)
    · skip
      have el_0 : (0 : Int32).toInt = 0 := rfl
      rw [i_eq] at c_8
      refine j_iload_n (pc := 68) C dX5_readPart_68 rfl 4 rfl ?_
      refine j_iconst (pc := 69) (v := 5) C dX5_readPart_69 (by decide) ?_
      refine j_icmp_lt_t (pc := 70) (tgt := 79) C dX5_readPart_70 (by decide) (by decide) ?_
      refine j_aload_n (pc := 79) C dX5_readPart_79 rfl 3 rfl ?_
      refine j_get (pc := 80) (ci := 5) (v := .ref t0) C inw_5 2 rfl rfl 0 (by decide) wd_296 rfl rfl dX5_readPart_80 ?_
      refine j_callV (pc := 83) (As := []) (rest := []) (wr := [(e0, .inr (1, [.int e_size, .int e_nests, .ref e1, .ref e2, .ref e3])), (e1, .inl (cyI, 1000, .inl e_steps)), (r0, .inr (5, [.ref t0, .ref e0, .ref r1, .ref r2, .ref a0, .int r_habits, .int r_fault]))]) C (c_X8_advance_f l D cyC cyI cyJ cyZ cyO t0 t1 t_length t_next t_kind t_place t_number t_text (by omega) (by omega) (by omega) (by omega) h_t_text) wd_277 wd_258 wd_304 wd_279 wd_280 ⟨by decide, by decide, rfl⟩ rfl ⟨rfl, rfl, by decide, by decide⟩ ⟨by decide, by decide⟩ [3, 4] [0, 1, 2] rfl rfl ⟨by decide, by decide, by decide⟩ 3 rfl rfl rfl (Nat.le_of_ble_eq_true rfl) dX5_readPart_83 (fun u_9 hw_10 => ?_)
      refine j_eq (ws2 := [(e0, .inr (1, [.int e_size, .int e_nests, .ref e1, .ref e2, .ref e3])), (e1, .inl (cyI, 1000, .inl e_steps)), (r0, .inr (5, [.ref t0, .ref e0, .ref r1, .ref r2, .ref a0, .int r_habits, .int r_fault])), (t0, .inr (8, [.ref t1, .int t_length, .int (u_9.2.1 0), .int (u_9.2.1 1), .int (u_9.2.1 2), .int (u_9.2.1 3)])), (t1, .inl (cyC, 1000, .inl t_text))]) (pc2 := 86) (lv2 := [(4, .int (u_6.2.1 0)), (3, .int (u_3.2.1 0)), (2, .int (u_1.2.1 0)), (0, .ref r0), (1, .int 1)]) (st2 := []) rfl rfl rfl rfl ?_
      obtain ⟨hw_10_0, hw_10_1, hw_10_2, hw_10_3, hw_10_4, hw_10_5⟩ := hw_10
      have ha_u_9 := (hw_10_5).trans (TH.adv hTH)
      refine j_iload_n (pc := 86) C dX5_readPart_86 rfl 1 rfl ?_
      refine j_if_eq (pc := 87) (tgt := 116) C dX5_readPart_87 (by decide) (fun c_11 => ?_) (fun c_11 => ?_)
      · skip
        have el_0 : (0 : Int32).toInt = 0 := rfl
        rw [i_eq] at c_11
        refine j_iload_n (pc := 116) C dX5_readPart_116 rfl 2 rfl ?_
        have el_0 : (0 : Int32).toInt = 0 := rfl
        refine j_if_eq_f (pc := 117) (tgt := 130) C dX5_readPart_117 (by decide) (by rw [i_eq]; omega) ?_
        refine j_aload_n (pc := 120) C dX5_readPart_120 rfl 3 rfl ?_
        refine j_iload_n (pc := 121) C dX5_readPart_121 rfl 4 rfl ?_
        refine j_iconst (pc := 122) (v := 1) C dX5_readPart_122 (by decide) ?_
        refine j_iadd (pc := 123) (v := 2) C dX5_readPart_123 (by decide) ?_
        refine j_callV (pc := 124) (As := [.int 2]) (rest := []) (wr := []) C (c_X5_readPart_2 l D cyC cyI cyJ cyZ cyO r0 t0 t1 e0 e1 r1 r2 a0 e2 e3 r_habits r_fault t_length (u_9.2.1 0) (u_9.2.1 1) (u_9.2.1 2) (u_9.2.1 3) e_size e_nests t_text e_steps (by omega) (by omega) (by omega) (by omega) (by omega) (by omega) h_t_text (by omega) hw_10_4) wd_336 wd_306 wd_337 wd_338 wd_339 ⟨by decide, by decide, rfl⟩ rfl ⟨rfl, rfl, by decide, by decide⟩ ⟨by decide, by decide⟩ [2, 3, 4, 0, 1] [] rfl rfl ⟨by decide, by decide, by decide⟩ 2 rfl rfl rfl (Nat.le_of_ble_eq_true rfl) dX5_readPart_124 (fun u_12 hw_13 => ?_)
        refine j_eq (ws2 := [(r0, .inr (5, [.ref t0, .ref e0, .ref r1, .ref r2, .ref a0, .int r_habits, .int (u_12.2.1 1)])), (t0, .inr (8, [.ref t1, .int t_length, .int (u_12.2.1 2), .int (u_12.2.1 3), .int (u_12.2.1 4), .int (u_12.2.1 5)])), (t1, .inl (cyC, 1000, .inl t_text)), (e0, .inr (1, [.int (u_12.2.1 6), .int e_nests, .ref e1, .ref e2, .ref e3])), (e1, .inl (cyI, 1000, .inl (u_12.2.2.1 0)))]) (pc2 := 127) (lv2 := [(4, .int (u_6.2.1 0)), (3, .int (u_3.2.1 0)), (2, .int (u_1.2.1 0)), (0, .ref r0), (1, .int 1)]) (st2 := [.int (u_12.2.1 0)]) rfl rfl rfl rfl ?_
        obtain ⟨hw_13_0, hw_13_1, hw_13_2, hw_13_3, hw_13_4, hw_13_5, hw_13_6, hw_13_7⟩ := hw_13
        refine j_if_eq (pc := 127) (tgt := 134) C dX5_readPart_127 (by decide) (fun c_14 => ?_) (fun c_14 => ?_)
        · skip
          have el_0 : (0 : Int32).toInt = 0 := rfl
          rw [i_eq] at c_14
          refine j_iconst (pc := 134) (v := 0) C dX5_readPart_134 (by decide) ?_
          refine j_istore (pc := 135) (lv' := [(5, .int 0), (4, .int (u_6.2.1 0)), (3, .int (u_3.2.1 0)), (2, .int (u_1.2.1 0)), (0, .ref r0), (1, .int 1)]) C dX5_readPart_135 (by decide) rfl ?_
          refine j_aload_n (pc := 137) C dX5_readPart_137 rfl 4 rfl ?_
          refine j_get (pc := 138) (ci := 5) (v := .ref e0) C inw_5 0 rfl rfl 1 (by decide) wd_344 rfl rfl dX5_readPart_138 ?_
          refine j_iload_n (pc := 141) C dX5_readPart_141 rfl 3 rfl ?_
          have el_0 : (0 : Int32).toInt = 0 := rfl
          refine j_if_eq_f (pc := 142) (tgt := 150) C dX5_readPart_142 (by decide) (by rw [i_eq]; omega) ?_
          refine j_bipush (pc := 145) (v := (-9)) C dX5_readPart_145 (by decide) ?_
          refine j_goto (pc := 147) (tgt := 152) C dX5_readPart_147 (by decide) ?_
          refine j_callV (pc := 152) (As := [.int (-9)]) (rest := []) (wr := [(r0, .inr (5, [.ref t0, .ref e0, .ref r1, .ref r2, .ref a0, .int r_habits, .int (u_12.2.1 1)])), (t0, .inr (8, [.ref t1, .int t_length, .int (u_12.2.1 2), .int (u_12.2.1 3), .int (u_12.2.1 4), .int (u_12.2.1 5)])), (t1, .inl (cyC, 1000, .inl t_text))]) C (c_X1_add l D cyC cyI cyJ cyZ cyO e0 e1 e2 e3 (-9) (u_12.2.1 6) e_nests (u_12.2.2.1 0) (by omega) (by omega)) wd_345 wd_200 wd_346 wd_347 wd_348 ⟨by decide, by decide, rfl⟩ rfl ⟨rfl, rfl, by decide, by decide⟩ ⟨by decide, by decide⟩ [3, 4] [0, 1, 2] rfl rfl ⟨by decide, by decide, by decide⟩ 3 rfl rfl rfl (Nat.le_of_ble_eq_true rfl) dX5_readPart_152 (fun u_15 hw_16 => ?_)
          refine j_eq (ws2 := [(r0, .inr (5, [.ref t0, .ref e0, .ref r1, .ref r2, .ref a0, .int r_habits, .int (u_12.2.1 1)])), (t0, .inr (8, [.ref t1, .int t_length, .int (u_12.2.1 2), .int (u_12.2.1 3), .int (u_12.2.1 4), .int (u_12.2.1 5)])), (t1, .inl (cyC, 1000, .inl t_text)), (e0, .inr (1, [.int (u_15.2.1 0), .int e_nests, .ref e1, .ref e2, .ref e3])), (e1, .inl (cyI, 1000, .inl (u_15.2.2.1 0)))]) (pc2 := 155) (lv2 := [(5, .int 0), (4, .int (u_6.2.1 0)), (3, .int (u_3.2.1 0)), (2, .int (u_1.2.1 0)), (0, .ref r0), (1, .int 1)]) (st2 := []) rfl rfl rfl rfl ?_
          have hw_16_0 : 0 ≤ (u_15.2.1 0).toInt ∧ (u_15.2.1 0).toInt ≤ 1000 := hw_16
          refine j_iload (pc := 155) C dX5_readPart_155 0 rfl ?_
          have el_0 : (0 : Int32).toInt = 0 := rfl
          have el_0 : (0 : Int32).toInt = 0 := rfl
          have el_0 : (0 : Int32).toInt = 0 := rfl
          have el_0 : (0 : Int32).toInt = 0 := rfl
          exact j_zret (pc := 157) C hr rfl hk (fun i => [].getD i 0, fun i => [0, (u_12.2.1 1), (u_12.2.1 2), (u_12.2.1 3), (u_12.2.1 4), (u_12.2.1 5), (u_15.2.1 0)].getD i 0, fun i => [(u_15.2.2.1 0)].getD i (fun _ => 0), fun i => [].getD i (fun _ => 0)) rfl (show (0 ≤ ((0 : Int32)).toInt ∧ ((0 : Int32)).toInt ≤ 1) ∧ (0 ≤ ((u_12.2.1 2)).toInt ∧ ((u_12.2.1 2)).toInt ≤ 1000) ∧ (0 ≤ ((u_12.2.1 3)).toInt ∧ ((u_12.2.1 3)).toInt ≤ 4) ∧ (0 ≤ ((u_12.2.1 4)).toInt ∧ ((u_12.2.1 4)).toInt ≤ 1000) ∧ (0 ≤ ((u_15.2.1 0)).toInt ∧ ((u_15.2.1 0)).toInt ≤ 1000) ∧ (¬ ((u_12.2.1 3)).toInt = 3 ∨ ((u_12.2.1 4)).toInt ≤ 999) ∧ (TH t_text (t_length).toInt.toNat ((u_12.2.1 2)).toInt ((u_12.2.1 3)).toInt ((u_12.2.1 4)).toInt ((u_12.2.1 5)).toInt) ∧ (CP ((0 : Int32)).toInt ((u_12.2.1 4)).toInt ((u_12.2.1 1)).toInt (r_fault).toInt (rPt (TKS t_text (t_length).toInt.toNat) 4 (t_place).toInt.toNat)) from ⟨by omega, by omega, by omega, by omega, by omega, by omega, hw_13_6, (CP.bad (by omega) (by rw [rPt_s (d := 3)]; rw [if_pos (show canP (TKS t_text (t_length).toInt.toNat) (t_place).toInt.toNat = true from canP_iff.mpr (Or.inr (Or.inr (Or.inr (by omega))))), if_neg (show ¬ isG (TKS t_text (t_length).toInt.toNat) (t_place).toInt.toNat 40 = true from gI_0.mp (by omega)), if_pos (show isW (TKS t_text (t_length).toInt.toNat) (t_place).toInt.toNat (WN 14) = true from wI_1.mp (by omega)), ← ha_u_9]; exact (hw_13_7).2 (by omega)))⟩) [0, 1, 2, 3, 4] (by decide) rfl (by decide) (by decide) dX5_readPart_157
        · skip
          have el_0 : (0 : Int32).toInt = 0 := rfl
          rw [i_eq] at c_14
          refine j_iconst (pc := 130) (v := 1) C dX5_readPart_130 (by decide) ?_
          refine j_goto (pc := 131) (tgt := 135) C dX5_readPart_131 (by decide) ?_
          refine j_istore (pc := 135) (lv' := [(5, .int 1), (4, .int (u_6.2.1 0)), (3, .int (u_3.2.1 0)), (2, .int (u_1.2.1 0)), (0, .ref r0), (1, .int 1)]) C dX5_readPart_135 (by decide) rfl ?_
          refine j_aload_n (pc := 137) C dX5_readPart_137 rfl 4 rfl ?_
          refine j_get (pc := 138) (ci := 5) (v := .ref e0) C inw_5 0 rfl rfl 1 (by decide) wd_344 rfl rfl dX5_readPart_138 ?_
          refine j_iload_n (pc := 141) C dX5_readPart_141 rfl 3 rfl ?_
          have el_0 : (0 : Int32).toInt = 0 := rfl
          refine j_if_eq_f (pc := 142) (tgt := 150) C dX5_readPart_142 (by decide) (by rw [i_eq]; omega) ?_
          refine j_bipush (pc := 145) (v := (-9)) C dX5_readPart_145 (by decide) ?_
          refine j_goto (pc := 147) (tgt := 152) C dX5_readPart_147 (by decide) ?_
          refine j_callV (pc := 152) (As := [.int (-9)]) (rest := []) (wr := [(r0, .inr (5, [.ref t0, .ref e0, .ref r1, .ref r2, .ref a0, .int r_habits, .int (u_12.2.1 1)])), (t0, .inr (8, [.ref t1, .int t_length, .int (u_12.2.1 2), .int (u_12.2.1 3), .int (u_12.2.1 4), .int (u_12.2.1 5)])), (t1, .inl (cyC, 1000, .inl t_text))]) C (c_X1_add l D cyC cyI cyJ cyZ cyO e0 e1 e2 e3 (-9) (u_12.2.1 6) e_nests (u_12.2.2.1 0) (by omega) (by omega)) wd_345 wd_200 wd_346 wd_347 wd_348 ⟨by decide, by decide, rfl⟩ rfl ⟨rfl, rfl, by decide, by decide⟩ ⟨by decide, by decide⟩ [3, 4] [0, 1, 2] rfl rfl ⟨by decide, by decide, by decide⟩ 3 rfl rfl rfl (Nat.le_of_ble_eq_true rfl) dX5_readPart_152 (fun u_17 hw_18 => ?_)
          refine j_eq (ws2 := [(r0, .inr (5, [.ref t0, .ref e0, .ref r1, .ref r2, .ref a0, .int r_habits, .int (u_12.2.1 1)])), (t0, .inr (8, [.ref t1, .int t_length, .int (u_12.2.1 2), .int (u_12.2.1 3), .int (u_12.2.1 4), .int (u_12.2.1 5)])), (t1, .inl (cyC, 1000, .inl t_text)), (e0, .inr (1, [.int (u_17.2.1 0), .int e_nests, .ref e1, .ref e2, .ref e3])), (e1, .inl (cyI, 1000, .inl (u_17.2.2.1 0)))]) (pc2 := 155) (lv2 := [(5, .int 1), (4, .int (u_6.2.1 0)), (3, .int (u_3.2.1 0)), (2, .int (u_1.2.1 0)), (0, .ref r0), (1, .int 1)]) (st2 := []) rfl rfl rfl rfl ?_
          have hw_18_0 : 0 ≤ (u_17.2.1 0).toInt ∧ (u_17.2.1 0).toInt ≤ 1000 := hw_18
          refine j_iload (pc := 155) C dX5_readPart_155 0 rfl ?_
          have el_1 : (1 : Int32).toInt = 1 := rfl
          have el_1 : (1 : Int32).toInt = 1 := rfl
          have el_1 : (1 : Int32).toInt = 1 := rfl
          have el_1 : (1 : Int32).toInt = 1 := rfl
          exact j_zret (pc := 157) C hr rfl hk (fun i => [].getD i 0, fun i => [1, (u_12.2.1 1), (u_12.2.1 2), (u_12.2.1 3), (u_12.2.1 4), (u_12.2.1 5), (u_17.2.1 0)].getD i 0, fun i => [(u_17.2.2.1 0)].getD i (fun _ => 0), fun i => [].getD i (fun _ => 0)) rfl (show (0 ≤ ((1 : Int32)).toInt ∧ ((1 : Int32)).toInt ≤ 1) ∧ (0 ≤ ((u_12.2.1 2)).toInt ∧ ((u_12.2.1 2)).toInt ≤ 1000) ∧ (0 ≤ ((u_12.2.1 3)).toInt ∧ ((u_12.2.1 3)).toInt ≤ 4) ∧ (0 ≤ ((u_12.2.1 4)).toInt ∧ ((u_12.2.1 4)).toInt ≤ 1000) ∧ (0 ≤ ((u_17.2.1 0)).toInt ∧ ((u_17.2.1 0)).toInt ≤ 1000) ∧ (¬ ((u_12.2.1 3)).toInt = 3 ∨ ((u_12.2.1 4)).toInt ≤ 999) ∧ (TH t_text (t_length).toInt.toNat ((u_12.2.1 2)).toInt ((u_12.2.1 3)).toInt ((u_12.2.1 4)).toInt ((u_12.2.1 5)).toInt) ∧ (CP ((1 : Int32)).toInt ((u_12.2.1 4)).toInt ((u_12.2.1 1)).toInt (r_fault).toInt (rPt (TKS t_text (t_length).toInt.toNat) 4 (t_place).toInt.toNat)) from ⟨by omega, by omega, by omega, by omega, by omega, by omega, hw_13_6, (CP.ok (by omega) ((hw_13_7).1 (by omega)).2 (by rw [rPt_s (d := 3)]; rw [if_pos (show canP (TKS t_text (t_length).toInt.toNat) (t_place).toInt.toNat = true from canP_iff.mpr (Or.inr (Or.inr (Or.inr (by omega))))), if_neg (show ¬ isG (TKS t_text (t_length).toInt.toNat) (t_place).toInt.toNat 40 = true from gI_0.mp (by omega)), if_pos (show isW (TKS t_text (t_length).toInt.toNat) (t_place).toInt.toNat (WN 14) = true from wI_1.mp (by omega)), ← ha_u_9]; exact ((hw_13_7).1 (by omega)).1))⟩) [0, 1, 2, 3, 4] (by decide) rfl (by decide) (by decide) dX5_readPart_157
      · skip
        have el_0 : (0 : Int32).toInt = 0 := rfl
        rw [i_eq] at c_11
        refine j_aload_n (pc := 90) C dX5_readPart_90 rfl 3 rfl ?_
        refine j_iconst (pc := 91) (v := 0) C dX5_readPart_91 (by decide) ?_
        refine j_iload_n (pc := 92) C dX5_readPart_92 rfl 4 rfl ?_
        refine j_iconst (pc := 93) (v := 1) C dX5_readPart_93 (by decide) ?_
        refine j_iadd (pc := 94) (v := 2) C dX5_readPart_94 (by decide) ?_
        refine j_callV (pc := 95) (As := [.int 0, .int 2]) (rest := []) (wr := []) C (c_X5_readChain_0_2 l D cyC cyI cyJ cyZ cyO r0 t0 t1 e0 e1 r1 r2 a0 e2 e3 r_habits r_fault t_length (u_9.2.1 0) (u_9.2.1 1) (u_9.2.1 2) (u_9.2.1 3) e_size e_nests t_text e_steps (by omega) (by omega) (by omega) (by omega) (by omega) (by omega) h_t_text (by omega) hw_10_4) wd_340 wd_306 wd_341 wd_342 wd_343 ⟨by decide, by decide, rfl⟩ rfl ⟨rfl, rfl, by decide, by decide⟩ ⟨by decide, by decide⟩ [2, 3, 4, 0, 1] [] rfl rfl ⟨by decide, by decide, by decide⟩ 2 rfl rfl rfl (Nat.le_of_ble_eq_true rfl) dX5_readPart_95 (fun u_19 hw_20 => ?_)
        refine j_eq (ws2 := [(r0, .inr (5, [.ref t0, .ref e0, .ref r1, .ref r2, .ref a0, .int r_habits, .int (u_19.2.1 1)])), (t0, .inr (8, [.ref t1, .int t_length, .int (u_19.2.1 2), .int (u_19.2.1 3), .int (u_19.2.1 4), .int (u_19.2.1 5)])), (t1, .inl (cyC, 1000, .inl t_text)), (e0, .inr (1, [.int (u_19.2.1 6), .int e_nests, .ref e1, .ref e2, .ref e3])), (e1, .inl (cyI, 1000, .inl (u_19.2.2.1 0)))]) (pc2 := 98) (lv2 := [(4, .int (u_6.2.1 0)), (3, .int (u_3.2.1 0)), (2, .int (u_1.2.1 0)), (0, .ref r0), (1, .int 1)]) (st2 := [.int (u_19.2.1 0)]) rfl rfl rfl rfl ?_
        obtain ⟨hw_20_0, hw_20_1, hw_20_2, hw_20_3, hw_20_4, hw_20_5, hw_20_6, hw_20_7⟩ := hw_20
        refine j_if_eq (pc := 98) (tgt := 114) C dX5_readPart_98 (by decide) (fun c_21 => ?_) (fun c_21 => ?_)
        · skip
          have el_0 : (0 : Int32).toInt = 0 := rfl
          rw [i_eq] at c_21
          refine j_iconst (pc := 114) (v := 0) C dX5_readPart_114 (by decide) ?_
          have el_0 : (0 : Int32).toInt = 0 := rfl
          have el_0 : (0 : Int32).toInt = 0 := rfl
          have el_0 : (0 : Int32).toInt = 0 := rfl
          have el_0 : (0 : Int32).toInt = 0 := rfl
          exact j_zret (pc := 115) C hr rfl hk (fun i => [].getD i 0, fun i => [0, (u_19.2.1 1), (u_19.2.1 2), (u_19.2.1 3), (u_19.2.1 4), (u_19.2.1 5), (u_19.2.1 6)].getD i 0, fun i => [(u_19.2.2.1 0)].getD i (fun _ => 0), fun i => [].getD i (fun _ => 0)) rfl (show (0 ≤ ((0 : Int32)).toInt ∧ ((0 : Int32)).toInt ≤ 1) ∧ (0 ≤ ((u_19.2.1 2)).toInt ∧ ((u_19.2.1 2)).toInt ≤ 1000) ∧ (0 ≤ ((u_19.2.1 3)).toInt ∧ ((u_19.2.1 3)).toInt ≤ 4) ∧ (0 ≤ ((u_19.2.1 4)).toInt ∧ ((u_19.2.1 4)).toInt ≤ 1000) ∧ (0 ≤ ((u_19.2.1 6)).toInt ∧ ((u_19.2.1 6)).toInt ≤ 1000) ∧ (¬ ((u_19.2.1 3)).toInt = 3 ∨ ((u_19.2.1 4)).toInt ≤ 999) ∧ (TH t_text (t_length).toInt.toNat ((u_19.2.1 2)).toInt ((u_19.2.1 3)).toInt ((u_19.2.1 4)).toInt ((u_19.2.1 5)).toInt) ∧ (CP ((0 : Int32)).toInt ((u_19.2.1 4)).toInt ((u_19.2.1 1)).toInt (r_fault).toInt (rPt (TKS t_text (t_length).toInt.toNat) 4 (t_place).toInt.toNat)) from ⟨by omega, by omega, by omega, by omega, by omega, by omega, hw_20_6, (CP.bad (by omega) (by rw [rPt_s (d := 3)]; rw [if_pos (show canP (TKS t_text (t_length).toInt.toNat) (t_place).toInt.toNat = true from canP_iff.mpr (Or.inr (Or.inr (Or.inl (by omega))))), if_pos (show isG (TKS t_text (t_length).toInt.toNat) (t_place).toInt.toNat 40 = true from gI_1.mp (by omega)), ← ha_u_9]; rw [bnd_bad ((hw_20_7).2 (by omega)).2]; exact (hw_20_7).2 (by omega)))⟩) [0, 1, 2, 3, 4] (by decide) rfl (by decide) (by decide) dX5_readPart_115
        · skip
          have el_0 : (0 : Int32).toInt = 0 := rfl
          rw [i_eq] at c_21
          refine j_aload_n (pc := 101) C dX5_readPart_101 rfl 3 rfl ?_
          refine j_bipush (pc := 102) (v := 41) C dX5_readPart_102 (by decide) ?_
          refine j_callV (pc := 104) (As := [.int 41]) (rest := []) (wr := [(e0, .inr (1, [.int (u_19.2.1 6), .int e_nests, .ref e1, .ref e2, .ref e3])), (e1, .inl (cyI, 1000, .inl (u_19.2.2.1 0)))]) C (c_X5_readSign l D cyC cyI cyJ cyZ cyO r0 t0 t1 e0 r1 r2 a0 41 r_habits (u_19.2.1 1) t_length (u_19.2.1 2) (u_19.2.1 3) (u_19.2.1 4) (u_19.2.1 5) t_text (by omega) (by omega) (by omega) (by omega) h_t_text (by omega) hw_20_6) wd_353 wd_306 wd_354 wd_355 wd_356 ⟨by decide, by decide, rfl⟩ rfl ⟨rfl, rfl, by decide, by decide⟩ ⟨by decide, by decide⟩ [0, 1, 2] [3, 4] rfl rfl ⟨by decide, by decide, by decide⟩ 0 rfl rfl rfl (Nat.le_of_ble_eq_true rfl) dX5_readPart_104 (fun u_22 hw_23 => ?_)
          refine j_eq (ws2 := [(e0, .inr (1, [.int (u_19.2.1 6), .int e_nests, .ref e1, .ref e2, .ref e3])), (e1, .inl (cyI, 1000, .inl (u_19.2.2.1 0))), (r0, .inr (5, [.ref t0, .ref e0, .ref r1, .ref r2, .ref a0, .int r_habits, .int (u_22.2.1 1)])), (t0, .inr (8, [.ref t1, .int t_length, .int (u_22.2.1 2), .int (u_22.2.1 3), .int (u_22.2.1 4), .int (u_22.2.1 5)])), (t1, .inl (cyC, 1000, .inl t_text))]) (pc2 := 107) (lv2 := [(4, .int (u_6.2.1 0)), (3, .int (u_3.2.1 0)), (2, .int (u_1.2.1 0)), (0, .ref r0), (1, .int 1)]) (st2 := [.int (u_22.2.1 0)]) rfl rfl rfl rfl ?_
          obtain ⟨hw_23_0, hw_23_1, hw_23_2, hw_23_3, hw_23_4, hw_23_5, hw_23_6⟩ := hw_23
          refine j_if_eq (pc := 107) (tgt := 114) C dX5_readPart_107 (by decide) (fun c_24 => ?_) (fun c_24 => ?_)
          · skip
            have el_0 : (0 : Int32).toInt = 0 := rfl
            rw [i_eq] at c_24
            refine j_iconst (pc := 114) (v := 0) C dX5_readPart_114 (by decide) ?_
            have el_0 : (0 : Int32).toInt = 0 := rfl
            have el_0 : (0 : Int32).toInt = 0 := rfl
            have el_0 : (0 : Int32).toInt = 0 := rfl
            have el_0 : (0 : Int32).toInt = 0 := rfl
            exact j_zret (pc := 115) C hr rfl hk (fun i => [].getD i 0, fun i => [0, (u_22.2.1 1), (u_22.2.1 2), (u_22.2.1 3), (u_22.2.1 4), (u_22.2.1 5), (u_19.2.1 6)].getD i 0, fun i => [(u_19.2.2.1 0)].getD i (fun _ => 0), fun i => [].getD i (fun _ => 0)) rfl (show (0 ≤ ((0 : Int32)).toInt ∧ ((0 : Int32)).toInt ≤ 1) ∧ (0 ≤ ((u_22.2.1 2)).toInt ∧ ((u_22.2.1 2)).toInt ≤ 1000) ∧ (0 ≤ ((u_22.2.1 3)).toInt ∧ ((u_22.2.1 3)).toInt ≤ 4) ∧ (0 ≤ ((u_22.2.1 4)).toInt ∧ ((u_22.2.1 4)).toInt ≤ 1000) ∧ (0 ≤ ((u_19.2.1 6)).toInt ∧ ((u_19.2.1 6)).toInt ≤ 1000) ∧ (¬ ((u_22.2.1 3)).toInt = 3 ∨ ((u_22.2.1 4)).toInt ≤ 999) ∧ (TH t_text (t_length).toInt.toNat ((u_22.2.1 2)).toInt ((u_22.2.1 3)).toInt ((u_22.2.1 4)).toInt ((u_22.2.1 5)).toInt) ∧ (CP ((0 : Int32)).toInt ((u_22.2.1 4)).toInt ((u_22.2.1 1)).toInt (r_fault).toInt (rPt (TKS t_text (t_length).toInt.toNat) 4 (t_place).toInt.toNat)) from ⟨by omega, by omega, by omega, by omega, by omega, by omega, hw_23_5, (CP.bad (by omega) (by rw [rPt_s (d := 3)]; rw [if_pos (show canP (TKS t_text (t_length).toInt.toNat) (t_place).toInt.toNat = true from canP_iff.mpr (Or.inr (Or.inr (Or.inl (by omega))))), if_pos (show isG (TKS t_text (t_length).toInt.toNat) (t_place).toInt.toNat 40 = true from gI_1.mp (by omega)), ← ha_u_9]; rw [bnd_ok ((hw_20_7).1 (by omega)).1]; exact (hw_23_6).2 (by omega)))⟩) [2, 3, 4, 0, 1] (by decide) rfl (by decide) (by decide) dX5_readPart_115
          · skip
            have el_0 : (0 : Int32).toInt = 0 := rfl
            rw [i_eq] at c_24
            refine j_iconst (pc := 110) (v := 1) C dX5_readPart_110 (by decide) ?_
            refine j_goto (pc := 111) (tgt := 115) C dX5_readPart_111 (by decide) ?_
            have el_1 : (1 : Int32).toInt = 1 := rfl
            have el_1 : (1 : Int32).toInt = 1 := rfl
            have el_1 : (1 : Int32).toInt = 1 := rfl
            have el_1 : (1 : Int32).toInt = 1 := rfl
            exact j_zret (pc := 115) C hr rfl hk (fun i => [].getD i 0, fun i => [1, (u_22.2.1 1), (u_22.2.1 2), (u_22.2.1 3), (u_22.2.1 4), (u_22.2.1 5), (u_19.2.1 6)].getD i 0, fun i => [(u_19.2.2.1 0)].getD i (fun _ => 0), fun i => [].getD i (fun _ => 0)) rfl (show (0 ≤ ((1 : Int32)).toInt ∧ ((1 : Int32)).toInt ≤ 1) ∧ (0 ≤ ((u_22.2.1 2)).toInt ∧ ((u_22.2.1 2)).toInt ≤ 1000) ∧ (0 ≤ ((u_22.2.1 3)).toInt ∧ ((u_22.2.1 3)).toInt ≤ 4) ∧ (0 ≤ ((u_22.2.1 4)).toInt ∧ ((u_22.2.1 4)).toInt ≤ 1000) ∧ (0 ≤ ((u_19.2.1 6)).toInt ∧ ((u_19.2.1 6)).toInt ≤ 1000) ∧ (¬ ((u_22.2.1 3)).toInt = 3 ∨ ((u_22.2.1 4)).toInt ≤ 999) ∧ (TH t_text (t_length).toInt.toNat ((u_22.2.1 2)).toInt ((u_22.2.1 3)).toInt ((u_22.2.1 4)).toInt ((u_22.2.1 5)).toInt) ∧ (CP ((1 : Int32)).toInt ((u_22.2.1 4)).toInt ((u_22.2.1 1)).toInt (r_fault).toInt (rPt (TKS t_text (t_length).toInt.toNat) 4 (t_place).toInt.toNat)) from ⟨by omega, by omega, by omega, by omega, by omega, by omega, hw_23_5, (CP.ok (by omega) (by have z1 := ((hw_20_7).1 (by omega)).2; have z2 := ((hw_23_6).1 (by omega)).2; omega) (by rw [rPt_s (d := 3)]; rw [if_pos (show canP (TKS t_text (t_length).toInt.toNat) (t_place).toInt.toNat = true from canP_iff.mpr (Or.inr (Or.inr (Or.inl (by omega))))), if_pos (show isG (TKS t_text (t_length).toInt.toNat) (t_place).toInt.toNat 40 = true from gI_1.mp (by omega)), ← ha_u_9]; rw [bnd_ok ((hw_20_7).1 (by omega)).1]; exact ((hw_23_6).1 (by omega)).1))⟩) [2, 3, 4, 0, 1] (by decide) rfl (by decide) (by decide) dX5_readPart_115
    · skip
      have el_0 : (0 : Int32).toInt = 0 := rfl
      rw [i_eq] at c_8
      refine j_iload_n (pc := 51) C dX5_readPart_51 rfl 1 rfl ?_
      refine j_if_ne (pc := 52) (tgt := 68) C dX5_readPart_52 (by decide) (fun c_25 => ?_) (fun c_25 => ?_)
      · skip
        have el_0 : (0 : Int32).toInt = 0 := rfl
        rw [i_eq] at c_25
        refine j_iload_n (pc := 68) C dX5_readPart_68 rfl 4 rfl ?_
        refine j_iconst (pc := 69) (v := 5) C dX5_readPart_69 (by decide) ?_
        refine j_icmp_lt_t (pc := 70) (tgt := 79) C dX5_readPart_70 (by decide) (by decide) ?_
        refine j_aload_n (pc := 79) C dX5_readPart_79 rfl 3 rfl ?_
        refine j_get (pc := 80) (ci := 5) (v := .ref t0) C inw_5 2 rfl rfl 0 (by decide) wd_296 rfl rfl dX5_readPart_80 ?_
        refine j_callV (pc := 83) (As := []) (rest := []) (wr := [(e0, .inr (1, [.int e_size, .int e_nests, .ref e1, .ref e2, .ref e3])), (e1, .inl (cyI, 1000, .inl e_steps)), (r0, .inr (5, [.ref t0, .ref e0, .ref r1, .ref r2, .ref a0, .int r_habits, .int r_fault]))]) C (c_X8_advance_f l D cyC cyI cyJ cyZ cyO t0 t1 t_length t_next t_kind t_place t_number t_text (by omega) (by omega) (by omega) (by omega) h_t_text) wd_277 wd_258 wd_304 wd_279 wd_280 ⟨by decide, by decide, rfl⟩ rfl ⟨rfl, rfl, by decide, by decide⟩ ⟨by decide, by decide⟩ [3, 4] [0, 1, 2] rfl rfl ⟨by decide, by decide, by decide⟩ 3 rfl rfl rfl (Nat.le_of_ble_eq_true rfl) dX5_readPart_83 (fun u_26 hw_27 => ?_)
        refine j_eq (ws2 := [(e0, .inr (1, [.int e_size, .int e_nests, .ref e1, .ref e2, .ref e3])), (e1, .inl (cyI, 1000, .inl e_steps)), (r0, .inr (5, [.ref t0, .ref e0, .ref r1, .ref r2, .ref a0, .int r_habits, .int r_fault])), (t0, .inr (8, [.ref t1, .int t_length, .int (u_26.2.1 0), .int (u_26.2.1 1), .int (u_26.2.1 2), .int (u_26.2.1 3)])), (t1, .inl (cyC, 1000, .inl t_text))]) (pc2 := 86) (lv2 := [(4, .int (u_6.2.1 0)), (3, .int (u_3.2.1 0)), (2, .int (u_1.2.1 0)), (0, .ref r0), (1, .int 1)]) (st2 := []) rfl rfl rfl rfl ?_
        obtain ⟨hw_27_0, hw_27_1, hw_27_2, hw_27_3, hw_27_4, hw_27_5⟩ := hw_27
        have ha_u_26 := (hw_27_5).trans (TH.adv hTH)
        refine j_iload_n (pc := 86) C dX5_readPart_86 rfl 1 rfl ?_
        have el_0 : (0 : Int32).toInt = 0 := rfl
        refine j_if_eq_f (pc := 87) (tgt := 116) C dX5_readPart_87 (by decide) (by rw [i_eq]; omega) ?_
        refine j_aload_n (pc := 90) C dX5_readPart_90 rfl 3 rfl ?_
        refine j_iconst (pc := 91) (v := 0) C dX5_readPart_91 (by decide) ?_
        refine j_iload_n (pc := 92) C dX5_readPart_92 rfl 4 rfl ?_
        refine j_iconst (pc := 93) (v := 1) C dX5_readPart_93 (by decide) ?_
        refine j_iadd (pc := 94) (v := 2) C dX5_readPart_94 (by decide) ?_
        refine j_callV (pc := 95) (As := [.int 0, .int 2]) (rest := []) (wr := []) C (c_X5_readChain_0_2 l D cyC cyI cyJ cyZ cyO r0 t0 t1 e0 e1 r1 r2 a0 e2 e3 r_habits r_fault t_length (u_26.2.1 0) (u_26.2.1 1) (u_26.2.1 2) (u_26.2.1 3) e_size e_nests t_text e_steps (by omega) (by omega) (by omega) (by omega) (by omega) (by omega) h_t_text (by omega) hw_27_4) wd_340 wd_306 wd_341 wd_342 wd_343 ⟨by decide, by decide, rfl⟩ rfl ⟨rfl, rfl, by decide, by decide⟩ ⟨by decide, by decide⟩ [2, 3, 4, 0, 1] [] rfl rfl ⟨by decide, by decide, by decide⟩ 2 rfl rfl rfl (Nat.le_of_ble_eq_true rfl) dX5_readPart_95 (fun u_28 hw_29 => ?_)
        refine j_eq (ws2 := [(r0, .inr (5, [.ref t0, .ref e0, .ref r1, .ref r2, .ref a0, .int r_habits, .int (u_28.2.1 1)])), (t0, .inr (8, [.ref t1, .int t_length, .int (u_28.2.1 2), .int (u_28.2.1 3), .int (u_28.2.1 4), .int (u_28.2.1 5)])), (t1, .inl (cyC, 1000, .inl t_text)), (e0, .inr (1, [.int (u_28.2.1 6), .int e_nests, .ref e1, .ref e2, .ref e3])), (e1, .inl (cyI, 1000, .inl (u_28.2.2.1 0)))]) (pc2 := 98) (lv2 := [(4, .int (u_6.2.1 0)), (3, .int (u_3.2.1 0)), (2, .int (u_1.2.1 0)), (0, .ref r0), (1, .int 1)]) (st2 := [.int (u_28.2.1 0)]) rfl rfl rfl rfl ?_
        obtain ⟨hw_29_0, hw_29_1, hw_29_2, hw_29_3, hw_29_4, hw_29_5, hw_29_6, hw_29_7⟩ := hw_29
        refine j_if_eq (pc := 98) (tgt := 114) C dX5_readPart_98 (by decide) (fun c_30 => ?_) (fun c_30 => ?_)
        · skip
          have el_0 : (0 : Int32).toInt = 0 := rfl
          rw [i_eq] at c_30
          refine j_iconst (pc := 114) (v := 0) C dX5_readPart_114 (by decide) ?_
          have el_0 : (0 : Int32).toInt = 0 := rfl
          have el_0 : (0 : Int32).toInt = 0 := rfl
          have el_0 : (0 : Int32).toInt = 0 := rfl
          have el_0 : (0 : Int32).toInt = 0 := rfl
          exact j_zret (pc := 115) C hr rfl hk (fun i => [].getD i 0, fun i => [0, (u_28.2.1 1), (u_28.2.1 2), (u_28.2.1 3), (u_28.2.1 4), (u_28.2.1 5), (u_28.2.1 6)].getD i 0, fun i => [(u_28.2.2.1 0)].getD i (fun _ => 0), fun i => [].getD i (fun _ => 0)) rfl (show (0 ≤ ((0 : Int32)).toInt ∧ ((0 : Int32)).toInt ≤ 1) ∧ (0 ≤ ((u_28.2.1 2)).toInt ∧ ((u_28.2.1 2)).toInt ≤ 1000) ∧ (0 ≤ ((u_28.2.1 3)).toInt ∧ ((u_28.2.1 3)).toInt ≤ 4) ∧ (0 ≤ ((u_28.2.1 4)).toInt ∧ ((u_28.2.1 4)).toInt ≤ 1000) ∧ (0 ≤ ((u_28.2.1 6)).toInt ∧ ((u_28.2.1 6)).toInt ≤ 1000) ∧ (¬ ((u_28.2.1 3)).toInt = 3 ∨ ((u_28.2.1 4)).toInt ≤ 999) ∧ (TH t_text (t_length).toInt.toNat ((u_28.2.1 2)).toInt ((u_28.2.1 3)).toInt ((u_28.2.1 4)).toInt ((u_28.2.1 5)).toInt) ∧ (CP ((0 : Int32)).toInt ((u_28.2.1 4)).toInt ((u_28.2.1 1)).toInt (r_fault).toInt (rPt (TKS t_text (t_length).toInt.toNat) 4 (t_place).toInt.toNat)) from ⟨by omega, by omega, by omega, by omega, by omega, by omega, hw_29_6, (CP.bad (by omega) (by rw [rPt_s (d := 3)]; rw [if_pos (show canP (TKS t_text (t_length).toInt.toNat) (t_place).toInt.toNat = true from canP_iff.mpr (Or.inr (Or.inr (Or.inl (by omega))))), if_pos (show isG (TKS t_text (t_length).toInt.toNat) (t_place).toInt.toNat 40 = true from gI_1.mp (by omega)), ← ha_u_26]; rw [bnd_bad ((hw_29_7).2 (by omega)).2]; exact (hw_29_7).2 (by omega)))⟩) [0, 1, 2, 3, 4] (by decide) rfl (by decide) (by decide) dX5_readPart_115
        · skip
          have el_0 : (0 : Int32).toInt = 0 := rfl
          rw [i_eq] at c_30
          refine j_aload_n (pc := 101) C dX5_readPart_101 rfl 3 rfl ?_
          refine j_bipush (pc := 102) (v := 41) C dX5_readPart_102 (by decide) ?_
          refine j_callV (pc := 104) (As := [.int 41]) (rest := []) (wr := [(e0, .inr (1, [.int (u_28.2.1 6), .int e_nests, .ref e1, .ref e2, .ref e3])), (e1, .inl (cyI, 1000, .inl (u_28.2.2.1 0)))]) C (c_X5_readSign l D cyC cyI cyJ cyZ cyO r0 t0 t1 e0 r1 r2 a0 41 r_habits (u_28.2.1 1) t_length (u_28.2.1 2) (u_28.2.1 3) (u_28.2.1 4) (u_28.2.1 5) t_text (by omega) (by omega) (by omega) (by omega) h_t_text (by omega) hw_29_6) wd_353 wd_306 wd_354 wd_355 wd_356 ⟨by decide, by decide, rfl⟩ rfl ⟨rfl, rfl, by decide, by decide⟩ ⟨by decide, by decide⟩ [0, 1, 2] [3, 4] rfl rfl ⟨by decide, by decide, by decide⟩ 0 rfl rfl rfl (Nat.le_of_ble_eq_true rfl) dX5_readPart_104 (fun u_31 hw_32 => ?_)
          refine j_eq (ws2 := [(e0, .inr (1, [.int (u_28.2.1 6), .int e_nests, .ref e1, .ref e2, .ref e3])), (e1, .inl (cyI, 1000, .inl (u_28.2.2.1 0))), (r0, .inr (5, [.ref t0, .ref e0, .ref r1, .ref r2, .ref a0, .int r_habits, .int (u_31.2.1 1)])), (t0, .inr (8, [.ref t1, .int t_length, .int (u_31.2.1 2), .int (u_31.2.1 3), .int (u_31.2.1 4), .int (u_31.2.1 5)])), (t1, .inl (cyC, 1000, .inl t_text))]) (pc2 := 107) (lv2 := [(4, .int (u_6.2.1 0)), (3, .int (u_3.2.1 0)), (2, .int (u_1.2.1 0)), (0, .ref r0), (1, .int 1)]) (st2 := [.int (u_31.2.1 0)]) rfl rfl rfl rfl ?_
          obtain ⟨hw_32_0, hw_32_1, hw_32_2, hw_32_3, hw_32_4, hw_32_5, hw_32_6⟩ := hw_32
          refine j_if_eq (pc := 107) (tgt := 114) C dX5_readPart_107 (by decide) (fun c_33 => ?_) (fun c_33 => ?_)
          · skip
            have el_0 : (0 : Int32).toInt = 0 := rfl
            rw [i_eq] at c_33
            refine j_iconst (pc := 114) (v := 0) C dX5_readPart_114 (by decide) ?_
            have el_0 : (0 : Int32).toInt = 0 := rfl
            have el_0 : (0 : Int32).toInt = 0 := rfl
            have el_0 : (0 : Int32).toInt = 0 := rfl
            have el_0 : (0 : Int32).toInt = 0 := rfl
            exact j_zret (pc := 115) C hr rfl hk (fun i => [].getD i 0, fun i => [0, (u_31.2.1 1), (u_31.2.1 2), (u_31.2.1 3), (u_31.2.1 4), (u_31.2.1 5), (u_28.2.1 6)].getD i 0, fun i => [(u_28.2.2.1 0)].getD i (fun _ => 0), fun i => [].getD i (fun _ => 0)) rfl (show (0 ≤ ((0 : Int32)).toInt ∧ ((0 : Int32)).toInt ≤ 1) ∧ (0 ≤ ((u_31.2.1 2)).toInt ∧ ((u_31.2.1 2)).toInt ≤ 1000) ∧ (0 ≤ ((u_31.2.1 3)).toInt ∧ ((u_31.2.1 3)).toInt ≤ 4) ∧ (0 ≤ ((u_31.2.1 4)).toInt ∧ ((u_31.2.1 4)).toInt ≤ 1000) ∧ (0 ≤ ((u_28.2.1 6)).toInt ∧ ((u_28.2.1 6)).toInt ≤ 1000) ∧ (¬ ((u_31.2.1 3)).toInt = 3 ∨ ((u_31.2.1 4)).toInt ≤ 999) ∧ (TH t_text (t_length).toInt.toNat ((u_31.2.1 2)).toInt ((u_31.2.1 3)).toInt ((u_31.2.1 4)).toInt ((u_31.2.1 5)).toInt) ∧ (CP ((0 : Int32)).toInt ((u_31.2.1 4)).toInt ((u_31.2.1 1)).toInt (r_fault).toInt (rPt (TKS t_text (t_length).toInt.toNat) 4 (t_place).toInt.toNat)) from ⟨by omega, by omega, by omega, by omega, by omega, by omega, hw_32_5, (CP.bad (by omega) (by rw [rPt_s (d := 3)]; rw [if_pos (show canP (TKS t_text (t_length).toInt.toNat) (t_place).toInt.toNat = true from canP_iff.mpr (Or.inr (Or.inr (Or.inl (by omega))))), if_pos (show isG (TKS t_text (t_length).toInt.toNat) (t_place).toInt.toNat 40 = true from gI_1.mp (by omega)), ← ha_u_26]; rw [bnd_ok ((hw_29_7).1 (by omega)).1]; exact (hw_32_6).2 (by omega)))⟩) [2, 3, 4, 0, 1] (by decide) rfl (by decide) (by decide) dX5_readPart_115
          · skip
            have el_0 : (0 : Int32).toInt = 0 := rfl
            rw [i_eq] at c_33
            refine j_iconst (pc := 110) (v := 1) C dX5_readPart_110 (by decide) ?_
            refine j_goto (pc := 111) (tgt := 115) C dX5_readPart_111 (by decide) ?_
            have el_1 : (1 : Int32).toInt = 1 := rfl
            have el_1 : (1 : Int32).toInt = 1 := rfl
            have el_1 : (1 : Int32).toInt = 1 := rfl
            have el_1 : (1 : Int32).toInt = 1 := rfl
            exact j_zret (pc := 115) C hr rfl hk (fun i => [].getD i 0, fun i => [1, (u_31.2.1 1), (u_31.2.1 2), (u_31.2.1 3), (u_31.2.1 4), (u_31.2.1 5), (u_28.2.1 6)].getD i 0, fun i => [(u_28.2.2.1 0)].getD i (fun _ => 0), fun i => [].getD i (fun _ => 0)) rfl (show (0 ≤ ((1 : Int32)).toInt ∧ ((1 : Int32)).toInt ≤ 1) ∧ (0 ≤ ((u_31.2.1 2)).toInt ∧ ((u_31.2.1 2)).toInt ≤ 1000) ∧ (0 ≤ ((u_31.2.1 3)).toInt ∧ ((u_31.2.1 3)).toInt ≤ 4) ∧ (0 ≤ ((u_31.2.1 4)).toInt ∧ ((u_31.2.1 4)).toInt ≤ 1000) ∧ (0 ≤ ((u_28.2.1 6)).toInt ∧ ((u_28.2.1 6)).toInt ≤ 1000) ∧ (¬ ((u_31.2.1 3)).toInt = 3 ∨ ((u_31.2.1 4)).toInt ≤ 999) ∧ (TH t_text (t_length).toInt.toNat ((u_31.2.1 2)).toInt ((u_31.2.1 3)).toInt ((u_31.2.1 4)).toInt ((u_31.2.1 5)).toInt) ∧ (CP ((1 : Int32)).toInt ((u_31.2.1 4)).toInt ((u_31.2.1 1)).toInt (r_fault).toInt (rPt (TKS t_text (t_length).toInt.toNat) 4 (t_place).toInt.toNat)) from ⟨by omega, by omega, by omega, by omega, by omega, by omega, hw_32_5, (CP.ok (by omega) (by have z1 := ((hw_29_7).1 (by omega)).2; have z2 := ((hw_32_6).1 (by omega)).2; omega) (by rw [rPt_s (d := 3)]; rw [if_pos (show canP (TKS t_text (t_length).toInt.toNat) (t_place).toInt.toNat = true from canP_iff.mpr (Or.inr (Or.inr (Or.inl (by omega))))), if_pos (show isG (TKS t_text (t_length).toInt.toNat) (t_place).toInt.toNat 40 = true from gI_1.mp (by omega)), ← ha_u_26]; rw [bnd_ok ((hw_29_7).1 (by omega)).1]; exact ((hw_32_6).1 (by omega)).1))⟩) [2, 3, 4, 0, 1] (by decide) rfl (by decide) (by decide) dX5_readPart_115
      · skip
        have el_0 : (0 : Int32).toInt = 0 := rfl
        rw [i_eq] at c_25
        refine j_iload (pc := 55) C dX5_readPart_55 0 rfl ?_
        refine j_bipush (pc := 57) (v := (-100)) C dX5_readPart_57 (by decide) ?_
        refine j_icmp_ne (pc := 59) (tgt := 68) C dX5_readPart_59 (by decide) (fun c_34 => ?_) (fun c_34 => ?_)
        · skip
          have el_m100 : ((-100) : Int32).toInt = (-100) := rfl
          rw [i_eq] at c_34
          refine j_iload_n (pc := 68) C dX5_readPart_68 rfl 4 rfl ?_
          refine j_iconst (pc := 69) (v := 5) C dX5_readPart_69 (by decide) ?_
          refine j_icmp_lt_t (pc := 70) (tgt := 79) C dX5_readPart_70 (by decide) (by decide) ?_
          refine j_aload_n (pc := 79) C dX5_readPart_79 rfl 3 rfl ?_
          refine j_get (pc := 80) (ci := 5) (v := .ref t0) C inw_5 2 rfl rfl 0 (by decide) wd_296 rfl rfl dX5_readPart_80 ?_
          refine j_callV (pc := 83) (As := []) (rest := []) (wr := [(e0, .inr (1, [.int e_size, .int e_nests, .ref e1, .ref e2, .ref e3])), (e1, .inl (cyI, 1000, .inl e_steps)), (r0, .inr (5, [.ref t0, .ref e0, .ref r1, .ref r2, .ref a0, .int r_habits, .int r_fault]))]) C (c_X8_advance_f l D cyC cyI cyJ cyZ cyO t0 t1 t_length t_next t_kind t_place t_number t_text (by omega) (by omega) (by omega) (by omega) h_t_text) wd_277 wd_258 wd_304 wd_279 wd_280 ⟨by decide, by decide, rfl⟩ rfl ⟨rfl, rfl, by decide, by decide⟩ ⟨by decide, by decide⟩ [3, 4] [0, 1, 2] rfl rfl ⟨by decide, by decide, by decide⟩ 3 rfl rfl rfl (Nat.le_of_ble_eq_true rfl) dX5_readPart_83 (fun u_35 hw_36 => ?_)
          refine j_eq (ws2 := [(e0, .inr (1, [.int e_size, .int e_nests, .ref e1, .ref e2, .ref e3])), (e1, .inl (cyI, 1000, .inl e_steps)), (r0, .inr (5, [.ref t0, .ref e0, .ref r1, .ref r2, .ref a0, .int r_habits, .int r_fault])), (t0, .inr (8, [.ref t1, .int t_length, .int (u_35.2.1 0), .int (u_35.2.1 1), .int (u_35.2.1 2), .int (u_35.2.1 3)])), (t1, .inl (cyC, 1000, .inl t_text))]) (pc2 := 86) (lv2 := [(4, .int (u_6.2.1 0)), (3, .int (u_3.2.1 0)), (2, .int (u_1.2.1 0)), (0, .ref r0), (1, .int 1)]) (st2 := []) rfl rfl rfl rfl ?_
          obtain ⟨hw_36_0, hw_36_1, hw_36_2, hw_36_3, hw_36_4, hw_36_5⟩ := hw_36
          have ha_u_35 := (hw_36_5).trans (TH.adv hTH)
          refine j_iload_n (pc := 86) C dX5_readPart_86 rfl 1 rfl ?_
          have el_0 : (0 : Int32).toInt = 0 := rfl
          refine j_if_eq_t (pc := 87) (tgt := 116) C dX5_readPart_87 (by decide) (by rw [i_eq]; omega) ?_
          refine j_iload_n (pc := 116) C dX5_readPart_116 rfl 2 rfl ?_
          have el_0 : (0 : Int32).toInt = 0 := rfl
          refine j_if_eq_t (pc := 117) (tgt := 130) C dX5_readPart_117 (by decide) (by rw [i_eq]; omega) ?_
          refine j_iconst (pc := 130) (v := 1) C dX5_readPart_130 (by decide) ?_
          refine j_goto (pc := 131) (tgt := 135) C dX5_readPart_131 (by decide) ?_
          refine j_istore (pc := 135) (lv' := [(5, .int 1), (4, .int (u_6.2.1 0)), (3, .int (u_3.2.1 0)), (2, .int (u_1.2.1 0)), (0, .ref r0), (1, .int 1)]) C dX5_readPart_135 (by decide) rfl ?_
          refine j_aload_n (pc := 137) C dX5_readPart_137 rfl 4 rfl ?_
          refine j_get (pc := 138) (ci := 5) (v := .ref e0) C inw_5 2 rfl rfl 1 (by decide) wd_344 rfl rfl dX5_readPart_138 ?_
          refine j_iload_n (pc := 141) C dX5_readPart_141 rfl 3 rfl ?_
          have el_0 : (0 : Int32).toInt = 0 := rfl
          refine j_if_eq_t (pc := 142) (tgt := 150) C dX5_readPart_142 (by decide) (by rw [i_eq]; omega) ?_
          refine j_iload (pc := 150) C dX5_readPart_150 1 rfl ?_
          refine j_callV (pc := 152) (As := [.int (u_6.2.1 0)]) (rest := []) (wr := [(r0, .inr (5, [.ref t0, .ref e0, .ref r1, .ref r2, .ref a0, .int r_habits, .int r_fault])), (t0, .inr (8, [.ref t1, .int t_length, .int (u_35.2.1 0), .int (u_35.2.1 1), .int (u_35.2.1 2), .int (u_35.2.1 3)])), (t1, .inl (cyC, 1000, .inl t_text))]) C (c_X1_add l D cyC cyI cyJ cyZ cyO e0 e1 e2 e3 (u_6.2.1 0) e_size e_nests e_steps (by omega) (by omega)) wd_345 wd_200 wd_346 wd_347 wd_348 ⟨by decide, by decide, rfl⟩ rfl ⟨rfl, rfl, by decide, by decide⟩ ⟨by decide, by decide⟩ [0, 1] [2, 3, 4] rfl rfl ⟨by decide, by decide, by decide⟩ 0 rfl rfl rfl (Nat.le_of_ble_eq_true rfl) dX5_readPart_152 (fun u_37 hw_38 => ?_)
          refine j_eq (ws2 := [(r0, .inr (5, [.ref t0, .ref e0, .ref r1, .ref r2, .ref a0, .int r_habits, .int r_fault])), (t0, .inr (8, [.ref t1, .int t_length, .int (u_35.2.1 0), .int (u_35.2.1 1), .int (u_35.2.1 2), .int (u_35.2.1 3)])), (t1, .inl (cyC, 1000, .inl t_text)), (e0, .inr (1, [.int (u_37.2.1 0), .int e_nests, .ref e1, .ref e2, .ref e3])), (e1, .inl (cyI, 1000, .inl (u_37.2.2.1 0)))]) (pc2 := 155) (lv2 := [(5, .int 1), (4, .int (u_6.2.1 0)), (3, .int (u_3.2.1 0)), (2, .int (u_1.2.1 0)), (0, .ref r0), (1, .int 1)]) (st2 := []) rfl rfl rfl rfl ?_
          have hw_38_0 : 0 ≤ (u_37.2.1 0).toInt ∧ (u_37.2.1 0).toInt ≤ 1000 := hw_38
          refine j_iload (pc := 155) C dX5_readPart_155 0 rfl ?_
          have el_1 : (1 : Int32).toInt = 1 := rfl
          have el_1 : (1 : Int32).toInt = 1 := rfl
          have el_1 : (1 : Int32).toInt = 1 := rfl
          have el_1 : (1 : Int32).toInt = 1 := rfl
          exact j_zret (pc := 157) C hr rfl hk (fun i => [].getD i 0, fun i => [1, r_fault, (u_35.2.1 0), (u_35.2.1 1), (u_35.2.1 2), (u_35.2.1 3), (u_37.2.1 0)].getD i 0, fun i => [(u_37.2.2.1 0)].getD i (fun _ => 0), fun i => [].getD i (fun _ => 0)) rfl (show (0 ≤ ((1 : Int32)).toInt ∧ ((1 : Int32)).toInt ≤ 1) ∧ (0 ≤ ((u_35.2.1 0)).toInt ∧ ((u_35.2.1 0)).toInt ≤ 1000) ∧ (0 ≤ ((u_35.2.1 1)).toInt ∧ ((u_35.2.1 1)).toInt ≤ 4) ∧ (0 ≤ ((u_35.2.1 2)).toInt ∧ ((u_35.2.1 2)).toInt ≤ 1000) ∧ (0 ≤ ((u_37.2.1 0)).toInt ∧ ((u_37.2.1 0)).toInt ≤ 1000) ∧ (¬ ((u_35.2.1 1)).toInt = 3 ∨ ((u_35.2.1 2)).toInt ≤ 999) ∧ (TH t_text (t_length).toInt.toNat ((u_35.2.1 0)).toInt ((u_35.2.1 1)).toInt ((u_35.2.1 2)).toInt ((u_35.2.1 3)).toInt) ∧ (CP ((1 : Int32)).toInt ((u_35.2.1 2)).toInt (r_fault).toInt (r_fault).toInt (rPt (TKS t_text (t_length).toInt.toNat) 4 (t_place).toInt.toNat)) from ⟨by omega, by omega, by omega, by omega, by omega, by omega, hw_36_4, (CP.ok (by omega) (by omega) (by rw [rPt_s (d := 3)]; rw [if_pos (show canP (TKS t_text (t_length).toInt.toNat) (t_place).toInt.toNat = true from canP_iff.mpr (Or.inr (Or.inl (by rcases hw_7_1 with hz9 | hz9; (exfalso; omega); exact hz9.2)))), if_neg (show ¬ isG (TKS t_text (t_length).toInt.toNat) (t_place).toInt.toNat 40 = true from gI_0.mp (by omega)), if_neg (show ¬ isW (TKS t_text (t_length).toInt.toNat) (t_place).toInt.toNat (WN 14) = true from wI_0.mp (by omega)), ← ha_u_35]))⟩) [0, 1, 2, 3, 4] (by decide) rfl (by decide) (by decide) dX5_readPart_157
        · skip
          have el_m100 : ((-100) : Int32).toInt = (-100) := rfl
          rw [i_eq] at c_34
          refine j_aload_n (pc := 62) C dX5_readPart_62 rfl 3 rfl ?_
          refine j_iconst (pc := 63) (v := 1) C dX5_readPart_63 (by decide) ?_
          refine j_callV (pc := 64) (As := [.int 1]) (rest := []) (wr := [(e0, .inr (1, [.int e_size, .int e_nests, .ref e1, .ref e2, .ref e3])), (e1, .inl (cyI, 1000, .inl e_steps)), (t1, .inl (cyC, 1000, .inl t_text))]) C (c_X5_wrong l D cyC cyI cyJ cyZ cyO r0 t0 e0 r1 r2 a0 t1 1 r_habits r_fault t_length t_next t_kind t_place t_number (by omega) (by omega) (by omega) (by omega) (by decide)) wd_305 wd_306 wd_307 wd_308 wd_309 ⟨by decide, by decide, rfl⟩ rfl ⟨rfl, rfl, by decide, by decide⟩ ⟨by decide, by decide⟩ [2, 3] [0, 1, 4] rfl rfl ⟨by decide, by decide, by decide⟩ 2 rfl rfl rfl (Nat.le_of_ble_eq_true rfl) dX5_readPart_64 (fun u_39 hw_40 => ?_)
          refine j_eq (ws2 := [(e0, .inr (1, [.int e_size, .int e_nests, .ref e1, .ref e2, .ref e3])), (e1, .inl (cyI, 1000, .inl e_steps)), (t1, .inl (cyC, 1000, .inl t_text)), (r0, .inr (5, [.ref t0, .ref e0, .ref r1, .ref r2, .ref a0, .int r_habits, .int (u_39.2.1 0)])), (t0, .inr (8, [.ref t1, .int t_length, .int t_next, .int t_kind, .int t_place, .int t_number]))]) (pc2 := 67) (lv2 := [(4, .int (u_6.2.1 0)), (3, .int (u_3.2.1 0)), (2, .int (u_1.2.1 0)), (0, .ref r0), (1, .int 1)]) (st2 := [.int 0]) rfl rfl rfl rfl ?_
          have hw_40_0 : ((u_39.2.1 0)).toInt = ((1 : Int32)).toInt + 16 * (t_place).toInt := hw_40
          have el_0 : (0 : Int32).toInt = 0 := rfl
          have el_0 : (0 : Int32).toInt = 0 := rfl
          have el_0 : (0 : Int32).toInt = 0 := rfl
          have el_0 : (0 : Int32).toInt = 0 := rfl
          have el_1 : (1 : Int32).toInt = 1 := rfl
          exact j_zret (pc := 67) C hr rfl hk (fun i => [].getD i 0, fun i => [0, (u_39.2.1 0), t_next, t_kind, t_place, t_number, e_size].getD i 0, fun i => [e_steps].getD i (fun _ => 0), fun i => [].getD i (fun _ => 0)) rfl (show (0 ≤ ((0 : Int32)).toInt ∧ ((0 : Int32)).toInt ≤ 1) ∧ (0 ≤ (t_next).toInt ∧ (t_next).toInt ≤ 1000) ∧ (0 ≤ (t_kind).toInt ∧ (t_kind).toInt ≤ 4) ∧ (0 ≤ (t_place).toInt ∧ (t_place).toInt ≤ 1000) ∧ (0 ≤ (e_size).toInt ∧ (e_size).toInt ≤ 1000) ∧ (¬ (t_kind).toInt = 3 ∨ (t_place).toInt ≤ 999) ∧ (TH t_text (t_length).toInt.toNat (t_next).toInt (t_kind).toInt (t_place).toInt (t_number).toInt) ∧ (CP ((0 : Int32)).toInt (t_place).toInt ((u_39.2.1 0)).toInt (r_fault).toInt (rPt (TKS t_text (t_length).toInt.toNat) 4 (t_place).toInt.toNat)) from ⟨by omega, by omega, by omega, by omega, by omega, by omega, hTH, (CP.mv (CP.wr (k := 1) (by omega) (by omega) (by omega) (by omega)) (by rw [rPt_s (d := 3)]; rw [if_neg (show ¬ canP (TKS t_text (t_length).toInt.toNat) (t_place).toInt.toNat = true from (fun q => by have hk9 := hTH.kind; rcases canP_iff.mp q with z | z | z | z; omega; (rcases hw_7_1 with hz9 | hz9; (rw [hz9.2] at z; exact absurd z (by decide)); omega); omega; omega))]))⟩) [3, 4, 2, 0, 1] (by decide) rfl (by decide) (by decide) dX5_readPart_67
  · skip
    have el_2 : (2 : Int32).toInt = 2 := rfl
    rw [i_eq] at c_5
    refine j_aload_n (pc := 31) C dX5_readPart_31 rfl 2 rfl ?_
    refine j_get (pc := 32) (ci := 5) (v := .ref t0) C inw_5 0 rfl rfl 0 (by decide) wd_296 rfl rfl dX5_readPart_32 ?_
    refine j_get (pc := 35) (ci := 8) (v := .int t_number) C inw_8 3 rfl rfl 5 (by decide) wd_311 rfl rfl dX5_readPart_35 ?_
    refine j_goto (pc := 38) (tgt := 45) C dX5_readPart_38 (by decide) ?_
    have hn8 := (hTH.2.2.2 (by omega)).2
    refine j_istore (pc := 45) (lv' := [(4, .int t_number), (3, .int (u_3.2.1 0)), (2, .int (u_1.2.1 0)), (0, .ref r0), (1, .int 1)]) C dX5_readPart_45 (by decide) rfl ?_
    refine j_iload_n (pc := 47) C dX5_readPart_47 rfl 2 rfl ?_
    refine j_if_ne (pc := 48) (tgt := 68) C dX5_readPart_48 (by decide) (fun c_41 => ?_) (fun c_41 => ?_)
    · skip
      have el_0 : (0 : Int32).toInt = 0 := rfl
      rw [i_eq] at c_41
      refine j_iload_n (pc := 68) C dX5_readPart_68 rfl 4 rfl ?_
      refine j_iconst (pc := 69) (v := 5) C dX5_readPart_69 (by decide) ?_
      refine j_icmp_lt_t (pc := 70) (tgt := 79) C dX5_readPart_70 (by decide) (by decide) ?_
      refine j_aload_n (pc := 79) C dX5_readPart_79 rfl 3 rfl ?_
      refine j_get (pc := 80) (ci := 5) (v := .ref t0) C inw_5 0 rfl rfl 0 (by decide) wd_296 rfl rfl dX5_readPart_80 ?_
      refine j_callV (pc := 83) (As := []) (rest := []) (wr := [(r0, .inr (5, [.ref t0, .ref e0, .ref r1, .ref r2, .ref a0, .int r_habits, .int r_fault])), (e0, .inr (1, [.int e_size, .int e_nests, .ref e1, .ref e2, .ref e3])), (e1, .inl (cyI, 1000, .inl e_steps))]) C (c_X8_advance_f l D cyC cyI cyJ cyZ cyO t0 t1 t_length t_next t_kind t_place t_number t_text (by omega) (by omega) (by omega) (by omega) h_t_text) wd_277 wd_258 wd_304 wd_279 wd_280 ⟨by decide, by decide, rfl⟩ rfl ⟨rfl, rfl, by decide, by decide⟩ ⟨by decide, by decide⟩ [3, 4] [0, 1, 2] rfl rfl ⟨by decide, by decide, by decide⟩ 3 rfl rfl rfl (Nat.le_of_ble_eq_true rfl) dX5_readPart_83 (fun u_42 hw_43 => ?_)
      refine j_eq (ws2 := [(r0, .inr (5, [.ref t0, .ref e0, .ref r1, .ref r2, .ref a0, .int r_habits, .int r_fault])), (e0, .inr (1, [.int e_size, .int e_nests, .ref e1, .ref e2, .ref e3])), (e1, .inl (cyI, 1000, .inl e_steps)), (t0, .inr (8, [.ref t1, .int t_length, .int (u_42.2.1 0), .int (u_42.2.1 1), .int (u_42.2.1 2), .int (u_42.2.1 3)])), (t1, .inl (cyC, 1000, .inl t_text))]) (pc2 := 86) (lv2 := [(4, .int t_number), (3, .int (u_3.2.1 0)), (2, .int (u_1.2.1 0)), (0, .ref r0), (1, .int 1)]) (st2 := []) rfl rfl rfl rfl ?_
      obtain ⟨hw_43_0, hw_43_1, hw_43_2, hw_43_3, hw_43_4, hw_43_5⟩ := hw_43
      have ha_u_42 := (hw_43_5).trans (TH.adv hTH)
      refine j_iload_n (pc := 86) C dX5_readPart_86 rfl 1 rfl ?_
      refine j_if_eq (pc := 87) (tgt := 116) C dX5_readPart_87 (by decide) (fun c_44 => ?_) (fun c_44 => ?_)
      · skip
        have el_0 : (0 : Int32).toInt = 0 := rfl
        rw [i_eq] at c_44
        refine j_iload_n (pc := 116) C dX5_readPart_116 rfl 2 rfl ?_
        have el_0 : (0 : Int32).toInt = 0 := rfl
        refine j_if_eq_f (pc := 117) (tgt := 130) C dX5_readPart_117 (by decide) (by rw [i_eq]; omega) ?_
        refine j_aload_n (pc := 120) C dX5_readPart_120 rfl 3 rfl ?_
        refine j_iload_n (pc := 121) C dX5_readPart_121 rfl 4 rfl ?_
        refine j_iconst (pc := 122) (v := 1) C dX5_readPart_122 (by decide) ?_
        refine j_iadd (pc := 123) (v := 2) C dX5_readPart_123 (by decide) ?_
        refine j_callV (pc := 124) (As := [.int 2]) (rest := []) (wr := []) C (c_X5_readPart_2 l D cyC cyI cyJ cyZ cyO r0 t0 t1 e0 e1 r1 r2 a0 e2 e3 r_habits r_fault t_length (u_42.2.1 0) (u_42.2.1 1) (u_42.2.1 2) (u_42.2.1 3) e_size e_nests t_text e_steps (by omega) (by omega) (by omega) (by omega) (by omega) (by omega) h_t_text (by omega) hw_43_4) wd_336 wd_306 wd_337 wd_338 wd_339 ⟨by decide, by decide, rfl⟩ rfl ⟨rfl, rfl, by decide, by decide⟩ ⟨by decide, by decide⟩ [0, 3, 4, 1, 2] [] rfl rfl ⟨by decide, by decide, by decide⟩ 0 rfl rfl rfl (Nat.le_of_ble_eq_true rfl) dX5_readPart_124 (fun u_45 hw_46 => ?_)
        refine j_eq (ws2 := [(r0, .inr (5, [.ref t0, .ref e0, .ref r1, .ref r2, .ref a0, .int r_habits, .int (u_45.2.1 1)])), (t0, .inr (8, [.ref t1, .int t_length, .int (u_45.2.1 2), .int (u_45.2.1 3), .int (u_45.2.1 4), .int (u_45.2.1 5)])), (t1, .inl (cyC, 1000, .inl t_text)), (e0, .inr (1, [.int (u_45.2.1 6), .int e_nests, .ref e1, .ref e2, .ref e3])), (e1, .inl (cyI, 1000, .inl (u_45.2.2.1 0)))]) (pc2 := 127) (lv2 := [(4, .int t_number), (3, .int (u_3.2.1 0)), (2, .int (u_1.2.1 0)), (0, .ref r0), (1, .int 1)]) (st2 := [.int (u_45.2.1 0)]) rfl rfl rfl rfl ?_
        obtain ⟨hw_46_0, hw_46_1, hw_46_2, hw_46_3, hw_46_4, hw_46_5, hw_46_6, hw_46_7⟩ := hw_46
        refine j_if_eq (pc := 127) (tgt := 134) C dX5_readPart_127 (by decide) (fun c_47 => ?_) (fun c_47 => ?_)
        · skip
          have el_0 : (0 : Int32).toInt = 0 := rfl
          rw [i_eq] at c_47
          refine j_iconst (pc := 134) (v := 0) C dX5_readPart_134 (by decide) ?_
          refine j_istore (pc := 135) (lv' := [(5, .int 0), (4, .int t_number), (3, .int (u_3.2.1 0)), (2, .int (u_1.2.1 0)), (0, .ref r0), (1, .int 1)]) C dX5_readPart_135 (by decide) rfl ?_
          refine j_aload_n (pc := 137) C dX5_readPart_137 rfl 4 rfl ?_
          refine j_get (pc := 138) (ci := 5) (v := .ref e0) C inw_5 0 rfl rfl 1 (by decide) wd_344 rfl rfl dX5_readPart_138 ?_
          refine j_iload_n (pc := 141) C dX5_readPart_141 rfl 3 rfl ?_
          have el_0 : (0 : Int32).toInt = 0 := rfl
          refine j_if_eq_f (pc := 142) (tgt := 150) C dX5_readPart_142 (by decide) (by rw [i_eq]; omega) ?_
          refine j_bipush (pc := 145) (v := (-9)) C dX5_readPart_145 (by decide) ?_
          refine j_goto (pc := 147) (tgt := 152) C dX5_readPart_147 (by decide) ?_
          refine j_callV (pc := 152) (As := [.int (-9)]) (rest := []) (wr := [(r0, .inr (5, [.ref t0, .ref e0, .ref r1, .ref r2, .ref a0, .int r_habits, .int (u_45.2.1 1)])), (t0, .inr (8, [.ref t1, .int t_length, .int (u_45.2.1 2), .int (u_45.2.1 3), .int (u_45.2.1 4), .int (u_45.2.1 5)])), (t1, .inl (cyC, 1000, .inl t_text))]) C (c_X1_add l D cyC cyI cyJ cyZ cyO e0 e1 e2 e3 (-9) (u_45.2.1 6) e_nests (u_45.2.2.1 0) (by omega) (by omega)) wd_345 wd_200 wd_346 wd_347 wd_348 ⟨by decide, by decide, rfl⟩ rfl ⟨rfl, rfl, by decide, by decide⟩ ⟨by decide, by decide⟩ [3, 4] [0, 1, 2] rfl rfl ⟨by decide, by decide, by decide⟩ 3 rfl rfl rfl (Nat.le_of_ble_eq_true rfl) dX5_readPart_152 (fun u_48 hw_49 => ?_)
          refine j_eq (ws2 := [(r0, .inr (5, [.ref t0, .ref e0, .ref r1, .ref r2, .ref a0, .int r_habits, .int (u_45.2.1 1)])), (t0, .inr (8, [.ref t1, .int t_length, .int (u_45.2.1 2), .int (u_45.2.1 3), .int (u_45.2.1 4), .int (u_45.2.1 5)])), (t1, .inl (cyC, 1000, .inl t_text)), (e0, .inr (1, [.int (u_48.2.1 0), .int e_nests, .ref e1, .ref e2, .ref e3])), (e1, .inl (cyI, 1000, .inl (u_48.2.2.1 0)))]) (pc2 := 155) (lv2 := [(5, .int 0), (4, .int t_number), (3, .int (u_3.2.1 0)), (2, .int (u_1.2.1 0)), (0, .ref r0), (1, .int 1)]) (st2 := []) rfl rfl rfl rfl ?_
          have hw_49_0 : 0 ≤ (u_48.2.1 0).toInt ∧ (u_48.2.1 0).toInt ≤ 1000 := hw_49
          refine j_iload (pc := 155) C dX5_readPart_155 0 rfl ?_
          have el_0 : (0 : Int32).toInt = 0 := rfl
          have el_0 : (0 : Int32).toInt = 0 := rfl
          have el_0 : (0 : Int32).toInt = 0 := rfl
          have el_0 : (0 : Int32).toInt = 0 := rfl
          exact j_zret (pc := 157) C hr rfl hk (fun i => [].getD i 0, fun i => [0, (u_45.2.1 1), (u_45.2.1 2), (u_45.2.1 3), (u_45.2.1 4), (u_45.2.1 5), (u_48.2.1 0)].getD i 0, fun i => [(u_48.2.2.1 0)].getD i (fun _ => 0), fun i => [].getD i (fun _ => 0)) rfl (show (0 ≤ ((0 : Int32)).toInt ∧ ((0 : Int32)).toInt ≤ 1) ∧ (0 ≤ ((u_45.2.1 2)).toInt ∧ ((u_45.2.1 2)).toInt ≤ 1000) ∧ (0 ≤ ((u_45.2.1 3)).toInt ∧ ((u_45.2.1 3)).toInt ≤ 4) ∧ (0 ≤ ((u_45.2.1 4)).toInt ∧ ((u_45.2.1 4)).toInt ≤ 1000) ∧ (0 ≤ ((u_48.2.1 0)).toInt ∧ ((u_48.2.1 0)).toInt ≤ 1000) ∧ (¬ ((u_45.2.1 3)).toInt = 3 ∨ ((u_45.2.1 4)).toInt ≤ 999) ∧ (TH t_text (t_length).toInt.toNat ((u_45.2.1 2)).toInt ((u_45.2.1 3)).toInt ((u_45.2.1 4)).toInt ((u_45.2.1 5)).toInt) ∧ (CP ((0 : Int32)).toInt ((u_45.2.1 4)).toInt ((u_45.2.1 1)).toInt (r_fault).toInt (rPt (TKS t_text (t_length).toInt.toNat) 4 (t_place).toInt.toNat)) from ⟨by omega, by omega, by omega, by omega, by omega, by omega, hw_46_6, (CP.bad (by omega) (by rw [rPt_s (d := 3)]; rw [if_pos (show canP (TKS t_text (t_length).toInt.toNat) (t_place).toInt.toNat = true from canP_iff.mpr (Or.inr (Or.inr (Or.inr (by omega))))), if_neg (show ¬ isG (TKS t_text (t_length).toInt.toNat) (t_place).toInt.toNat 40 = true from gI_0.mp (by omega)), if_pos (show isW (TKS t_text (t_length).toInt.toNat) (t_place).toInt.toNat (WN 14) = true from wI_1.mp (by omega)), ← ha_u_42]; exact (hw_46_7).2 (by omega)))⟩) [0, 1, 2, 3, 4] (by decide) rfl (by decide) (by decide) dX5_readPart_157
        · skip
          have el_0 : (0 : Int32).toInt = 0 := rfl
          rw [i_eq] at c_47
          refine j_iconst (pc := 130) (v := 1) C dX5_readPart_130 (by decide) ?_
          refine j_goto (pc := 131) (tgt := 135) C dX5_readPart_131 (by decide) ?_
          refine j_istore (pc := 135) (lv' := [(5, .int 1), (4, .int t_number), (3, .int (u_3.2.1 0)), (2, .int (u_1.2.1 0)), (0, .ref r0), (1, .int 1)]) C dX5_readPart_135 (by decide) rfl ?_
          refine j_aload_n (pc := 137) C dX5_readPart_137 rfl 4 rfl ?_
          refine j_get (pc := 138) (ci := 5) (v := .ref e0) C inw_5 0 rfl rfl 1 (by decide) wd_344 rfl rfl dX5_readPart_138 ?_
          refine j_iload_n (pc := 141) C dX5_readPart_141 rfl 3 rfl ?_
          have el_0 : (0 : Int32).toInt = 0 := rfl
          refine j_if_eq_f (pc := 142) (tgt := 150) C dX5_readPart_142 (by decide) (by rw [i_eq]; omega) ?_
          refine j_bipush (pc := 145) (v := (-9)) C dX5_readPart_145 (by decide) ?_
          refine j_goto (pc := 147) (tgt := 152) C dX5_readPart_147 (by decide) ?_
          refine j_callV (pc := 152) (As := [.int (-9)]) (rest := []) (wr := [(r0, .inr (5, [.ref t0, .ref e0, .ref r1, .ref r2, .ref a0, .int r_habits, .int (u_45.2.1 1)])), (t0, .inr (8, [.ref t1, .int t_length, .int (u_45.2.1 2), .int (u_45.2.1 3), .int (u_45.2.1 4), .int (u_45.2.1 5)])), (t1, .inl (cyC, 1000, .inl t_text))]) C (c_X1_add l D cyC cyI cyJ cyZ cyO e0 e1 e2 e3 (-9) (u_45.2.1 6) e_nests (u_45.2.2.1 0) (by omega) (by omega)) wd_345 wd_200 wd_346 wd_347 wd_348 ⟨by decide, by decide, rfl⟩ rfl ⟨rfl, rfl, by decide, by decide⟩ ⟨by decide, by decide⟩ [3, 4] [0, 1, 2] rfl rfl ⟨by decide, by decide, by decide⟩ 3 rfl rfl rfl (Nat.le_of_ble_eq_true rfl) dX5_readPart_152 (fun u_50 hw_51 => ?_)
          refine j_eq (ws2 := [(r0, .inr (5, [.ref t0, .ref e0, .ref r1, .ref r2, .ref a0, .int r_habits, .int (u_45.2.1 1)])), (t0, .inr (8, [.ref t1, .int t_length, .int (u_45.2.1 2), .int (u_45.2.1 3), .int (u_45.2.1 4), .int (u_45.2.1 5)])), (t1, .inl (cyC, 1000, .inl t_text)), (e0, .inr (1, [.int (u_50.2.1 0), .int e_nests, .ref e1, .ref e2, .ref e3])), (e1, .inl (cyI, 1000, .inl (u_50.2.2.1 0)))]) (pc2 := 155) (lv2 := [(5, .int 1), (4, .int t_number), (3, .int (u_3.2.1 0)), (2, .int (u_1.2.1 0)), (0, .ref r0), (1, .int 1)]) (st2 := []) rfl rfl rfl rfl ?_
          have hw_51_0 : 0 ≤ (u_50.2.1 0).toInt ∧ (u_50.2.1 0).toInt ≤ 1000 := hw_51
          refine j_iload (pc := 155) C dX5_readPart_155 0 rfl ?_
          have el_1 : (1 : Int32).toInt = 1 := rfl
          have el_1 : (1 : Int32).toInt = 1 := rfl
          have el_1 : (1 : Int32).toInt = 1 := rfl
          have el_1 : (1 : Int32).toInt = 1 := rfl
          exact j_zret (pc := 157) C hr rfl hk (fun i => [].getD i 0, fun i => [1, (u_45.2.1 1), (u_45.2.1 2), (u_45.2.1 3), (u_45.2.1 4), (u_45.2.1 5), (u_50.2.1 0)].getD i 0, fun i => [(u_50.2.2.1 0)].getD i (fun _ => 0), fun i => [].getD i (fun _ => 0)) rfl (show (0 ≤ ((1 : Int32)).toInt ∧ ((1 : Int32)).toInt ≤ 1) ∧ (0 ≤ ((u_45.2.1 2)).toInt ∧ ((u_45.2.1 2)).toInt ≤ 1000) ∧ (0 ≤ ((u_45.2.1 3)).toInt ∧ ((u_45.2.1 3)).toInt ≤ 4) ∧ (0 ≤ ((u_45.2.1 4)).toInt ∧ ((u_45.2.1 4)).toInt ≤ 1000) ∧ (0 ≤ ((u_50.2.1 0)).toInt ∧ ((u_50.2.1 0)).toInt ≤ 1000) ∧ (¬ ((u_45.2.1 3)).toInt = 3 ∨ ((u_45.2.1 4)).toInt ≤ 999) ∧ (TH t_text (t_length).toInt.toNat ((u_45.2.1 2)).toInt ((u_45.2.1 3)).toInt ((u_45.2.1 4)).toInt ((u_45.2.1 5)).toInt) ∧ (CP ((1 : Int32)).toInt ((u_45.2.1 4)).toInt ((u_45.2.1 1)).toInt (r_fault).toInt (rPt (TKS t_text (t_length).toInt.toNat) 4 (t_place).toInt.toNat)) from ⟨by omega, by omega, by omega, by omega, by omega, by omega, hw_46_6, (CP.ok (by omega) ((hw_46_7).1 (by omega)).2 (by rw [rPt_s (d := 3)]; rw [if_pos (show canP (TKS t_text (t_length).toInt.toNat) (t_place).toInt.toNat = true from canP_iff.mpr (Or.inr (Or.inr (Or.inr (by omega))))), if_neg (show ¬ isG (TKS t_text (t_length).toInt.toNat) (t_place).toInt.toNat 40 = true from gI_0.mp (by omega)), if_pos (show isW (TKS t_text (t_length).toInt.toNat) (t_place).toInt.toNat (WN 14) = true from wI_1.mp (by omega)), ← ha_u_42]; exact ((hw_46_7).1 (by omega)).1))⟩) [0, 1, 2, 3, 4] (by decide) rfl (by decide) (by decide) dX5_readPart_157
      · skip
        have el_0 : (0 : Int32).toInt = 0 := rfl
        rw [i_eq] at c_44
        refine j_aload_n (pc := 90) C dX5_readPart_90 rfl 3 rfl ?_
        refine j_iconst (pc := 91) (v := 0) C dX5_readPart_91 (by decide) ?_
        refine j_iload_n (pc := 92) C dX5_readPart_92 rfl 4 rfl ?_
        refine j_iconst (pc := 93) (v := 1) C dX5_readPart_93 (by decide) ?_
        refine j_iadd (pc := 94) (v := 2) C dX5_readPart_94 (by decide) ?_
        refine j_callV (pc := 95) (As := [.int 0, .int 2]) (rest := []) (wr := []) C (c_X5_readChain_0_2 l D cyC cyI cyJ cyZ cyO r0 t0 t1 e0 e1 r1 r2 a0 e2 e3 r_habits r_fault t_length (u_42.2.1 0) (u_42.2.1 1) (u_42.2.1 2) (u_42.2.1 3) e_size e_nests t_text e_steps (by omega) (by omega) (by omega) (by omega) (by omega) (by omega) h_t_text (by omega) hw_43_4) wd_340 wd_306 wd_341 wd_342 wd_343 ⟨by decide, by decide, rfl⟩ rfl ⟨rfl, rfl, by decide, by decide⟩ ⟨by decide, by decide⟩ [0, 3, 4, 1, 2] [] rfl rfl ⟨by decide, by decide, by decide⟩ 0 rfl rfl rfl (Nat.le_of_ble_eq_true rfl) dX5_readPart_95 (fun u_52 hw_53 => ?_)
        refine j_eq (ws2 := [(r0, .inr (5, [.ref t0, .ref e0, .ref r1, .ref r2, .ref a0, .int r_habits, .int (u_52.2.1 1)])), (t0, .inr (8, [.ref t1, .int t_length, .int (u_52.2.1 2), .int (u_52.2.1 3), .int (u_52.2.1 4), .int (u_52.2.1 5)])), (t1, .inl (cyC, 1000, .inl t_text)), (e0, .inr (1, [.int (u_52.2.1 6), .int e_nests, .ref e1, .ref e2, .ref e3])), (e1, .inl (cyI, 1000, .inl (u_52.2.2.1 0)))]) (pc2 := 98) (lv2 := [(4, .int t_number), (3, .int (u_3.2.1 0)), (2, .int (u_1.2.1 0)), (0, .ref r0), (1, .int 1)]) (st2 := [.int (u_52.2.1 0)]) rfl rfl rfl rfl ?_
        obtain ⟨hw_53_0, hw_53_1, hw_53_2, hw_53_3, hw_53_4, hw_53_5, hw_53_6, hw_53_7⟩ := hw_53
        refine j_if_eq (pc := 98) (tgt := 114) C dX5_readPart_98 (by decide) (fun c_54 => ?_) (fun c_54 => ?_)
        · skip
          have el_0 : (0 : Int32).toInt = 0 := rfl
          rw [i_eq] at c_54
          refine j_iconst (pc := 114) (v := 0) C dX5_readPart_114 (by decide) ?_
          have el_0 : (0 : Int32).toInt = 0 := rfl
          have el_0 : (0 : Int32).toInt = 0 := rfl
          have el_0 : (0 : Int32).toInt = 0 := rfl
          have el_0 : (0 : Int32).toInt = 0 := rfl
          exact j_zret (pc := 115) C hr rfl hk (fun i => [].getD i 0, fun i => [0, (u_52.2.1 1), (u_52.2.1 2), (u_52.2.1 3), (u_52.2.1 4), (u_52.2.1 5), (u_52.2.1 6)].getD i 0, fun i => [(u_52.2.2.1 0)].getD i (fun _ => 0), fun i => [].getD i (fun _ => 0)) rfl (show (0 ≤ ((0 : Int32)).toInt ∧ ((0 : Int32)).toInt ≤ 1) ∧ (0 ≤ ((u_52.2.1 2)).toInt ∧ ((u_52.2.1 2)).toInt ≤ 1000) ∧ (0 ≤ ((u_52.2.1 3)).toInt ∧ ((u_52.2.1 3)).toInt ≤ 4) ∧ (0 ≤ ((u_52.2.1 4)).toInt ∧ ((u_52.2.1 4)).toInt ≤ 1000) ∧ (0 ≤ ((u_52.2.1 6)).toInt ∧ ((u_52.2.1 6)).toInt ≤ 1000) ∧ (¬ ((u_52.2.1 3)).toInt = 3 ∨ ((u_52.2.1 4)).toInt ≤ 999) ∧ (TH t_text (t_length).toInt.toNat ((u_52.2.1 2)).toInt ((u_52.2.1 3)).toInt ((u_52.2.1 4)).toInt ((u_52.2.1 5)).toInt) ∧ (CP ((0 : Int32)).toInt ((u_52.2.1 4)).toInt ((u_52.2.1 1)).toInt (r_fault).toInt (rPt (TKS t_text (t_length).toInt.toNat) 4 (t_place).toInt.toNat)) from ⟨by omega, by omega, by omega, by omega, by omega, by omega, hw_53_6, (CP.bad (by omega) (by rw [rPt_s (d := 3)]; rw [if_pos (show canP (TKS t_text (t_length).toInt.toNat) (t_place).toInt.toNat = true from canP_iff.mpr (Or.inr (Or.inr (Or.inl (by omega))))), if_pos (show isG (TKS t_text (t_length).toInt.toNat) (t_place).toInt.toNat 40 = true from gI_1.mp (by omega)), ← ha_u_42]; rw [bnd_bad ((hw_53_7).2 (by omega)).2]; exact (hw_53_7).2 (by omega)))⟩) [0, 1, 2, 3, 4] (by decide) rfl (by decide) (by decide) dX5_readPart_115
        · skip
          have el_0 : (0 : Int32).toInt = 0 := rfl
          rw [i_eq] at c_54
          refine j_aload_n (pc := 101) C dX5_readPart_101 rfl 3 rfl ?_
          refine j_bipush (pc := 102) (v := 41) C dX5_readPart_102 (by decide) ?_
          refine j_callV (pc := 104) (As := [.int 41]) (rest := []) (wr := [(e0, .inr (1, [.int (u_52.2.1 6), .int e_nests, .ref e1, .ref e2, .ref e3])), (e1, .inl (cyI, 1000, .inl (u_52.2.2.1 0)))]) C (c_X5_readSign l D cyC cyI cyJ cyZ cyO r0 t0 t1 e0 r1 r2 a0 41 r_habits (u_52.2.1 1) t_length (u_52.2.1 2) (u_52.2.1 3) (u_52.2.1 4) (u_52.2.1 5) t_text (by omega) (by omega) (by omega) (by omega) h_t_text (by omega) hw_53_6) wd_353 wd_306 wd_354 wd_355 wd_356 ⟨by decide, by decide, rfl⟩ rfl ⟨rfl, rfl, by decide, by decide⟩ ⟨by decide, by decide⟩ [0, 1, 2] [3, 4] rfl rfl ⟨by decide, by decide, by decide⟩ 0 rfl rfl rfl (Nat.le_of_ble_eq_true rfl) dX5_readPart_104 (fun u_55 hw_56 => ?_)
          refine j_eq (ws2 := [(e0, .inr (1, [.int (u_52.2.1 6), .int e_nests, .ref e1, .ref e2, .ref e3])), (e1, .inl (cyI, 1000, .inl (u_52.2.2.1 0))), (r0, .inr (5, [.ref t0, .ref e0, .ref r1, .ref r2, .ref a0, .int r_habits, .int (u_55.2.1 1)])), (t0, .inr (8, [.ref t1, .int t_length, .int (u_55.2.1 2), .int (u_55.2.1 3), .int (u_55.2.1 4), .int (u_55.2.1 5)])), (t1, .inl (cyC, 1000, .inl t_text))]) (pc2 := 107) (lv2 := [(4, .int t_number), (3, .int (u_3.2.1 0)), (2, .int (u_1.2.1 0)), (0, .ref r0), (1, .int 1)]) (st2 := [.int (u_55.2.1 0)]) rfl rfl rfl rfl ?_
          obtain ⟨hw_56_0, hw_56_1, hw_56_2, hw_56_3, hw_56_4, hw_56_5, hw_56_6⟩ := hw_56
          refine j_if_eq (pc := 107) (tgt := 114) C dX5_readPart_107 (by decide) (fun c_57 => ?_) (fun c_57 => ?_)
          · skip
            have el_0 : (0 : Int32).toInt = 0 := rfl
            rw [i_eq] at c_57
            refine j_iconst (pc := 114) (v := 0) C dX5_readPart_114 (by decide) ?_
            have el_0 : (0 : Int32).toInt = 0 := rfl
            have el_0 : (0 : Int32).toInt = 0 := rfl
            have el_0 : (0 : Int32).toInt = 0 := rfl
            have el_0 : (0 : Int32).toInt = 0 := rfl
            exact j_zret (pc := 115) C hr rfl hk (fun i => [].getD i 0, fun i => [0, (u_55.2.1 1), (u_55.2.1 2), (u_55.2.1 3), (u_55.2.1 4), (u_55.2.1 5), (u_52.2.1 6)].getD i 0, fun i => [(u_52.2.2.1 0)].getD i (fun _ => 0), fun i => [].getD i (fun _ => 0)) rfl (show (0 ≤ ((0 : Int32)).toInt ∧ ((0 : Int32)).toInt ≤ 1) ∧ (0 ≤ ((u_55.2.1 2)).toInt ∧ ((u_55.2.1 2)).toInt ≤ 1000) ∧ (0 ≤ ((u_55.2.1 3)).toInt ∧ ((u_55.2.1 3)).toInt ≤ 4) ∧ (0 ≤ ((u_55.2.1 4)).toInt ∧ ((u_55.2.1 4)).toInt ≤ 1000) ∧ (0 ≤ ((u_52.2.1 6)).toInt ∧ ((u_52.2.1 6)).toInt ≤ 1000) ∧ (¬ ((u_55.2.1 3)).toInt = 3 ∨ ((u_55.2.1 4)).toInt ≤ 999) ∧ (TH t_text (t_length).toInt.toNat ((u_55.2.1 2)).toInt ((u_55.2.1 3)).toInt ((u_55.2.1 4)).toInt ((u_55.2.1 5)).toInt) ∧ (CP ((0 : Int32)).toInt ((u_55.2.1 4)).toInt ((u_55.2.1 1)).toInt (r_fault).toInt (rPt (TKS t_text (t_length).toInt.toNat) 4 (t_place).toInt.toNat)) from ⟨by omega, by omega, by omega, by omega, by omega, by omega, hw_56_5, (CP.bad (by omega) (by rw [rPt_s (d := 3)]; rw [if_pos (show canP (TKS t_text (t_length).toInt.toNat) (t_place).toInt.toNat = true from canP_iff.mpr (Or.inr (Or.inr (Or.inl (by omega))))), if_pos (show isG (TKS t_text (t_length).toInt.toNat) (t_place).toInt.toNat 40 = true from gI_1.mp (by omega)), ← ha_u_42]; rw [bnd_ok ((hw_53_7).1 (by omega)).1]; exact (hw_56_6).2 (by omega)))⟩) [2, 3, 4, 0, 1] (by decide) rfl (by decide) (by decide) dX5_readPart_115
          · skip
            have el_0 : (0 : Int32).toInt = 0 := rfl
            rw [i_eq] at c_57
            refine j_iconst (pc := 110) (v := 1) C dX5_readPart_110 (by decide) ?_
            refine j_goto (pc := 111) (tgt := 115) C dX5_readPart_111 (by decide) ?_
            have el_1 : (1 : Int32).toInt = 1 := rfl
            have el_1 : (1 : Int32).toInt = 1 := rfl
            have el_1 : (1 : Int32).toInt = 1 := rfl
            have el_1 : (1 : Int32).toInt = 1 := rfl
            exact j_zret (pc := 115) C hr rfl hk (fun i => [].getD i 0, fun i => [1, (u_55.2.1 1), (u_55.2.1 2), (u_55.2.1 3), (u_55.2.1 4), (u_55.2.1 5), (u_52.2.1 6)].getD i 0, fun i => [(u_52.2.2.1 0)].getD i (fun _ => 0), fun i => [].getD i (fun _ => 0)) rfl (show (0 ≤ ((1 : Int32)).toInt ∧ ((1 : Int32)).toInt ≤ 1) ∧ (0 ≤ ((u_55.2.1 2)).toInt ∧ ((u_55.2.1 2)).toInt ≤ 1000) ∧ (0 ≤ ((u_55.2.1 3)).toInt ∧ ((u_55.2.1 3)).toInt ≤ 4) ∧ (0 ≤ ((u_55.2.1 4)).toInt ∧ ((u_55.2.1 4)).toInt ≤ 1000) ∧ (0 ≤ ((u_52.2.1 6)).toInt ∧ ((u_52.2.1 6)).toInt ≤ 1000) ∧ (¬ ((u_55.2.1 3)).toInt = 3 ∨ ((u_55.2.1 4)).toInt ≤ 999) ∧ (TH t_text (t_length).toInt.toNat ((u_55.2.1 2)).toInt ((u_55.2.1 3)).toInt ((u_55.2.1 4)).toInt ((u_55.2.1 5)).toInt) ∧ (CP ((1 : Int32)).toInt ((u_55.2.1 4)).toInt ((u_55.2.1 1)).toInt (r_fault).toInt (rPt (TKS t_text (t_length).toInt.toNat) 4 (t_place).toInt.toNat)) from ⟨by omega, by omega, by omega, by omega, by omega, by omega, hw_56_5, (CP.ok (by omega) (by have z1 := ((hw_53_7).1 (by omega)).2; have z2 := ((hw_56_6).1 (by omega)).2; omega) (by rw [rPt_s (d := 3)]; rw [if_pos (show canP (TKS t_text (t_length).toInt.toNat) (t_place).toInt.toNat = true from canP_iff.mpr (Or.inr (Or.inr (Or.inl (by omega))))), if_pos (show isG (TKS t_text (t_length).toInt.toNat) (t_place).toInt.toNat 40 = true from gI_1.mp (by omega)), ← ha_u_42]; rw [bnd_ok ((hw_53_7).1 (by omega)).1]; exact ((hw_56_6).1 (by omega)).1))⟩) [2, 3, 4, 0, 1] (by decide) rfl (by decide) (by decide) dX5_readPart_115
    · skip
      have el_0 : (0 : Int32).toInt = 0 := rfl
      rw [i_eq] at c_41
      refine j_iload_n (pc := 51) C dX5_readPart_51 rfl 1 rfl ?_
      refine j_if_ne (pc := 52) (tgt := 68) C dX5_readPart_52 (by decide) (fun c_58 => ?_) (fun c_58 => ?_)
      · skip
        have el_0 : (0 : Int32).toInt = 0 := rfl
        rw [i_eq] at c_58
        refine j_iload_n (pc := 68) C dX5_readPart_68 rfl 4 rfl ?_
        refine j_iconst (pc := 69) (v := 5) C dX5_readPart_69 (by decide) ?_
        refine j_icmp_lt_t (pc := 70) (tgt := 79) C dX5_readPart_70 (by decide) (by decide) ?_
        refine j_aload_n (pc := 79) C dX5_readPart_79 rfl 3 rfl ?_
        refine j_get (pc := 80) (ci := 5) (v := .ref t0) C inw_5 0 rfl rfl 0 (by decide) wd_296 rfl rfl dX5_readPart_80 ?_
        refine j_callV (pc := 83) (As := []) (rest := []) (wr := [(r0, .inr (5, [.ref t0, .ref e0, .ref r1, .ref r2, .ref a0, .int r_habits, .int r_fault])), (e0, .inr (1, [.int e_size, .int e_nests, .ref e1, .ref e2, .ref e3])), (e1, .inl (cyI, 1000, .inl e_steps))]) C (c_X8_advance_f l D cyC cyI cyJ cyZ cyO t0 t1 t_length t_next t_kind t_place t_number t_text (by omega) (by omega) (by omega) (by omega) h_t_text) wd_277 wd_258 wd_304 wd_279 wd_280 ⟨by decide, by decide, rfl⟩ rfl ⟨rfl, rfl, by decide, by decide⟩ ⟨by decide, by decide⟩ [3, 4] [0, 1, 2] rfl rfl ⟨by decide, by decide, by decide⟩ 3 rfl rfl rfl (Nat.le_of_ble_eq_true rfl) dX5_readPart_83 (fun u_59 hw_60 => ?_)
        refine j_eq (ws2 := [(r0, .inr (5, [.ref t0, .ref e0, .ref r1, .ref r2, .ref a0, .int r_habits, .int r_fault])), (e0, .inr (1, [.int e_size, .int e_nests, .ref e1, .ref e2, .ref e3])), (e1, .inl (cyI, 1000, .inl e_steps)), (t0, .inr (8, [.ref t1, .int t_length, .int (u_59.2.1 0), .int (u_59.2.1 1), .int (u_59.2.1 2), .int (u_59.2.1 3)])), (t1, .inl (cyC, 1000, .inl t_text))]) (pc2 := 86) (lv2 := [(4, .int t_number), (3, .int (u_3.2.1 0)), (2, .int (u_1.2.1 0)), (0, .ref r0), (1, .int 1)]) (st2 := []) rfl rfl rfl rfl ?_
        obtain ⟨hw_60_0, hw_60_1, hw_60_2, hw_60_3, hw_60_4, hw_60_5⟩ := hw_60
        have ha_u_59 := (hw_60_5).trans (TH.adv hTH)
        refine j_iload_n (pc := 86) C dX5_readPart_86 rfl 1 rfl ?_
        have el_0 : (0 : Int32).toInt = 0 := rfl
        refine j_if_eq_f (pc := 87) (tgt := 116) C dX5_readPart_87 (by decide) (by rw [i_eq]; omega) ?_
        refine j_aload_n (pc := 90) C dX5_readPart_90 rfl 3 rfl ?_
        refine j_iconst (pc := 91) (v := 0) C dX5_readPart_91 (by decide) ?_
        refine j_iload_n (pc := 92) C dX5_readPart_92 rfl 4 rfl ?_
        refine j_iconst (pc := 93) (v := 1) C dX5_readPart_93 (by decide) ?_
        refine j_iadd (pc := 94) (v := 2) C dX5_readPart_94 (by decide) ?_
        refine j_callV (pc := 95) (As := [.int 0, .int 2]) (rest := []) (wr := []) C (c_X5_readChain_0_2 l D cyC cyI cyJ cyZ cyO r0 t0 t1 e0 e1 r1 r2 a0 e2 e3 r_habits r_fault t_length (u_59.2.1 0) (u_59.2.1 1) (u_59.2.1 2) (u_59.2.1 3) e_size e_nests t_text e_steps (by omega) (by omega) (by omega) (by omega) (by omega) (by omega) h_t_text (by omega) hw_60_4) wd_340 wd_306 wd_341 wd_342 wd_343 ⟨by decide, by decide, rfl⟩ rfl ⟨rfl, rfl, by decide, by decide⟩ ⟨by decide, by decide⟩ [0, 3, 4, 1, 2] [] rfl rfl ⟨by decide, by decide, by decide⟩ 0 rfl rfl rfl (Nat.le_of_ble_eq_true rfl) dX5_readPart_95 (fun u_61 hw_62 => ?_)
        refine j_eq (ws2 := [(r0, .inr (5, [.ref t0, .ref e0, .ref r1, .ref r2, .ref a0, .int r_habits, .int (u_61.2.1 1)])), (t0, .inr (8, [.ref t1, .int t_length, .int (u_61.2.1 2), .int (u_61.2.1 3), .int (u_61.2.1 4), .int (u_61.2.1 5)])), (t1, .inl (cyC, 1000, .inl t_text)), (e0, .inr (1, [.int (u_61.2.1 6), .int e_nests, .ref e1, .ref e2, .ref e3])), (e1, .inl (cyI, 1000, .inl (u_61.2.2.1 0)))]) (pc2 := 98) (lv2 := [(4, .int t_number), (3, .int (u_3.2.1 0)), (2, .int (u_1.2.1 0)), (0, .ref r0), (1, .int 1)]) (st2 := [.int (u_61.2.1 0)]) rfl rfl rfl rfl ?_
        obtain ⟨hw_62_0, hw_62_1, hw_62_2, hw_62_3, hw_62_4, hw_62_5, hw_62_6, hw_62_7⟩ := hw_62
        refine j_if_eq (pc := 98) (tgt := 114) C dX5_readPart_98 (by decide) (fun c_63 => ?_) (fun c_63 => ?_)
        · skip
          have el_0 : (0 : Int32).toInt = 0 := rfl
          rw [i_eq] at c_63
          refine j_iconst (pc := 114) (v := 0) C dX5_readPart_114 (by decide) ?_
          have el_0 : (0 : Int32).toInt = 0 := rfl
          have el_0 : (0 : Int32).toInt = 0 := rfl
          have el_0 : (0 : Int32).toInt = 0 := rfl
          have el_0 : (0 : Int32).toInt = 0 := rfl
          exact j_zret (pc := 115) C hr rfl hk (fun i => [].getD i 0, fun i => [0, (u_61.2.1 1), (u_61.2.1 2), (u_61.2.1 3), (u_61.2.1 4), (u_61.2.1 5), (u_61.2.1 6)].getD i 0, fun i => [(u_61.2.2.1 0)].getD i (fun _ => 0), fun i => [].getD i (fun _ => 0)) rfl (show (0 ≤ ((0 : Int32)).toInt ∧ ((0 : Int32)).toInt ≤ 1) ∧ (0 ≤ ((u_61.2.1 2)).toInt ∧ ((u_61.2.1 2)).toInt ≤ 1000) ∧ (0 ≤ ((u_61.2.1 3)).toInt ∧ ((u_61.2.1 3)).toInt ≤ 4) ∧ (0 ≤ ((u_61.2.1 4)).toInt ∧ ((u_61.2.1 4)).toInt ≤ 1000) ∧ (0 ≤ ((u_61.2.1 6)).toInt ∧ ((u_61.2.1 6)).toInt ≤ 1000) ∧ (¬ ((u_61.2.1 3)).toInt = 3 ∨ ((u_61.2.1 4)).toInt ≤ 999) ∧ (TH t_text (t_length).toInt.toNat ((u_61.2.1 2)).toInt ((u_61.2.1 3)).toInt ((u_61.2.1 4)).toInt ((u_61.2.1 5)).toInt) ∧ (CP ((0 : Int32)).toInt ((u_61.2.1 4)).toInt ((u_61.2.1 1)).toInt (r_fault).toInt (rPt (TKS t_text (t_length).toInt.toNat) 4 (t_place).toInt.toNat)) from ⟨by omega, by omega, by omega, by omega, by omega, by omega, hw_62_6, (CP.bad (by omega) (by rw [rPt_s (d := 3)]; rw [if_pos (show canP (TKS t_text (t_length).toInt.toNat) (t_place).toInt.toNat = true from canP_iff.mpr (Or.inr (Or.inr (Or.inl (by omega))))), if_pos (show isG (TKS t_text (t_length).toInt.toNat) (t_place).toInt.toNat 40 = true from gI_1.mp (by omega)), ← ha_u_59]; rw [bnd_bad ((hw_62_7).2 (by omega)).2]; exact (hw_62_7).2 (by omega)))⟩) [0, 1, 2, 3, 4] (by decide) rfl (by decide) (by decide) dX5_readPart_115
        · skip
          have el_0 : (0 : Int32).toInt = 0 := rfl
          rw [i_eq] at c_63
          refine j_aload_n (pc := 101) C dX5_readPart_101 rfl 3 rfl ?_
          refine j_bipush (pc := 102) (v := 41) C dX5_readPart_102 (by decide) ?_
          refine j_callV (pc := 104) (As := [.int 41]) (rest := []) (wr := [(e0, .inr (1, [.int (u_61.2.1 6), .int e_nests, .ref e1, .ref e2, .ref e3])), (e1, .inl (cyI, 1000, .inl (u_61.2.2.1 0)))]) C (c_X5_readSign l D cyC cyI cyJ cyZ cyO r0 t0 t1 e0 r1 r2 a0 41 r_habits (u_61.2.1 1) t_length (u_61.2.1 2) (u_61.2.1 3) (u_61.2.1 4) (u_61.2.1 5) t_text (by omega) (by omega) (by omega) (by omega) h_t_text (by omega) hw_62_6) wd_353 wd_306 wd_354 wd_355 wd_356 ⟨by decide, by decide, rfl⟩ rfl ⟨rfl, rfl, by decide, by decide⟩ ⟨by decide, by decide⟩ [0, 1, 2] [3, 4] rfl rfl ⟨by decide, by decide, by decide⟩ 0 rfl rfl rfl (Nat.le_of_ble_eq_true rfl) dX5_readPart_104 (fun u_64 hw_65 => ?_)
          refine j_eq (ws2 := [(e0, .inr (1, [.int (u_61.2.1 6), .int e_nests, .ref e1, .ref e2, .ref e3])), (e1, .inl (cyI, 1000, .inl (u_61.2.2.1 0))), (r0, .inr (5, [.ref t0, .ref e0, .ref r1, .ref r2, .ref a0, .int r_habits, .int (u_64.2.1 1)])), (t0, .inr (8, [.ref t1, .int t_length, .int (u_64.2.1 2), .int (u_64.2.1 3), .int (u_64.2.1 4), .int (u_64.2.1 5)])), (t1, .inl (cyC, 1000, .inl t_text))]) (pc2 := 107) (lv2 := [(4, .int t_number), (3, .int (u_3.2.1 0)), (2, .int (u_1.2.1 0)), (0, .ref r0), (1, .int 1)]) (st2 := [.int (u_64.2.1 0)]) rfl rfl rfl rfl ?_
          obtain ⟨hw_65_0, hw_65_1, hw_65_2, hw_65_3, hw_65_4, hw_65_5, hw_65_6⟩ := hw_65
          refine j_if_eq (pc := 107) (tgt := 114) C dX5_readPart_107 (by decide) (fun c_66 => ?_) (fun c_66 => ?_)
          · skip
            have el_0 : (0 : Int32).toInt = 0 := rfl
            rw [i_eq] at c_66
            refine j_iconst (pc := 114) (v := 0) C dX5_readPart_114 (by decide) ?_
            have el_0 : (0 : Int32).toInt = 0 := rfl
            have el_0 : (0 : Int32).toInt = 0 := rfl
            have el_0 : (0 : Int32).toInt = 0 := rfl
            have el_0 : (0 : Int32).toInt = 0 := rfl
            exact j_zret (pc := 115) C hr rfl hk (fun i => [].getD i 0, fun i => [0, (u_64.2.1 1), (u_64.2.1 2), (u_64.2.1 3), (u_64.2.1 4), (u_64.2.1 5), (u_61.2.1 6)].getD i 0, fun i => [(u_61.2.2.1 0)].getD i (fun _ => 0), fun i => [].getD i (fun _ => 0)) rfl (show (0 ≤ ((0 : Int32)).toInt ∧ ((0 : Int32)).toInt ≤ 1) ∧ (0 ≤ ((u_64.2.1 2)).toInt ∧ ((u_64.2.1 2)).toInt ≤ 1000) ∧ (0 ≤ ((u_64.2.1 3)).toInt ∧ ((u_64.2.1 3)).toInt ≤ 4) ∧ (0 ≤ ((u_64.2.1 4)).toInt ∧ ((u_64.2.1 4)).toInt ≤ 1000) ∧ (0 ≤ ((u_61.2.1 6)).toInt ∧ ((u_61.2.1 6)).toInt ≤ 1000) ∧ (¬ ((u_64.2.1 3)).toInt = 3 ∨ ((u_64.2.1 4)).toInt ≤ 999) ∧ (TH t_text (t_length).toInt.toNat ((u_64.2.1 2)).toInt ((u_64.2.1 3)).toInt ((u_64.2.1 4)).toInt ((u_64.2.1 5)).toInt) ∧ (CP ((0 : Int32)).toInt ((u_64.2.1 4)).toInt ((u_64.2.1 1)).toInt (r_fault).toInt (rPt (TKS t_text (t_length).toInt.toNat) 4 (t_place).toInt.toNat)) from ⟨by omega, by omega, by omega, by omega, by omega, by omega, hw_65_5, (CP.bad (by omega) (by rw [rPt_s (d := 3)]; rw [if_pos (show canP (TKS t_text (t_length).toInt.toNat) (t_place).toInt.toNat = true from canP_iff.mpr (Or.inr (Or.inr (Or.inl (by omega))))), if_pos (show isG (TKS t_text (t_length).toInt.toNat) (t_place).toInt.toNat 40 = true from gI_1.mp (by omega)), ← ha_u_59]; rw [bnd_ok ((hw_62_7).1 (by omega)).1]; exact (hw_65_6).2 (by omega)))⟩) [2, 3, 4, 0, 1] (by decide) rfl (by decide) (by decide) dX5_readPart_115
          · skip
            have el_0 : (0 : Int32).toInt = 0 := rfl
            rw [i_eq] at c_66
            refine j_iconst (pc := 110) (v := 1) C dX5_readPart_110 (by decide) ?_
            refine j_goto (pc := 111) (tgt := 115) C dX5_readPart_111 (by decide) ?_
            have el_1 : (1 : Int32).toInt = 1 := rfl
            have el_1 : (1 : Int32).toInt = 1 := rfl
            have el_1 : (1 : Int32).toInt = 1 := rfl
            have el_1 : (1 : Int32).toInt = 1 := rfl
            exact j_zret (pc := 115) C hr rfl hk (fun i => [].getD i 0, fun i => [1, (u_64.2.1 1), (u_64.2.1 2), (u_64.2.1 3), (u_64.2.1 4), (u_64.2.1 5), (u_61.2.1 6)].getD i 0, fun i => [(u_61.2.2.1 0)].getD i (fun _ => 0), fun i => [].getD i (fun _ => 0)) rfl (show (0 ≤ ((1 : Int32)).toInt ∧ ((1 : Int32)).toInt ≤ 1) ∧ (0 ≤ ((u_64.2.1 2)).toInt ∧ ((u_64.2.1 2)).toInt ≤ 1000) ∧ (0 ≤ ((u_64.2.1 3)).toInt ∧ ((u_64.2.1 3)).toInt ≤ 4) ∧ (0 ≤ ((u_64.2.1 4)).toInt ∧ ((u_64.2.1 4)).toInt ≤ 1000) ∧ (0 ≤ ((u_61.2.1 6)).toInt ∧ ((u_61.2.1 6)).toInt ≤ 1000) ∧ (¬ ((u_64.2.1 3)).toInt = 3 ∨ ((u_64.2.1 4)).toInt ≤ 999) ∧ (TH t_text (t_length).toInt.toNat ((u_64.2.1 2)).toInt ((u_64.2.1 3)).toInt ((u_64.2.1 4)).toInt ((u_64.2.1 5)).toInt) ∧ (CP ((1 : Int32)).toInt ((u_64.2.1 4)).toInt ((u_64.2.1 1)).toInt (r_fault).toInt (rPt (TKS t_text (t_length).toInt.toNat) 4 (t_place).toInt.toNat)) from ⟨by omega, by omega, by omega, by omega, by omega, by omega, hw_65_5, (CP.ok (by omega) (by have z1 := ((hw_62_7).1 (by omega)).2; have z2 := ((hw_65_6).1 (by omega)).2; omega) (by rw [rPt_s (d := 3)]; rw [if_pos (show canP (TKS t_text (t_length).toInt.toNat) (t_place).toInt.toNat = true from canP_iff.mpr (Or.inr (Or.inr (Or.inl (by omega))))), if_pos (show isG (TKS t_text (t_length).toInt.toNat) (t_place).toInt.toNat 40 = true from gI_1.mp (by omega)), ← ha_u_59]; rw [bnd_ok ((hw_62_7).1 (by omega)).1]; exact ((hw_65_6).1 (by omega)).1))⟩) [2, 3, 4, 0, 1] (by decide) rfl (by decide) (by decide) dX5_readPart_115
      · skip
        have el_0 : (0 : Int32).toInt = 0 := rfl
        rw [i_eq] at c_58
        refine j_iload (pc := 55) C dX5_readPart_55 0 rfl ?_
        refine j_bipush (pc := 57) (v := (-100)) C dX5_readPart_57 (by decide) ?_
        have el_m100 : ((-100) : Int32).toInt = (-100) := rfl
        refine j_icmp_ne_t (pc := 59) (tgt := 68) C dX5_readPart_59 (by decide) (by rw [i_eq]; omega) ?_
        refine j_iload_n (pc := 68) C dX5_readPart_68 rfl 4 rfl ?_
        refine j_iconst (pc := 69) (v := 5) C dX5_readPart_69 (by decide) ?_
        refine j_icmp_lt_t (pc := 70) (tgt := 79) C dX5_readPart_70 (by decide) (by decide) ?_
        refine j_aload_n (pc := 79) C dX5_readPart_79 rfl 3 rfl ?_
        refine j_get (pc := 80) (ci := 5) (v := .ref t0) C inw_5 0 rfl rfl 0 (by decide) wd_296 rfl rfl dX5_readPart_80 ?_
        refine j_callV (pc := 83) (As := []) (rest := []) (wr := [(r0, .inr (5, [.ref t0, .ref e0, .ref r1, .ref r2, .ref a0, .int r_habits, .int r_fault])), (e0, .inr (1, [.int e_size, .int e_nests, .ref e1, .ref e2, .ref e3])), (e1, .inl (cyI, 1000, .inl e_steps))]) C (c_X8_advance_f l D cyC cyI cyJ cyZ cyO t0 t1 t_length t_next t_kind t_place t_number t_text (by omega) (by omega) (by omega) (by omega) h_t_text) wd_277 wd_258 wd_304 wd_279 wd_280 ⟨by decide, by decide, rfl⟩ rfl ⟨rfl, rfl, by decide, by decide⟩ ⟨by decide, by decide⟩ [3, 4] [0, 1, 2] rfl rfl ⟨by decide, by decide, by decide⟩ 3 rfl rfl rfl (Nat.le_of_ble_eq_true rfl) dX5_readPart_83 (fun u_67 hw_68 => ?_)
        refine j_eq (ws2 := [(r0, .inr (5, [.ref t0, .ref e0, .ref r1, .ref r2, .ref a0, .int r_habits, .int r_fault])), (e0, .inr (1, [.int e_size, .int e_nests, .ref e1, .ref e2, .ref e3])), (e1, .inl (cyI, 1000, .inl e_steps)), (t0, .inr (8, [.ref t1, .int t_length, .int (u_67.2.1 0), .int (u_67.2.1 1), .int (u_67.2.1 2), .int (u_67.2.1 3)])), (t1, .inl (cyC, 1000, .inl t_text))]) (pc2 := 86) (lv2 := [(4, .int t_number), (3, .int (u_3.2.1 0)), (2, .int (u_1.2.1 0)), (0, .ref r0), (1, .int 1)]) (st2 := []) rfl rfl rfl rfl ?_
        obtain ⟨hw_68_0, hw_68_1, hw_68_2, hw_68_3, hw_68_4, hw_68_5⟩ := hw_68
        have ha_u_67 := (hw_68_5).trans (TH.adv hTH)
        refine j_iload_n (pc := 86) C dX5_readPart_86 rfl 1 rfl ?_
        have el_0 : (0 : Int32).toInt = 0 := rfl
        refine j_if_eq_t (pc := 87) (tgt := 116) C dX5_readPart_87 (by decide) (by rw [i_eq]; omega) ?_
        refine j_iload_n (pc := 116) C dX5_readPart_116 rfl 2 rfl ?_
        have el_0 : (0 : Int32).toInt = 0 := rfl
        refine j_if_eq_t (pc := 117) (tgt := 130) C dX5_readPart_117 (by decide) (by rw [i_eq]; omega) ?_
        refine j_iconst (pc := 130) (v := 1) C dX5_readPart_130 (by decide) ?_
        refine j_goto (pc := 131) (tgt := 135) C dX5_readPart_131 (by decide) ?_
        refine j_istore (pc := 135) (lv' := [(5, .int 1), (4, .int t_number), (3, .int (u_3.2.1 0)), (2, .int (u_1.2.1 0)), (0, .ref r0), (1, .int 1)]) C dX5_readPart_135 (by decide) rfl ?_
        refine j_aload_n (pc := 137) C dX5_readPart_137 rfl 4 rfl ?_
        refine j_get (pc := 138) (ci := 5) (v := .ref e0) C inw_5 0 rfl rfl 1 (by decide) wd_344 rfl rfl dX5_readPart_138 ?_
        refine j_iload_n (pc := 141) C dX5_readPart_141 rfl 3 rfl ?_
        have el_0 : (0 : Int32).toInt = 0 := rfl
        refine j_if_eq_t (pc := 142) (tgt := 150) C dX5_readPart_142 (by decide) (by rw [i_eq]; omega) ?_
        refine j_iload (pc := 150) C dX5_readPart_150 1 rfl ?_
        refine j_callV (pc := 152) (As := [.int t_number]) (rest := []) (wr := [(r0, .inr (5, [.ref t0, .ref e0, .ref r1, .ref r2, .ref a0, .int r_habits, .int r_fault])), (t0, .inr (8, [.ref t1, .int t_length, .int (u_67.2.1 0), .int (u_67.2.1 1), .int (u_67.2.1 2), .int (u_67.2.1 3)])), (t1, .inl (cyC, 1000, .inl t_text))]) C (c_X1_add l D cyC cyI cyJ cyZ cyO e0 e1 e2 e3 t_number e_size e_nests e_steps (by omega) (by omega)) wd_345 wd_200 wd_346 wd_347 wd_348 ⟨by decide, by decide, rfl⟩ rfl ⟨rfl, rfl, by decide, by decide⟩ ⟨by decide, by decide⟩ [1, 2] [0, 3, 4] rfl rfl ⟨by decide, by decide, by decide⟩ 1 rfl rfl rfl (Nat.le_of_ble_eq_true rfl) dX5_readPart_152 (fun u_69 hw_70 => ?_)
        refine j_eq (ws2 := [(r0, .inr (5, [.ref t0, .ref e0, .ref r1, .ref r2, .ref a0, .int r_habits, .int r_fault])), (t0, .inr (8, [.ref t1, .int t_length, .int (u_67.2.1 0), .int (u_67.2.1 1), .int (u_67.2.1 2), .int (u_67.2.1 3)])), (t1, .inl (cyC, 1000, .inl t_text)), (e0, .inr (1, [.int (u_69.2.1 0), .int e_nests, .ref e1, .ref e2, .ref e3])), (e1, .inl (cyI, 1000, .inl (u_69.2.2.1 0)))]) (pc2 := 155) (lv2 := [(5, .int 1), (4, .int t_number), (3, .int (u_3.2.1 0)), (2, .int (u_1.2.1 0)), (0, .ref r0), (1, .int 1)]) (st2 := []) rfl rfl rfl rfl ?_
        have hw_70_0 : 0 ≤ (u_69.2.1 0).toInt ∧ (u_69.2.1 0).toInt ≤ 1000 := hw_70
        refine j_iload (pc := 155) C dX5_readPart_155 0 rfl ?_
        have el_1 : (1 : Int32).toInt = 1 := rfl
        have el_1 : (1 : Int32).toInt = 1 := rfl
        have el_1 : (1 : Int32).toInt = 1 := rfl
        have el_1 : (1 : Int32).toInt = 1 := rfl
        exact j_zret (pc := 157) C hr rfl hk (fun i => [].getD i 0, fun i => [1, r_fault, (u_67.2.1 0), (u_67.2.1 1), (u_67.2.1 2), (u_67.2.1 3), (u_69.2.1 0)].getD i 0, fun i => [(u_69.2.2.1 0)].getD i (fun _ => 0), fun i => [].getD i (fun _ => 0)) rfl (show (0 ≤ ((1 : Int32)).toInt ∧ ((1 : Int32)).toInt ≤ 1) ∧ (0 ≤ ((u_67.2.1 0)).toInt ∧ ((u_67.2.1 0)).toInt ≤ 1000) ∧ (0 ≤ ((u_67.2.1 1)).toInt ∧ ((u_67.2.1 1)).toInt ≤ 4) ∧ (0 ≤ ((u_67.2.1 2)).toInt ∧ ((u_67.2.1 2)).toInt ≤ 1000) ∧ (0 ≤ ((u_69.2.1 0)).toInt ∧ ((u_69.2.1 0)).toInt ≤ 1000) ∧ (¬ ((u_67.2.1 1)).toInt = 3 ∨ ((u_67.2.1 2)).toInt ≤ 999) ∧ (TH t_text (t_length).toInt.toNat ((u_67.2.1 0)).toInt ((u_67.2.1 1)).toInt ((u_67.2.1 2)).toInt ((u_67.2.1 3)).toInt) ∧ (CP ((1 : Int32)).toInt ((u_67.2.1 2)).toInt (r_fault).toInt (r_fault).toInt (rPt (TKS t_text (t_length).toInt.toNat) 4 (t_place).toInt.toNat)) from ⟨by omega, by omega, by omega, by omega, by omega, by omega, hw_68_4, (CP.ok (by omega) (by omega) (by rw [rPt_s (d := 3)]; rw [if_pos (show canP (TKS t_text (t_length).toInt.toNat) (t_place).toInt.toNat = true from canP_iff.mpr (Or.inl (by have hk9 := hTH.kind; omega))), if_neg (show ¬ isG (TKS t_text (t_length).toInt.toNat) (t_place).toInt.toNat 40 = true from gI_0.mp (by omega)), if_neg (show ¬ isW (TKS t_text (t_length).toInt.toNat) (t_place).toInt.toNat (WN 14) = true from wI_0.mp (by omega)), ← ha_u_67]))⟩) [0, 1, 2, 3, 4] (by decide) rfl (by decide) (by decide) dX5_readPart_157
set_option maxHeartbeats 4000000 in
set_option maxRecDepth 100000 in
theorem c_X5_readChain_4_1 (l : Launch) (D : DG) (cyC cyI cyJ cyZ cyO : ClassId) (r0 : Nat) (t0 : Nat) (t1 : Nat) (e0 : Nat) (e1 : Nat) (r1 : Nat) (r2 : Nat) (a0 : Nat) (e2 : Nat) (e3 : Nat) (r_habits : Int32) (r_fault : Int32) (t_length : Int32) (t_next : Int32) (t_kind : Int32) (t_place : Int32) (t_number : Int32) (e_size : Int32) (e_nests : Int32) (t_text : Nat → Int32) (e_steps : Nat → Int32) (h_t_length : 0 ≤ (t_length).toInt ∧ (t_length).toInt ≤ 1000) (h_t_next : 0 ≤ (t_next).toInt ∧ (t_next).toInt ≤ 1000) (h_t_kind : 0 ≤ (t_kind).toInt ∧ (t_kind).toInt ≤ 4) (h_t_place : 0 ≤ (t_place).toInt ∧ (t_place).toInt ≤ 1000) (h_e_size : 0 ≤ (e_size).toInt ∧ (e_size).toInt ≤ 1000) (h_e_nests : 0 ≤ (e_nests).toInt ∧ (e_nests).toInt ≤ 4) (h_t_text : Iv 1000 (0) (126) t_text) (ht3 : ¬ (t_kind).toInt = 3 ∨ (t_place).toInt ≤ 999) (hTH : TH t_text (t_length).toInt.toNat (t_next).toInt (t_kind).toInt (t_place).toInt (t_number).toInt) : KK l D (TY cyC cyI cyJ cyZ cyO) yX5_readChain cX5_readChain 7 (some .boolean) ({ frames := 31, cells := 0, slots := 0, locals := 772 } : Room) 0 0 [.ref r0, .int 4, .int 1] [(r0, .inr (5, [.ref t0, .ref e0, .ref r1, .ref r2, .ref a0, .int r_habits, .int r_fault])), (t0, .inr (8, [.ref t1, .int t_length, .int t_next, .int t_kind, .int t_place, .int t_number])), (t1, .inl (cyC, 1000, .inl t_text)), (e0, .inr (1, [.int e_size, .int e_nests, .ref e1, .ref e2, .ref e3])), (e1, .inl (cyI, 1000, .inl e_steps))] (fun u => some (.int (u.2.1 0))) (fun u => (0 ≤ (u.2.1 0).toInt ∧ (u.2.1 0).toInt ≤ 1) ∧ (0 ≤ (u.2.1 2).toInt ∧ (u.2.1 2).toInt ≤ 1000) ∧ (0 ≤ (u.2.1 3).toInt ∧ (u.2.1 3).toInt ≤ 4) ∧ (0 ≤ (u.2.1 4).toInt ∧ (u.2.1 4).toInt ≤ 1000) ∧ (0 ≤ (u.2.1 6).toInt ∧ (u.2.1 6).toInt ≤ 1000) ∧ (¬ ((u.2.1 3)).toInt = 3 ∨ ((u.2.1 4)).toInt ≤ 999) ∧ (TH t_text (t_length).toInt.toNat ((u.2.1 2)).toInt ((u.2.1 3)).toInt ((u.2.1 4)).toInt ((u.2.1 5)).toInt) ∧ (CP ((u.2.1 0)).toInt ((u.2.1 4)).toInt ((u.2.1 1)).toInt (r_fault).toInt (rLv (TKS t_text (t_length).toInt.toNat) (rPt (TKS t_text (t_length).toInt.toNat) 4) 0 (t_place).toInt.toNat))) (fun u => [(r0, .inr (5, [.ref t0, .ref e0, .ref r1, .ref r2, .ref a0, .int r_habits, .int (u.2.1 1)])), (t0, .inr (8, [.ref t1, .int t_length, .int (u.2.1 2), .int (u.2.1 3), .int (u.2.1 4), .int (u.2.1 5)])), (t1, .inl (cyC, 1000, .inl t_text)), (e0, .inr (1, [.int (u.2.1 6), .int e_nests, .ref e1, .ref e2, .ref e3])), (e1, .inl (cyI, 1000, .inl (u.2.2.1 0)))]) := by
  refine KK.of (lv0 := [(0, .ref r0), (1, .int 4), (2, .int 1)]) (by decide) rfl (Nat.le_of_ble_eq_true rfl) ?_
  intro p e s m args below meth c A C hr hk hin
  refine j_iload_n (pc := 0) C dX5_readChain_0 rfl 1 rfl ?_
  refine j_iconst (pc := 1) (v := 4) C dX5_readChain_1 (by decide) ?_
  refine j_icmp_lt_f (pc := 2) (tgt := 11) C dX5_readChain_2 (by decide) (by decide) ?_
  refine j_aload_n (pc := 5) C dX5_readChain_5 rfl 0 rfl ?_
  refine j_iload_n (pc := 6) C dX5_readChain_6 rfl 2 rfl ?_
  refine j_callV (pc := 7) (As := [.int 1]) (rest := []) (wr := []) C (c_X5_readPart_1 l D cyC cyI cyJ cyZ cyO r0 t0 t1 e0 e1 r1 r2 a0 e2 e3 r_habits r_fault t_length t_next t_kind t_place t_number e_size e_nests t_text e_steps (by omega) (by omega) (by omega) (by omega) (by omega) (by omega) h_t_text (by omega) hTH) wd_336 wd_306 wd_337 wd_338 wd_339 ⟨by decide, by decide, rfl⟩ rfl ⟨rfl, rfl, by decide, by decide⟩ ⟨by decide, by decide⟩ [0, 1, 2, 3, 4] [] rfl rfl ⟨by decide, by decide, by decide⟩ 0 rfl rfl rfl (Nat.le_of_ble_eq_true rfl) dX5_readChain_7 (fun u_1 hw_2 => ?_)
  refine j_eq (ws2 := [(r0, .inr (5, [.ref t0, .ref e0, .ref r1, .ref r2, .ref a0, .int r_habits, .int (u_1.2.1 1)])), (t0, .inr (8, [.ref t1, .int t_length, .int (u_1.2.1 2), .int (u_1.2.1 3), .int (u_1.2.1 4), .int (u_1.2.1 5)])), (t1, .inl (cyC, 1000, .inl t_text)), (e0, .inr (1, [.int (u_1.2.1 6), .int e_nests, .ref e1, .ref e2, .ref e3])), (e1, .inl (cyI, 1000, .inl (u_1.2.2.1 0)))]) (pc2 := 10) (lv2 := [(0, .ref r0), (1, .int 4), (2, .int 1)]) (st2 := [.int (u_1.2.1 0)]) rfl rfl rfl rfl ?_
  obtain ⟨hw_2_0, hw_2_1, hw_2_2, hw_2_3, hw_2_4, hw_2_5, hw_2_6, hw_2_7⟩ := hw_2
  exact j_zret (pc := 10) C hr (nb_01 ⟨by omega, by omega⟩).1 hk (fun i => [].getD i 0, fun i => [(u_1.2.1 0), (u_1.2.1 1), (u_1.2.1 2), (u_1.2.1 3), (u_1.2.1 4), (u_1.2.1 5), (u_1.2.1 6)].getD i 0, fun i => [(u_1.2.2.1 0)].getD i (fun _ => 0), fun i => [].getD i (fun _ => 0)) rfl (show (0 ≤ ((u_1.2.1 0)).toInt ∧ ((u_1.2.1 0)).toInt ≤ 1) ∧ (0 ≤ ((u_1.2.1 2)).toInt ∧ ((u_1.2.1 2)).toInt ≤ 1000) ∧ (0 ≤ ((u_1.2.1 3)).toInt ∧ ((u_1.2.1 3)).toInt ≤ 4) ∧ (0 ≤ ((u_1.2.1 4)).toInt ∧ ((u_1.2.1 4)).toInt ≤ 1000) ∧ (0 ≤ ((u_1.2.1 6)).toInt ∧ ((u_1.2.1 6)).toInt ≤ 1000) ∧ (¬ ((u_1.2.1 3)).toInt = 3 ∨ ((u_1.2.1 4)).toInt ≤ 999) ∧ (TH t_text (t_length).toInt.toNat ((u_1.2.1 2)).toInt ((u_1.2.1 3)).toInt ((u_1.2.1 4)).toInt ((u_1.2.1 5)).toInt) ∧ (CP ((u_1.2.1 0)).toInt ((u_1.2.1 4)).toInt ((u_1.2.1 1)).toInt (r_fault).toInt (rLv (TKS t_text (t_length).toInt.toNat) (rPt (TKS t_text (t_length).toInt.toNat) 4) 0 (t_place).toInt.toNat)) from ⟨by omega, by omega, by omega, by omega, by omega, by omega, hw_2_6, (CP.mv hw_2_7 rLv0)⟩) [0, 1, 2, 3, 4] (by decide) rfl (by decide) (by decide) dX5_readChain_10
set_option maxHeartbeats 4000000 in
set_option maxRecDepth 100000 in
theorem c_X5_readChain_3_1 (l : Launch) (D : DG) (cyC cyI cyJ cyZ cyO : ClassId) (r0 : Nat) (t0 : Nat) (t1 : Nat) (e0 : Nat) (e1 : Nat) (r1 : Nat) (r2 : Nat) (a0 : Nat) (e2 : Nat) (e3 : Nat) (r_habits : Int32) (r_fault : Int32) (t_length : Int32) (t_next : Int32) (t_kind : Int32) (t_place : Int32) (t_number : Int32) (e_size : Int32) (e_nests : Int32) (t_text : Nat → Int32) (e_steps : Nat → Int32) (h_t_length : 0 ≤ (t_length).toInt ∧ (t_length).toInt ≤ 1000) (h_t_next : 0 ≤ (t_next).toInt ∧ (t_next).toInt ≤ 1000) (h_t_kind : 0 ≤ (t_kind).toInt ∧ (t_kind).toInt ≤ 4) (h_t_place : 0 ≤ (t_place).toInt ∧ (t_place).toInt ≤ 1000) (h_e_size : 0 ≤ (e_size).toInt ∧ (e_size).toInt ≤ 1000) (h_e_nests : 0 ≤ (e_nests).toInt ∧ (e_nests).toInt ≤ 4) (h_t_text : Iv 1000 (0) (126) t_text) (ht3 : ¬ (t_kind).toInt = 3 ∨ (t_place).toInt ≤ 999) (hTH : TH t_text (t_length).toInt.toNat (t_next).toInt (t_kind).toInt (t_place).toInt (t_number).toInt) : KK l D (TY cyC cyI cyJ cyZ cyO) yX5_readChain cX5_readChain 7 (some .boolean) ({ frames := 32, cells := 0, slots := 0, locals := 798 } : Room) 0 0 [.ref r0, .int 3, .int 1] [(r0, .inr (5, [.ref t0, .ref e0, .ref r1, .ref r2, .ref a0, .int r_habits, .int r_fault])), (t0, .inr (8, [.ref t1, .int t_length, .int t_next, .int t_kind, .int t_place, .int t_number])), (t1, .inl (cyC, 1000, .inl t_text)), (e0, .inr (1, [.int e_size, .int e_nests, .ref e1, .ref e2, .ref e3])), (e1, .inl (cyI, 1000, .inl e_steps))] (fun u => some (.int (u.2.1 0))) (fun u => (0 ≤ (u.2.1 0).toInt ∧ (u.2.1 0).toInt ≤ 1) ∧ (0 ≤ (u.2.1 2).toInt ∧ (u.2.1 2).toInt ≤ 1000) ∧ (0 ≤ (u.2.1 3).toInt ∧ (u.2.1 3).toInt ≤ 4) ∧ (0 ≤ (u.2.1 4).toInt ∧ (u.2.1 4).toInt ≤ 1000) ∧ (0 ≤ (u.2.1 6).toInt ∧ (u.2.1 6).toInt ≤ 1000) ∧ (¬ ((u.2.1 3)).toInt = 3 ∨ ((u.2.1 4)).toInt ≤ 999) ∧ (TH t_text (t_length).toInt.toNat ((u.2.1 2)).toInt ((u.2.1 3)).toInt ((u.2.1 4)).toInt ((u.2.1 5)).toInt) ∧ (CP ((u.2.1 0)).toInt ((u.2.1 4)).toInt ((u.2.1 1)).toInt (r_fault).toInt (rLv (TKS t_text (t_length).toInt.toNat) (rPt (TKS t_text (t_length).toInt.toNat) 4) 1 (t_place).toInt.toNat))) (fun u => [(r0, .inr (5, [.ref t0, .ref e0, .ref r1, .ref r2, .ref a0, .int r_habits, .int (u.2.1 1)])), (t0, .inr (8, [.ref t1, .int t_length, .int (u.2.1 2), .int (u.2.1 3), .int (u.2.1 4), .int (u.2.1 5)])), (t1, .inl (cyC, 1000, .inl t_text)), (e0, .inr (1, [.int (u.2.1 6), .int e_nests, .ref e1, .ref e2, .ref e3])), (e1, .inl (cyI, 1000, .inl (u.2.2.1 0)))]) := by
  refine KK.of (lv0 := [(0, .ref r0), (1, .int 3), (2, .int 1)]) (by decide) rfl (Nat.le_of_ble_eq_true rfl) ?_
  intro p e s m args below meth c A C hr hk hin
  refine j_iload_n (pc := 0) C dX5_readChain_0 rfl 1 rfl ?_
  refine j_iconst (pc := 1) (v := 4) C dX5_readChain_1 (by decide) ?_
  refine j_icmp_lt_t (pc := 2) (tgt := 11) C dX5_readChain_2 (by decide) (by decide) ?_
  refine j_aload_n (pc := 11) C dX5_readChain_11 rfl 0 rfl ?_
  refine j_iload_n (pc := 12) C dX5_readChain_12 rfl 1 rfl ?_
  refine j_iconst (pc := 13) (v := 1) C dX5_readChain_13 (by decide) ?_
  refine j_iadd (pc := 14) (v := 4) C dX5_readChain_14 (by decide) ?_
  refine j_iload_n (pc := 15) C dX5_readChain_15 rfl 2 rfl ?_
  refine j_callV (pc := 16) (As := [.int 4, .int 1]) (rest := []) (wr := []) C (c_X5_readChain_4_1 l D cyC cyI cyJ cyZ cyO r0 t0 t1 e0 e1 r1 r2 a0 e2 e3 r_habits r_fault t_length t_next t_kind t_place t_number e_size e_nests t_text e_steps (by omega) (by omega) (by omega) (by omega) (by omega) (by omega) h_t_text (by omega) hTH) wd_340 wd_306 wd_341 wd_342 wd_343 ⟨by decide, by decide, rfl⟩ rfl ⟨rfl, rfl, by decide, by decide⟩ ⟨by decide, by decide⟩ [0, 1, 2, 3, 4] [] rfl rfl ⟨by decide, by decide, by decide⟩ 0 rfl rfl rfl (Nat.le_of_ble_eq_true rfl) dX5_readChain_16 (fun u_1 hw_2 => ?_)
  refine j_eq (ws2 := [(r0, .inr (5, [.ref t0, .ref e0, .ref r1, .ref r2, .ref a0, .int r_habits, .int (u_1.2.1 1)])), (t0, .inr (8, [.ref t1, .int t_length, .int (u_1.2.1 2), .int (u_1.2.1 3), .int (u_1.2.1 4), .int (u_1.2.1 5)])), (t1, .inl (cyC, 1000, .inl t_text)), (e0, .inr (1, [.int (u_1.2.1 6), .int e_nests, .ref e1, .ref e2, .ref e3])), (e1, .inl (cyI, 1000, .inl (u_1.2.2.1 0)))]) (pc2 := 19) (lv2 := [(0, .ref r0), (1, .int 3), (2, .int 1)]) (st2 := [.int (u_1.2.1 0)]) rfl rfl rfl rfl ?_
  obtain ⟨hw_2_0, hw_2_1, hw_2_2, hw_2_3, hw_2_4, hw_2_5, hw_2_6, hw_2_7⟩ := hw_2
  refine j_istore_n (pc := 19) (lv' := [(3, .int (u_1.2.1 0)), (0, .ref r0), (1, .int 3), (2, .int 1)]) C dX5_readChain_19 rfl (by decide) rfl ?_
  refine j_iload_n (pc := 20) C dX5_readChain_20 rfl 2 rfl ?_
  refine j_iconst (pc := 21) (v := 1) C dX5_readChain_21 (by decide) ?_
  refine j_icmp_ne_t (pc := 22) (tgt := 29) C dX5_readChain_22 (by decide) (by decide) ?_
  refine j_sipush (pc := 29) (v := 1000) C dX5_readChain_29 (by decide) ?_
  refine j_istore (pc := 32) (lv' := [(4, .int 1000), (3, .int (u_1.2.1 0)), (0, .ref r0), (1, .int 3), (2, .int 1)]) C dX5_readChain_32 (by decide) rfl ?_
  refine j_iconst (pc := 34) (v := 0) C dX5_readChain_34 (by decide) ?_
  refine j_istore (pc := 35) (lv' := [(5, .int 0), (4, .int 1000), (3, .int (u_1.2.1 0)), (0, .ref r0), (1, .int 3), (2, .int 1)]) C dX5_readChain_35 (by decide) rfl ?_
  have loop_3 : ∀ (k_3 : Nat) (x3_5 : Int32) (x3_3 : Int32) (y3_r0_6 : Int32) (y3_t0_2 : Int32) (y3_t0_3 : Int32) (y3_t0_4 : Int32) (y3_t0_5 : Int32) (y3_e0_0 : Int32) (g3_e1 : Nat → Int32), (0 ≤ (x3_5).toInt ∧ (x3_5).toInt ≤ 1000) → (0 ≤ (x3_3).toInt ∧ (x3_3).toInt ≤ 1) → (0 ≤ (y3_t0_2).toInt ∧ (y3_t0_2).toInt ≤ 1000) → (0 ≤ (y3_t0_3).toInt ∧ (y3_t0_3).toInt ≤ 4) → (0 ≤ (y3_t0_4).toInt ∧ (y3_t0_4).toInt ≤ 1000) → (0 ≤ (y3_e0_0).toInt ∧ (y3_e0_0).toInt ≤ 1000) → (¬ y3_t0_3.toInt = 3 ∨ y3_t0_4.toInt ≤ 999) → (TH t_text (t_length).toInt.toNat y3_t0_2.toInt y3_t0_3.toInt y3_t0_4.toInt y3_t0_5.toInt) → (CH (TKS t_text (t_length).toInt.toNat) (rLv (TKS t_text (t_length).toInt.toNat) (rPt (TKS t_text (t_length).toInt.toNat) 4) 0) (jnt (TKS t_text (t_length).toInt.toNat) 3) (1000 - x3_5.toInt).toNat x3_3.toInt y3_t0_4.toInt y3_r0_6.toInt (r_fault).toInt (rLv (TKS t_text (t_length).toInt.toNat) (rPt (TKS t_text (t_length).toInt.toNat) 4) 1 (t_place).toInt.toNat)) → (1000 - x3_5.toInt).toNat < k_3 → J p l e ({ frames := 32, cells := 0, slots := 0, locals := 798 } : Room) s m args below meth c D A 7 0 0 (QX below D (TY cyC cyI cyJ cyZ cyO) A (fun u => some (.int (u.2.1 0))) (fun u => (0 ≤ (u.2.1 0).toInt ∧ (u.2.1 0).toInt ≤ 1) ∧ (0 ≤ (u.2.1 2).toInt ∧ (u.2.1 2).toInt ≤ 1000) ∧ (0 ≤ (u.2.1 3).toInt ∧ (u.2.1 3).toInt ≤ 4) ∧ (0 ≤ (u.2.1 4).toInt ∧ (u.2.1 4).toInt ≤ 1000) ∧ (0 ≤ (u.2.1 6).toInt ∧ (u.2.1 6).toInt ≤ 1000) ∧ (¬ ((u.2.1 3)).toInt = 3 ∨ ((u.2.1 4)).toInt ≤ 999) ∧ (TH t_text (t_length).toInt.toNat ((u.2.1 2)).toInt ((u.2.1 3)).toInt ((u.2.1 4)).toInt ((u.2.1 5)).toInt) ∧ (CP ((u.2.1 0)).toInt ((u.2.1 4)).toInt ((u.2.1 1)).toInt (r_fault).toInt (rLv (TKS t_text (t_length).toInt.toNat) (rPt (TKS t_text (t_length).toInt.toNat) 4) 1 (t_place).toInt.toNat))) (fun u => [(r0, .inr (5, [.ref t0, .ref e0, .ref r1, .ref r2, .ref a0, .int r_habits, .int (u.2.1 1)])), (t0, .inr (8, [.ref t1, .int t_length, .int (u.2.1 2), .int (u.2.1 3), .int (u.2.1 4), .int (u.2.1 5)])), (t1, .inl (cyC, 1000, .inl t_text)), (e0, .inr (1, [.int (u.2.1 6), .int e_nests, .ref e1, .ref e2, .ref e3])), (e1, .inl (cyI, 1000, .inl (u.2.2.1 0)))]) args s 0 0) [(r0, .inr (5, [.ref t0, .ref e0, .ref r1, .ref r2, .ref a0, .int r_habits, .int y3_r0_6])), (t0, .inr (8, [.ref t1, .int t_length, .int y3_t0_2, .int y3_t0_3, .int y3_t0_4, .int y3_t0_5])), (t1, .inl (cyC, 1000, .inl t_text)), (e0, .inr (1, [.int y3_e0_0, .int e_nests, .ref e1, .ref e2, .ref e3])), (e1, .inl (cyI, 1000, .inl g3_e1))] 37 [(5, .int x3_5), (4, .int 1000), (3, .int x3_3), (0, .ref r0), (1, .int 3), (2, .int 1)] [] := by
    intro k_3
    induction k_3 with
    | zero =>
      intro x3_5 x3_3 y3_r0_6 y3_t0_2 y3_t0_3 y3_t0_4 y3_t0_5 y3_e0_0 g3_e1 hi_3_0 hi_3_1 hi_3_3 hi_3_4 hi_3_5 hi_3_7 hr_3 hq_3_0 hq_3_1 hm_3
      exact absurd hm_3 (Nat.not_lt_zero _)
    | succ k_3 ih_3 =>
      intro x3_5 x3_3 y3_r0_6 y3_t0_2 y3_t0_3 y3_t0_4 y3_t0_5 y3_e0_0 g3_e1 hi_3_0 hi_3_1 hi_3_3 hi_3_4 hi_3_5 hi_3_7 hr_3 hq_3_0 hq_3_1 hm_3
      refine j_iload (pc := 37) C dX5_readChain_37 0 rfl ?_
      refine j_iload (pc := 39) C dX5_readChain_39 1 rfl ?_
      refine j_icmp_ge (pc := 41) (tgt := 95) C dX5_readChain_41 (by decide) (fun c_4 => ?_) (fun c_4 => ?_)
      · skip
        have el_1000 : (1000 : Int32).toInt = 1000 := rfl
        rw [i_le] at c_4
        refine j_iload_n (pc := 95) C dX5_readChain_95 rfl 2 rfl ?_
        exact j_zret (pc := 96) C hr (nb_01 ⟨by omega, by omega⟩).1 hk (fun i => [].getD i 0, fun i => [x3_3, y3_r0_6, y3_t0_2, y3_t0_3, y3_t0_4, y3_t0_5, y3_e0_0].getD i 0, fun i => [g3_e1].getD i (fun _ => 0), fun i => [].getD i (fun _ => 0)) rfl (show (0 ≤ (x3_3).toInt ∧ (x3_3).toInt ≤ 1) ∧ (0 ≤ (y3_t0_2).toInt ∧ (y3_t0_2).toInt ≤ 1000) ∧ (0 ≤ (y3_t0_3).toInt ∧ (y3_t0_3).toInt ≤ 4) ∧ (0 ≤ (y3_t0_4).toInt ∧ (y3_t0_4).toInt ≤ 1000) ∧ (0 ≤ (y3_e0_0).toInt ∧ (y3_e0_0).toInt ≤ 1000) ∧ (¬ (y3_t0_3).toInt = 3 ∨ (y3_t0_4).toInt ≤ 999) ∧ (TH t_text (t_length).toInt.toNat (y3_t0_2).toInt (y3_t0_3).toInt (y3_t0_4).toInt (y3_t0_5).toInt) ∧ (CP (x3_3).toInt (y3_t0_4).toInt (y3_r0_6).toInt (r_fault).toInt (rLv (TKS t_text (t_length).toInt.toNat) (rPt (TKS t_text (t_length).toInt.toNat) 4) 1 (t_place).toInt.toNat)) from ⟨by omega, by omega, by omega, by omega, by omega, by omega, hq_3_0, (CH.stop hq_3_1 (fun z => Or.inl (by omega)))⟩) [0, 1, 2, 3, 4] (by decide) rfl (by decide) (by decide) dX5_readChain_96
      · skip
        have el_1000 : (1000 : Int32).toInt = 1000 := rfl
        rw [i_le] at c_4
        refine j_iload_n (pc := 44) C dX5_readChain_44 rfl 2 rfl ?_
        refine j_if_eq (pc := 45) (tgt := 95) C dX5_readChain_45 (by decide) (fun c_5 => ?_) (fun c_5 => ?_)
        · skip
          have el_0 : (0 : Int32).toInt = 0 := rfl
          rw [i_eq] at c_5
          refine j_iload_n (pc := 95) C dX5_readChain_95 rfl 2 rfl ?_
          exact j_zret (pc := 96) C hr (nb_01 ⟨by omega, by omega⟩).1 hk (fun i => [].getD i 0, fun i => [x3_3, y3_r0_6, y3_t0_2, y3_t0_3, y3_t0_4, y3_t0_5, y3_e0_0].getD i 0, fun i => [g3_e1].getD i (fun _ => 0), fun i => [].getD i (fun _ => 0)) rfl (show (0 ≤ (x3_3).toInt ∧ (x3_3).toInt ≤ 1) ∧ (0 ≤ (y3_t0_2).toInt ∧ (y3_t0_2).toInt ≤ 1000) ∧ (0 ≤ (y3_t0_3).toInt ∧ (y3_t0_3).toInt ≤ 4) ∧ (0 ≤ (y3_t0_4).toInt ∧ (y3_t0_4).toInt ≤ 1000) ∧ (0 ≤ (y3_e0_0).toInt ∧ (y3_e0_0).toInt ≤ 1000) ∧ (¬ (y3_t0_3).toInt = 3 ∨ (y3_t0_4).toInt ≤ 999) ∧ (TH t_text (t_length).toInt.toNat (y3_t0_2).toInt (y3_t0_3).toInt (y3_t0_4).toInt (y3_t0_5).toInt) ∧ (CP (x3_3).toInt (y3_t0_4).toInt (y3_r0_6).toInt (r_fault).toInt (rLv (TKS t_text (t_length).toInt.toNat) (rPt (TKS t_text (t_length).toInt.toNat) 4) 1 (t_place).toInt.toNat)) from ⟨by omega, by omega, by omega, by omega, by omega, by omega, hq_3_0, (CH.stop hq_3_1 (fun z => absurd z (by omega)))⟩) [0, 1, 2, 3, 4] (by decide) rfl (by decide) (by decide) dX5_readChain_96
        · skip
          have el_0 : (0 : Int32).toInt = 0 := rfl
          rw [i_eq] at c_5
          refine j_aload_n (pc := 48) C dX5_readChain_48 rfl 3 rfl ?_
          refine j_iload_n (pc := 49) C dX5_readChain_49 rfl 4 rfl ?_
          refine j_callV (pc := 50) (As := [.int 3]) (rest := []) (wr := [(e0, .inr (1, [.int y3_e0_0, .int e_nests, .ref e1, .ref e2, .ref e3])), (e1, .inl (cyI, 1000, .inl g3_e1))]) C (c_X5_joint_3 l D cyC cyI cyJ cyZ cyO r0 t0 t1 e0 r1 r2 a0 r_habits y3_r0_6 t_length y3_t0_2 y3_t0_3 y3_t0_4 y3_t0_5 t_text (by omega) (by omega) (by omega) (by omega) h_t_text (by omega) hq_3_0) wd_349 wd_306 wd_350 wd_351 wd_352 ⟨by decide, by decide, rfl⟩ rfl ⟨rfl, rfl, by decide, by decide⟩ ⟨by decide, by decide⟩ [0, 1, 2] [3, 4] rfl rfl ⟨by decide, by decide, by decide⟩ 0 rfl rfl rfl (Nat.le_of_ble_eq_true rfl) dX5_readChain_50 (fun u_6 hw_7 => ?_)
          refine j_eq (ws2 := [(e0, .inr (1, [.int y3_e0_0, .int e_nests, .ref e1, .ref e2, .ref e3])), (e1, .inl (cyI, 1000, .inl g3_e1)), (r0, .inr (5, [.ref t0, .ref e0, .ref r1, .ref r2, .ref a0, .int r_habits, .int y3_r0_6])), (t0, .inr (8, [.ref t1, .int t_length, .int y3_t0_2, .int y3_t0_3, .int y3_t0_4, .int y3_t0_5])), (t1, .inl (cyC, 1000, .inl t_text))]) (pc2 := 53) (lv2 := [(5, .int x3_5), (4, .int 1000), (3, .int x3_3), (0, .ref r0), (1, .int 3), (2, .int 1)]) (st2 := [.int (u_6.2.1 0)]) rfl rfl rfl rfl ?_
          obtain ⟨hw_7_0, hw_7_1⟩ := hw_7
          refine j_istore (pc := 53) (lv' := [(6, .int (u_6.2.1 0)), (5, .int x3_5), (4, .int 1000), (3, .int x3_3), (0, .ref r0), (1, .int 3), (2, .int 1)]) C dX5_readChain_53 (by decide) rfl ?_
          refine j_iload (pc := 55) C dX5_readChain_55 0 rfl ?_
          refine j_bipush (pc := 57) (v := (-100)) C dX5_readChain_57 (by decide) ?_
          refine j_icmp_ne (pc := 59) (tgt := 64) C dX5_readChain_59 (by decide) (fun c_8 => ?_) (fun c_8 => ?_)
          · skip
            have el_m100 : ((-100) : Int32).toInt = (-100) := rfl
            rw [i_eq] at c_8
            refine j_aload_n (pc := 64) C dX5_readChain_64 rfl 4 rfl ?_
            refine j_get (pc := 65) (ci := 5) (v := .ref t0) C inw_5 2 rfl rfl 0 (by decide) wd_296 rfl rfl dX5_readChain_65 ?_
            refine j_callV (pc := 68) (As := []) (rest := []) (wr := [(e0, .inr (1, [.int y3_e0_0, .int e_nests, .ref e1, .ref e2, .ref e3])), (e1, .inl (cyI, 1000, .inl g3_e1)), (r0, .inr (5, [.ref t0, .ref e0, .ref r1, .ref r2, .ref a0, .int r_habits, .int y3_r0_6]))]) C (c_X8_advance_f l D cyC cyI cyJ cyZ cyO t0 t1 t_length y3_t0_2 y3_t0_3 y3_t0_4 y3_t0_5 t_text (by omega) (by omega) (by omega) (by omega) h_t_text) wd_277 wd_258 wd_304 wd_279 wd_280 ⟨by decide, by decide, rfl⟩ rfl ⟨rfl, rfl, by decide, by decide⟩ ⟨by decide, by decide⟩ [3, 4] [0, 1, 2] rfl rfl ⟨by decide, by decide, by decide⟩ 3 rfl rfl rfl (Nat.le_of_ble_eq_true rfl) dX5_readChain_68 (fun u_9 hw_10 => ?_)
            refine j_eq (ws2 := [(e0, .inr (1, [.int y3_e0_0, .int e_nests, .ref e1, .ref e2, .ref e3])), (e1, .inl (cyI, 1000, .inl g3_e1)), (r0, .inr (5, [.ref t0, .ref e0, .ref r1, .ref r2, .ref a0, .int r_habits, .int y3_r0_6])), (t0, .inr (8, [.ref t1, .int t_length, .int (u_9.2.1 0), .int (u_9.2.1 1), .int (u_9.2.1 2), .int (u_9.2.1 3)])), (t1, .inl (cyC, 1000, .inl t_text))]) (pc2 := 71) (lv2 := [(6, .int (u_6.2.1 0)), (5, .int x3_5), (4, .int 1000), (3, .int x3_3), (0, .ref r0), (1, .int 3), (2, .int 1)]) (st2 := []) rfl rfl rfl rfl ?_
            obtain ⟨hw_10_0, hw_10_1, hw_10_2, hw_10_3, hw_10_4, hw_10_5⟩ := hw_10
            have ha_u_9 := (hw_10_5).trans (TH.adv hq_3_0)
            refine j_aload_n (pc := 71) C dX5_readChain_71 rfl 4 rfl ?_
            refine j_iload_n (pc := 72) C dX5_readChain_72 rfl 5 rfl ?_
            refine j_iconst (pc := 73) (v := 1) C dX5_readChain_73 (by decide) ?_
            refine j_iadd (pc := 74) (v := 4) C dX5_readChain_74 (by decide) ?_
            refine j_iload_n (pc := 75) C dX5_readChain_75 rfl 6 rfl ?_
            refine j_callV (pc := 76) (As := [.int 4, .int 1]) (rest := []) (wr := []) C (c_X5_readChain_4_1 l D cyC cyI cyJ cyZ cyO r0 t0 t1 e0 e1 r1 r2 a0 e2 e3 r_habits y3_r0_6 t_length (u_9.2.1 0) (u_9.2.1 1) (u_9.2.1 2) (u_9.2.1 3) y3_e0_0 e_nests t_text g3_e1 (by omega) (by omega) (by omega) (by omega) (by omega) (by omega) h_t_text (by omega) hw_10_4) wd_340 wd_306 wd_341 wd_342 wd_343 ⟨by decide, by decide, rfl⟩ rfl ⟨rfl, rfl, by decide, by decide⟩ ⟨by decide, by decide⟩ [2, 3, 4, 0, 1] [] rfl rfl ⟨by decide, by decide, by decide⟩ 2 rfl rfl rfl (Nat.le_of_ble_eq_true rfl) dX5_readChain_76 (fun u_11 hw_12 => ?_)
            refine j_eq (ws2 := [(r0, .inr (5, [.ref t0, .ref e0, .ref r1, .ref r2, .ref a0, .int r_habits, .int (u_11.2.1 1)])), (t0, .inr (8, [.ref t1, .int t_length, .int (u_11.2.1 2), .int (u_11.2.1 3), .int (u_11.2.1 4), .int (u_11.2.1 5)])), (t1, .inl (cyC, 1000, .inl t_text)), (e0, .inr (1, [.int (u_11.2.1 6), .int e_nests, .ref e1, .ref e2, .ref e3])), (e1, .inl (cyI, 1000, .inl (u_11.2.2.1 0)))]) (pc2 := 79) (lv2 := [(6, .int (u_6.2.1 0)), (5, .int x3_5), (4, .int 1000), (3, .int x3_3), (0, .ref r0), (1, .int 3), (2, .int 1)]) (st2 := [.int (u_11.2.1 0)]) rfl rfl rfl rfl ?_
            obtain ⟨hw_12_0, hw_12_1, hw_12_2, hw_12_3, hw_12_4, hw_12_5, hw_12_6, hw_12_7⟩ := hw_12
            refine j_istore_n (pc := 79) (lv' := [(3, .int (u_11.2.1 0)), (6, .int (u_6.2.1 0)), (5, .int x3_5), (4, .int 1000), (0, .ref r0), (1, .int 3), (2, .int 1)]) C dX5_readChain_79 rfl (by decide) rfl ?_
            refine j_aload_n (pc := 80) C dX5_readChain_80 rfl 4 rfl ?_
            refine j_get (pc := 81) (ci := 5) (v := .ref e0) C inw_5 0 rfl rfl 1 (by decide) wd_344 rfl rfl dX5_readChain_81 ?_
            refine j_iload (pc := 84) C dX5_readChain_84 1 rfl ?_
            refine j_callV (pc := 86) (As := [.int (u_6.2.1 0)]) (rest := []) (wr := [(r0, .inr (5, [.ref t0, .ref e0, .ref r1, .ref r2, .ref a0, .int r_habits, .int (u_11.2.1 1)])), (t0, .inr (8, [.ref t1, .int t_length, .int (u_11.2.1 2), .int (u_11.2.1 3), .int (u_11.2.1 4), .int (u_11.2.1 5)])), (t1, .inl (cyC, 1000, .inl t_text))]) C (c_X1_add l D cyC cyI cyJ cyZ cyO e0 e1 e2 e3 (u_6.2.1 0) (u_11.2.1 6) e_nests (u_11.2.2.1 0) (by omega) (by omega)) wd_345 wd_200 wd_346 wd_347 wd_348 ⟨by decide, by decide, rfl⟩ rfl ⟨rfl, rfl, by decide, by decide⟩ ⟨by decide, by decide⟩ [3, 4] [0, 1, 2] rfl rfl ⟨by decide, by decide, by decide⟩ 3 rfl rfl rfl (Nat.le_of_ble_eq_true rfl) dX5_readChain_86 (fun u_13 hw_14 => ?_)
            refine j_eq (ws2 := [(r0, .inr (5, [.ref t0, .ref e0, .ref r1, .ref r2, .ref a0, .int r_habits, .int (u_11.2.1 1)])), (t0, .inr (8, [.ref t1, .int t_length, .int (u_11.2.1 2), .int (u_11.2.1 3), .int (u_11.2.1 4), .int (u_11.2.1 5)])), (t1, .inl (cyC, 1000, .inl t_text)), (e0, .inr (1, [.int (u_13.2.1 0), .int e_nests, .ref e1, .ref e2, .ref e3])), (e1, .inl (cyI, 1000, .inl (u_13.2.2.1 0)))]) (pc2 := 89) (lv2 := [(3, .int (u_11.2.1 0)), (6, .int (u_6.2.1 0)), (5, .int x3_5), (4, .int 1000), (0, .ref r0), (1, .int 3), (2, .int 1)]) (st2 := []) rfl rfl rfl rfl ?_
            have hw_14_0 : 0 ≤ (u_13.2.1 0).toInt ∧ (u_13.2.1 0).toInt ≤ 1000 := hw_14
            obtain ⟨v_15, ev_15⟩ : ∃ z : Int32, x3_5 + 1 = z := ⟨_, rfl⟩
            have el_1 : (1 : Int32).toInt = 1 := rfl
            have hv_15 : v_15.toInt = x3_5.toInt + (1 : Int32).toInt := by rw [← ev_15]; exact fb_addI (by omega) (by omega)
            refine j_iinc (pc := 89) (v := v_15) (lv' := [(5, .int v_15), (3, .int (u_11.2.1 0)), (6, .int (u_6.2.1 0)), (4, .int 1000), (0, .ref r0), (1, .int 3), (2, .int 1)]) C dX5_readChain_89 2 rfl ev_15 (by decide) rfl ?_
            refine j_goto (pc := 92) (tgt := 37) C dX5_readChain_92 (by decide) ?_
            exact j_lv [0, 3, 1, 4, 5, 6] rfl (ih_3 v_15 (u_11.2.1 0) (u_11.2.1 1) (u_11.2.1 2) (u_11.2.1 3) (u_11.2.1 4) (u_11.2.1 5) (u_13.2.1 0) (u_13.2.2.1 0) (by omega) (by omega) (by omega) (by omega) (by omega) (by omega) (by omega) hw_12_6 (CH.step (k := (1000 - (v_15).toInt).toNat) (by rw [show (1000 - (v_15).toInt).toNat + 1 = (1000 - (x3_5).toInt).toNat from (by omega)]; exact hq_3_1) (by omega) (by rcases hw_7_1 with z | z; omega; exact z.2) ha_u_9 hw_12_7) (by omega))
          · skip
            have el_m100 : ((-100) : Int32).toInt = (-100) := rfl
            rw [i_eq] at c_8
            refine j_iconst (pc := 62) (v := 1) C dX5_readChain_62 (by decide) ?_
            have el_1 : (1 : Int32).toInt = 1 := rfl
            have el_1 : (1 : Int32).toInt = 1 := rfl
            have el_1 : (1 : Int32).toInt = 1 := rfl
            have el_1 : (1 : Int32).toInt = 1 := rfl
            exact j_zret (pc := 63) C hr rfl hk (fun i => [].getD i 0, fun i => [1, y3_r0_6, y3_t0_2, y3_t0_3, y3_t0_4, y3_t0_5, y3_e0_0].getD i 0, fun i => [g3_e1].getD i (fun _ => 0), fun i => [].getD i (fun _ => 0)) rfl (show (0 ≤ ((1 : Int32)).toInt ∧ ((1 : Int32)).toInt ≤ 1) ∧ (0 ≤ (y3_t0_2).toInt ∧ (y3_t0_2).toInt ≤ 1000) ∧ (0 ≤ (y3_t0_3).toInt ∧ (y3_t0_3).toInt ≤ 4) ∧ (0 ≤ (y3_t0_4).toInt ∧ (y3_t0_4).toInt ≤ 1000) ∧ (0 ≤ (y3_e0_0).toInt ∧ (y3_e0_0).toInt ≤ 1000) ∧ (¬ (y3_t0_3).toInt = 3 ∨ (y3_t0_4).toInt ≤ 999) ∧ (TH t_text (t_length).toInt.toNat (y3_t0_2).toInt (y3_t0_3).toInt (y3_t0_4).toInt (y3_t0_5).toInt) ∧ (CP ((1 : Int32)).toInt (y3_t0_4).toInt (y3_r0_6).toInt (r_fault).toInt (rLv (TKS t_text (t_length).toInt.toNat) (rPt (TKS t_text (t_length).toInt.toNat) 4) 1 (t_place).toInt.toNat)) from ⟨by omega, by omega, by omega, by omega, by omega, by omega, hq_3_0, (CP.ok (by omega) ((CH.stop hq_3_1 (fun _ => Or.inr (by rcases hw_7_1 with z | z; (rw [z.2]; decide); omega))).1 (by omega)).2 ((CH.stop hq_3_1 (fun _ => Or.inr (by rcases hw_7_1 with z | z; (rw [z.2]; decide); omega))).1 (by omega)).1)⟩) [2, 3, 4, 0, 1] (by decide) rfl (by decide) (by decide) dX5_readChain_63
  have el_0 : (0 : Int32).toInt = 0 := rfl
  exact j_lv [0, 1, 2, 3, 4, 5] rfl (loop_3 4096 0 (u_1.2.1 0) (u_1.2.1 1) (u_1.2.1 2) (u_1.2.1 3) (u_1.2.1 4) (u_1.2.1 5) (u_1.2.1 6) (u_1.2.2.1 0) (by decide) (by omega) (by omega) (by omega) (by omega) (by omega) (by omega) hw_2_6 (by rw [rLv1, show (1000 - (0 : Int32).toInt).toNat = 1000 from by decide]; exact CH.start hw_2_7) (by omega))
set_option maxHeartbeats 4000000 in
set_option maxRecDepth 100000 in
theorem c_X5_readChain_2_1 (l : Launch) (D : DG) (cyC cyI cyJ cyZ cyO : ClassId) (r0 : Nat) (t0 : Nat) (t1 : Nat) (e0 : Nat) (e1 : Nat) (r1 : Nat) (r2 : Nat) (a0 : Nat) (e2 : Nat) (e3 : Nat) (r_habits : Int32) (r_fault : Int32) (t_length : Int32) (t_next : Int32) (t_kind : Int32) (t_place : Int32) (t_number : Int32) (e_size : Int32) (e_nests : Int32) (t_text : Nat → Int32) (e_steps : Nat → Int32) (h_t_length : 0 ≤ (t_length).toInt ∧ (t_length).toInt ≤ 1000) (h_t_next : 0 ≤ (t_next).toInt ∧ (t_next).toInt ≤ 1000) (h_t_kind : 0 ≤ (t_kind).toInt ∧ (t_kind).toInt ≤ 4) (h_t_place : 0 ≤ (t_place).toInt ∧ (t_place).toInt ≤ 1000) (h_e_size : 0 ≤ (e_size).toInt ∧ (e_size).toInt ≤ 1000) (h_e_nests : 0 ≤ (e_nests).toInt ∧ (e_nests).toInt ≤ 4) (h_t_text : Iv 1000 (0) (126) t_text) (ht3 : ¬ (t_kind).toInt = 3 ∨ (t_place).toInt ≤ 999) (hTH : TH t_text (t_length).toInt.toNat (t_next).toInt (t_kind).toInt (t_place).toInt (t_number).toInt) : KK l D (TY cyC cyI cyJ cyZ cyO) yX5_readChain cX5_readChain 7 (some .boolean) ({ frames := 33, cells := 0, slots := 0, locals := 824 } : Room) 0 0 [.ref r0, .int 2, .int 1] [(r0, .inr (5, [.ref t0, .ref e0, .ref r1, .ref r2, .ref a0, .int r_habits, .int r_fault])), (t0, .inr (8, [.ref t1, .int t_length, .int t_next, .int t_kind, .int t_place, .int t_number])), (t1, .inl (cyC, 1000, .inl t_text)), (e0, .inr (1, [.int e_size, .int e_nests, .ref e1, .ref e2, .ref e3])), (e1, .inl (cyI, 1000, .inl e_steps))] (fun u => some (.int (u.2.1 0))) (fun u => (0 ≤ (u.2.1 0).toInt ∧ (u.2.1 0).toInt ≤ 1) ∧ (0 ≤ (u.2.1 2).toInt ∧ (u.2.1 2).toInt ≤ 1000) ∧ (0 ≤ (u.2.1 3).toInt ∧ (u.2.1 3).toInt ≤ 4) ∧ (0 ≤ (u.2.1 4).toInt ∧ (u.2.1 4).toInt ≤ 1000) ∧ (0 ≤ (u.2.1 6).toInt ∧ (u.2.1 6).toInt ≤ 1000) ∧ (¬ ((u.2.1 3)).toInt = 3 ∨ ((u.2.1 4)).toInt ≤ 999) ∧ (TH t_text (t_length).toInt.toNat ((u.2.1 2)).toInt ((u.2.1 3)).toInt ((u.2.1 4)).toInt ((u.2.1 5)).toInt) ∧ (CP ((u.2.1 0)).toInt ((u.2.1 4)).toInt ((u.2.1 1)).toInt (r_fault).toInt (rLv (TKS t_text (t_length).toInt.toNat) (rPt (TKS t_text (t_length).toInt.toNat) 4) 2 (t_place).toInt.toNat))) (fun u => [(r0, .inr (5, [.ref t0, .ref e0, .ref r1, .ref r2, .ref a0, .int r_habits, .int (u.2.1 1)])), (t0, .inr (8, [.ref t1, .int t_length, .int (u.2.1 2), .int (u.2.1 3), .int (u.2.1 4), .int (u.2.1 5)])), (t1, .inl (cyC, 1000, .inl t_text)), (e0, .inr (1, [.int (u.2.1 6), .int e_nests, .ref e1, .ref e2, .ref e3])), (e1, .inl (cyI, 1000, .inl (u.2.2.1 0)))]) := by
  refine KK.of (lv0 := [(0, .ref r0), (1, .int 2), (2, .int 1)]) (by decide) rfl (Nat.le_of_ble_eq_true rfl) ?_
  intro p e s m args below meth c A C hr hk hin
  refine j_iload_n (pc := 0) C dX5_readChain_0 rfl 1 rfl ?_
  refine j_iconst (pc := 1) (v := 4) C dX5_readChain_1 (by decide) ?_
  refine j_icmp_lt_t (pc := 2) (tgt := 11) C dX5_readChain_2 (by decide) (by decide) ?_
  refine j_aload_n (pc := 11) C dX5_readChain_11 rfl 0 rfl ?_
  refine j_iload_n (pc := 12) C dX5_readChain_12 rfl 1 rfl ?_
  refine j_iconst (pc := 13) (v := 1) C dX5_readChain_13 (by decide) ?_
  refine j_iadd (pc := 14) (v := 3) C dX5_readChain_14 (by decide) ?_
  refine j_iload_n (pc := 15) C dX5_readChain_15 rfl 2 rfl ?_
  refine j_callV (pc := 16) (As := [.int 3, .int 1]) (rest := []) (wr := []) C (c_X5_readChain_3_1 l D cyC cyI cyJ cyZ cyO r0 t0 t1 e0 e1 r1 r2 a0 e2 e3 r_habits r_fault t_length t_next t_kind t_place t_number e_size e_nests t_text e_steps (by omega) (by omega) (by omega) (by omega) (by omega) (by omega) h_t_text (by omega) hTH) wd_340 wd_306 wd_341 wd_342 wd_343 ⟨by decide, by decide, rfl⟩ rfl ⟨rfl, rfl, by decide, by decide⟩ ⟨by decide, by decide⟩ [0, 1, 2, 3, 4] [] rfl rfl ⟨by decide, by decide, by decide⟩ 0 rfl rfl rfl (Nat.le_of_ble_eq_true rfl) dX5_readChain_16 (fun u_1 hw_2 => ?_)
  refine j_eq (ws2 := [(r0, .inr (5, [.ref t0, .ref e0, .ref r1, .ref r2, .ref a0, .int r_habits, .int (u_1.2.1 1)])), (t0, .inr (8, [.ref t1, .int t_length, .int (u_1.2.1 2), .int (u_1.2.1 3), .int (u_1.2.1 4), .int (u_1.2.1 5)])), (t1, .inl (cyC, 1000, .inl t_text)), (e0, .inr (1, [.int (u_1.2.1 6), .int e_nests, .ref e1, .ref e2, .ref e3])), (e1, .inl (cyI, 1000, .inl (u_1.2.2.1 0)))]) (pc2 := 19) (lv2 := [(0, .ref r0), (1, .int 2), (2, .int 1)]) (st2 := [.int (u_1.2.1 0)]) rfl rfl rfl rfl ?_
  obtain ⟨hw_2_0, hw_2_1, hw_2_2, hw_2_3, hw_2_4, hw_2_5, hw_2_6, hw_2_7⟩ := hw_2
  refine j_istore_n (pc := 19) (lv' := [(3, .int (u_1.2.1 0)), (0, .ref r0), (1, .int 2), (2, .int 1)]) C dX5_readChain_19 rfl (by decide) rfl ?_
  refine j_iload_n (pc := 20) C dX5_readChain_20 rfl 2 rfl ?_
  refine j_iconst (pc := 21) (v := 1) C dX5_readChain_21 (by decide) ?_
  refine j_icmp_ne_t (pc := 22) (tgt := 29) C dX5_readChain_22 (by decide) (by decide) ?_
  refine j_sipush (pc := 29) (v := 1000) C dX5_readChain_29 (by decide) ?_
  refine j_istore (pc := 32) (lv' := [(4, .int 1000), (3, .int (u_1.2.1 0)), (0, .ref r0), (1, .int 2), (2, .int 1)]) C dX5_readChain_32 (by decide) rfl ?_
  refine j_iconst (pc := 34) (v := 0) C dX5_readChain_34 (by decide) ?_
  refine j_istore (pc := 35) (lv' := [(5, .int 0), (4, .int 1000), (3, .int (u_1.2.1 0)), (0, .ref r0), (1, .int 2), (2, .int 1)]) C dX5_readChain_35 (by decide) rfl ?_
  have loop_3 : ∀ (k_3 : Nat) (x3_5 : Int32) (x3_3 : Int32) (y3_r0_6 : Int32) (y3_t0_2 : Int32) (y3_t0_3 : Int32) (y3_t0_4 : Int32) (y3_t0_5 : Int32) (y3_e0_0 : Int32) (g3_e1 : Nat → Int32), (0 ≤ (x3_5).toInt ∧ (x3_5).toInt ≤ 1000) → (0 ≤ (x3_3).toInt ∧ (x3_3).toInt ≤ 1) → (0 ≤ (y3_t0_2).toInt ∧ (y3_t0_2).toInt ≤ 1000) → (0 ≤ (y3_t0_3).toInt ∧ (y3_t0_3).toInt ≤ 4) → (0 ≤ (y3_t0_4).toInt ∧ (y3_t0_4).toInt ≤ 1000) → (0 ≤ (y3_e0_0).toInt ∧ (y3_e0_0).toInt ≤ 1000) → (¬ y3_t0_3.toInt = 3 ∨ y3_t0_4.toInt ≤ 999) → (TH t_text (t_length).toInt.toNat y3_t0_2.toInt y3_t0_3.toInt y3_t0_4.toInt y3_t0_5.toInt) → (CH (TKS t_text (t_length).toInt.toNat) (rLv (TKS t_text (t_length).toInt.toNat) (rPt (TKS t_text (t_length).toInt.toNat) 4) 1) (jnt (TKS t_text (t_length).toInt.toNat) 2) (1000 - x3_5.toInt).toNat x3_3.toInt y3_t0_4.toInt y3_r0_6.toInt (r_fault).toInt (rLv (TKS t_text (t_length).toInt.toNat) (rPt (TKS t_text (t_length).toInt.toNat) 4) 2 (t_place).toInt.toNat)) → (1000 - x3_5.toInt).toNat < k_3 → J p l e ({ frames := 33, cells := 0, slots := 0, locals := 824 } : Room) s m args below meth c D A 7 0 0 (QX below D (TY cyC cyI cyJ cyZ cyO) A (fun u => some (.int (u.2.1 0))) (fun u => (0 ≤ (u.2.1 0).toInt ∧ (u.2.1 0).toInt ≤ 1) ∧ (0 ≤ (u.2.1 2).toInt ∧ (u.2.1 2).toInt ≤ 1000) ∧ (0 ≤ (u.2.1 3).toInt ∧ (u.2.1 3).toInt ≤ 4) ∧ (0 ≤ (u.2.1 4).toInt ∧ (u.2.1 4).toInt ≤ 1000) ∧ (0 ≤ (u.2.1 6).toInt ∧ (u.2.1 6).toInt ≤ 1000) ∧ (¬ ((u.2.1 3)).toInt = 3 ∨ ((u.2.1 4)).toInt ≤ 999) ∧ (TH t_text (t_length).toInt.toNat ((u.2.1 2)).toInt ((u.2.1 3)).toInt ((u.2.1 4)).toInt ((u.2.1 5)).toInt) ∧ (CP ((u.2.1 0)).toInt ((u.2.1 4)).toInt ((u.2.1 1)).toInt (r_fault).toInt (rLv (TKS t_text (t_length).toInt.toNat) (rPt (TKS t_text (t_length).toInt.toNat) 4) 2 (t_place).toInt.toNat))) (fun u => [(r0, .inr (5, [.ref t0, .ref e0, .ref r1, .ref r2, .ref a0, .int r_habits, .int (u.2.1 1)])), (t0, .inr (8, [.ref t1, .int t_length, .int (u.2.1 2), .int (u.2.1 3), .int (u.2.1 4), .int (u.2.1 5)])), (t1, .inl (cyC, 1000, .inl t_text)), (e0, .inr (1, [.int (u.2.1 6), .int e_nests, .ref e1, .ref e2, .ref e3])), (e1, .inl (cyI, 1000, .inl (u.2.2.1 0)))]) args s 0 0) [(r0, .inr (5, [.ref t0, .ref e0, .ref r1, .ref r2, .ref a0, .int r_habits, .int y3_r0_6])), (t0, .inr (8, [.ref t1, .int t_length, .int y3_t0_2, .int y3_t0_3, .int y3_t0_4, .int y3_t0_5])), (t1, .inl (cyC, 1000, .inl t_text)), (e0, .inr (1, [.int y3_e0_0, .int e_nests, .ref e1, .ref e2, .ref e3])), (e1, .inl (cyI, 1000, .inl g3_e1))] 37 [(5, .int x3_5), (4, .int 1000), (3, .int x3_3), (0, .ref r0), (1, .int 2), (2, .int 1)] [] := by
    intro k_3
    induction k_3 with
    | zero =>
      intro x3_5 x3_3 y3_r0_6 y3_t0_2 y3_t0_3 y3_t0_4 y3_t0_5 y3_e0_0 g3_e1 hi_3_0 hi_3_1 hi_3_3 hi_3_4 hi_3_5 hi_3_7 hr_3 hq_3_0 hq_3_1 hm_3
      exact absurd hm_3 (Nat.not_lt_zero _)
    | succ k_3 ih_3 =>
      intro x3_5 x3_3 y3_r0_6 y3_t0_2 y3_t0_3 y3_t0_4 y3_t0_5 y3_e0_0 g3_e1 hi_3_0 hi_3_1 hi_3_3 hi_3_4 hi_3_5 hi_3_7 hr_3 hq_3_0 hq_3_1 hm_3
      refine j_iload (pc := 37) C dX5_readChain_37 0 rfl ?_
      refine j_iload (pc := 39) C dX5_readChain_39 1 rfl ?_
      refine j_icmp_ge (pc := 41) (tgt := 95) C dX5_readChain_41 (by decide) (fun c_4 => ?_) (fun c_4 => ?_)
      · skip
        have el_1000 : (1000 : Int32).toInt = 1000 := rfl
        rw [i_le] at c_4
        refine j_iload_n (pc := 95) C dX5_readChain_95 rfl 2 rfl ?_
        exact j_zret (pc := 96) C hr (nb_01 ⟨by omega, by omega⟩).1 hk (fun i => [].getD i 0, fun i => [x3_3, y3_r0_6, y3_t0_2, y3_t0_3, y3_t0_4, y3_t0_5, y3_e0_0].getD i 0, fun i => [g3_e1].getD i (fun _ => 0), fun i => [].getD i (fun _ => 0)) rfl (show (0 ≤ (x3_3).toInt ∧ (x3_3).toInt ≤ 1) ∧ (0 ≤ (y3_t0_2).toInt ∧ (y3_t0_2).toInt ≤ 1000) ∧ (0 ≤ (y3_t0_3).toInt ∧ (y3_t0_3).toInt ≤ 4) ∧ (0 ≤ (y3_t0_4).toInt ∧ (y3_t0_4).toInt ≤ 1000) ∧ (0 ≤ (y3_e0_0).toInt ∧ (y3_e0_0).toInt ≤ 1000) ∧ (¬ (y3_t0_3).toInt = 3 ∨ (y3_t0_4).toInt ≤ 999) ∧ (TH t_text (t_length).toInt.toNat (y3_t0_2).toInt (y3_t0_3).toInt (y3_t0_4).toInt (y3_t0_5).toInt) ∧ (CP (x3_3).toInt (y3_t0_4).toInt (y3_r0_6).toInt (r_fault).toInt (rLv (TKS t_text (t_length).toInt.toNat) (rPt (TKS t_text (t_length).toInt.toNat) 4) 2 (t_place).toInt.toNat)) from ⟨by omega, by omega, by omega, by omega, by omega, by omega, hq_3_0, (CH.stop hq_3_1 (fun z => Or.inl (by omega)))⟩) [0, 1, 2, 3, 4] (by decide) rfl (by decide) (by decide) dX5_readChain_96
      · skip
        have el_1000 : (1000 : Int32).toInt = 1000 := rfl
        rw [i_le] at c_4
        refine j_iload_n (pc := 44) C dX5_readChain_44 rfl 2 rfl ?_
        refine j_if_eq (pc := 45) (tgt := 95) C dX5_readChain_45 (by decide) (fun c_5 => ?_) (fun c_5 => ?_)
        · skip
          have el_0 : (0 : Int32).toInt = 0 := rfl
          rw [i_eq] at c_5
          refine j_iload_n (pc := 95) C dX5_readChain_95 rfl 2 rfl ?_
          exact j_zret (pc := 96) C hr (nb_01 ⟨by omega, by omega⟩).1 hk (fun i => [].getD i 0, fun i => [x3_3, y3_r0_6, y3_t0_2, y3_t0_3, y3_t0_4, y3_t0_5, y3_e0_0].getD i 0, fun i => [g3_e1].getD i (fun _ => 0), fun i => [].getD i (fun _ => 0)) rfl (show (0 ≤ (x3_3).toInt ∧ (x3_3).toInt ≤ 1) ∧ (0 ≤ (y3_t0_2).toInt ∧ (y3_t0_2).toInt ≤ 1000) ∧ (0 ≤ (y3_t0_3).toInt ∧ (y3_t0_3).toInt ≤ 4) ∧ (0 ≤ (y3_t0_4).toInt ∧ (y3_t0_4).toInt ≤ 1000) ∧ (0 ≤ (y3_e0_0).toInt ∧ (y3_e0_0).toInt ≤ 1000) ∧ (¬ (y3_t0_3).toInt = 3 ∨ (y3_t0_4).toInt ≤ 999) ∧ (TH t_text (t_length).toInt.toNat (y3_t0_2).toInt (y3_t0_3).toInt (y3_t0_4).toInt (y3_t0_5).toInt) ∧ (CP (x3_3).toInt (y3_t0_4).toInt (y3_r0_6).toInt (r_fault).toInt (rLv (TKS t_text (t_length).toInt.toNat) (rPt (TKS t_text (t_length).toInt.toNat) 4) 2 (t_place).toInt.toNat)) from ⟨by omega, by omega, by omega, by omega, by omega, by omega, hq_3_0, (CH.stop hq_3_1 (fun z => absurd z (by omega)))⟩) [0, 1, 2, 3, 4] (by decide) rfl (by decide) (by decide) dX5_readChain_96
        · skip
          have el_0 : (0 : Int32).toInt = 0 := rfl
          rw [i_eq] at c_5
          refine j_aload_n (pc := 48) C dX5_readChain_48 rfl 3 rfl ?_
          refine j_iload_n (pc := 49) C dX5_readChain_49 rfl 4 rfl ?_
          refine j_callV (pc := 50) (As := [.int 2]) (rest := []) (wr := [(e0, .inr (1, [.int y3_e0_0, .int e_nests, .ref e1, .ref e2, .ref e3])), (e1, .inl (cyI, 1000, .inl g3_e1))]) C (c_X5_joint_2 l D cyC cyI cyJ cyZ cyO r0 t0 t1 e0 r1 r2 a0 r_habits y3_r0_6 t_length y3_t0_2 y3_t0_3 y3_t0_4 y3_t0_5 t_text (by omega) (by omega) (by omega) (by omega) h_t_text (by omega) hq_3_0) wd_349 wd_306 wd_350 wd_351 wd_352 ⟨by decide, by decide, rfl⟩ rfl ⟨rfl, rfl, by decide, by decide⟩ ⟨by decide, by decide⟩ [0, 1, 2] [3, 4] rfl rfl ⟨by decide, by decide, by decide⟩ 0 rfl rfl rfl (Nat.le_of_ble_eq_true rfl) dX5_readChain_50 (fun u_6 hw_7 => ?_)
          refine j_eq (ws2 := [(e0, .inr (1, [.int y3_e0_0, .int e_nests, .ref e1, .ref e2, .ref e3])), (e1, .inl (cyI, 1000, .inl g3_e1)), (r0, .inr (5, [.ref t0, .ref e0, .ref r1, .ref r2, .ref a0, .int r_habits, .int y3_r0_6])), (t0, .inr (8, [.ref t1, .int t_length, .int y3_t0_2, .int y3_t0_3, .int y3_t0_4, .int y3_t0_5])), (t1, .inl (cyC, 1000, .inl t_text))]) (pc2 := 53) (lv2 := [(5, .int x3_5), (4, .int 1000), (3, .int x3_3), (0, .ref r0), (1, .int 2), (2, .int 1)]) (st2 := [.int (u_6.2.1 0)]) rfl rfl rfl rfl ?_
          obtain ⟨hw_7_0, hw_7_1⟩ := hw_7
          refine j_istore (pc := 53) (lv' := [(6, .int (u_6.2.1 0)), (5, .int x3_5), (4, .int 1000), (3, .int x3_3), (0, .ref r0), (1, .int 2), (2, .int 1)]) C dX5_readChain_53 (by decide) rfl ?_
          refine j_iload (pc := 55) C dX5_readChain_55 0 rfl ?_
          refine j_bipush (pc := 57) (v := (-100)) C dX5_readChain_57 (by decide) ?_
          refine j_icmp_ne (pc := 59) (tgt := 64) C dX5_readChain_59 (by decide) (fun c_8 => ?_) (fun c_8 => ?_)
          · skip
            have el_m100 : ((-100) : Int32).toInt = (-100) := rfl
            rw [i_eq] at c_8
            refine j_aload_n (pc := 64) C dX5_readChain_64 rfl 4 rfl ?_
            refine j_get (pc := 65) (ci := 5) (v := .ref t0) C inw_5 2 rfl rfl 0 (by decide) wd_296 rfl rfl dX5_readChain_65 ?_
            refine j_callV (pc := 68) (As := []) (rest := []) (wr := [(e0, .inr (1, [.int y3_e0_0, .int e_nests, .ref e1, .ref e2, .ref e3])), (e1, .inl (cyI, 1000, .inl g3_e1)), (r0, .inr (5, [.ref t0, .ref e0, .ref r1, .ref r2, .ref a0, .int r_habits, .int y3_r0_6]))]) C (c_X8_advance_f l D cyC cyI cyJ cyZ cyO t0 t1 t_length y3_t0_2 y3_t0_3 y3_t0_4 y3_t0_5 t_text (by omega) (by omega) (by omega) (by omega) h_t_text) wd_277 wd_258 wd_304 wd_279 wd_280 ⟨by decide, by decide, rfl⟩ rfl ⟨rfl, rfl, by decide, by decide⟩ ⟨by decide, by decide⟩ [3, 4] [0, 1, 2] rfl rfl ⟨by decide, by decide, by decide⟩ 3 rfl rfl rfl (Nat.le_of_ble_eq_true rfl) dX5_readChain_68 (fun u_9 hw_10 => ?_)
            refine j_eq (ws2 := [(e0, .inr (1, [.int y3_e0_0, .int e_nests, .ref e1, .ref e2, .ref e3])), (e1, .inl (cyI, 1000, .inl g3_e1)), (r0, .inr (5, [.ref t0, .ref e0, .ref r1, .ref r2, .ref a0, .int r_habits, .int y3_r0_6])), (t0, .inr (8, [.ref t1, .int t_length, .int (u_9.2.1 0), .int (u_9.2.1 1), .int (u_9.2.1 2), .int (u_9.2.1 3)])), (t1, .inl (cyC, 1000, .inl t_text))]) (pc2 := 71) (lv2 := [(6, .int (u_6.2.1 0)), (5, .int x3_5), (4, .int 1000), (3, .int x3_3), (0, .ref r0), (1, .int 2), (2, .int 1)]) (st2 := []) rfl rfl rfl rfl ?_
            obtain ⟨hw_10_0, hw_10_1, hw_10_2, hw_10_3, hw_10_4, hw_10_5⟩ := hw_10
            have ha_u_9 := (hw_10_5).trans (TH.adv hq_3_0)
            refine j_aload_n (pc := 71) C dX5_readChain_71 rfl 4 rfl ?_
            refine j_iload_n (pc := 72) C dX5_readChain_72 rfl 5 rfl ?_
            refine j_iconst (pc := 73) (v := 1) C dX5_readChain_73 (by decide) ?_
            refine j_iadd (pc := 74) (v := 3) C dX5_readChain_74 (by decide) ?_
            refine j_iload_n (pc := 75) C dX5_readChain_75 rfl 6 rfl ?_
            refine j_callV (pc := 76) (As := [.int 3, .int 1]) (rest := []) (wr := []) C (c_X5_readChain_3_1 l D cyC cyI cyJ cyZ cyO r0 t0 t1 e0 e1 r1 r2 a0 e2 e3 r_habits y3_r0_6 t_length (u_9.2.1 0) (u_9.2.1 1) (u_9.2.1 2) (u_9.2.1 3) y3_e0_0 e_nests t_text g3_e1 (by omega) (by omega) (by omega) (by omega) (by omega) (by omega) h_t_text (by omega) hw_10_4) wd_340 wd_306 wd_341 wd_342 wd_343 ⟨by decide, by decide, rfl⟩ rfl ⟨rfl, rfl, by decide, by decide⟩ ⟨by decide, by decide⟩ [2, 3, 4, 0, 1] [] rfl rfl ⟨by decide, by decide, by decide⟩ 2 rfl rfl rfl (Nat.le_of_ble_eq_true rfl) dX5_readChain_76 (fun u_11 hw_12 => ?_)
            refine j_eq (ws2 := [(r0, .inr (5, [.ref t0, .ref e0, .ref r1, .ref r2, .ref a0, .int r_habits, .int (u_11.2.1 1)])), (t0, .inr (8, [.ref t1, .int t_length, .int (u_11.2.1 2), .int (u_11.2.1 3), .int (u_11.2.1 4), .int (u_11.2.1 5)])), (t1, .inl (cyC, 1000, .inl t_text)), (e0, .inr (1, [.int (u_11.2.1 6), .int e_nests, .ref e1, .ref e2, .ref e3])), (e1, .inl (cyI, 1000, .inl (u_11.2.2.1 0)))]) (pc2 := 79) (lv2 := [(6, .int (u_6.2.1 0)), (5, .int x3_5), (4, .int 1000), (3, .int x3_3), (0, .ref r0), (1, .int 2), (2, .int 1)]) (st2 := [.int (u_11.2.1 0)]) rfl rfl rfl rfl ?_
            obtain ⟨hw_12_0, hw_12_1, hw_12_2, hw_12_3, hw_12_4, hw_12_5, hw_12_6, hw_12_7⟩ := hw_12
            refine j_istore_n (pc := 79) (lv' := [(3, .int (u_11.2.1 0)), (6, .int (u_6.2.1 0)), (5, .int x3_5), (4, .int 1000), (0, .ref r0), (1, .int 2), (2, .int 1)]) C dX5_readChain_79 rfl (by decide) rfl ?_
            refine j_aload_n (pc := 80) C dX5_readChain_80 rfl 4 rfl ?_
            refine j_get (pc := 81) (ci := 5) (v := .ref e0) C inw_5 0 rfl rfl 1 (by decide) wd_344 rfl rfl dX5_readChain_81 ?_
            refine j_iload (pc := 84) C dX5_readChain_84 1 rfl ?_
            refine j_callV (pc := 86) (As := [.int (u_6.2.1 0)]) (rest := []) (wr := [(r0, .inr (5, [.ref t0, .ref e0, .ref r1, .ref r2, .ref a0, .int r_habits, .int (u_11.2.1 1)])), (t0, .inr (8, [.ref t1, .int t_length, .int (u_11.2.1 2), .int (u_11.2.1 3), .int (u_11.2.1 4), .int (u_11.2.1 5)])), (t1, .inl (cyC, 1000, .inl t_text))]) C (c_X1_add l D cyC cyI cyJ cyZ cyO e0 e1 e2 e3 (u_6.2.1 0) (u_11.2.1 6) e_nests (u_11.2.2.1 0) (by omega) (by omega)) wd_345 wd_200 wd_346 wd_347 wd_348 ⟨by decide, by decide, rfl⟩ rfl ⟨rfl, rfl, by decide, by decide⟩ ⟨by decide, by decide⟩ [3, 4] [0, 1, 2] rfl rfl ⟨by decide, by decide, by decide⟩ 3 rfl rfl rfl (Nat.le_of_ble_eq_true rfl) dX5_readChain_86 (fun u_13 hw_14 => ?_)
            refine j_eq (ws2 := [(r0, .inr (5, [.ref t0, .ref e0, .ref r1, .ref r2, .ref a0, .int r_habits, .int (u_11.2.1 1)])), (t0, .inr (8, [.ref t1, .int t_length, .int (u_11.2.1 2), .int (u_11.2.1 3), .int (u_11.2.1 4), .int (u_11.2.1 5)])), (t1, .inl (cyC, 1000, .inl t_text)), (e0, .inr (1, [.int (u_13.2.1 0), .int e_nests, .ref e1, .ref e2, .ref e3])), (e1, .inl (cyI, 1000, .inl (u_13.2.2.1 0)))]) (pc2 := 89) (lv2 := [(3, .int (u_11.2.1 0)), (6, .int (u_6.2.1 0)), (5, .int x3_5), (4, .int 1000), (0, .ref r0), (1, .int 2), (2, .int 1)]) (st2 := []) rfl rfl rfl rfl ?_
            have hw_14_0 : 0 ≤ (u_13.2.1 0).toInt ∧ (u_13.2.1 0).toInt ≤ 1000 := hw_14
            obtain ⟨v_15, ev_15⟩ : ∃ z : Int32, x3_5 + 1 = z := ⟨_, rfl⟩
            have el_1 : (1 : Int32).toInt = 1 := rfl
            have hv_15 : v_15.toInt = x3_5.toInt + (1 : Int32).toInt := by rw [← ev_15]; exact fb_addI (by omega) (by omega)
            refine j_iinc (pc := 89) (v := v_15) (lv' := [(5, .int v_15), (3, .int (u_11.2.1 0)), (6, .int (u_6.2.1 0)), (4, .int 1000), (0, .ref r0), (1, .int 2), (2, .int 1)]) C dX5_readChain_89 2 rfl ev_15 (by decide) rfl ?_
            refine j_goto (pc := 92) (tgt := 37) C dX5_readChain_92 (by decide) ?_
            exact j_lv [0, 3, 1, 4, 5, 6] rfl (ih_3 v_15 (u_11.2.1 0) (u_11.2.1 1) (u_11.2.1 2) (u_11.2.1 3) (u_11.2.1 4) (u_11.2.1 5) (u_13.2.1 0) (u_13.2.2.1 0) (by omega) (by omega) (by omega) (by omega) (by omega) (by omega) (by omega) hw_12_6 (CH.step (k := (1000 - (v_15).toInt).toNat) (by rw [show (1000 - (v_15).toInt).toNat + 1 = (1000 - (x3_5).toInt).toNat from (by omega)]; exact hq_3_1) (by omega) (by rcases hw_7_1 with z | z; omega; exact z.2) ha_u_9 hw_12_7) (by omega))
          · skip
            have el_m100 : ((-100) : Int32).toInt = (-100) := rfl
            rw [i_eq] at c_8
            refine j_iconst (pc := 62) (v := 1) C dX5_readChain_62 (by decide) ?_
            have el_1 : (1 : Int32).toInt = 1 := rfl
            have el_1 : (1 : Int32).toInt = 1 := rfl
            have el_1 : (1 : Int32).toInt = 1 := rfl
            have el_1 : (1 : Int32).toInt = 1 := rfl
            exact j_zret (pc := 63) C hr rfl hk (fun i => [].getD i 0, fun i => [1, y3_r0_6, y3_t0_2, y3_t0_3, y3_t0_4, y3_t0_5, y3_e0_0].getD i 0, fun i => [g3_e1].getD i (fun _ => 0), fun i => [].getD i (fun _ => 0)) rfl (show (0 ≤ ((1 : Int32)).toInt ∧ ((1 : Int32)).toInt ≤ 1) ∧ (0 ≤ (y3_t0_2).toInt ∧ (y3_t0_2).toInt ≤ 1000) ∧ (0 ≤ (y3_t0_3).toInt ∧ (y3_t0_3).toInt ≤ 4) ∧ (0 ≤ (y3_t0_4).toInt ∧ (y3_t0_4).toInt ≤ 1000) ∧ (0 ≤ (y3_e0_0).toInt ∧ (y3_e0_0).toInt ≤ 1000) ∧ (¬ (y3_t0_3).toInt = 3 ∨ (y3_t0_4).toInt ≤ 999) ∧ (TH t_text (t_length).toInt.toNat (y3_t0_2).toInt (y3_t0_3).toInt (y3_t0_4).toInt (y3_t0_5).toInt) ∧ (CP ((1 : Int32)).toInt (y3_t0_4).toInt (y3_r0_6).toInt (r_fault).toInt (rLv (TKS t_text (t_length).toInt.toNat) (rPt (TKS t_text (t_length).toInt.toNat) 4) 2 (t_place).toInt.toNat)) from ⟨by omega, by omega, by omega, by omega, by omega, by omega, hq_3_0, (CP.ok (by omega) ((CH.stop hq_3_1 (fun _ => Or.inr (by rcases hw_7_1 with z | z; (rw [z.2]; decide); omega))).1 (by omega)).2 ((CH.stop hq_3_1 (fun _ => Or.inr (by rcases hw_7_1 with z | z; (rw [z.2]; decide); omega))).1 (by omega)).1)⟩) [2, 3, 4, 0, 1] (by decide) rfl (by decide) (by decide) dX5_readChain_63
  have el_0 : (0 : Int32).toInt = 0 := rfl
  exact j_lv [0, 1, 2, 3, 4, 5] rfl (loop_3 4096 0 (u_1.2.1 0) (u_1.2.1 1) (u_1.2.1 2) (u_1.2.1 3) (u_1.2.1 4) (u_1.2.1 5) (u_1.2.1 6) (u_1.2.2.1 0) (by decide) (by omega) (by omega) (by omega) (by omega) (by omega) (by omega) hw_2_6 (by rw [rLv2, show (1000 - (0 : Int32).toInt).toNat = 1000 from by decide]; exact CH.start hw_2_7) (by omega))
set_option maxHeartbeats 4000000 in
set_option maxRecDepth 100000 in
theorem c_X5_readChain_1_1 (l : Launch) (D : DG) (cyC cyI cyJ cyZ cyO : ClassId) (r0 : Nat) (t0 : Nat) (t1 : Nat) (e0 : Nat) (e1 : Nat) (r1 : Nat) (r2 : Nat) (a0 : Nat) (e2 : Nat) (e3 : Nat) (r_habits : Int32) (r_fault : Int32) (t_length : Int32) (t_next : Int32) (t_kind : Int32) (t_place : Int32) (t_number : Int32) (e_size : Int32) (e_nests : Int32) (t_text : Nat → Int32) (e_steps : Nat → Int32) (h_t_length : 0 ≤ (t_length).toInt ∧ (t_length).toInt ≤ 1000) (h_t_next : 0 ≤ (t_next).toInt ∧ (t_next).toInt ≤ 1000) (h_t_kind : 0 ≤ (t_kind).toInt ∧ (t_kind).toInt ≤ 4) (h_t_place : 0 ≤ (t_place).toInt ∧ (t_place).toInt ≤ 1000) (h_e_size : 0 ≤ (e_size).toInt ∧ (e_size).toInt ≤ 1000) (h_e_nests : 0 ≤ (e_nests).toInt ∧ (e_nests).toInt ≤ 4) (h_t_text : Iv 1000 (0) (126) t_text) (ht3 : ¬ (t_kind).toInt = 3 ∨ (t_place).toInt ≤ 999) (hTH : TH t_text (t_length).toInt.toNat (t_next).toInt (t_kind).toInt (t_place).toInt (t_number).toInt) : KK l D (TY cyC cyI cyJ cyZ cyO) yX5_readChain cX5_readChain 7 (some .boolean) ({ frames := 34, cells := 0, slots := 0, locals := 850 } : Room) 0 0 [.ref r0, .int 1, .int 1] [(r0, .inr (5, [.ref t0, .ref e0, .ref r1, .ref r2, .ref a0, .int r_habits, .int r_fault])), (t0, .inr (8, [.ref t1, .int t_length, .int t_next, .int t_kind, .int t_place, .int t_number])), (t1, .inl (cyC, 1000, .inl t_text)), (e0, .inr (1, [.int e_size, .int e_nests, .ref e1, .ref e2, .ref e3])), (e1, .inl (cyI, 1000, .inl e_steps))] (fun u => some (.int (u.2.1 0))) (fun u => (0 ≤ (u.2.1 0).toInt ∧ (u.2.1 0).toInt ≤ 1) ∧ (0 ≤ (u.2.1 2).toInt ∧ (u.2.1 2).toInt ≤ 1000) ∧ (0 ≤ (u.2.1 3).toInt ∧ (u.2.1 3).toInt ≤ 4) ∧ (0 ≤ (u.2.1 4).toInt ∧ (u.2.1 4).toInt ≤ 1000) ∧ (0 ≤ (u.2.1 6).toInt ∧ (u.2.1 6).toInt ≤ 1000) ∧ (¬ ((u.2.1 3)).toInt = 3 ∨ ((u.2.1 4)).toInt ≤ 999) ∧ (TH t_text (t_length).toInt.toNat ((u.2.1 2)).toInt ((u.2.1 3)).toInt ((u.2.1 4)).toInt ((u.2.1 5)).toInt) ∧ (CP ((u.2.1 0)).toInt ((u.2.1 4)).toInt ((u.2.1 1)).toInt (r_fault).toInt (rLv (TKS t_text (t_length).toInt.toNat) (rPt (TKS t_text (t_length).toInt.toNat) 4) 3 (t_place).toInt.toNat))) (fun u => [(r0, .inr (5, [.ref t0, .ref e0, .ref r1, .ref r2, .ref a0, .int r_habits, .int (u.2.1 1)])), (t0, .inr (8, [.ref t1, .int t_length, .int (u.2.1 2), .int (u.2.1 3), .int (u.2.1 4), .int (u.2.1 5)])), (t1, .inl (cyC, 1000, .inl t_text)), (e0, .inr (1, [.int (u.2.1 6), .int e_nests, .ref e1, .ref e2, .ref e3])), (e1, .inl (cyI, 1000, .inl (u.2.2.1 0)))]) := by
  refine KK.of (lv0 := [(0, .ref r0), (1, .int 1), (2, .int 1)]) (by decide) rfl (Nat.le_of_ble_eq_true rfl) ?_
  intro p e s m args below meth c A C hr hk hin
  refine j_iload_n (pc := 0) C dX5_readChain_0 rfl 1 rfl ?_
  refine j_iconst (pc := 1) (v := 4) C dX5_readChain_1 (by decide) ?_
  refine j_icmp_lt_t (pc := 2) (tgt := 11) C dX5_readChain_2 (by decide) (by decide) ?_
  refine j_aload_n (pc := 11) C dX5_readChain_11 rfl 0 rfl ?_
  refine j_iload_n (pc := 12) C dX5_readChain_12 rfl 1 rfl ?_
  refine j_iconst (pc := 13) (v := 1) C dX5_readChain_13 (by decide) ?_
  refine j_iadd (pc := 14) (v := 2) C dX5_readChain_14 (by decide) ?_
  refine j_iload_n (pc := 15) C dX5_readChain_15 rfl 2 rfl ?_
  refine j_callV (pc := 16) (As := [.int 2, .int 1]) (rest := []) (wr := []) C (c_X5_readChain_2_1 l D cyC cyI cyJ cyZ cyO r0 t0 t1 e0 e1 r1 r2 a0 e2 e3 r_habits r_fault t_length t_next t_kind t_place t_number e_size e_nests t_text e_steps (by omega) (by omega) (by omega) (by omega) (by omega) (by omega) h_t_text (by omega) hTH) wd_340 wd_306 wd_341 wd_342 wd_343 ⟨by decide, by decide, rfl⟩ rfl ⟨rfl, rfl, by decide, by decide⟩ ⟨by decide, by decide⟩ [0, 1, 2, 3, 4] [] rfl rfl ⟨by decide, by decide, by decide⟩ 0 rfl rfl rfl (Nat.le_of_ble_eq_true rfl) dX5_readChain_16 (fun u_1 hw_2 => ?_)
  refine j_eq (ws2 := [(r0, .inr (5, [.ref t0, .ref e0, .ref r1, .ref r2, .ref a0, .int r_habits, .int (u_1.2.1 1)])), (t0, .inr (8, [.ref t1, .int t_length, .int (u_1.2.1 2), .int (u_1.2.1 3), .int (u_1.2.1 4), .int (u_1.2.1 5)])), (t1, .inl (cyC, 1000, .inl t_text)), (e0, .inr (1, [.int (u_1.2.1 6), .int e_nests, .ref e1, .ref e2, .ref e3])), (e1, .inl (cyI, 1000, .inl (u_1.2.2.1 0)))]) (pc2 := 19) (lv2 := [(0, .ref r0), (1, .int 1), (2, .int 1)]) (st2 := [.int (u_1.2.1 0)]) rfl rfl rfl rfl ?_
  obtain ⟨hw_2_0, hw_2_1, hw_2_2, hw_2_3, hw_2_4, hw_2_5, hw_2_6, hw_2_7⟩ := hw_2
  refine j_istore_n (pc := 19) (lv' := [(3, .int (u_1.2.1 0)), (0, .ref r0), (1, .int 1), (2, .int 1)]) C dX5_readChain_19 rfl (by decide) rfl ?_
  refine j_iload_n (pc := 20) C dX5_readChain_20 rfl 2 rfl ?_
  refine j_iconst (pc := 21) (v := 1) C dX5_readChain_21 (by decide) ?_
  refine j_icmp_ne_f (pc := 22) (tgt := 29) C dX5_readChain_22 (by decide) (by decide) ?_
  refine j_iconst (pc := 25) (v := 1) C dX5_readChain_25 (by decide) ?_
  refine j_goto (pc := 26) (tgt := 32) C dX5_readChain_26 (by decide) ?_
  refine j_istore (pc := 32) (lv' := [(4, .int 1), (3, .int (u_1.2.1 0)), (0, .ref r0), (1, .int 1), (2, .int 1)]) C dX5_readChain_32 (by decide) rfl ?_
  refine j_iconst (pc := 34) (v := 0) C dX5_readChain_34 (by decide) ?_
  refine j_istore (pc := 35) (lv' := [(5, .int 0), (4, .int 1), (3, .int (u_1.2.1 0)), (0, .ref r0), (1, .int 1), (2, .int 1)]) C dX5_readChain_35 (by decide) rfl ?_
  have loop_3 : ∀ (k_3 : Nat) (x3_5 : Int32) (x3_3 : Int32) (y3_r0_6 : Int32) (y3_t0_2 : Int32) (y3_t0_3 : Int32) (y3_t0_4 : Int32) (y3_t0_5 : Int32) (y3_e0_0 : Int32) (g3_e1 : Nat → Int32), (0 ≤ (x3_5).toInt ∧ (x3_5).toInt ≤ 1000) → (0 ≤ (x3_3).toInt ∧ (x3_3).toInt ≤ 1) → (0 ≤ (y3_t0_2).toInt ∧ (y3_t0_2).toInt ≤ 1000) → (0 ≤ (y3_t0_3).toInt ∧ (y3_t0_3).toInt ≤ 4) → (0 ≤ (y3_t0_4).toInt ∧ (y3_t0_4).toInt ≤ 1000) → (0 ≤ (y3_e0_0).toInt ∧ (y3_e0_0).toInt ≤ 1000) → (¬ y3_t0_3.toInt = 3 ∨ y3_t0_4.toInt ≤ 999) → (TH t_text (t_length).toInt.toNat y3_t0_2.toInt y3_t0_3.toInt y3_t0_4.toInt y3_t0_5.toInt) → (CH (TKS t_text (t_length).toInt.toNat) (rLv (TKS t_text (t_length).toInt.toNat) (rPt (TKS t_text (t_length).toInt.toNat) 4) 2) (jnt (TKS t_text (t_length).toInt.toNat) 1) (1 - x3_5.toInt).toNat x3_3.toInt y3_t0_4.toInt y3_r0_6.toInt (r_fault).toInt (rLv (TKS t_text (t_length).toInt.toNat) (rPt (TKS t_text (t_length).toInt.toNat) 4) 3 (t_place).toInt.toNat)) → (1000 - x3_5.toInt).toNat < k_3 → J p l e ({ frames := 34, cells := 0, slots := 0, locals := 850 } : Room) s m args below meth c D A 7 0 0 (QX below D (TY cyC cyI cyJ cyZ cyO) A (fun u => some (.int (u.2.1 0))) (fun u => (0 ≤ (u.2.1 0).toInt ∧ (u.2.1 0).toInt ≤ 1) ∧ (0 ≤ (u.2.1 2).toInt ∧ (u.2.1 2).toInt ≤ 1000) ∧ (0 ≤ (u.2.1 3).toInt ∧ (u.2.1 3).toInt ≤ 4) ∧ (0 ≤ (u.2.1 4).toInt ∧ (u.2.1 4).toInt ≤ 1000) ∧ (0 ≤ (u.2.1 6).toInt ∧ (u.2.1 6).toInt ≤ 1000) ∧ (¬ ((u.2.1 3)).toInt = 3 ∨ ((u.2.1 4)).toInt ≤ 999) ∧ (TH t_text (t_length).toInt.toNat ((u.2.1 2)).toInt ((u.2.1 3)).toInt ((u.2.1 4)).toInt ((u.2.1 5)).toInt) ∧ (CP ((u.2.1 0)).toInt ((u.2.1 4)).toInt ((u.2.1 1)).toInt (r_fault).toInt (rLv (TKS t_text (t_length).toInt.toNat) (rPt (TKS t_text (t_length).toInt.toNat) 4) 3 (t_place).toInt.toNat))) (fun u => [(r0, .inr (5, [.ref t0, .ref e0, .ref r1, .ref r2, .ref a0, .int r_habits, .int (u.2.1 1)])), (t0, .inr (8, [.ref t1, .int t_length, .int (u.2.1 2), .int (u.2.1 3), .int (u.2.1 4), .int (u.2.1 5)])), (t1, .inl (cyC, 1000, .inl t_text)), (e0, .inr (1, [.int (u.2.1 6), .int e_nests, .ref e1, .ref e2, .ref e3])), (e1, .inl (cyI, 1000, .inl (u.2.2.1 0)))]) args s 0 0) [(r0, .inr (5, [.ref t0, .ref e0, .ref r1, .ref r2, .ref a0, .int r_habits, .int y3_r0_6])), (t0, .inr (8, [.ref t1, .int t_length, .int y3_t0_2, .int y3_t0_3, .int y3_t0_4, .int y3_t0_5])), (t1, .inl (cyC, 1000, .inl t_text)), (e0, .inr (1, [.int y3_e0_0, .int e_nests, .ref e1, .ref e2, .ref e3])), (e1, .inl (cyI, 1000, .inl g3_e1))] 37 [(5, .int x3_5), (4, .int 1), (3, .int x3_3), (0, .ref r0), (1, .int 1), (2, .int 1)] [] := by
    intro k_3
    induction k_3 with
    | zero =>
      intro x3_5 x3_3 y3_r0_6 y3_t0_2 y3_t0_3 y3_t0_4 y3_t0_5 y3_e0_0 g3_e1 hi_3_0 hi_3_1 hi_3_3 hi_3_4 hi_3_5 hi_3_7 hr_3 hq_3_0 hq_3_1 hm_3
      exact absurd hm_3 (Nat.not_lt_zero _)
    | succ k_3 ih_3 =>
      intro x3_5 x3_3 y3_r0_6 y3_t0_2 y3_t0_3 y3_t0_4 y3_t0_5 y3_e0_0 g3_e1 hi_3_0 hi_3_1 hi_3_3 hi_3_4 hi_3_5 hi_3_7 hr_3 hq_3_0 hq_3_1 hm_3
      refine j_iload (pc := 37) C dX5_readChain_37 0 rfl ?_
      refine j_iload (pc := 39) C dX5_readChain_39 1 rfl ?_
      refine j_icmp_ge (pc := 41) (tgt := 95) C dX5_readChain_41 (by decide) (fun c_4 => ?_) (fun c_4 => ?_)
      · skip
        have el_1 : (1 : Int32).toInt = 1 := rfl
        rw [i_le] at c_4
        refine j_iload_n (pc := 95) C dX5_readChain_95 rfl 2 rfl ?_
        exact j_zret (pc := 96) C hr (nb_01 ⟨by omega, by omega⟩).1 hk (fun i => [].getD i 0, fun i => [x3_3, y3_r0_6, y3_t0_2, y3_t0_3, y3_t0_4, y3_t0_5, y3_e0_0].getD i 0, fun i => [g3_e1].getD i (fun _ => 0), fun i => [].getD i (fun _ => 0)) rfl (show (0 ≤ (x3_3).toInt ∧ (x3_3).toInt ≤ 1) ∧ (0 ≤ (y3_t0_2).toInt ∧ (y3_t0_2).toInt ≤ 1000) ∧ (0 ≤ (y3_t0_3).toInt ∧ (y3_t0_3).toInt ≤ 4) ∧ (0 ≤ (y3_t0_4).toInt ∧ (y3_t0_4).toInt ≤ 1000) ∧ (0 ≤ (y3_e0_0).toInt ∧ (y3_e0_0).toInt ≤ 1000) ∧ (¬ (y3_t0_3).toInt = 3 ∨ (y3_t0_4).toInt ≤ 999) ∧ (TH t_text (t_length).toInt.toNat (y3_t0_2).toInt (y3_t0_3).toInt (y3_t0_4).toInt (y3_t0_5).toInt) ∧ (CP (x3_3).toInt (y3_t0_4).toInt (y3_r0_6).toInt (r_fault).toInt (rLv (TKS t_text (t_length).toInt.toNat) (rPt (TKS t_text (t_length).toInt.toNat) 4) 3 (t_place).toInt.toNat)) from ⟨by omega, by omega, by omega, by omega, by omega, by omega, hq_3_0, (CH.stop hq_3_1 (fun z => Or.inl (by omega)))⟩) [0, 1, 2, 3, 4] (by decide) rfl (by decide) (by decide) dX5_readChain_96
      · skip
        have el_1 : (1 : Int32).toInt = 1 := rfl
        rw [i_le] at c_4
        refine j_iload_n (pc := 44) C dX5_readChain_44 rfl 2 rfl ?_
        refine j_if_eq (pc := 45) (tgt := 95) C dX5_readChain_45 (by decide) (fun c_5 => ?_) (fun c_5 => ?_)
        · skip
          have el_0 : (0 : Int32).toInt = 0 := rfl
          rw [i_eq] at c_5
          refine j_iload_n (pc := 95) C dX5_readChain_95 rfl 2 rfl ?_
          exact j_zret (pc := 96) C hr (nb_01 ⟨by omega, by omega⟩).1 hk (fun i => [].getD i 0, fun i => [x3_3, y3_r0_6, y3_t0_2, y3_t0_3, y3_t0_4, y3_t0_5, y3_e0_0].getD i 0, fun i => [g3_e1].getD i (fun _ => 0), fun i => [].getD i (fun _ => 0)) rfl (show (0 ≤ (x3_3).toInt ∧ (x3_3).toInt ≤ 1) ∧ (0 ≤ (y3_t0_2).toInt ∧ (y3_t0_2).toInt ≤ 1000) ∧ (0 ≤ (y3_t0_3).toInt ∧ (y3_t0_3).toInt ≤ 4) ∧ (0 ≤ (y3_t0_4).toInt ∧ (y3_t0_4).toInt ≤ 1000) ∧ (0 ≤ (y3_e0_0).toInt ∧ (y3_e0_0).toInt ≤ 1000) ∧ (¬ (y3_t0_3).toInt = 3 ∨ (y3_t0_4).toInt ≤ 999) ∧ (TH t_text (t_length).toInt.toNat (y3_t0_2).toInt (y3_t0_3).toInt (y3_t0_4).toInt (y3_t0_5).toInt) ∧ (CP (x3_3).toInt (y3_t0_4).toInt (y3_r0_6).toInt (r_fault).toInt (rLv (TKS t_text (t_length).toInt.toNat) (rPt (TKS t_text (t_length).toInt.toNat) 4) 3 (t_place).toInt.toNat)) from ⟨by omega, by omega, by omega, by omega, by omega, by omega, hq_3_0, (CH.stop hq_3_1 (fun z => absurd z (by omega)))⟩) [0, 1, 2, 3, 4] (by decide) rfl (by decide) (by decide) dX5_readChain_96
        · skip
          have el_0 : (0 : Int32).toInt = 0 := rfl
          rw [i_eq] at c_5
          refine j_aload_n (pc := 48) C dX5_readChain_48 rfl 3 rfl ?_
          refine j_iload_n (pc := 49) C dX5_readChain_49 rfl 4 rfl ?_
          refine j_callV (pc := 50) (As := [.int 1]) (rest := []) (wr := [(e0, .inr (1, [.int y3_e0_0, .int e_nests, .ref e1, .ref e2, .ref e3])), (e1, .inl (cyI, 1000, .inl g3_e1))]) C (c_X5_joint_1 l D cyC cyI cyJ cyZ cyO r0 t0 t1 e0 r1 r2 a0 r_habits y3_r0_6 t_length y3_t0_2 y3_t0_3 y3_t0_4 y3_t0_5 t_text (by omega) (by omega) (by omega) (by omega) h_t_text (by omega) hq_3_0) wd_349 wd_306 wd_350 wd_351 wd_352 ⟨by decide, by decide, rfl⟩ rfl ⟨rfl, rfl, by decide, by decide⟩ ⟨by decide, by decide⟩ [0, 1, 2] [3, 4] rfl rfl ⟨by decide, by decide, by decide⟩ 0 rfl rfl rfl (Nat.le_of_ble_eq_true rfl) dX5_readChain_50 (fun u_6 hw_7 => ?_)
          refine j_eq (ws2 := [(e0, .inr (1, [.int y3_e0_0, .int e_nests, .ref e1, .ref e2, .ref e3])), (e1, .inl (cyI, 1000, .inl g3_e1)), (r0, .inr (5, [.ref t0, .ref e0, .ref r1, .ref r2, .ref a0, .int r_habits, .int y3_r0_6])), (t0, .inr (8, [.ref t1, .int t_length, .int y3_t0_2, .int y3_t0_3, .int y3_t0_4, .int y3_t0_5])), (t1, .inl (cyC, 1000, .inl t_text))]) (pc2 := 53) (lv2 := [(5, .int x3_5), (4, .int 1), (3, .int x3_3), (0, .ref r0), (1, .int 1), (2, .int 1)]) (st2 := [.int (u_6.2.1 0)]) rfl rfl rfl rfl ?_
          obtain ⟨hw_7_0, hw_7_1⟩ := hw_7
          refine j_istore (pc := 53) (lv' := [(6, .int (u_6.2.1 0)), (5, .int x3_5), (4, .int 1), (3, .int x3_3), (0, .ref r0), (1, .int 1), (2, .int 1)]) C dX5_readChain_53 (by decide) rfl ?_
          refine j_iload (pc := 55) C dX5_readChain_55 0 rfl ?_
          refine j_bipush (pc := 57) (v := (-100)) C dX5_readChain_57 (by decide) ?_
          refine j_icmp_ne (pc := 59) (tgt := 64) C dX5_readChain_59 (by decide) (fun c_8 => ?_) (fun c_8 => ?_)
          · skip
            have el_m100 : ((-100) : Int32).toInt = (-100) := rfl
            rw [i_eq] at c_8
            refine j_aload_n (pc := 64) C dX5_readChain_64 rfl 4 rfl ?_
            refine j_get (pc := 65) (ci := 5) (v := .ref t0) C inw_5 2 rfl rfl 0 (by decide) wd_296 rfl rfl dX5_readChain_65 ?_
            refine j_callV (pc := 68) (As := []) (rest := []) (wr := [(e0, .inr (1, [.int y3_e0_0, .int e_nests, .ref e1, .ref e2, .ref e3])), (e1, .inl (cyI, 1000, .inl g3_e1)), (r0, .inr (5, [.ref t0, .ref e0, .ref r1, .ref r2, .ref a0, .int r_habits, .int y3_r0_6]))]) C (c_X8_advance_f l D cyC cyI cyJ cyZ cyO t0 t1 t_length y3_t0_2 y3_t0_3 y3_t0_4 y3_t0_5 t_text (by omega) (by omega) (by omega) (by omega) h_t_text) wd_277 wd_258 wd_304 wd_279 wd_280 ⟨by decide, by decide, rfl⟩ rfl ⟨rfl, rfl, by decide, by decide⟩ ⟨by decide, by decide⟩ [3, 4] [0, 1, 2] rfl rfl ⟨by decide, by decide, by decide⟩ 3 rfl rfl rfl (Nat.le_of_ble_eq_true rfl) dX5_readChain_68 (fun u_9 hw_10 => ?_)
            refine j_eq (ws2 := [(e0, .inr (1, [.int y3_e0_0, .int e_nests, .ref e1, .ref e2, .ref e3])), (e1, .inl (cyI, 1000, .inl g3_e1)), (r0, .inr (5, [.ref t0, .ref e0, .ref r1, .ref r2, .ref a0, .int r_habits, .int y3_r0_6])), (t0, .inr (8, [.ref t1, .int t_length, .int (u_9.2.1 0), .int (u_9.2.1 1), .int (u_9.2.1 2), .int (u_9.2.1 3)])), (t1, .inl (cyC, 1000, .inl t_text))]) (pc2 := 71) (lv2 := [(6, .int (u_6.2.1 0)), (5, .int x3_5), (4, .int 1), (3, .int x3_3), (0, .ref r0), (1, .int 1), (2, .int 1)]) (st2 := []) rfl rfl rfl rfl ?_
            obtain ⟨hw_10_0, hw_10_1, hw_10_2, hw_10_3, hw_10_4, hw_10_5⟩ := hw_10
            have ha_u_9 := (hw_10_5).trans (TH.adv hq_3_0)
            refine j_aload_n (pc := 71) C dX5_readChain_71 rfl 4 rfl ?_
            refine j_iload_n (pc := 72) C dX5_readChain_72 rfl 5 rfl ?_
            refine j_iconst (pc := 73) (v := 1) C dX5_readChain_73 (by decide) ?_
            refine j_iadd (pc := 74) (v := 2) C dX5_readChain_74 (by decide) ?_
            refine j_iload_n (pc := 75) C dX5_readChain_75 rfl 6 rfl ?_
            refine j_callV (pc := 76) (As := [.int 2, .int 1]) (rest := []) (wr := []) C (c_X5_readChain_2_1 l D cyC cyI cyJ cyZ cyO r0 t0 t1 e0 e1 r1 r2 a0 e2 e3 r_habits y3_r0_6 t_length (u_9.2.1 0) (u_9.2.1 1) (u_9.2.1 2) (u_9.2.1 3) y3_e0_0 e_nests t_text g3_e1 (by omega) (by omega) (by omega) (by omega) (by omega) (by omega) h_t_text (by omega) hw_10_4) wd_340 wd_306 wd_341 wd_342 wd_343 ⟨by decide, by decide, rfl⟩ rfl ⟨rfl, rfl, by decide, by decide⟩ ⟨by decide, by decide⟩ [2, 3, 4, 0, 1] [] rfl rfl ⟨by decide, by decide, by decide⟩ 2 rfl rfl rfl (Nat.le_of_ble_eq_true rfl) dX5_readChain_76 (fun u_11 hw_12 => ?_)
            refine j_eq (ws2 := [(r0, .inr (5, [.ref t0, .ref e0, .ref r1, .ref r2, .ref a0, .int r_habits, .int (u_11.2.1 1)])), (t0, .inr (8, [.ref t1, .int t_length, .int (u_11.2.1 2), .int (u_11.2.1 3), .int (u_11.2.1 4), .int (u_11.2.1 5)])), (t1, .inl (cyC, 1000, .inl t_text)), (e0, .inr (1, [.int (u_11.2.1 6), .int e_nests, .ref e1, .ref e2, .ref e3])), (e1, .inl (cyI, 1000, .inl (u_11.2.2.1 0)))]) (pc2 := 79) (lv2 := [(6, .int (u_6.2.1 0)), (5, .int x3_5), (4, .int 1), (3, .int x3_3), (0, .ref r0), (1, .int 1), (2, .int 1)]) (st2 := [.int (u_11.2.1 0)]) rfl rfl rfl rfl ?_
            obtain ⟨hw_12_0, hw_12_1, hw_12_2, hw_12_3, hw_12_4, hw_12_5, hw_12_6, hw_12_7⟩ := hw_12
            refine j_istore_n (pc := 79) (lv' := [(3, .int (u_11.2.1 0)), (6, .int (u_6.2.1 0)), (5, .int x3_5), (4, .int 1), (0, .ref r0), (1, .int 1), (2, .int 1)]) C dX5_readChain_79 rfl (by decide) rfl ?_
            refine j_aload_n (pc := 80) C dX5_readChain_80 rfl 4 rfl ?_
            refine j_get (pc := 81) (ci := 5) (v := .ref e0) C inw_5 0 rfl rfl 1 (by decide) wd_344 rfl rfl dX5_readChain_81 ?_
            refine j_iload (pc := 84) C dX5_readChain_84 1 rfl ?_
            refine j_callV (pc := 86) (As := [.int (u_6.2.1 0)]) (rest := []) (wr := [(r0, .inr (5, [.ref t0, .ref e0, .ref r1, .ref r2, .ref a0, .int r_habits, .int (u_11.2.1 1)])), (t0, .inr (8, [.ref t1, .int t_length, .int (u_11.2.1 2), .int (u_11.2.1 3), .int (u_11.2.1 4), .int (u_11.2.1 5)])), (t1, .inl (cyC, 1000, .inl t_text))]) C (c_X1_add l D cyC cyI cyJ cyZ cyO e0 e1 e2 e3 (u_6.2.1 0) (u_11.2.1 6) e_nests (u_11.2.2.1 0) (by omega) (by omega)) wd_345 wd_200 wd_346 wd_347 wd_348 ⟨by decide, by decide, rfl⟩ rfl ⟨rfl, rfl, by decide, by decide⟩ ⟨by decide, by decide⟩ [3, 4] [0, 1, 2] rfl rfl ⟨by decide, by decide, by decide⟩ 3 rfl rfl rfl (Nat.le_of_ble_eq_true rfl) dX5_readChain_86 (fun u_13 hw_14 => ?_)
            refine j_eq (ws2 := [(r0, .inr (5, [.ref t0, .ref e0, .ref r1, .ref r2, .ref a0, .int r_habits, .int (u_11.2.1 1)])), (t0, .inr (8, [.ref t1, .int t_length, .int (u_11.2.1 2), .int (u_11.2.1 3), .int (u_11.2.1 4), .int (u_11.2.1 5)])), (t1, .inl (cyC, 1000, .inl t_text)), (e0, .inr (1, [.int (u_13.2.1 0), .int e_nests, .ref e1, .ref e2, .ref e3])), (e1, .inl (cyI, 1000, .inl (u_13.2.2.1 0)))]) (pc2 := 89) (lv2 := [(3, .int (u_11.2.1 0)), (6, .int (u_6.2.1 0)), (5, .int x3_5), (4, .int 1), (0, .ref r0), (1, .int 1), (2, .int 1)]) (st2 := []) rfl rfl rfl rfl ?_
            have hw_14_0 : 0 ≤ (u_13.2.1 0).toInt ∧ (u_13.2.1 0).toInt ≤ 1000 := hw_14
            obtain ⟨v_15, ev_15⟩ : ∃ z : Int32, x3_5 + 1 = z := ⟨_, rfl⟩
            have el_1 : (1 : Int32).toInt = 1 := rfl
            have hv_15 : v_15.toInt = x3_5.toInt + (1 : Int32).toInt := by rw [← ev_15]; exact fb_addI (by omega) (by omega)
            refine j_iinc (pc := 89) (v := v_15) (lv' := [(5, .int v_15), (3, .int (u_11.2.1 0)), (6, .int (u_6.2.1 0)), (4, .int 1), (0, .ref r0), (1, .int 1), (2, .int 1)]) C dX5_readChain_89 2 rfl ev_15 (by decide) rfl ?_
            refine j_goto (pc := 92) (tgt := 37) C dX5_readChain_92 (by decide) ?_
            exact j_lv [0, 3, 1, 4, 5, 6] rfl (ih_3 v_15 (u_11.2.1 0) (u_11.2.1 1) (u_11.2.1 2) (u_11.2.1 3) (u_11.2.1 4) (u_11.2.1 5) (u_13.2.1 0) (u_13.2.2.1 0) (by omega) (by omega) (by omega) (by omega) (by omega) (by omega) (by omega) hw_12_6 (CH.step (k := (1 - (v_15).toInt).toNat) (by rw [show (1 - (v_15).toInt).toNat + 1 = (1 - (x3_5).toInt).toNat from (by omega)]; exact hq_3_1) (by omega) (by rcases hw_7_1 with z | z; omega; exact z.2) ha_u_9 hw_12_7) (by omega))
          · skip
            have el_m100 : ((-100) : Int32).toInt = (-100) := rfl
            rw [i_eq] at c_8
            refine j_iconst (pc := 62) (v := 1) C dX5_readChain_62 (by decide) ?_
            have el_1 : (1 : Int32).toInt = 1 := rfl
            have el_1 : (1 : Int32).toInt = 1 := rfl
            have el_1 : (1 : Int32).toInt = 1 := rfl
            have el_1 : (1 : Int32).toInt = 1 := rfl
            exact j_zret (pc := 63) C hr rfl hk (fun i => [].getD i 0, fun i => [1, y3_r0_6, y3_t0_2, y3_t0_3, y3_t0_4, y3_t0_5, y3_e0_0].getD i 0, fun i => [g3_e1].getD i (fun _ => 0), fun i => [].getD i (fun _ => 0)) rfl (show (0 ≤ ((1 : Int32)).toInt ∧ ((1 : Int32)).toInt ≤ 1) ∧ (0 ≤ (y3_t0_2).toInt ∧ (y3_t0_2).toInt ≤ 1000) ∧ (0 ≤ (y3_t0_3).toInt ∧ (y3_t0_3).toInt ≤ 4) ∧ (0 ≤ (y3_t0_4).toInt ∧ (y3_t0_4).toInt ≤ 1000) ∧ (0 ≤ (y3_e0_0).toInt ∧ (y3_e0_0).toInt ≤ 1000) ∧ (¬ (y3_t0_3).toInt = 3 ∨ (y3_t0_4).toInt ≤ 999) ∧ (TH t_text (t_length).toInt.toNat (y3_t0_2).toInt (y3_t0_3).toInt (y3_t0_4).toInt (y3_t0_5).toInt) ∧ (CP ((1 : Int32)).toInt (y3_t0_4).toInt (y3_r0_6).toInt (r_fault).toInt (rLv (TKS t_text (t_length).toInt.toNat) (rPt (TKS t_text (t_length).toInt.toNat) 4) 3 (t_place).toInt.toNat)) from ⟨by omega, by omega, by omega, by omega, by omega, by omega, hq_3_0, (CP.ok (by omega) ((CH.stop hq_3_1 (fun _ => Or.inr (by rcases hw_7_1 with z | z; (rw [z.2]; decide); omega))).1 (by omega)).2 ((CH.stop hq_3_1 (fun _ => Or.inr (by rcases hw_7_1 with z | z; (rw [z.2]; decide); omega))).1 (by omega)).1)⟩) [2, 3, 4, 0, 1] (by decide) rfl (by decide) (by decide) dX5_readChain_63
  have el_0 : (0 : Int32).toInt = 0 := rfl
  exact j_lv [0, 1, 2, 3, 4, 5] rfl (loop_3 4096 0 (u_1.2.1 0) (u_1.2.1 1) (u_1.2.1 2) (u_1.2.1 3) (u_1.2.1 4) (u_1.2.1 5) (u_1.2.1 6) (u_1.2.2.1 0) (by decide) (by omega) (by omega) (by omega) (by omega) (by omega) (by omega) hw_2_6 (by rw [rLv3, show (1 - (0 : Int32).toInt).toNat = 1 from by decide]; exact CH.start hw_2_7) (by omega))
set_option maxHeartbeats 4000000 in
set_option maxRecDepth 100000 in
theorem c_X5_readChain_0_1 (l : Launch) (D : DG) (cyC cyI cyJ cyZ cyO : ClassId) (r0 : Nat) (t0 : Nat) (t1 : Nat) (e0 : Nat) (e1 : Nat) (r1 : Nat) (r2 : Nat) (a0 : Nat) (e2 : Nat) (e3 : Nat) (r_habits : Int32) (r_fault : Int32) (t_length : Int32) (t_next : Int32) (t_kind : Int32) (t_place : Int32) (t_number : Int32) (e_size : Int32) (e_nests : Int32) (t_text : Nat → Int32) (e_steps : Nat → Int32) (h_t_length : 0 ≤ (t_length).toInt ∧ (t_length).toInt ≤ 1000) (h_t_next : 0 ≤ (t_next).toInt ∧ (t_next).toInt ≤ 1000) (h_t_kind : 0 ≤ (t_kind).toInt ∧ (t_kind).toInt ≤ 4) (h_t_place : 0 ≤ (t_place).toInt ∧ (t_place).toInt ≤ 1000) (h_e_size : 0 ≤ (e_size).toInt ∧ (e_size).toInt ≤ 1000) (h_e_nests : 0 ≤ (e_nests).toInt ∧ (e_nests).toInt ≤ 4) (h_t_text : Iv 1000 (0) (126) t_text) (ht3 : ¬ (t_kind).toInt = 3 ∨ (t_place).toInt ≤ 999) (hTH : TH t_text (t_length).toInt.toNat (t_next).toInt (t_kind).toInt (t_place).toInt (t_number).toInt) : KK l D (TY cyC cyI cyJ cyZ cyO) yX5_readChain cX5_readChain 7 (some .boolean) ({ frames := 35, cells := 0, slots := 0, locals := 876 } : Room) 0 0 [.ref r0, .int 0, .int 1] [(r0, .inr (5, [.ref t0, .ref e0, .ref r1, .ref r2, .ref a0, .int r_habits, .int r_fault])), (t0, .inr (8, [.ref t1, .int t_length, .int t_next, .int t_kind, .int t_place, .int t_number])), (t1, .inl (cyC, 1000, .inl t_text)), (e0, .inr (1, [.int e_size, .int e_nests, .ref e1, .ref e2, .ref e3])), (e1, .inl (cyI, 1000, .inl e_steps))] (fun u => some (.int (u.2.1 0))) (fun u => (0 ≤ (u.2.1 0).toInt ∧ (u.2.1 0).toInt ≤ 1) ∧ (0 ≤ (u.2.1 2).toInt ∧ (u.2.1 2).toInt ≤ 1000) ∧ (0 ≤ (u.2.1 3).toInt ∧ (u.2.1 3).toInt ≤ 4) ∧ (0 ≤ (u.2.1 4).toInt ∧ (u.2.1 4).toInt ≤ 1000) ∧ (0 ≤ (u.2.1 6).toInt ∧ (u.2.1 6).toInt ≤ 1000) ∧ (¬ ((u.2.1 3)).toInt = 3 ∨ ((u.2.1 4)).toInt ≤ 999) ∧ (TH t_text (t_length).toInt.toNat ((u.2.1 2)).toInt ((u.2.1 3)).toInt ((u.2.1 4)).toInt ((u.2.1 5)).toInt) ∧ (CP ((u.2.1 0)).toInt ((u.2.1 4)).toInt ((u.2.1 1)).toInt (r_fault).toInt (rLv (TKS t_text (t_length).toInt.toNat) (rPt (TKS t_text (t_length).toInt.toNat) 4) 4 (t_place).toInt.toNat))) (fun u => [(r0, .inr (5, [.ref t0, .ref e0, .ref r1, .ref r2, .ref a0, .int r_habits, .int (u.2.1 1)])), (t0, .inr (8, [.ref t1, .int t_length, .int (u.2.1 2), .int (u.2.1 3), .int (u.2.1 4), .int (u.2.1 5)])), (t1, .inl (cyC, 1000, .inl t_text)), (e0, .inr (1, [.int (u.2.1 6), .int e_nests, .ref e1, .ref e2, .ref e3])), (e1, .inl (cyI, 1000, .inl (u.2.2.1 0)))]) := by
  refine KK.of (lv0 := [(0, .ref r0), (1, .int 0), (2, .int 1)]) (by decide) rfl (Nat.le_of_ble_eq_true rfl) ?_
  intro p e s m args below meth c A C hr hk hin
  refine j_iload_n (pc := 0) C dX5_readChain_0 rfl 1 rfl ?_
  refine j_iconst (pc := 1) (v := 4) C dX5_readChain_1 (by decide) ?_
  refine j_icmp_lt_t (pc := 2) (tgt := 11) C dX5_readChain_2 (by decide) (by decide) ?_
  refine j_aload_n (pc := 11) C dX5_readChain_11 rfl 0 rfl ?_
  refine j_iload_n (pc := 12) C dX5_readChain_12 rfl 1 rfl ?_
  refine j_iconst (pc := 13) (v := 1) C dX5_readChain_13 (by decide) ?_
  refine j_iadd (pc := 14) (v := 1) C dX5_readChain_14 (by decide) ?_
  refine j_iload_n (pc := 15) C dX5_readChain_15 rfl 2 rfl ?_
  refine j_callV (pc := 16) (As := [.int 1, .int 1]) (rest := []) (wr := []) C (c_X5_readChain_1_1 l D cyC cyI cyJ cyZ cyO r0 t0 t1 e0 e1 r1 r2 a0 e2 e3 r_habits r_fault t_length t_next t_kind t_place t_number e_size e_nests t_text e_steps (by omega) (by omega) (by omega) (by omega) (by omega) (by omega) h_t_text (by omega) hTH) wd_340 wd_306 wd_341 wd_342 wd_343 ⟨by decide, by decide, rfl⟩ rfl ⟨rfl, rfl, by decide, by decide⟩ ⟨by decide, by decide⟩ [0, 1, 2, 3, 4] [] rfl rfl ⟨by decide, by decide, by decide⟩ 0 rfl rfl rfl (Nat.le_of_ble_eq_true rfl) dX5_readChain_16 (fun u_1 hw_2 => ?_)
  refine j_eq (ws2 := [(r0, .inr (5, [.ref t0, .ref e0, .ref r1, .ref r2, .ref a0, .int r_habits, .int (u_1.2.1 1)])), (t0, .inr (8, [.ref t1, .int t_length, .int (u_1.2.1 2), .int (u_1.2.1 3), .int (u_1.2.1 4), .int (u_1.2.1 5)])), (t1, .inl (cyC, 1000, .inl t_text)), (e0, .inr (1, [.int (u_1.2.1 6), .int e_nests, .ref e1, .ref e2, .ref e3])), (e1, .inl (cyI, 1000, .inl (u_1.2.2.1 0)))]) (pc2 := 19) (lv2 := [(0, .ref r0), (1, .int 0), (2, .int 1)]) (st2 := [.int (u_1.2.1 0)]) rfl rfl rfl rfl ?_
  obtain ⟨hw_2_0, hw_2_1, hw_2_2, hw_2_3, hw_2_4, hw_2_5, hw_2_6, hw_2_7⟩ := hw_2
  refine j_istore_n (pc := 19) (lv' := [(3, .int (u_1.2.1 0)), (0, .ref r0), (1, .int 0), (2, .int 1)]) C dX5_readChain_19 rfl (by decide) rfl ?_
  refine j_iload_n (pc := 20) C dX5_readChain_20 rfl 2 rfl ?_
  refine j_iconst (pc := 21) (v := 1) C dX5_readChain_21 (by decide) ?_
  refine j_icmp_ne_t (pc := 22) (tgt := 29) C dX5_readChain_22 (by decide) (by decide) ?_
  refine j_sipush (pc := 29) (v := 1000) C dX5_readChain_29 (by decide) ?_
  refine j_istore (pc := 32) (lv' := [(4, .int 1000), (3, .int (u_1.2.1 0)), (0, .ref r0), (1, .int 0), (2, .int 1)]) C dX5_readChain_32 (by decide) rfl ?_
  refine j_iconst (pc := 34) (v := 0) C dX5_readChain_34 (by decide) ?_
  refine j_istore (pc := 35) (lv' := [(5, .int 0), (4, .int 1000), (3, .int (u_1.2.1 0)), (0, .ref r0), (1, .int 0), (2, .int 1)]) C dX5_readChain_35 (by decide) rfl ?_
  have loop_3 : ∀ (k_3 : Nat) (x3_5 : Int32) (x3_3 : Int32) (y3_r0_6 : Int32) (y3_t0_2 : Int32) (y3_t0_3 : Int32) (y3_t0_4 : Int32) (y3_t0_5 : Int32) (y3_e0_0 : Int32) (g3_e1 : Nat → Int32), (0 ≤ (x3_5).toInt ∧ (x3_5).toInt ≤ 1000) → (0 ≤ (x3_3).toInt ∧ (x3_3).toInt ≤ 1) → (0 ≤ (y3_t0_2).toInt ∧ (y3_t0_2).toInt ≤ 1000) → (0 ≤ (y3_t0_3).toInt ∧ (y3_t0_3).toInt ≤ 4) → (0 ≤ (y3_t0_4).toInt ∧ (y3_t0_4).toInt ≤ 1000) → (0 ≤ (y3_e0_0).toInt ∧ (y3_e0_0).toInt ≤ 1000) → (¬ y3_t0_3.toInt = 3 ∨ y3_t0_4.toInt ≤ 999) → (TH t_text (t_length).toInt.toNat y3_t0_2.toInt y3_t0_3.toInt y3_t0_4.toInt y3_t0_5.toInt) → (CH (TKS t_text (t_length).toInt.toNat) (rLv (TKS t_text (t_length).toInt.toNat) (rPt (TKS t_text (t_length).toInt.toNat) 4) 3) (jnt (TKS t_text (t_length).toInt.toNat) 0) (1000 - x3_5.toInt).toNat x3_3.toInt y3_t0_4.toInt y3_r0_6.toInt (r_fault).toInt (rLv (TKS t_text (t_length).toInt.toNat) (rPt (TKS t_text (t_length).toInt.toNat) 4) 4 (t_place).toInt.toNat)) → (1000 - x3_5.toInt).toNat < k_3 → J p l e ({ frames := 35, cells := 0, slots := 0, locals := 876 } : Room) s m args below meth c D A 7 0 0 (QX below D (TY cyC cyI cyJ cyZ cyO) A (fun u => some (.int (u.2.1 0))) (fun u => (0 ≤ (u.2.1 0).toInt ∧ (u.2.1 0).toInt ≤ 1) ∧ (0 ≤ (u.2.1 2).toInt ∧ (u.2.1 2).toInt ≤ 1000) ∧ (0 ≤ (u.2.1 3).toInt ∧ (u.2.1 3).toInt ≤ 4) ∧ (0 ≤ (u.2.1 4).toInt ∧ (u.2.1 4).toInt ≤ 1000) ∧ (0 ≤ (u.2.1 6).toInt ∧ (u.2.1 6).toInt ≤ 1000) ∧ (¬ ((u.2.1 3)).toInt = 3 ∨ ((u.2.1 4)).toInt ≤ 999) ∧ (TH t_text (t_length).toInt.toNat ((u.2.1 2)).toInt ((u.2.1 3)).toInt ((u.2.1 4)).toInt ((u.2.1 5)).toInt) ∧ (CP ((u.2.1 0)).toInt ((u.2.1 4)).toInt ((u.2.1 1)).toInt (r_fault).toInt (rLv (TKS t_text (t_length).toInt.toNat) (rPt (TKS t_text (t_length).toInt.toNat) 4) 4 (t_place).toInt.toNat))) (fun u => [(r0, .inr (5, [.ref t0, .ref e0, .ref r1, .ref r2, .ref a0, .int r_habits, .int (u.2.1 1)])), (t0, .inr (8, [.ref t1, .int t_length, .int (u.2.1 2), .int (u.2.1 3), .int (u.2.1 4), .int (u.2.1 5)])), (t1, .inl (cyC, 1000, .inl t_text)), (e0, .inr (1, [.int (u.2.1 6), .int e_nests, .ref e1, .ref e2, .ref e3])), (e1, .inl (cyI, 1000, .inl (u.2.2.1 0)))]) args s 0 0) [(r0, .inr (5, [.ref t0, .ref e0, .ref r1, .ref r2, .ref a0, .int r_habits, .int y3_r0_6])), (t0, .inr (8, [.ref t1, .int t_length, .int y3_t0_2, .int y3_t0_3, .int y3_t0_4, .int y3_t0_5])), (t1, .inl (cyC, 1000, .inl t_text)), (e0, .inr (1, [.int y3_e0_0, .int e_nests, .ref e1, .ref e2, .ref e3])), (e1, .inl (cyI, 1000, .inl g3_e1))] 37 [(5, .int x3_5), (4, .int 1000), (3, .int x3_3), (0, .ref r0), (1, .int 0), (2, .int 1)] [] := by
    intro k_3
    induction k_3 with
    | zero =>
      intro x3_5 x3_3 y3_r0_6 y3_t0_2 y3_t0_3 y3_t0_4 y3_t0_5 y3_e0_0 g3_e1 hi_3_0 hi_3_1 hi_3_3 hi_3_4 hi_3_5 hi_3_7 hr_3 hq_3_0 hq_3_1 hm_3
      exact absurd hm_3 (Nat.not_lt_zero _)
    | succ k_3 ih_3 =>
      intro x3_5 x3_3 y3_r0_6 y3_t0_2 y3_t0_3 y3_t0_4 y3_t0_5 y3_e0_0 g3_e1 hi_3_0 hi_3_1 hi_3_3 hi_3_4 hi_3_5 hi_3_7 hr_3 hq_3_0 hq_3_1 hm_3
      refine j_iload (pc := 37) C dX5_readChain_37 0 rfl ?_
      refine j_iload (pc := 39) C dX5_readChain_39 1 rfl ?_
      refine j_icmp_ge (pc := 41) (tgt := 95) C dX5_readChain_41 (by decide) (fun c_4 => ?_) (fun c_4 => ?_)
      · skip
        have el_1000 : (1000 : Int32).toInt = 1000 := rfl
        rw [i_le] at c_4
        refine j_iload_n (pc := 95) C dX5_readChain_95 rfl 2 rfl ?_
        exact j_zret (pc := 96) C hr (nb_01 ⟨by omega, by omega⟩).1 hk (fun i => [].getD i 0, fun i => [x3_3, y3_r0_6, y3_t0_2, y3_t0_3, y3_t0_4, y3_t0_5, y3_e0_0].getD i 0, fun i => [g3_e1].getD i (fun _ => 0), fun i => [].getD i (fun _ => 0)) rfl (show (0 ≤ (x3_3).toInt ∧ (x3_3).toInt ≤ 1) ∧ (0 ≤ (y3_t0_2).toInt ∧ (y3_t0_2).toInt ≤ 1000) ∧ (0 ≤ (y3_t0_3).toInt ∧ (y3_t0_3).toInt ≤ 4) ∧ (0 ≤ (y3_t0_4).toInt ∧ (y3_t0_4).toInt ≤ 1000) ∧ (0 ≤ (y3_e0_0).toInt ∧ (y3_e0_0).toInt ≤ 1000) ∧ (¬ (y3_t0_3).toInt = 3 ∨ (y3_t0_4).toInt ≤ 999) ∧ (TH t_text (t_length).toInt.toNat (y3_t0_2).toInt (y3_t0_3).toInt (y3_t0_4).toInt (y3_t0_5).toInt) ∧ (CP (x3_3).toInt (y3_t0_4).toInt (y3_r0_6).toInt (r_fault).toInt (rLv (TKS t_text (t_length).toInt.toNat) (rPt (TKS t_text (t_length).toInt.toNat) 4) 4 (t_place).toInt.toNat)) from ⟨by omega, by omega, by omega, by omega, by omega, by omega, hq_3_0, (CH.stop hq_3_1 (fun z => Or.inl (by omega)))⟩) [0, 1, 2, 3, 4] (by decide) rfl (by decide) (by decide) dX5_readChain_96
      · skip
        have el_1000 : (1000 : Int32).toInt = 1000 := rfl
        rw [i_le] at c_4
        refine j_iload_n (pc := 44) C dX5_readChain_44 rfl 2 rfl ?_
        refine j_if_eq (pc := 45) (tgt := 95) C dX5_readChain_45 (by decide) (fun c_5 => ?_) (fun c_5 => ?_)
        · skip
          have el_0 : (0 : Int32).toInt = 0 := rfl
          rw [i_eq] at c_5
          refine j_iload_n (pc := 95) C dX5_readChain_95 rfl 2 rfl ?_
          exact j_zret (pc := 96) C hr (nb_01 ⟨by omega, by omega⟩).1 hk (fun i => [].getD i 0, fun i => [x3_3, y3_r0_6, y3_t0_2, y3_t0_3, y3_t0_4, y3_t0_5, y3_e0_0].getD i 0, fun i => [g3_e1].getD i (fun _ => 0), fun i => [].getD i (fun _ => 0)) rfl (show (0 ≤ (x3_3).toInt ∧ (x3_3).toInt ≤ 1) ∧ (0 ≤ (y3_t0_2).toInt ∧ (y3_t0_2).toInt ≤ 1000) ∧ (0 ≤ (y3_t0_3).toInt ∧ (y3_t0_3).toInt ≤ 4) ∧ (0 ≤ (y3_t0_4).toInt ∧ (y3_t0_4).toInt ≤ 1000) ∧ (0 ≤ (y3_e0_0).toInt ∧ (y3_e0_0).toInt ≤ 1000) ∧ (¬ (y3_t0_3).toInt = 3 ∨ (y3_t0_4).toInt ≤ 999) ∧ (TH t_text (t_length).toInt.toNat (y3_t0_2).toInt (y3_t0_3).toInt (y3_t0_4).toInt (y3_t0_5).toInt) ∧ (CP (x3_3).toInt (y3_t0_4).toInt (y3_r0_6).toInt (r_fault).toInt (rLv (TKS t_text (t_length).toInt.toNat) (rPt (TKS t_text (t_length).toInt.toNat) 4) 4 (t_place).toInt.toNat)) from ⟨by omega, by omega, by omega, by omega, by omega, by omega, hq_3_0, (CH.stop hq_3_1 (fun z => absurd z (by omega)))⟩) [0, 1, 2, 3, 4] (by decide) rfl (by decide) (by decide) dX5_readChain_96
        · skip
          have el_0 : (0 : Int32).toInt = 0 := rfl
          rw [i_eq] at c_5
          refine j_aload_n (pc := 48) C dX5_readChain_48 rfl 3 rfl ?_
          refine j_iload_n (pc := 49) C dX5_readChain_49 rfl 4 rfl ?_
          refine j_callV (pc := 50) (As := [.int 0]) (rest := []) (wr := [(e0, .inr (1, [.int y3_e0_0, .int e_nests, .ref e1, .ref e2, .ref e3])), (e1, .inl (cyI, 1000, .inl g3_e1))]) C (c_X5_joint_0 l D cyC cyI cyJ cyZ cyO r0 t0 t1 e0 r1 r2 a0 r_habits y3_r0_6 t_length y3_t0_2 y3_t0_3 y3_t0_4 y3_t0_5 t_text (by omega) (by omega) (by omega) (by omega) h_t_text (by omega) hq_3_0) wd_349 wd_306 wd_350 wd_351 wd_352 ⟨by decide, by decide, rfl⟩ rfl ⟨rfl, rfl, by decide, by decide⟩ ⟨by decide, by decide⟩ [0, 1, 2] [3, 4] rfl rfl ⟨by decide, by decide, by decide⟩ 0 rfl rfl rfl (Nat.le_of_ble_eq_true rfl) dX5_readChain_50 (fun u_6 hw_7 => ?_)
          refine j_eq (ws2 := [(e0, .inr (1, [.int y3_e0_0, .int e_nests, .ref e1, .ref e2, .ref e3])), (e1, .inl (cyI, 1000, .inl g3_e1)), (r0, .inr (5, [.ref t0, .ref e0, .ref r1, .ref r2, .ref a0, .int r_habits, .int y3_r0_6])), (t0, .inr (8, [.ref t1, .int t_length, .int y3_t0_2, .int y3_t0_3, .int y3_t0_4, .int y3_t0_5])), (t1, .inl (cyC, 1000, .inl t_text))]) (pc2 := 53) (lv2 := [(5, .int x3_5), (4, .int 1000), (3, .int x3_3), (0, .ref r0), (1, .int 0), (2, .int 1)]) (st2 := [.int (u_6.2.1 0)]) rfl rfl rfl rfl ?_
          obtain ⟨hw_7_0, hw_7_1⟩ := hw_7
          refine j_istore (pc := 53) (lv' := [(6, .int (u_6.2.1 0)), (5, .int x3_5), (4, .int 1000), (3, .int x3_3), (0, .ref r0), (1, .int 0), (2, .int 1)]) C dX5_readChain_53 (by decide) rfl ?_
          refine j_iload (pc := 55) C dX5_readChain_55 0 rfl ?_
          refine j_bipush (pc := 57) (v := (-100)) C dX5_readChain_57 (by decide) ?_
          refine j_icmp_ne (pc := 59) (tgt := 64) C dX5_readChain_59 (by decide) (fun c_8 => ?_) (fun c_8 => ?_)
          · skip
            have el_m100 : ((-100) : Int32).toInt = (-100) := rfl
            rw [i_eq] at c_8
            refine j_aload_n (pc := 64) C dX5_readChain_64 rfl 4 rfl ?_
            refine j_get (pc := 65) (ci := 5) (v := .ref t0) C inw_5 2 rfl rfl 0 (by decide) wd_296 rfl rfl dX5_readChain_65 ?_
            refine j_callV (pc := 68) (As := []) (rest := []) (wr := [(e0, .inr (1, [.int y3_e0_0, .int e_nests, .ref e1, .ref e2, .ref e3])), (e1, .inl (cyI, 1000, .inl g3_e1)), (r0, .inr (5, [.ref t0, .ref e0, .ref r1, .ref r2, .ref a0, .int r_habits, .int y3_r0_6]))]) C (c_X8_advance_f l D cyC cyI cyJ cyZ cyO t0 t1 t_length y3_t0_2 y3_t0_3 y3_t0_4 y3_t0_5 t_text (by omega) (by omega) (by omega) (by omega) h_t_text) wd_277 wd_258 wd_304 wd_279 wd_280 ⟨by decide, by decide, rfl⟩ rfl ⟨rfl, rfl, by decide, by decide⟩ ⟨by decide, by decide⟩ [3, 4] [0, 1, 2] rfl rfl ⟨by decide, by decide, by decide⟩ 3 rfl rfl rfl (Nat.le_of_ble_eq_true rfl) dX5_readChain_68 (fun u_9 hw_10 => ?_)
            refine j_eq (ws2 := [(e0, .inr (1, [.int y3_e0_0, .int e_nests, .ref e1, .ref e2, .ref e3])), (e1, .inl (cyI, 1000, .inl g3_e1)), (r0, .inr (5, [.ref t0, .ref e0, .ref r1, .ref r2, .ref a0, .int r_habits, .int y3_r0_6])), (t0, .inr (8, [.ref t1, .int t_length, .int (u_9.2.1 0), .int (u_9.2.1 1), .int (u_9.2.1 2), .int (u_9.2.1 3)])), (t1, .inl (cyC, 1000, .inl t_text))]) (pc2 := 71) (lv2 := [(6, .int (u_6.2.1 0)), (5, .int x3_5), (4, .int 1000), (3, .int x3_3), (0, .ref r0), (1, .int 0), (2, .int 1)]) (st2 := []) rfl rfl rfl rfl ?_
            obtain ⟨hw_10_0, hw_10_1, hw_10_2, hw_10_3, hw_10_4, hw_10_5⟩ := hw_10
            have ha_u_9 := (hw_10_5).trans (TH.adv hq_3_0)
            refine j_aload_n (pc := 71) C dX5_readChain_71 rfl 4 rfl ?_
            refine j_iload_n (pc := 72) C dX5_readChain_72 rfl 5 rfl ?_
            refine j_iconst (pc := 73) (v := 1) C dX5_readChain_73 (by decide) ?_
            refine j_iadd (pc := 74) (v := 1) C dX5_readChain_74 (by decide) ?_
            refine j_iload_n (pc := 75) C dX5_readChain_75 rfl 6 rfl ?_
            refine j_callV (pc := 76) (As := [.int 1, .int 1]) (rest := []) (wr := []) C (c_X5_readChain_1_1 l D cyC cyI cyJ cyZ cyO r0 t0 t1 e0 e1 r1 r2 a0 e2 e3 r_habits y3_r0_6 t_length (u_9.2.1 0) (u_9.2.1 1) (u_9.2.1 2) (u_9.2.1 3) y3_e0_0 e_nests t_text g3_e1 (by omega) (by omega) (by omega) (by omega) (by omega) (by omega) h_t_text (by omega) hw_10_4) wd_340 wd_306 wd_341 wd_342 wd_343 ⟨by decide, by decide, rfl⟩ rfl ⟨rfl, rfl, by decide, by decide⟩ ⟨by decide, by decide⟩ [2, 3, 4, 0, 1] [] rfl rfl ⟨by decide, by decide, by decide⟩ 2 rfl rfl rfl (Nat.le_of_ble_eq_true rfl) dX5_readChain_76 (fun u_11 hw_12 => ?_)
            refine j_eq (ws2 := [(r0, .inr (5, [.ref t0, .ref e0, .ref r1, .ref r2, .ref a0, .int r_habits, .int (u_11.2.1 1)])), (t0, .inr (8, [.ref t1, .int t_length, .int (u_11.2.1 2), .int (u_11.2.1 3), .int (u_11.2.1 4), .int (u_11.2.1 5)])), (t1, .inl (cyC, 1000, .inl t_text)), (e0, .inr (1, [.int (u_11.2.1 6), .int e_nests, .ref e1, .ref e2, .ref e3])), (e1, .inl (cyI, 1000, .inl (u_11.2.2.1 0)))]) (pc2 := 79) (lv2 := [(6, .int (u_6.2.1 0)), (5, .int x3_5), (4, .int 1000), (3, .int x3_3), (0, .ref r0), (1, .int 0), (2, .int 1)]) (st2 := [.int (u_11.2.1 0)]) rfl rfl rfl rfl ?_
            obtain ⟨hw_12_0, hw_12_1, hw_12_2, hw_12_3, hw_12_4, hw_12_5, hw_12_6, hw_12_7⟩ := hw_12
            refine j_istore_n (pc := 79) (lv' := [(3, .int (u_11.2.1 0)), (6, .int (u_6.2.1 0)), (5, .int x3_5), (4, .int 1000), (0, .ref r0), (1, .int 0), (2, .int 1)]) C dX5_readChain_79 rfl (by decide) rfl ?_
            refine j_aload_n (pc := 80) C dX5_readChain_80 rfl 4 rfl ?_
            refine j_get (pc := 81) (ci := 5) (v := .ref e0) C inw_5 0 rfl rfl 1 (by decide) wd_344 rfl rfl dX5_readChain_81 ?_
            refine j_iload (pc := 84) C dX5_readChain_84 1 rfl ?_
            refine j_callV (pc := 86) (As := [.int (u_6.2.1 0)]) (rest := []) (wr := [(r0, .inr (5, [.ref t0, .ref e0, .ref r1, .ref r2, .ref a0, .int r_habits, .int (u_11.2.1 1)])), (t0, .inr (8, [.ref t1, .int t_length, .int (u_11.2.1 2), .int (u_11.2.1 3), .int (u_11.2.1 4), .int (u_11.2.1 5)])), (t1, .inl (cyC, 1000, .inl t_text))]) C (c_X1_add l D cyC cyI cyJ cyZ cyO e0 e1 e2 e3 (u_6.2.1 0) (u_11.2.1 6) e_nests (u_11.2.2.1 0) (by omega) (by omega)) wd_345 wd_200 wd_346 wd_347 wd_348 ⟨by decide, by decide, rfl⟩ rfl ⟨rfl, rfl, by decide, by decide⟩ ⟨by decide, by decide⟩ [3, 4] [0, 1, 2] rfl rfl ⟨by decide, by decide, by decide⟩ 3 rfl rfl rfl (Nat.le_of_ble_eq_true rfl) dX5_readChain_86 (fun u_13 hw_14 => ?_)
            refine j_eq (ws2 := [(r0, .inr (5, [.ref t0, .ref e0, .ref r1, .ref r2, .ref a0, .int r_habits, .int (u_11.2.1 1)])), (t0, .inr (8, [.ref t1, .int t_length, .int (u_11.2.1 2), .int (u_11.2.1 3), .int (u_11.2.1 4), .int (u_11.2.1 5)])), (t1, .inl (cyC, 1000, .inl t_text)), (e0, .inr (1, [.int (u_13.2.1 0), .int e_nests, .ref e1, .ref e2, .ref e3])), (e1, .inl (cyI, 1000, .inl (u_13.2.2.1 0)))]) (pc2 := 89) (lv2 := [(3, .int (u_11.2.1 0)), (6, .int (u_6.2.1 0)), (5, .int x3_5), (4, .int 1000), (0, .ref r0), (1, .int 0), (2, .int 1)]) (st2 := []) rfl rfl rfl rfl ?_
            have hw_14_0 : 0 ≤ (u_13.2.1 0).toInt ∧ (u_13.2.1 0).toInt ≤ 1000 := hw_14
            obtain ⟨v_15, ev_15⟩ : ∃ z : Int32, x3_5 + 1 = z := ⟨_, rfl⟩
            have el_1 : (1 : Int32).toInt = 1 := rfl
            have hv_15 : v_15.toInt = x3_5.toInt + (1 : Int32).toInt := by rw [← ev_15]; exact fb_addI (by omega) (by omega)
            refine j_iinc (pc := 89) (v := v_15) (lv' := [(5, .int v_15), (3, .int (u_11.2.1 0)), (6, .int (u_6.2.1 0)), (4, .int 1000), (0, .ref r0), (1, .int 0), (2, .int 1)]) C dX5_readChain_89 2 rfl ev_15 (by decide) rfl ?_
            refine j_goto (pc := 92) (tgt := 37) C dX5_readChain_92 (by decide) ?_
            exact j_lv [0, 3, 1, 4, 5, 6] rfl (ih_3 v_15 (u_11.2.1 0) (u_11.2.1 1) (u_11.2.1 2) (u_11.2.1 3) (u_11.2.1 4) (u_11.2.1 5) (u_13.2.1 0) (u_13.2.2.1 0) (by omega) (by omega) (by omega) (by omega) (by omega) (by omega) (by omega) hw_12_6 (CH.step (k := (1000 - (v_15).toInt).toNat) (by rw [show (1000 - (v_15).toInt).toNat + 1 = (1000 - (x3_5).toInt).toNat from (by omega)]; exact hq_3_1) (by omega) (by rcases hw_7_1 with z | z; omega; exact z.2) ha_u_9 hw_12_7) (by omega))
          · skip
            have el_m100 : ((-100) : Int32).toInt = (-100) := rfl
            rw [i_eq] at c_8
            refine j_iconst (pc := 62) (v := 1) C dX5_readChain_62 (by decide) ?_
            have el_1 : (1 : Int32).toInt = 1 := rfl
            have el_1 : (1 : Int32).toInt = 1 := rfl
            have el_1 : (1 : Int32).toInt = 1 := rfl
            have el_1 : (1 : Int32).toInt = 1 := rfl
            exact j_zret (pc := 63) C hr rfl hk (fun i => [].getD i 0, fun i => [1, y3_r0_6, y3_t0_2, y3_t0_3, y3_t0_4, y3_t0_5, y3_e0_0].getD i 0, fun i => [g3_e1].getD i (fun _ => 0), fun i => [].getD i (fun _ => 0)) rfl (show (0 ≤ ((1 : Int32)).toInt ∧ ((1 : Int32)).toInt ≤ 1) ∧ (0 ≤ (y3_t0_2).toInt ∧ (y3_t0_2).toInt ≤ 1000) ∧ (0 ≤ (y3_t0_3).toInt ∧ (y3_t0_3).toInt ≤ 4) ∧ (0 ≤ (y3_t0_4).toInt ∧ (y3_t0_4).toInt ≤ 1000) ∧ (0 ≤ (y3_e0_0).toInt ∧ (y3_e0_0).toInt ≤ 1000) ∧ (¬ (y3_t0_3).toInt = 3 ∨ (y3_t0_4).toInt ≤ 999) ∧ (TH t_text (t_length).toInt.toNat (y3_t0_2).toInt (y3_t0_3).toInt (y3_t0_4).toInt (y3_t0_5).toInt) ∧ (CP ((1 : Int32)).toInt (y3_t0_4).toInt (y3_r0_6).toInt (r_fault).toInt (rLv (TKS t_text (t_length).toInt.toNat) (rPt (TKS t_text (t_length).toInt.toNat) 4) 4 (t_place).toInt.toNat)) from ⟨by omega, by omega, by omega, by omega, by omega, by omega, hq_3_0, (CP.ok (by omega) ((CH.stop hq_3_1 (fun _ => Or.inr (by rcases hw_7_1 with z | z; (rw [z.2]; decide); omega))).1 (by omega)).2 ((CH.stop hq_3_1 (fun _ => Or.inr (by rcases hw_7_1 with z | z; (rw [z.2]; decide); omega))).1 (by omega)).1)⟩) [2, 3, 4, 0, 1] (by decide) rfl (by decide) (by decide) dX5_readChain_63
  have el_0 : (0 : Int32).toInt = 0 := rfl
  exact j_lv [0, 1, 2, 3, 4, 5] rfl (loop_3 4096 0 (u_1.2.1 0) (u_1.2.1 1) (u_1.2.1 2) (u_1.2.1 3) (u_1.2.1 4) (u_1.2.1 5) (u_1.2.1 6) (u_1.2.2.1 0) (by decide) (by omega) (by omega) (by omega) (by omega) (by omega) (by omega) hw_2_6 (by rw [rLv4, show (1000 - (0 : Int32).toInt).toNat = 1000 from by decide]; exact CH.start hw_2_7) (by omega))
