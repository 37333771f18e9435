theorem isS_has {c : Int32} (h0 : 0 ≤ c.toInt) (h1 : c.toInt ≤ 127) : isS c = true ↔ hasB 25 ((sL 25 : Nat) : Int) c := by
  obtain ⟨n, e, hn, _⟩ := nI_ofI h0
  rw [e]
  refine (isS_lit n (by omega)).trans ⟨fun ⟨j, hj⟩ => ⟨j.val, ?_, hj⟩, fun ⟨j, h2, h3⟩ => ⟨⟨j, ?_⟩, h3⟩⟩
  · have := j.isLt; show (j.val : Int) < ((8 : Nat) : Int); omega
  · have h4 : ((sL 25 : Nat) : Int) = 8 := rfl
    omega
set_option maxHeartbeats 4000000 in
set_option maxRecDepth 100000 in
theorem c_X8_advance_f (l : Launch) (D : DG) (cyC cyI cyJ cyZ cyO : ClassId) (t0 : Nat) (t1 : Nat) (t_length : Int32) (t_next : Int32) (t_kind : Int32) (t_place : Int32) (t_number : Int32) (t_text : Nat → Int32) (h_t_length : 0 ≤ (t_length).toInt ∧ (t_length).toInt ≤ 1000) (h_t_next : 0 ≤ (t_next).toInt ∧ (t_next).toInt ≤ 1000) (h_t_kind : 0 ≤ (t_kind).toInt ∧ (t_kind).toInt ≤ 4) (h_t_place : 0 ≤ (t_place).toInt ∧ (t_place).toInt ≤ 1000) (h_t_text : Iv 1000 (0) (126) t_text) : KK l D (TY cyC cyI cyJ cyZ cyO) yX8_advance cX8_advance 3 none ({ frames := 4, cells := 0, slots := 0, locals := 91 } : Room) 0 0 [.ref t0] [(t0, .inr (8, [.ref t1, .int t_length, .int t_next, .int t_kind, .int t_place, .int t_number])), (t1, .inl (cyC, 1000, .inl t_text))] (fun u => none) (fun u => (0 ≤ (u.2.1 0).toInt ∧ (u.2.1 0).toInt ≤ 1000) ∧ (0 ≤ (u.2.1 1).toInt ∧ (u.2.1 1).toInt ≤ 4) ∧ (0 ≤ (u.2.1 2).toInt ∧ (u.2.1 2).toInt ≤ 1000) ∧ (¬ ((u.2.1 1)).toInt = 3 ∨ ((u.2.1 2)).toInt ≤ 999) ∧ (TH t_text (t_length).toInt.toNat ((u.2.1 0)).toInt ((u.2.1 1)).toInt ((u.2.1 2)).toInt ((u.2.1 3)).toInt) ∧ (((u.2.1 2)).toInt.toNat = tP t_text (t_length).toInt.toNat (t_next).toInt.toNat)) (fun u => [(t0, .inr (8, [.ref t1, .int t_length, .int (u.2.1 0), .int (u.2.1 1), .int (u.2.1 2), .int (u.2.1 3)])), (t1, .inl (cyC, 1000, .inl t_text))]) := by
  refine KK.of (lv0 := [(0, .ref t0)]) (by decide) rfl (Nat.le_of_ble_eq_true rfl) ?_
  intro p e s m args below meth c A C hr hk hin
  refine j_aload_n (pc := 0) C dX8_advance_0 rfl 0 rfl ?_
  refine j_aload_n (pc := 1) C dX8_advance_1 rfl 0 rfl ?_
  refine j_aload_n (pc := 2) C dX8_advance_2 rfl 0 rfl ?_
  refine j_get (pc := 3) (ci := 8) (v := .int t_next) C inw_8 0 rfl rfl 2 (by decide) wd_256 rfl rfl dX8_advance_3 ?_
  refine j_callV (pc := 6) (As := [.int t_next]) (rest := [.ref t0]) (wr := []) C (c_X8_pastBlanks_f l D cyC cyI cyJ cyZ cyO t0 t1 t_next t_length t_next t_kind t_place t_number t_text h_t_length h_t_next h_t_kind h_t_place h_t_next h_t_text) wd_257 wd_258 wd_259 wd_260 wd_261 ⟨by decide, by decide, rfl⟩ rfl ⟨rfl, rfl, by decide, by decide⟩ ⟨by decide, by decide⟩ [0, 1] [] rfl rfl ⟨by decide, by decide, by decide⟩ 0 rfl rfl rfl (Nat.le_of_ble_eq_true rfl) dX8_advance_6 (fun u_1 hw_2 => ?_)
  refine j_eq (ws2 := [(t0, .inr (8, [.ref t1, .int t_length, .int t_next, .int t_kind, .int t_place, .int t_number])), (t1, .inl (cyC, 1000, .inl t_text))]) (pc2 := 9) (lv2 := [(0, .ref t0)]) (st2 := [.int (u_1.2.1 0), .ref t0]) rfl rfl rfl rfl ?_
  obtain ⟨hw_2_0, hw_2_1, hw_2_2⟩ := hw_2
  refine j_put (pc := 9) (ci := 8) (v := .int (u_1.2.1 0)) (ws' := [(t0, .inr (8, [.ref t1, .int t_length, .int t_next, .int t_kind, .int (u_1.2.1 0), .int t_number])), (t1, .inl (cyC, 1000, .inl t_text))]) C inw_8 0 rfl rfl 4 (by decide) wd_262 rfl tyX8_ok nmX8 rfl (tyX8_ok 4 (by decide)) rfl rfl (Nat.le_of_ble_eq_true rfl) dX8_advance_9 rfl ?_
  refine j_aload_n (pc := 12) C dX8_advance_12 rfl 0 rfl ?_
  refine j_aload_n (pc := 13) C dX8_advance_13 rfl 0 rfl ?_
  refine j_get (pc := 14) (ci := 8) (v := .int (u_1.2.1 0)) C inw_8 0 rfl rfl 4 (by decide) wd_262 rfl rfl dX8_advance_14 ?_
  refine j_bipush (pc := 17) (v := 97) C dX8_advance_17 (by decide) ?_
  refine j_bipush (pc := 19) (v := 122) C dX8_advance_19 (by decide) ?_
  refine j_callV (pc := 21) (As := [.int (u_1.2.1 0), .int 97, .int 122]) (rest := []) (wr := []) C (c_X8_pastRun_f l D cyC cyI cyJ cyZ cyO t0 t1 (u_1.2.1 0) 97 122 t_length t_next t_kind (u_1.2.1 0) t_number t_text h_t_length h_t_next h_t_kind hw_2_0 hw_2_0 h_t_text) wd_263 wd_258 wd_264 wd_265 wd_266 ⟨by decide, by decide, rfl⟩ rfl ⟨rfl, rfl, by decide, by decide⟩ ⟨by decide, by decide⟩ [0, 1] [] rfl rfl ⟨by decide, by decide, by decide⟩ 0 rfl rfl rfl (Nat.le_of_ble_eq_true rfl) dX8_advance_21 (fun u_3 hw_4 => ?_)
  refine j_eq (ws2 := [(t0, .inr (8, [.ref t1, .int t_length, .int t_next, .int t_kind, .int (u_1.2.1 0), .int t_number])), (t1, .inl (cyC, 1000, .inl t_text))]) (pc2 := 24) (lv2 := [(0, .ref t0)]) (st2 := [.int (u_3.2.1 0)]) rfl rfl rfl rfl ?_
  obtain ⟨hw_4_0, hw_4_1, hw_4_2⟩ := hw_4
  refine j_istore_n (pc := 24) (lv' := [(1, .int (u_3.2.1 0)), (0, .ref t0)]) C dX8_advance_24 rfl (by decide) rfl ?_
  refine j_aload_n (pc := 25) C dX8_advance_25 rfl 1 rfl ?_
  refine j_aload_n (pc := 26) C dX8_advance_26 rfl 1 rfl ?_
  refine j_get (pc := 27) (ci := 8) (v := .int (u_1.2.1 0)) C inw_8 0 rfl rfl 4 (by decide) wd_262 rfl rfl dX8_advance_27 ?_
  refine j_bipush (pc := 30) (v := 48) C dX8_advance_30 (by decide) ?_
  refine j_bipush (pc := 32) (v := 57) C dX8_advance_32 (by decide) ?_
  refine j_callV (pc := 34) (As := [.int (u_1.2.1 0), .int 48, .int 57]) (rest := []) (wr := []) C (c_X8_pastRun_f l D cyC cyI cyJ cyZ cyO t0 t1 (u_1.2.1 0) 48 57 t_length t_next t_kind (u_1.2.1 0) t_number t_text h_t_length h_t_next h_t_kind hw_2_0 hw_2_0 h_t_text) wd_263 wd_258 wd_264 wd_265 wd_266 ⟨by decide, by decide, rfl⟩ rfl ⟨rfl, rfl, by decide, by decide⟩ ⟨by decide, by decide⟩ [0, 1] [] rfl rfl ⟨by decide, by decide, by decide⟩ 0 rfl rfl rfl (Nat.le_of_ble_eq_true rfl) dX8_advance_34 (fun u_5 hw_6 => ?_)
  refine j_eq (ws2 := [(t0, .inr (8, [.ref t1, .int t_length, .int t_next, .int t_kind, .int (u_1.2.1 0), .int t_number])), (t1, .inl (cyC, 1000, .inl t_text))]) (pc2 := 37) (lv2 := [(1, .int (u_3.2.1 0)), (0, .ref t0)]) (st2 := [.int (u_5.2.1 0)]) rfl rfl rfl rfl ?_
  obtain ⟨hw_6_0, hw_6_1, hw_6_2⟩ := hw_6
  refine j_istore_n (pc := 37) (lv' := [(2, .int (u_5.2.1 0)), (1, .int (u_3.2.1 0)), (0, .ref t0)]) C dX8_advance_37 rfl (by decide) rfl ?_
  have eP : tP t_text (t_length).toInt.toNat (t_next).toInt.toNat = ((u_1.2.1 0)).toInt.toNat := (hw_2_1).rn.symm
  have eW : tW t_text (t_length).toInt.toNat (t_next).toInt.toNat = ((u_3.2.1 0)).toInt.toNat := by unfold tW; rw [eP]; exact (hw_4_1).rn.symm
  have eD : tD t_text (t_length).toInt.toNat (t_next).toInt.toNat = ((u_5.2.1 0)).toInt.toNat := by unfold tD; rw [eP]; exact (hw_6_1).rn.symm
  refine j_aload_n (pc := 38) C dX8_advance_38 rfl 2 rfl ?_
  refine j_get (pc := 39) (ci := 8) (v := .int (u_1.2.1 0)) C inw_8 0 rfl rfl 4 (by decide) wd_262 rfl rfl dX8_advance_39 ?_
  refine j_aload_n (pc := 42) C dX8_advance_42 rfl 2 rfl ?_
  refine j_get (pc := 43) (ci := 8) (v := .int t_length) C inw_8 0 rfl rfl 1 (by decide) wd_254 rfl rfl dX8_advance_43 ?_
  refine j_icmp_lt (pc := 46) (tgt := 65) C dX8_advance_46 (by decide) (fun c_7 => ?_) (fun c_7 => ?_)
  · skip
    rw [i_lt] at c_7
    refine j_iload_n (pc := 65) C dX8_advance_65 rfl 1 rfl ?_
    refine j_aload_n (pc := 66) C dX8_advance_66 rfl 2 rfl ?_
    refine j_get (pc := 67) (ci := 8) (v := .int (u_1.2.1 0)) C inw_8 0 rfl rfl 4 (by decide) wd_262 rfl rfl dX8_advance_67 ?_
    refine j_icmp_le (pc := 70) (tgt := 104) C dX8_advance_70 (by decide) (fun c_8 => ?_) (fun c_8 => ?_)
    · skip
      rw [i_le] at c_8
      refine j_iload_n (pc := 104) C dX8_advance_104 rfl 0 rfl ?_
      refine j_aload_n (pc := 105) C dX8_advance_105 rfl 2 rfl ?_
      refine j_get (pc := 106) (ci := 8) (v := .int (u_1.2.1 0)) C inw_8 0 rfl rfl 4 (by decide) wd_262 rfl rfl dX8_advance_106 ?_
      refine j_icmp_le (pc := 109) (tgt := 170) C dX8_advance_109 (by decide) (fun c_9 => ?_) (fun c_9 => ?_)
      · skip
        rw [i_le] at c_9
        refine j_aload_n (pc := 170) C dX8_advance_170 rfl 2 rfl ?_
        refine j_aload_n (pc := 171) C dX8_advance_171 rfl 2 rfl ?_
        refine j_get (pc := 172) (ci := 8) (v := .int (u_1.2.1 0)) C inw_8 0 rfl rfl 4 (by decide) wd_262 rfl rfl dX8_advance_172 ?_
        refine j_iconst (pc := 175) (v := 1) C dX8_advance_175 (by decide) ?_
        obtain ⟨v_10, ev_10⟩ : ∃ z : Int32, (u_1.2.1 0) + 1 = z := ⟨_, rfl⟩
        have el_1 : (1 : Int32).toInt = 1 := rfl
        have hv_10 : v_10.toInt = ((u_1.2.1 0)).toInt + (1 : Int32).toInt := by rw [← ev_10]; exact fb_addI (by omega) (by omega)
        refine j_iadd (pc := 176) (v := v_10) C dX8_advance_176 ev_10 ?_
        refine j_put (pc := 177) (ci := 8) (v := .int v_10) (ws' := [(t0, .inr (8, [.ref t1, .int t_length, .int v_10, .int t_kind, .int (u_1.2.1 0), .int t_number])), (t1, .inl (cyC, 1000, .inl t_text))]) C inw_8 0 rfl rfl 2 (by decide) wd_256 rfl tyX8_ok nmX8 rfl (tyX8_ok 2 (by decide)) rfl rfl (Nat.le_of_ble_eq_true rfl) dX8_advance_177 rfl ?_
        refine j_aload_n (pc := 180) C dX8_advance_180 rfl 2 rfl ?_
        refine j_ldcS (pc := 181) (i := 25) C (by decide) rfl dX8_advance_181 ?_
        refine j_aload_n (pc := 183) C dX8_advance_183 rfl 2 rfl ?_
        refine j_get (pc := 184) (ci := 8) (v := .ref t1) C inw_8 0 rfl rfl 0 (by decide) wd_255 rfl rfl dX8_advance_184 ?_
        refine j_aload_n (pc := 187) C dX8_advance_187 rfl 2 rfl ?_
        refine j_get (pc := 188) (ci := 8) (v := .int (u_1.2.1 0)) C inw_8 0 rfl rfl 4 (by decide) wd_262 rfl rfl dX8_advance_188 ?_
        obtain ⟨v_11, ev_11⟩ : ∃ z, t_text ((u_1.2.1 0)).toInt.toNat = z := ⟨_, rfl⟩
        have env_11 : (t_text ((u_1.2.1 0)).toInt.toNat).toInt = v_11.toInt := by rw [ev_11]
        have hv_11 := h_t_text ((u_1.2.1 0)).toInt.toNat (i_lt_n hw_2_0.1 (by omega)); rw [ev_11] at hv_11
        refine j_cald (pc := 191) (v := v_11) (k := ((u_1.2.1 0)).toInt.toNat) C 1 0 rfl rfl (i_nn hw_2_0.1) rfl (i_lt_n hw_2_0.1 (by omega)) ev_11 dX8_advance_191 ?_
        refine j_callT (pc := 192) (As := [.int v_11]) (rest := [.ref t0]) (wr := [(t0, .inr (8, [.ref t1, .int t_length, .int v_10, .int t_kind, .int (u_1.2.1 0), .int t_number])), (t1, .inl (cyC, 1000, .inl t_text))]) C (c_J0_indexOf_f l D cyC cyI cyJ cyZ cyO 25 v_11 (by omega) (by decide)) wd_267 wd_220 wd_268 wd_269 wd_270 ⟨by decide, by decide, rfl⟩ rfl ⟨rfl, rfl, by decide, by decide⟩ ⟨by decide, by decide⟩ [] [0, 1] rfl rfl ⟨by decide, by decide, by decide⟩ (by decide) rfl rfl (Nat.le_of_ble_eq_true rfl) dX8_advance_192 (fun u_12 hw_13 => ?_)
        refine j_eq (ws2 := [(t0, .inr (8, [.ref t1, .int t_length, .int v_10, .int t_kind, .int (u_1.2.1 0), .int t_number])), (t1, .inl (cyC, 1000, .inl t_text))]) (pc2 := 195) (lv2 := [(2, .int (u_5.2.1 0)), (1, .int (u_3.2.1 0)), (0, .ref t0)]) (st2 := [.int (u_12.2.1 0), .ref t0]) rfl rfl rfl rfl ?_
        obtain ⟨hw_13_0, hw_13_1, hw_13_2⟩ := hw_13
        refine j_if_lt (pc := 195) (tgt := 202) C dX8_advance_195 (by decide) (fun c_14 => ?_) (fun c_14 => ?_)
        · skip
          have el_0 : (0 : Int32).toInt = 0 := rfl
          rw [i_lt] at c_14
          have k0c_14 : ((u_12.2.1 0)).toInt = -1 := by omega
          refine j_iconst (pc := 202) (v := 4) C dX8_advance_202 (by decide) ?_
          refine j_put (pc := 203) (ci := 8) (v := .int 4) (ws' := [(t0, .inr (8, [.ref t1, .int t_length, .int v_10, .int 4, .int (u_1.2.1 0), .int t_number])), (t1, .inl (cyC, 1000, .inl t_text))]) C inw_8 0 rfl rfl 3 (by decide) wd_271 rfl tyX8_ok nmX8 rfl (tyX8_ok 3 (by decide)) rfl rfl (Nat.le_of_ble_eq_true rfl) dX8_advance_203 rfl ?_
          have el_4 : (4 : Int32).toInt = 4 := rfl
          have el_4 : (4 : Int32).toInt = 4 := rfl
          have el_4 : (4 : Int32).toInt = 4 := rfl
          have el_4 : (4 : Int32).toInt = 4 := rfl
          exact j_vret (pc := 206) C hr hk (fun i => [].getD i 0, fun i => [v_10, 4, (u_1.2.1 0), t_number].getD i 0, fun i => [].getD i (fun _ => 0), fun i => [].getD i (fun _ => 0)) rfl (show (0 ≤ (v_10).toInt ∧ (v_10).toInt ≤ 1000) ∧ (0 ≤ ((4 : Int32)).toInt ∧ ((4 : Int32)).toInt ≤ 4) ∧ (0 ≤ ((u_1.2.1 0)).toInt ∧ ((u_1.2.1 0)).toInt ≤ 1000) ∧ (¬ ((4 : Int32)).toInt = 3 ∨ ((u_1.2.1 0)).toInt ≤ 999) ∧ (TH t_text (t_length).toInt.toNat (v_10).toInt ((4 : Int32)).toInt ((u_1.2.1 0)).toInt (t_number).toInt) ∧ (((u_1.2.1 0)).toInt.toNat = tP t_text (t_length).toInt.toNat (t_next).toInt.toNat) from ⟨by omega, by omega, hw_2_0, by omega, (by have z1 : (v_10).toInt.toNat = tE t_text (t_length).toInt.toNat (t_next).toInt.toNat := (by unfold tE; rw [eP, eW, eD, if_neg (by omega), if_neg (by omega), if_neg (by omega)]; omega); have z2 : ((4 : Int32)).toInt = tK t_text (t_length).toInt.toNat (t_next).toInt.toNat := (by have hs8 := isS_has (c := v_11) (by omega) (by omega); have hs9 : ¬ isS (t_text ((u_1.2.1 0)).toInt.toNat) = true := (fun z => hw_13_1 (by omega) (hs8.mp (by rw [ev_11] at z; exact z))); unfold tK; rw [eP, eW, eD, if_neg (by omega), if_neg (by omega), if_neg (by omega), if_neg hs9]; first | done | rfl); have z3 : ((4 : Int32)).toInt = 2 → (t_number).toInt = nV t_text (tP t_text (t_length).toInt.toNat (t_next).toInt.toNat) (tE t_text (t_length).toInt.toNat (t_next).toInt.toNat - tP t_text (t_length).toInt.toNat (t_next).toInt.toNat) := (fun h => absurd h (by decide)); exact TH.mk' (i := (t_next).toInt.toNat) eP.symm (by omega) z2 z3), eP.symm⟩) [0, 1] (by decide) rfl (by decide) (by decide) dX8_advance_206
        · skip
          have el_0 : (0 : Int32).toInt = 0 := rfl
          rw [i_lt] at c_14
          refine j_iconst (pc := 198) (v := 3) C dX8_advance_198 (by decide) ?_
          refine j_goto (pc := 199) (tgt := 203) C dX8_advance_199 (by decide) ?_
          refine j_put (pc := 203) (ci := 8) (v := .int 3) (ws' := [(t0, .inr (8, [.ref t1, .int t_length, .int v_10, .int 3, .int (u_1.2.1 0), .int t_number])), (t1, .inl (cyC, 1000, .inl t_text))]) C inw_8 0 rfl rfl 3 (by decide) wd_271 rfl tyX8_ok nmX8 rfl (tyX8_ok 3 (by decide)) rfl rfl (Nat.le_of_ble_eq_true rfl) dX8_advance_203 rfl ?_
          have el_3 : (3 : Int32).toInt = 3 := rfl
          have el_3 : (3 : Int32).toInt = 3 := rfl
          have el_3 : (3 : Int32).toInt = 3 := rfl
          have el_3 : (3 : Int32).toInt = 3 := rfl
          exact j_vret (pc := 206) C hr hk (fun i => [].getD i 0, fun i => [v_10, 3, (u_1.2.1 0), t_number].getD i 0, fun i => [].getD i (fun _ => 0), fun i => [].getD i (fun _ => 0)) rfl (show (0 ≤ (v_10).toInt ∧ (v_10).toInt ≤ 1000) ∧ (0 ≤ ((3 : Int32)).toInt ∧ ((3 : Int32)).toInt ≤ 4) ∧ (0 ≤ ((u_1.2.1 0)).toInt ∧ ((u_1.2.1 0)).toInt ≤ 1000) ∧ (¬ ((3 : Int32)).toInt = 3 ∨ ((u_1.2.1 0)).toInt ≤ 999) ∧ (TH t_text (t_length).toInt.toNat (v_10).toInt ((3 : Int32)).toInt ((u_1.2.1 0)).toInt (t_number).toInt) ∧ (((u_1.2.1 0)).toInt.toNat = tP t_text (t_length).toInt.toNat (t_next).toInt.toNat) from ⟨by omega, by omega, hw_2_0, by omega, (by have z1 : (v_10).toInt.toNat = tE t_text (t_length).toInt.toNat (t_next).toInt.toNat := (by unfold tE; rw [eP, eW, eD, if_neg (by omega), if_neg (by omega), if_neg (by omega)]; omega); have z2 : ((3 : Int32)).toInt = tK t_text (t_length).toInt.toNat (t_next).toInt.toNat := (by have hs8 := isS_has (c := v_11) (by omega) (by omega); have hs9 : isS (t_text ((u_1.2.1 0)).toInt.toNat) = true := (by rw [ev_11]; exact hs8.mpr (hw_13_2 (by omega))); unfold tK; rw [eP, eW, eD, if_neg (by omega), if_neg (by omega), if_neg (by omega), if_pos hs9]; first | done | rfl); have z3 : ((3 : Int32)).toInt = 2 → (t_number).toInt = nV t_text (tP t_text (t_length).toInt.toNat (t_next).toInt.toNat) (tE t_text (t_length).toInt.toNat (t_next).toInt.toNat - tP t_text (t_length).toInt.toNat (t_next).toInt.toNat) := (fun h => absurd h (by decide)); exact TH.mk' (i := (t_next).toInt.toNat) eP.symm (by omega) z2 z3), eP.symm⟩) [0, 1] (by decide) rfl (by decide) (by decide) dX8_advance_206
      · skip
        rw [i_le] at c_9
        refine j_aload_n (pc := 112) C dX8_advance_112 rfl 2 rfl ?_
        refine j_iload_n (pc := 113) C dX8_advance_113 rfl 0 rfl ?_
        refine j_put (pc := 114) (ci := 8) (v := .int (u_5.2.1 0)) (ws' := [(t0, .inr (8, [.ref t1, .int t_length, .int (u_5.2.1 0), .int t_kind, .int (u_1.2.1 0), .int t_number])), (t1, .inl (cyC, 1000, .inl t_text))]) C inw_8 0 rfl rfl 2 (by decide) wd_256 rfl tyX8_ok nmX8 rfl (tyX8_ok 2 (by decide)) rfl rfl (Nat.le_of_ble_eq_true rfl) dX8_advance_114 rfl ?_
        refine j_aload_n (pc := 117) C dX8_advance_117 rfl 2 rfl ?_
        refine j_aload_n (pc := 118) C dX8_advance_118 rfl 2 rfl ?_
        refine j_get (pc := 119) (ci := 8) (v := .int (u_5.2.1 0)) C inw_8 0 rfl rfl 2 (by decide) wd_256 rfl rfl dX8_advance_119 ?_
        refine j_aload_n (pc := 122) C dX8_advance_122 rfl 2 rfl ?_
        refine j_get (pc := 123) (ci := 8) (v := .int (u_1.2.1 0)) C inw_8 0 rfl rfl 4 (by decide) wd_262 rfl rfl dX8_advance_123 ?_
        obtain ⟨v_15, ev_15⟩ : ∃ z : Int32, (u_5.2.1 0) - (u_1.2.1 0) = z := ⟨_, rfl⟩
        have hv_15 : v_15.toInt = ((u_5.2.1 0)).toInt - ((u_1.2.1 0)).toInt := by rw [← ev_15]; exact fb_subI (by omega) (by omega)
        refine j_isub (pc := 126) (v := v_15) C dX8_advance_126 ev_15 ?_
        refine j_iconst (pc := 127) (v := 4) C dX8_advance_127 (by decide) ?_
        refine j_icmp_gt (pc := 128) (tgt := 135) C dX8_advance_128 (by decide) (fun c_16 => ?_) (fun c_16 => ?_)
        · skip
          have el_4 : (4 : Int32).toInt = 4 := rfl
          rw [i_lt] at c_16
          refine j_iconst (pc := 135) (v := 4) C dX8_advance_135 (by decide) ?_
          refine j_put (pc := 136) (ci := 8) (v := .int 4) (ws' := [(t0, .inr (8, [.ref t1, .int t_length, .int (u_5.2.1 0), .int 4, .int (u_1.2.1 0), .int t_number])), (t1, .inl (cyC, 1000, .inl t_text))]) C inw_8 0 rfl rfl 3 (by decide) wd_271 rfl tyX8_ok nmX8 rfl (tyX8_ok 3 (by decide)) rfl rfl (Nat.le_of_ble_eq_true rfl) dX8_advance_136 rfl ?_
          refine j_aload_n (pc := 139) C dX8_advance_139 rfl 2 rfl ?_
          refine j_aload_n (pc := 140) C dX8_advance_140 rfl 2 rfl ?_
          refine j_get (pc := 141) (ci := 8) (v := .int 4) C inw_8 0 rfl rfl 3 (by decide) wd_271 rfl rfl dX8_advance_141 ?_
          refine j_iconst (pc := 144) (v := 2) C dX8_advance_144 (by decide) ?_
          refine j_icmp_ne_t (pc := 145) (tgt := 163) C dX8_advance_145 (by decide) (by decide) ?_
          refine j_iconst (pc := 163) (v := 0) C dX8_advance_163 (by decide) ?_
          refine j_put (pc := 164) (ci := 8) (v := .int 0) (ws' := [(t0, .inr (8, [.ref t1, .int t_length, .int (u_5.2.1 0), .int 4, .int (u_1.2.1 0), .int 0])), (t1, .inl (cyC, 1000, .inl t_text))]) C inw_8 0 rfl rfl 5 (by decide) wd_272 rfl tyX8_ok nmX8 rfl (tyX8_ok 5 (by decide)) rfl rfl (Nat.le_of_ble_eq_true rfl) dX8_advance_164 rfl ?_
          refine j_goto (pc := 167) (tgt := 206) C dX8_advance_167 (by decide) ?_
          have el_4 : (4 : Int32).toInt = 4 := rfl
          have el_4 : (4 : Int32).toInt = 4 := rfl
          have el_0 : (0 : Int32).toInt = 0 := rfl
          have el_4 : (4 : Int32).toInt = 4 := rfl
          have el_0 : (0 : Int32).toInt = 0 := rfl
          have el_4 : (4 : Int32).toInt = 4 := rfl
          have el_0 : (0 : Int32).toInt = 0 := rfl
          exact j_vret (pc := 206) C hr hk (fun i => [].getD i 0, fun i => [(u_5.2.1 0), 4, (u_1.2.1 0), 0].getD i 0, fun i => [].getD i (fun _ => 0), fun i => [].getD i (fun _ => 0)) rfl (show (0 ≤ ((u_5.2.1 0)).toInt ∧ ((u_5.2.1 0)).toInt ≤ 1000) ∧ (0 ≤ ((4 : Int32)).toInt ∧ ((4 : Int32)).toInt ≤ 4) ∧ (0 ≤ ((u_1.2.1 0)).toInt ∧ ((u_1.2.1 0)).toInt ≤ 1000) ∧ (¬ ((4 : Int32)).toInt = 3 ∨ ((u_1.2.1 0)).toInt ≤ 999) ∧ (TH t_text (t_length).toInt.toNat ((u_5.2.1 0)).toInt ((4 : Int32)).toInt ((u_1.2.1 0)).toInt ((0 : Int32)).toInt) ∧ (((u_1.2.1 0)).toInt.toNat = tP t_text (t_length).toInt.toNat (t_next).toInt.toNat) from ⟨hw_6_0, by omega, hw_2_0, by omega, (by have z1 : ((u_5.2.1 0)).toInt.toNat = tE t_text (t_length).toInt.toNat (t_next).toInt.toNat := (by unfold tE; rw [eP, eW, eD, if_neg (by omega), if_neg (by omega), if_pos (by omega)]); have z2 : ((4 : Int32)).toInt = tK t_text (t_length).toInt.toNat (t_next).toInt.toNat := (by unfold tK; rw [eP, eW, eD, if_neg (by omega), if_neg (by omega), if_pos (by omega), if_neg (by omega)]; first | done | rfl); have z3 : ((4 : Int32)).toInt = 2 → ((0 : Int32)).toInt = nV t_text (tP t_text (t_length).toInt.toNat (t_next).toInt.toNat) (tE t_text (t_length).toInt.toNat (t_next).toInt.toNat - tP t_text (t_length).toInt.toNat (t_next).toInt.toNat) := (fun h => absurd h (by decide)); exact TH.mk' (i := (t_next).toInt.toNat) eP.symm (by omega) z2 z3), eP.symm⟩) [0, 1] (by decide) rfl (by decide) (by decide) dX8_advance_206
        · skip
          have el_4 : (4 : Int32).toInt = 4 := rfl
          rw [i_lt] at c_16
          refine j_iconst (pc := 131) (v := 2) C dX8_advance_131 (by decide) ?_
          refine j_goto (pc := 132) (tgt := 136) C dX8_advance_132 (by decide) ?_
          refine j_put (pc := 136) (ci := 8) (v := .int 2) (ws' := [(t0, .inr (8, [.ref t1, .int t_length, .int (u_5.2.1 0), .int 2, .int (u_1.2.1 0), .int t_number])), (t1, .inl (cyC, 1000, .inl t_text))]) C inw_8 0 rfl rfl 3 (by decide) wd_271 rfl tyX8_ok nmX8 rfl (tyX8_ok 3 (by decide)) rfl rfl (Nat.le_of_ble_eq_true rfl) dX8_advance_136 rfl ?_
          refine j_aload_n (pc := 139) C dX8_advance_139 rfl 2 rfl ?_
          refine j_aload_n (pc := 140) C dX8_advance_140 rfl 2 rfl ?_
          refine j_get (pc := 141) (ci := 8) (v := .int 2) C inw_8 0 rfl rfl 3 (by decide) wd_271 rfl rfl dX8_advance_141 ?_
          refine j_iconst (pc := 144) (v := 2) C dX8_advance_144 (by decide) ?_
          refine j_icmp_ne_f (pc := 145) (tgt := 163) C dX8_advance_145 (by decide) (by decide) ?_
          refine j_aload_n (pc := 148) C dX8_advance_148 rfl 2 rfl ?_
          refine j_aload_n (pc := 149) C dX8_advance_149 rfl 2 rfl ?_
          refine j_get (pc := 150) (ci := 8) (v := .int (u_1.2.1 0)) C inw_8 0 rfl rfl 4 (by decide) wd_262 rfl rfl dX8_advance_150 ?_
          refine j_aload_n (pc := 153) C dX8_advance_153 rfl 2 rfl ?_
          refine j_get (pc := 154) (ci := 8) (v := .int (u_5.2.1 0)) C inw_8 0 rfl rfl 2 (by decide) wd_256 rfl rfl dX8_advance_154 ?_
          refine j_callV (pc := 157) (As := [.int (u_1.2.1 0), .int (u_5.2.1 0)]) (rest := [.ref t0]) (wr := []) C (c_X8_valueOf_f l D cyC cyI cyJ cyZ cyO t0 t1 (u_1.2.1 0) (u_5.2.1 0) t_length (u_5.2.1 0) 2 (u_1.2.1 0) t_number t_text h_t_length hw_6_0 (by decide) hw_2_0 hw_2_0 hw_6_0 h_t_text (by omega) (fun j j1 j2 => ((hw_6_1).2.1 j (by omega) (by omega)).2)) wd_273 wd_258 wd_274 wd_275 wd_276 ⟨by decide, by decide, rfl⟩ rfl ⟨rfl, rfl, by decide, by decide⟩ ⟨by decide, by decide⟩ [0, 1] [] rfl rfl ⟨by decide, by decide, by decide⟩ 0 rfl rfl rfl (Nat.le_of_ble_eq_true rfl) dX8_advance_157 (fun u_17 hw_18 => ?_)
          refine j_eq (ws2 := [(t0, .inr (8, [.ref t1, .int t_length, .int (u_5.2.1 0), .int 2, .int (u_1.2.1 0), .int t_number])), (t1, .inl (cyC, 1000, .inl t_text))]) (pc2 := 160) (lv2 := [(2, .int (u_5.2.1 0)), (1, .int (u_3.2.1 0)), (0, .ref t0)]) (st2 := [.int (u_17.2.1 0), .ref t0]) rfl rfl rfl rfl ?_
          obtain ⟨hw_18_0, hw_18_1⟩ := hw_18
          refine j_goto (pc := 160) (tgt := 164) C dX8_advance_160 (by decide) ?_
          refine j_put (pc := 164) (ci := 8) (v := .int (u_17.2.1 0)) (ws' := [(t0, .inr (8, [.ref t1, .int t_length, .int (u_5.2.1 0), .int 2, .int (u_1.2.1 0), .int (u_17.2.1 0)])), (t1, .inl (cyC, 1000, .inl t_text))]) C inw_8 0 rfl rfl 5 (by decide) wd_272 rfl tyX8_ok nmX8 rfl (tyX8_ok 5 (by decide)) rfl rfl (Nat.le_of_ble_eq_true rfl) dX8_advance_164 rfl ?_
          refine j_goto (pc := 167) (tgt := 206) C dX8_advance_167 (by decide) ?_
          have el_2 : (2 : Int32).toInt = 2 := rfl
          have el_2 : (2 : Int32).toInt = 2 := rfl
          have el_2 : (2 : Int32).toInt = 2 := rfl
          have el_2 : (2 : Int32).toInt = 2 := rfl
          exact j_vret (pc := 206) C hr hk (fun i => [].getD i 0, fun i => [(u_5.2.1 0), 2, (u_1.2.1 0), (u_17.2.1 0)].getD i 0, fun i => [].getD i (fun _ => 0), fun i => [].getD i (fun _ => 0)) rfl (show (0 ≤ ((u_5.2.1 0)).toInt ∧ ((u_5.2.1 0)).toInt ≤ 1000) ∧ (0 ≤ ((2 : Int32)).toInt ∧ ((2 : Int32)).toInt ≤ 4) ∧ (0 ≤ ((u_1.2.1 0)).toInt ∧ ((u_1.2.1 0)).toInt ≤ 1000) ∧ (¬ ((2 : Int32)).toInt = 3 ∨ ((u_1.2.1 0)).toInt ≤ 999) ∧ (TH t_text (t_length).toInt.toNat ((u_5.2.1 0)).toInt ((2 : Int32)).toInt ((u_1.2.1 0)).toInt ((u_17.2.1 0)).toInt) ∧ (((u_1.2.1 0)).toInt.toNat = tP t_text (t_length).toInt.toNat (t_next).toInt.toNat) from ⟨hw_6_0, by omega, hw_2_0, by omega, (by have z1 : ((u_5.2.1 0)).toInt.toNat = tE t_text (t_length).toInt.toNat (t_next).toInt.toNat := (by unfold tE; rw [eP, eW, eD, if_neg (by omega), if_neg (by omega), if_pos (by omega)]); have z2 : ((2 : Int32)).toInt = tK t_text (t_length).toInt.toNat (t_next).toInt.toNat := (by unfold tK; rw [eP, eW, eD, if_neg (by omega), if_neg (by omega), if_pos (by omega), if_pos (by omega)]; first | done | rfl); have z3 : ((2 : Int32)).toInt = 2 → ((u_17.2.1 0)).toInt = nV t_text (tP t_text (t_length).toInt.toNat (t_next).toInt.toNat) (tE t_text (t_length).toInt.toNat (t_next).toInt.toNat - tP t_text (t_length).toInt.toNat (t_next).toInt.toNat) := (fun _ => by rw [hw_18_1, eP, show tE t_text (t_length).toInt.toNat (t_next).toInt.toNat = ((u_5.2.1 0)).toInt.toNat from z1.symm, show (((u_5.2.1 0)).toInt - ((u_1.2.1 0)).toInt).toNat = ((u_5.2.1 0)).toInt.toNat - ((u_1.2.1 0)).toInt.toNat from (by omega)]); exact TH.mk' (i := (t_next).toInt.toNat) eP.symm (by omega) z2 z3), eP.symm⟩) [0, 1] (by decide) rfl (by decide) (by decide) dX8_advance_206
    · skip
      rw [i_le] at c_8
      refine j_aload_n (pc := 73) C dX8_advance_73 rfl 2 rfl ?_
      refine j_iload_n (pc := 74) C dX8_advance_74 rfl 1 rfl ?_
      refine j_put (pc := 75) (ci := 8) (v := .int (u_3.2.1 0)) (ws' := [(t0, .inr (8, [.ref t1, .int t_length, .int (u_3.2.1 0), .int t_kind, .int (u_1.2.1 0), .int t_number])), (t1, .inl (cyC, 1000, .inl t_text))]) C inw_8 0 rfl rfl 2 (by decide) wd_256 rfl tyX8_ok nmX8 rfl (tyX8_ok 2 (by decide)) rfl rfl (Nat.le_of_ble_eq_true rfl) dX8_advance_75 rfl ?_
      refine j_aload_n (pc := 78) C dX8_advance_78 rfl 2 rfl ?_
      refine j_aload_n (pc := 79) C dX8_advance_79 rfl 2 rfl ?_
      refine j_get (pc := 80) (ci := 8) (v := .int (u_3.2.1 0)) C inw_8 0 rfl rfl 2 (by decide) wd_256 rfl rfl dX8_advance_80 ?_
      refine j_aload_n (pc := 83) C dX8_advance_83 rfl 2 rfl ?_
      refine j_get (pc := 84) (ci := 8) (v := .int (u_1.2.1 0)) C inw_8 0 rfl rfl 4 (by decide) wd_262 rfl rfl dX8_advance_84 ?_
      obtain ⟨v_19, ev_19⟩ : ∃ z : Int32, (u_3.2.1 0) - (u_1.2.1 0) = z := ⟨_, rfl⟩
      have hv_19 : v_19.toInt = ((u_3.2.1 0)).toInt - ((u_1.2.1 0)).toInt := by rw [← ev_19]; exact fb_subI (by omega) (by omega)
      refine j_isub (pc := 87) (v := v_19) C dX8_advance_87 ev_19 ?_
      refine j_bipush (pc := 88) (v := 8) C dX8_advance_88 (by decide) ?_
      refine j_icmp_gt (pc := 90) (tgt := 97) C dX8_advance_90 (by decide) (fun c_20 => ?_) (fun c_20 => ?_)
      · skip
        have el_8 : (8 : Int32).toInt = 8 := rfl
        rw [i_lt] at c_20
        refine j_iconst (pc := 97) (v := 4) C dX8_advance_97 (by decide) ?_
        refine j_put (pc := 98) (ci := 8) (v := .int 4) (ws' := [(t0, .inr (8, [.ref t1, .int t_length, .int (u_3.2.1 0), .int 4, .int (u_1.2.1 0), .int t_number])), (t1, .inl (cyC, 1000, .inl t_text))]) C inw_8 0 rfl rfl 3 (by decide) wd_271 rfl tyX8_ok nmX8 rfl (tyX8_ok 3 (by decide)) rfl rfl (Nat.le_of_ble_eq_true rfl) dX8_advance_98 rfl ?_
        refine j_goto (pc := 101) (tgt := 206) C dX8_advance_101 (by decide) ?_
        have el_4 : (4 : Int32).toInt = 4 := rfl
        have el_4 : (4 : Int32).toInt = 4 := rfl
        have el_4 : (4 : Int32).toInt = 4 := rfl
        have el_4 : (4 : Int32).toInt = 4 := rfl
        exact j_vret (pc := 206) C hr hk (fun i => [].getD i 0, fun i => [(u_3.2.1 0), 4, (u_1.2.1 0), t_number].getD i 0, fun i => [].getD i (fun _ => 0), fun i => [].getD i (fun _ => 0)) rfl (show (0 ≤ ((u_3.2.1 0)).toInt ∧ ((u_3.2.1 0)).toInt ≤ 1000) ∧ (0 ≤ ((4 : Int32)).toInt ∧ ((4 : Int32)).toInt ≤ 4) ∧ (0 ≤ ((u_1.2.1 0)).toInt ∧ ((u_1.2.1 0)).toInt ≤ 1000) ∧ (¬ ((4 : Int32)).toInt = 3 ∨ ((u_1.2.1 0)).toInt ≤ 999) ∧ (TH t_text (t_length).toInt.toNat ((u_3.2.1 0)).toInt ((4 : Int32)).toInt ((u_1.2.1 0)).toInt (t_number).toInt) ∧ (((u_1.2.1 0)).toInt.toNat = tP t_text (t_length).toInt.toNat (t_next).toInt.toNat) from ⟨hw_4_0, by omega, hw_2_0, by omega, (by have z1 : ((u_3.2.1 0)).toInt.toNat = tE t_text (t_length).toInt.toNat (t_next).toInt.toNat := (by unfold tE; rw [eP, eW, eD, if_neg (by omega), if_pos (by omega)]); have z2 : ((4 : Int32)).toInt = tK t_text (t_length).toInt.toNat (t_next).toInt.toNat := (by unfold tK; rw [eP, eW, eD, if_neg (by omega), if_pos (by omega), if_neg (by omega)]; first | done | rfl); have z3 : ((4 : Int32)).toInt = 2 → (t_number).toInt = nV t_text (tP t_text (t_length).toInt.toNat (t_next).toInt.toNat) (tE t_text (t_length).toInt.toNat (t_next).toInt.toNat - tP t_text (t_length).toInt.toNat (t_next).toInt.toNat) := (fun h => absurd h (by decide)); exact TH.mk' (i := (t_next).toInt.toNat) eP.symm (by omega) z2 z3), eP.symm⟩) [0, 1] (by decide) rfl (by decide) (by decide) dX8_advance_206
      · skip
        have el_8 : (8 : Int32).toInt = 8 := rfl
        rw [i_lt] at c_20
        refine j_iconst (pc := 93) (v := 1) C dX8_advance_93 (by decide) ?_
        refine j_goto (pc := 94) (tgt := 98) C dX8_advance_94 (by decide) ?_
        refine j_put (pc := 98) (ci := 8) (v := .int 1) (ws' := [(t0, .inr (8, [.ref t1, .int t_length, .int (u_3.2.1 0), .int 1, .int (u_1.2.1 0), .int t_number])), (t1, .inl (cyC, 1000, .inl t_text))]) C inw_8 0 rfl rfl 3 (by decide) wd_271 rfl tyX8_ok nmX8 rfl (tyX8_ok 3 (by decide)) rfl rfl (Nat.le_of_ble_eq_true rfl) dX8_advance_98 rfl ?_
        refine j_goto (pc := 101) (tgt := 206) C dX8_advance_101 (by decide) ?_
        have el_1 : (1 : Int32).toInt = 1 := rfl
        have el_1 : (1 : Int32).toInt = 1 := rfl
        have el_1 : (1 : Int32).toInt = 1 := rfl
        have el_1 : (1 : Int32).toInt = 1 := rfl
        exact j_vret (pc := 206) C hr hk (fun i => [].getD i 0, fun i => [(u_3.2.1 0), 1, (u_1.2.1 0), t_number].getD i 0, fun i => [].getD i (fun _ => 0), fun i => [].getD i (fun _ => 0)) rfl (show (0 ≤ ((u_3.2.1 0)).toInt ∧ ((u_3.2.1 0)).toInt ≤ 1000) ∧ (0 ≤ ((1 : Int32)).toInt ∧ ((1 : Int32)).toInt ≤ 4) ∧ (0 ≤ ((u_1.2.1 0)).toInt ∧ ((u_1.2.1 0)).toInt ≤ 1000) ∧ (¬ ((1 : Int32)).toInt = 3 ∨ ((u_1.2.1 0)).toInt ≤ 999) ∧ (TH t_text (t_length).toInt.toNat ((u_3.2.1 0)).toInt ((1 : Int32)).toInt ((u_1.2.1 0)).toInt (t_number).toInt) ∧ (((u_1.2.1 0)).toInt.toNat = tP t_text (t_length).toInt.toNat (t_next).toInt.toNat) from ⟨hw_4_0, by omega, hw_2_0, by omega, (by have z1 : ((u_3.2.1 0)).toInt.toNat = tE t_text (t_length).toInt.toNat (t_next).toInt.toNat := (by unfold tE; rw [eP, eW, eD, if_neg (by omega), if_pos (by omega)]); have z2 : ((1 : Int32)).toInt = tK t_text (t_length).toInt.toNat (t_next).toInt.toNat := (by unfold tK; rw [eP, eW, eD, if_neg (by omega), if_pos (by omega), if_pos (by omega)]; first | done | rfl); have z3 : ((1 : Int32)).toInt = 2 → (t_number).toInt = nV t_text (tP t_text (t_length).toInt.toNat (t_next).toInt.toNat) (tE t_text (t_length).toInt.toNat (t_next).toInt.toNat - tP t_text (t_length).toInt.toNat (t_next).toInt.toNat) := (fun h => absurd h (by decide)); exact TH.mk' (i := (t_next).toInt.toNat) eP.symm (by omega) z2 z3), eP.symm⟩) [0, 1] (by decide) rfl (by decide) (by decide) dX8_advance_206
  · skip
    rw [i_lt] at c_7
    refine j_aload_n (pc := 49) C dX8_advance_49 rfl 2 rfl ?_
    refine j_aload_n (pc := 50) C dX8_advance_50 rfl 2 rfl ?_
    refine j_get (pc := 51) (ci := 8) (v := .int (u_1.2.1 0)) C inw_8 0 rfl rfl 4 (by decide) wd_262 rfl rfl dX8_advance_51 ?_
    refine j_put (pc := 54) (ci := 8) (v := .int (u_1.2.1 0)) (ws' := [(t0, .inr (8, [.ref t1, .int t_length, .int (u_1.2.1 0), .int t_kind, .int (u_1.2.1 0), .int t_number])), (t1, .inl (cyC, 1000, .inl t_text))]) C inw_8 0 rfl rfl 2 (by decide) wd_256 rfl tyX8_ok nmX8 rfl (tyX8_ok 2 (by decide)) rfl rfl (Nat.le_of_ble_eq_true rfl) dX8_advance_54 rfl ?_
    refine j_aload_n (pc := 57) C dX8_advance_57 rfl 2 rfl ?_
    refine j_iconst (pc := 58) (v := 0) C dX8_advance_58 (by decide) ?_
    refine j_put (pc := 59) (ci := 8) (v := .int 0) (ws' := [(t0, .inr (8, [.ref t1, .int t_length, .int (u_1.2.1 0), .int 0, .int (u_1.2.1 0), .int t_number])), (t1, .inl (cyC, 1000, .inl t_text))]) C inw_8 0 rfl rfl 3 (by decide) wd_271 rfl tyX8_ok nmX8 rfl (tyX8_ok 3 (by decide)) rfl rfl (Nat.le_of_ble_eq_true rfl) dX8_advance_59 rfl ?_
    refine j_goto (pc := 62) (tgt := 206) C dX8_advance_62 (by decide) ?_
    have el_0 : (0 : Int32).toInt = 0 := rfl
    have el_0 : (0 : Int32).toInt = 0 := rfl
    have el_0 : (0 : Int32).toInt = 0 := rfl
    have el_0 : (0 : Int32).toInt = 0 := rfl
    exact j_vret (pc := 206) C hr hk (fun i => [].getD i 0, fun i => [(u_1.2.1 0), 0, (u_1.2.1 0), t_number].getD i 0, fun i => [].getD i (fun _ => 0), fun i => [].getD i (fun _ => 0)) rfl (show (0 ≤ ((u_1.2.1 0)).toInt ∧ ((u_1.2.1 0)).toInt ≤ 1000) ∧ (0 ≤ ((0 : Int32)).toInt ∧ ((0 : Int32)).toInt ≤ 4) ∧ (0 ≤ ((u_1.2.1 0)).toInt ∧ ((u_1.2.1 0)).toInt ≤ 1000) ∧ (¬ ((0 : Int32)).toInt = 3 ∨ ((u_1.2.1 0)).toInt ≤ 999) ∧ (TH t_text (t_length).toInt.toNat ((u_1.2.1 0)).toInt ((0 : Int32)).toInt ((u_1.2.1 0)).toInt (t_number).toInt) ∧ (((u_1.2.1 0)).toInt.toNat = tP t_text (t_length).toInt.toNat (t_next).toInt.toNat) from ⟨hw_2_0, by omega, hw_2_0, by omega, (by have z1 : ((u_1.2.1 0)).toInt.toNat = tE t_text (t_length).toInt.toNat (t_next).toInt.toNat := (by unfold tE; rw [eP, eW, eD, if_pos (by omega)]); have z2 : ((0 : Int32)).toInt = tK t_text (t_length).toInt.toNat (t_next).toInt.toNat := (by unfold tK; rw [eP, eW, eD, if_pos (by omega)]; first | done | rfl); have z3 : ((0 : Int32)).toInt = 2 → (t_number).toInt = nV t_text (tP t_text (t_length).toInt.toNat (t_next).toInt.toNat) (tE t_text (t_length).toInt.toNat (t_next).toInt.toNat - tP t_text (t_length).toInt.toNat (t_next).toInt.toNat) := (fun h => absurd h (by decide)); exact TH.mk' (i := (t_next).toInt.toNat) eP.symm (by omega) z2 z3), eP.symm⟩) [0, 1] (by decide) rfl (by decide) (by decide) dX8_advance_206
set_option maxHeartbeats 4000000 in
set_option maxRecDepth 100000 in
theorem c_X8_start_f (l : Launch) (D : DG) (cyC cyI cyJ cyZ cyO : ClassId) (t0 : Nat) (t1 : Nat) (t_length : Int32) (t_next : Int32) (t_kind : Int32) (t_place : Int32) (t_number : Int32) (t_text : Nat → Int32) (h_t_length : 0 ≤ (t_length).toInt ∧ (t_length).toInt ≤ 1000) (h_t_next : 0 ≤ (t_next).toInt ∧ (t_next).toInt ≤ 1000) (h_t_kind : 0 ≤ (t_kind).toInt ∧ (t_kind).toInt ≤ 4) (h_t_place : 0 ≤ (t_place).toInt ∧ (t_place).toInt ≤ 1000) (h_t_text : Iv 1000 (0) (126) t_text) : KK l D (TY cyC cyI cyJ cyZ cyO) yX8_start cX8_start 1 none ({ frames := 5, cells := 0, slots := 0, locals := 113 } : Room) 0 0 [.ref t0] [(t0, .inr (8, [.ref t1, .int t_length, .int t_next, .int t_kind, .int t_place, .int t_number])), (t1, .inl (cyC, 1000, .inl t_text))] (fun u => none) (fun u => (0 ≤ (u.2.1 0).toInt ∧ (u.2.1 0).toInt ≤ 1000) ∧ (0 ≤ (u.2.1 1).toInt ∧ (u.2.1 1).toInt ≤ 4) ∧ (0 ≤ (u.2.1 2).toInt ∧ (u.2.1 2).toInt ≤ 1000) ∧ (¬ ((u.2.1 1)).toInt = 3 ∨ ((u.2.1 2)).toInt ≤ 999) ∧ (TH t_text (t_length).toInt.toNat ((u.2.1 0)).toInt ((u.2.1 1)).toInt ((u.2.1 2)).toInt ((u.2.1 3)).toInt) ∧ (((u.2.1 2)).toInt.toNat = tP t_text (t_length).toInt.toNat 0)) (fun u => [(t0, .inr (8, [.ref t1, .int t_length, .int (u.2.1 0), .int (u.2.1 1), .int (u.2.1 2), .int (u.2.1 3)])), (t1, .inl (cyC, 1000, .inl t_text))]) := by
  refine KK.of (lv0 := [(0, .ref t0)]) (by decide) rfl (Nat.le_of_ble_eq_true rfl) ?_
  intro p e s m args below meth c A C hr hk hin
  refine j_aload_n (pc := 0) C dX8_start_0 rfl 0 rfl ?_
  refine j_iconst (pc := 1) (v := 0) C dX8_start_1 (by decide) ?_
  refine j_put (pc := 2) (ci := 8) (v := .int 0) (ws' := [(t0, .inr (8, [.ref t1, .int t_length, .int 0, .int t_kind, .int t_place, .int t_number])), (t1, .inl (cyC, 1000, .inl t_text))]) C inw_8 0 rfl rfl 2 (by decide) wd_256 rfl tyX8_ok nmX8 rfl (tyX8_ok 2 (by decide)) rfl rfl (Nat.le_of_ble_eq_true rfl) dX8_start_2 rfl ?_
  refine j_aload_n (pc := 5) C dX8_start_5 rfl 0 rfl ?_
  refine j_callV (pc := 6) (As := []) (rest := []) (wr := []) C (c_X8_advance_f l D cyC cyI cyJ cyZ cyO t0 t1 t_length 0 t_kind t_place t_number t_text h_t_length (by decide) h_t_kind h_t_place h_t_text) wd_277 wd_258 wd_278 wd_279 wd_280 ⟨by decide, by decide, rfl⟩ rfl ⟨rfl, rfl, by decide, by decide⟩ ⟨by decide, by decide⟩ [0, 1] [] rfl rfl ⟨by decide, by decide, by decide⟩ 0 rfl rfl rfl (Nat.le_of_ble_eq_true rfl) dX8_start_6 (fun u_1 hw_2 => ?_)
  refine j_eq (ws2 := [(t0, .inr (8, [.ref t1, .int t_length, .int (u_1.2.1 0), .int (u_1.2.1 1), .int (u_1.2.1 2), .int (u_1.2.1 3)])), (t1, .inl (cyC, 1000, .inl t_text))]) (pc2 := 9) (lv2 := [(0, .ref t0)]) (st2 := []) rfl rfl rfl rfl ?_
  obtain ⟨hw_2_0, hw_2_1, hw_2_2, hw_2_3, hw_2_4, hw_2_5⟩ := hw_2
  exact j_vret (pc := 9) C hr hk (fun i => [].getD i 0, fun i => [(u_1.2.1 0), (u_1.2.1 1), (u_1.2.1 2), (u_1.2.1 3)].getD i 0, fun i => [].getD i (fun _ => 0), fun i => [].getD i (fun _ => 0)) rfl (show (0 ≤ ((u_1.2.1 0)).toInt ∧ ((u_1.2.1 0)).toInt ≤ 1000) ∧ (0 ≤ ((u_1.2.1 1)).toInt ∧ ((u_1.2.1 1)).toInt ≤ 4) ∧ (0 ≤ ((u_1.2.1 2)).toInt ∧ ((u_1.2.1 2)).toInt ≤ 1000) ∧ (¬ ((u_1.2.1 1)).toInt = 3 ∨ ((u_1.2.1 2)).toInt ≤ 999) ∧ (TH t_text (t_length).toInt.toNat ((u_1.2.1 0)).toInt ((u_1.2.1 1)).toInt ((u_1.2.1 2)).toInt ((u_1.2.1 3)).toInt) ∧ (((u_1.2.1 2)).toInt.toNat = tP t_text (t_length).toInt.toNat 0) from ⟨hw_2_0, hw_2_1, hw_2_2, by omega, hw_2_4, hw_2_5⟩) [0, 1] (by decide) rfl (by decide) (by decide) dX8_start_9
