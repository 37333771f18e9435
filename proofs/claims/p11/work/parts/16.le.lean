theorem and255 : ∀ n, n < 256 → nI n &&& 255 = nI n := by decide +kernel
theorem and255_id {x : Int32} (h0 : 0 ≤ x.toInt) (h1 : x.toInt ≤ 255) : x &&& 255 = x := by
  obtain ⟨n, e, hn, _⟩ := nI_ofI h0
  rw [e]; exact and255 n (by omega)
set_option maxHeartbeats 4000000 in
set_option maxRecDepth 100000 in
theorem c_J1_charAt_f (l : Launch) (D : DG) (cyC cyI cyJ cyZ cyO : ClassId) (i : Nat) (p0 : Int32) (h_p0 : 0 ≤ (p0).toInt ∧ (p0).toInt ≤ 19) (hi_lit : i < 43) (hls : (p0).toInt < ((sL i : Nat) : Int)) : KK l D (TY cyC cyI cyJ cyZ cyO) yJ1_charAt_3b067 cJ1_charAt_3b067 2 (some .char) ({ frames := 2, cells := 0, slots := 0, locals := 43 } : Room) 0 0 [.ref (D.2.2.1 i), .int p0] [] (fun u => some (.int (u.2.1 0))) (fun u => (0 ≤ (u.2.1 0).toInt ∧ (u.2.1 0).toInt ≤ 255) ∧ ((u.2.1 0).toInt = (sB i (p0).toInt.toNat).toInt)) (fun u => []) := by
  refine KK.of (lv0 := [(0, .ref (D.2.2.1 i)), (1, .int p0)]) (by decide) rfl (Nat.le_of_ble_eq_true rfl) ?_
  intro p e s m args below meth c A C hr hk hin
  refine j_iload_n (pc := 0) C dJ1_charAt_3b067_0 rfl 1 rfl ?_
  refine j_aload_n (pc := 1) C dJ1_charAt_3b067_1 rfl 0 rfl ?_
  obtain ⟨v_1, ev_1⟩ : ∃ z : Int32, Int32.ofNat (sL i) = z := ⟨_, rfl⟩
  have hlv_1 := sL_bd (i := i) hi_lit
  have hv_1 : v_1.toInt = (sL i : Nat) := by rw [← ev_1]; exact nI_toInt (by omega)
  refine j_sblen (pc := 2) (v := v_1) C hi_lit ev_1 dJ1_charAt_3b067_2 ?_
  refine j_callS (pc := 3) (As := [.int p0, .int v_1]) (rest := []) (wr := []) C (c_J0_checkIndex_df160 l D cyC cyI cyJ cyZ cyO p0 v_1 (by omega) (by omega)) wd_224 wd_220 wd_225 wd_226 ⟨by decide, by decide, rfl⟩ rfl ⟨rfl, rfl, by decide, by decide⟩ ⟨by decide, by decide⟩ [] [] rfl rfl ⟨by decide, by decide, by decide⟩ rfl (Nat.le_of_ble_eq_true rfl) dJ1_charAt_3b067_3 (fun u_2 hw_3 => ?_)
  refine j_eq (ws2 := []) (pc2 := 6) (lv2 := [(0, .ref (D.2.2.1 i)), (1, .int p0)]) (st2 := []) rfl rfl rfl rfl ?_
  refine j_aload_n (pc := 6) C dJ1_charAt_3b067_6 rfl 0 rfl ?_
  refine j_iload_n (pc := 7) C dJ1_charAt_3b067_7 rfl 1 rfl ?_
  obtain ⟨v_4, ev_4⟩ : ∃ z : Int32, sB i (p0).toInt.toNat = z := ⟨_, rfl⟩
  have hv_4 := sB_bd (i := i) (k := (p0).toInt.toNat) hi_lit (by omega); rw [ev_4] at hv_4
  refine j_sbld (pc := 8) (v := v_4) (k := (p0).toInt.toNat) C hi_lit (i_nn (by omega)) rfl (by omega) ev_4 dJ1_charAt_3b067_8 ?_
  refine j_sipush (pc := 9) (v := 255) C dJ1_charAt_3b067_9 (by decide) ?_
  obtain ⟨v_5, ev_5⟩ : ∃ z : Int32, v_4 &&& 255 = z := ⟨_, rfl⟩
  have el_255 : (255 : Int32).toInt = 255 := rfl
  have hv_5 : 0 ≤ v_5.toInt ∧ v_5.toInt ≤ 255 := by rw [← ev_5]; exact andm_r _ 8 (by decide) (by decide)
  refine j_iand (pc := 12) (v := v_5) C dJ1_charAt_3b067_12 ev_5 ?_
  have hc9 : v_5.toInt = v_4.toInt := by rw [← ev_5, and255_id (by omega) (by omega)]
  obtain ⟨v_6, ev_6⟩ : ∃ z : Int32, ((v_5 : Int32).toUInt32 % 65536).toInt32 = z := ⟨_, rfl⟩
  have hv_6 : v_6.toInt = v_5.toInt := by rw [← ev_6, i2c_id (by omega) (by omega)]
  refine j_i2c (pc := 13) (v := v_6) C dJ1_charAt_3b067_13 ev_6 ?_
  exact j_zret (pc := 14) C hr (nc_16 (by omega) (by omega)) hk (fun i => [].getD i 0, fun i => [v_6].getD i 0, fun i => [].getD i (fun _ => 0), fun i => [].getD i (fun _ => 0)) rfl (show (0 ≤ (v_6).toInt ∧ (v_6).toInt ≤ 255) ∧ (v_6.toInt = (sB i (p0).toInt.toNat).toInt) from ⟨by omega, (by have h9 := congrArg Int32.toInt ev_4; omega)⟩) [] (by decide) rfl (by decide) (by decide) dJ1_charAt_3b067_14
set_option maxHeartbeats 4000000 in
set_option maxRecDepth 100000 in
theorem c_J0_charAt_f (l : Launch) (D : DG) (cyC cyI cyJ cyZ cyO : ClassId) (i : Nat) (p0 : Int32) (h_p0 : 0 ≤ (p0).toInt ∧ (p0).toInt ≤ 19) (hi_lit : i < 43) (hls : (p0).toInt < ((sL i : Nat) : Int)) : KK l D (TY cyC cyI cyJ cyZ cyO) yJ0_charAt_5068e cJ0_charAt_5068e 2 (some .char) ({ frames := 3, cells := 0, slots := 0, locals := 64 } : Room) 0 0 [.ref (D.2.1 i), .int p0] [] (fun u => some (.int (u.2.1 0))) (fun u => (0 ≤ (u.2.1 0).toInt ∧ (u.2.1 0).toInt ≤ 255) ∧ ((u.2.1 0).toInt = (sB i (p0).toInt.toNat).toInt)) (fun u => []) := by
  refine KK.of (lv0 := [(0, .ref (D.2.1 i)), (1, .int p0)]) (by decide) rfl (Nat.le_of_ble_eq_true rfl) ?_
  intro p e s m args below meth c A C hr hk hin
  refine j_aload_n (pc := 0) C dJ0_charAt_5068e_0 rfl 0 rfl ?_
  refine j_callT (pc := 1) (As := []) (rest := []) (wr := []) C (c_J0_isLatin1_aae02 l D cyC cyI cyJ cyZ cyO i hi_lit) wd_227 wd_220 wd_228 wd_229 wd_230 ⟨by decide, by decide, rfl⟩ rfl ⟨rfl, rfl, by decide, by decide⟩ ⟨by decide, by decide⟩ [] [] rfl rfl ⟨by decide, by decide, by decide⟩ hi_lit rfl rfl (Nat.le_of_ble_eq_true rfl) dJ0_charAt_5068e_1 (fun u_1 hw_2 => ?_)
  refine j_eq (ws2 := []) (pc2 := 4) (lv2 := [(0, .ref (D.2.1 i)), (1, .int p0)]) (st2 := [.int 1]) rfl rfl rfl rfl ?_
  refine j_if_eq_f (pc := 4) (tgt := 16) C dJ0_charAt_5068e_4 (by decide) (by decide) ?_
  refine j_aload_n (pc := 7) C dJ0_charAt_5068e_7 rfl 0 rfl ?_
  refine j_sgetV (pc := 8) C hi_lit wd_218 dJ0_charAt_5068e_8 ?_
  refine j_iload_n (pc := 11) C dJ0_charAt_5068e_11 rfl 1 rfl ?_
  refine j_callS (pc := 12) (As := [.ref (D.2.2.1 i), .int p0]) (rest := []) (wr := []) C (c_J1_charAt_f l D cyC cyI cyJ cyZ cyO i p0 h_p0 hi_lit hls) wd_231 wd_232 wd_233 wd_234 ⟨by decide, by decide, rfl⟩ rfl ⟨rfl, rfl, by decide, by decide⟩ ⟨by decide, by decide⟩ [] [] rfl rfl ⟨by decide, by decide, by decide⟩ rfl (Nat.le_of_ble_eq_true rfl) dJ0_charAt_5068e_12 (fun u_3 hw_4 => ?_)
  refine j_eq (ws2 := []) (pc2 := 15) (lv2 := [(0, .ref (D.2.1 i)), (1, .int p0)]) (st2 := [.int (u_3.2.1 0)]) rfl rfl rfl rfl ?_
  obtain ⟨hw_4_0, hw_4_1⟩ := hw_4
  exact j_zret (pc := 15) C hr (nc_16 (by omega) (by omega)) hk (fun i => [].getD i 0, fun i => [(u_3.2.1 0)].getD i 0, fun i => [].getD i (fun _ => 0), fun i => [].getD i (fun _ => 0)) rfl (show (0 ≤ ((u_3.2.1 0)).toInt ∧ ((u_3.2.1 0)).toInt ≤ 255) ∧ ((u_3.2.1 0).toInt = (sB i (p0).toInt.toNat).toInt) from ⟨hw_4_0, hw_4_1⟩) [] (by decide) rfl (by decide) (by decide) dJ0_charAt_5068e_15
set_option maxHeartbeats 4000000 in
set_option maxRecDepth 100000 in
theorem c_X8_isWord_f (l : Launch) (D : DG) (cyC cyI cyJ cyZ cyO : ClassId) (t0 : Nat) (t1 : Nat) (i : Nat) (t_length : Int32) (t_next : Int32) (t_kind : Int32) (t_place : Int32) (t_number : Int32) (t_text : Nat → Int32) (h_t_length : 0 ≤ (t_length).toInt ∧ (t_length).toInt ≤ 1000) (h_t_next : 0 ≤ (t_next).toInt ∧ (t_next).toInt ≤ 1000) (h_t_kind : 0 ≤ (t_kind).toInt ∧ (t_kind).toInt ≤ 4) (h_t_place : 0 ≤ (t_place).toInt ∧ (t_place).toInt ≤ 1000) (h_t_text : Iv 1000 (0) (126) t_text) (hi_lit : i < 43) (hwl : wLit i) (hTH : TH t_text (t_length).toInt.toNat (t_next).toInt (t_kind).toInt (t_place).toInt (t_number).toInt) : KK l D (TY cyC cyI cyJ cyZ cyO) yX8_isWord cX8_isWord 3 (some .boolean) ({ frames := 4, cells := 0, slots := 0, locals := 85 } : Room) 0 0 [.ref t0, .ref (D.2.1 i)] [(t0, .inr (8, [.ref t1, .int t_length, .int t_next, .int t_kind, .int t_place, .int t_number])), (t1, .inl (cyC, 1000, .inl t_text))] (fun u => some (.int (u.2.1 0))) (fun u => (0 ≤ (u.2.1 0).toInt ∧ (u.2.1 0).toInt ≤ 1) ∧ ((u.2.1 0).toInt = wI (TKS t_text (t_length).toInt.toNat) (t_place).toInt.toNat (wnL i))) (fun u => [(t0, .inr (8, [.ref t1, .int t_length, .int t_next, .int t_kind, .int t_place, .int t_number])), (t1, .inl (cyC, 1000, .inl t_text))]) := by
  refine KK.of (lv0 := [(0, .ref t0), (1, .ref (D.2.1 i))]) (by decide) rfl (Nat.le_of_ble_eq_true rfl) ?_
  intro p e s m args below meth c A C hr hk hin
  refine j_aload_n (pc := 0) C dX8_isWord_0 rfl 0 rfl ?_
  refine j_get (pc := 1) (ci := 8) (v := .int t_kind) C inw_8 0 rfl rfl 3 (by decide) wd_271 rfl rfl dX8_isWord_1 ?_
  refine j_iconst (pc := 4) (v := 1) C dX8_isWord_4 (by decide) ?_
  refine j_icmp_ne (pc := 5) (tgt := 24) C dX8_isWord_5 (by decide) (fun c_1 => ?_) (fun c_1 => ?_)
  · skip
    have el_1 : (1 : Int32).toInt = 1 := rfl
    rw [i_eq] at c_1
    refine j_iconst (pc := 24) (v := 0) C dX8_isWord_24 (by decide) ?_
    have el_0 : (0 : Int32).toInt = 0 := rfl
    have el_0 : (0 : Int32).toInt = 0 := rfl
    exact j_zret (pc := 25) C hr rfl hk (fun i => [].getD i 0, fun i => [0].getD i 0, fun i => [].getD i (fun _ => 0), fun i => [].getD i (fun _ => 0)) rfl (show (0 ≤ ((0 : Int32)).toInt ∧ ((0 : Int32)).toInt ≤ 1) ∧ ((0 : Int32).toInt = wI (TKS t_text (t_length).toInt.toNat) (t_place).toInt.toNat (wnL i)) from ⟨by omega, (by have z9 : wI (TKS t_text (t_length).toInt.toNat) (t_place).toInt.toNat (wnL i) = 0 := wI_0.mpr (fun z => by have z0 := (hTH.word hwl).mpr z; have z1 := z0.1; have z2 := z0.2.1; omega); omega)⟩) [0, 1] (by decide) rfl (by decide) (by decide) dX8_isWord_25
  · skip
    have el_1 : (1 : Int32).toInt = 1 := rfl
    rw [i_eq] at c_1
    refine j_aload_n (pc := 8) C dX8_isWord_8 rfl 0 rfl ?_
    refine j_get (pc := 9) (ci := 8) (v := .int t_next) C inw_8 0 rfl rfl 2 (by decide) wd_256 rfl rfl dX8_isWord_9 ?_
    refine j_aload_n (pc := 12) C dX8_isWord_12 rfl 0 rfl ?_
    refine j_get (pc := 13) (ci := 8) (v := .int t_place) C inw_8 0 rfl rfl 4 (by decide) wd_262 rfl rfl dX8_isWord_13 ?_
    obtain ⟨v_2, ev_2⟩ : ∃ z : Int32, t_next - t_place = z := ⟨_, rfl⟩
    have hv_2 : v_2.toInt = t_next.toInt - t_place.toInt := by rw [← ev_2]; exact fb_subI (by omega) (by omega)
    refine j_isub (pc := 16) (v := v_2) C dX8_isWord_16 ev_2 ?_
    refine j_aload_n (pc := 17) C dX8_isWord_17 rfl 1 rfl ?_
    refine j_callT (pc := 18) (As := []) (rest := [.int v_2]) (wr := [(t0, .inr (8, [.ref t1, .int t_length, .int t_next, .int t_kind, .int t_place, .int t_number])), (t1, .inl (cyC, 1000, .inl t_text))]) C (c_J0_length_8abf5 l D cyC cyI cyJ cyZ cyO i hi_lit) wd_243 wd_220 wd_281 wd_245 wd_246 ⟨by decide, by decide, rfl⟩ rfl ⟨rfl, rfl, by decide, by decide⟩ ⟨by decide, by decide⟩ [] [0, 1] rfl rfl ⟨by decide, by decide, by decide⟩ hi_lit rfl rfl (Nat.le_of_ble_eq_true rfl) dX8_isWord_18 (fun u_3 hw_4 => ?_)
    refine j_eq (ws2 := [(t0, .inr (8, [.ref t1, .int t_length, .int t_next, .int t_kind, .int t_place, .int t_number])), (t1, .inl (cyC, 1000, .inl t_text))]) (pc2 := 21) (lv2 := [(0, .ref t0), (1, .ref (D.2.1 i))]) (st2 := [.int (u_3.2.1 0), .int v_2]) rfl rfl rfl rfl ?_
    obtain ⟨hw_4_0, hw_4_1⟩ := hw_4
    refine j_icmp_eq (pc := 21) (tgt := 26) C dX8_isWord_21 (by decide) (fun c_5 => ?_) (fun c_5 => ?_)
    · skip
      rw [i_eq] at c_5
      refine j_iconst (pc := 26) (v := 0) C dX8_isWord_26 (by decide) ?_
      refine j_istore_n (pc := 27) (lv' := [(2, .int 0), (0, .ref t0), (1, .ref (D.2.1 i))]) C dX8_isWord_27 rfl (by decide) rfl ?_
      have loop_6 : ∀ (k_6 : Nat) (x6_2 : Int32), (0 ≤ (x6_2).toInt ∧ (x6_2).toInt ≤ 20) → (x6_2.toInt ≤ ((sL i : Nat) : Int)) → (∀ j : Nat, (j : Int) < x6_2.toInt → (t_text ((t_place).toInt.toNat + j)).toInt = (sB i j).toInt) → (20 - x6_2.toInt).toNat < k_6 → J p l e ({ frames := 4, cells := 0, slots := 0, locals := 85 } : Room) s m args below meth c D A 3 0 0 (QX below D (TY cyC cyI cyJ cyZ cyO) A (fun u => some (.int (u.2.1 0))) (fun u => (0 ≤ (u.2.1 0).toInt ∧ (u.2.1 0).toInt ≤ 1) ∧ ((u.2.1 0).toInt = wI (TKS t_text (t_length).toInt.toNat) (t_place).toInt.toNat (wnL i))) (fun u => [(t0, .inr (8, [.ref t1, .int t_length, .int t_next, .int t_kind, .int t_place, .int t_number])), (t1, .inl (cyC, 1000, .inl t_text))]) args s 0 0) [(t0, .inr (8, [.ref t1, .int t_length, .int t_next, .int t_kind, .int t_place, .int t_number])), (t1, .inl (cyC, 1000, .inl t_text))] 28 [(2, .int x6_2), (0, .ref t0), (1, .ref (D.2.1 i))] [] := by
        intro k_6
        induction k_6 with
        | zero =>
          intro x6_2 hi_6_0 hr_6 hq_6_0 hm_6
          exact absurd hm_6 (Nat.not_lt_zero _)
        | succ k_6 ih_6 =>
          intro x6_2 hi_6_0 hr_6 hq_6_0 hm_6
          refine j_iload_n (pc := 28) C dX8_isWord_28 rfl 0 rfl ?_
          refine j_aload_n (pc := 29) C dX8_isWord_29 rfl 2 rfl ?_
          refine j_callT (pc := 30) (As := []) (rest := [.int x6_2]) (wr := [(t0, .inr (8, [.ref t1, .int t_length, .int t_next, .int t_kind, .int t_place, .int t_number])), (t1, .inl (cyC, 1000, .inl t_text))]) C (c_J0_length_8abf5 l D cyC cyI cyJ cyZ cyO i hi_lit) wd_243 wd_220 wd_281 wd_245 wd_246 ⟨by decide, by decide, rfl⟩ rfl ⟨rfl, rfl, by decide, by decide⟩ ⟨by decide, by decide⟩ [] [0, 1] rfl rfl ⟨by decide, by decide, by decide⟩ hi_lit rfl rfl (Nat.le_of_ble_eq_true rfl) dX8_isWord_30 (fun u_7 hw_8 => ?_)
          refine j_eq (ws2 := [(t0, .inr (8, [.ref t1, .int t_length, .int t_next, .int t_kind, .int t_place, .int t_number])), (t1, .inl (cyC, 1000, .inl t_text))]) (pc2 := 33) (lv2 := [(2, .int x6_2), (0, .ref t0), (1, .ref (D.2.1 i))]) (st2 := [.int (u_7.2.1 0), .int x6_2]) rfl rfl rfl rfl ?_
          obtain ⟨hw_8_0, hw_8_1⟩ := hw_8
          refine j_icmp_ge (pc := 33) (tgt := 63) C dX8_isWord_33 (by decide) (fun c_9 => ?_) (fun c_9 => ?_)
          · skip
            rw [i_le] at c_9
            refine j_iconst (pc := 63) (v := 1) C dX8_isWord_63 (by decide) ?_
            have el_1 : (1 : Int32).toInt = 1 := rfl
            have el_1 : (1 : Int32).toInt = 1 := rfl
            exact j_zret (pc := 64) C hr rfl hk (fun i => [].getD i 0, fun i => [1].getD i 0, fun i => [].getD i (fun _ => 0), fun i => [].getD i (fun _ => 0)) rfl (show (0 ≤ ((1 : Int32)).toInt ∧ ((1 : Int32)).toInt ≤ 1) ∧ ((1 : Int32).toInt = wI (TKS t_text (t_length).toInt.toNat) (t_place).toInt.toNat (wnL i)) from ⟨by omega, (by have z9 : wI (TKS t_text (t_length).toInt.toNat) (t_place).toInt.toNat (wnL i) = 1 := wI_1.mpr ((hTH.word hwl).mp ⟨by omega, by omega, fun j hj => hq_6_0 j (by omega)⟩); omega)⟩) [0, 1] (by decide) rfl (by decide) (by decide) dX8_isWord_64
          · skip
            rw [i_le] at c_9
            refine j_aload_n (pc := 36) C dX8_isWord_36 rfl 1 rfl ?_
            refine j_get (pc := 37) (ci := 8) (v := .ref t1) C inw_8 0 rfl rfl 0 (by decide) wd_255 rfl rfl dX8_isWord_37 ?_
            refine j_aload_n (pc := 40) C dX8_isWord_40 rfl 1 rfl ?_
            refine j_get (pc := 41) (ci := 8) (v := .int t_place) C inw_8 0 rfl rfl 4 (by decide) wd_262 rfl rfl dX8_isWord_41 ?_
            refine j_iload_n (pc := 44) C dX8_isWord_44 rfl 0 rfl ?_
            obtain ⟨v_10, ev_10⟩ : ∃ z : Int32, t_place + x6_2 = z := ⟨_, rfl⟩
            have hv_10 : v_10.toInt = t_place.toInt + x6_2.toInt := by rw [← ev_10]; exact fb_addI (by omega) (by omega)
            refine j_iadd (pc := 45) (v := v_10) C dX8_isWord_45 ev_10 ?_
            obtain ⟨v_11, ev_11⟩ : ∃ z, t_text (v_10).toInt.toNat = z := ⟨_, rfl⟩
            have env_11 : (t_text (v_10).toInt.toNat).toInt = v_11.toInt := by rw [ev_11]
            have hv_11 := h_t_text (v_10).toInt.toNat (i_lt_n (by omega) (by omega)); rw [ev_11] at hv_11
            refine j_cald (pc := 46) (v := v_11) (k := (v_10).toInt.toNat) C 1 0 rfl rfl (i_nn (by omega)) rfl (i_lt_n (by omega) (by omega)) ev_11 dX8_isWord_46 ?_
            refine j_aload_n (pc := 47) C dX8_isWord_47 rfl 2 rfl ?_
            refine j_iload_n (pc := 48) C dX8_isWord_48 rfl 0 rfl ?_
            refine j_callT (pc := 49) (As := [.int x6_2]) (rest := [.int v_11]) (wr := [(t0, .inr (8, [.ref t1, .int t_length, .int t_next, .int t_kind, .int t_place, .int t_number])), (t1, .inl (cyC, 1000, .inl t_text))]) C (c_J0_charAt_f l D cyC cyI cyJ cyZ cyO i x6_2 (by omega) hi_lit (by omega)) wd_282 wd_220 wd_283 wd_284 wd_285 ⟨by decide, by decide, rfl⟩ rfl ⟨rfl, rfl, by decide, by decide⟩ ⟨by decide, by decide⟩ [] [0, 1] rfl rfl ⟨by decide, by decide, by decide⟩ hi_lit rfl rfl (Nat.le_of_ble_eq_true rfl) dX8_isWord_49 (fun u_12 hw_13 => ?_)
            refine j_eq (ws2 := [(t0, .inr (8, [.ref t1, .int t_length, .int t_next, .int t_kind, .int t_place, .int t_number])), (t1, .inl (cyC, 1000, .inl t_text))]) (pc2 := 52) (lv2 := [(2, .int x6_2), (0, .ref t0), (1, .ref (D.2.1 i))]) (st2 := [.int (u_12.2.1 0), .int v_11]) rfl rfl rfl rfl ?_
            obtain ⟨hw_13_0, hw_13_1⟩ := hw_13
            refine j_icmp_eq (pc := 52) (tgt := 57) C dX8_isWord_52 (by decide) (fun c_14 => ?_) (fun c_14 => ?_)
            · skip
              rw [i_eq] at c_14
              obtain ⟨v_15, ev_15⟩ : ∃ z : Int32, x6_2 + 1 = z := ⟨_, rfl⟩
              have el_1 : (1 : Int32).toInt = 1 := rfl
              have hv_15 : v_15.toInt = x6_2.toInt + (1 : Int32).toInt := by rw [← ev_15]; exact fb_addI (by omega) (by omega)
              refine j_iinc (pc := 57) (v := v_15) (lv' := [(2, .int v_15), (0, .ref t0), (1, .ref (D.2.1 i))]) C dX8_isWord_57 0 rfl ev_15 (by decide) rfl ?_
              refine j_goto (pc := 60) (tgt := 28) C dX8_isWord_60 (by decide) ?_
              exact j_lv [0, 1, 2] rfl (ih_6 v_15 (by omega) (by omega) (fun j hj => by rcases Int.lt_or_le (j : Int) (x6_2).toInt with q | q; (exact hq_6_0 j q); (rw [show j = (x6_2).toInt.toNat from (by omega), show (t_place).toInt.toNat + (x6_2).toInt.toNat = (v_10).toInt.toNat from (by omega), ev_11, ← hw_13_1]; omega)) (by omega))
            · skip
              rw [i_eq] at c_14
              refine j_iconst (pc := 55) (v := 0) C dX8_isWord_55 (by decide) ?_
              have el_0 : (0 : Int32).toInt = 0 := rfl
              have el_0 : (0 : Int32).toInt = 0 := rfl
              exact j_zret (pc := 56) C hr rfl hk (fun i => [].getD i 0, fun i => [0].getD i 0, fun i => [].getD i (fun _ => 0), fun i => [].getD i (fun _ => 0)) rfl (show (0 ≤ ((0 : Int32)).toInt ∧ ((0 : Int32)).toInt ≤ 1) ∧ ((0 : Int32).toInt = wI (TKS t_text (t_length).toInt.toNat) (t_place).toInt.toNat (wnL i)) from ⟨by omega, (by have z9 : wI (TKS t_text (t_length).toInt.toNat) (t_place).toInt.toNat (wnL i) = 0 := wI_0.mpr (fun z => by have z3 := ((hTH.word hwl).mpr z).2.2 (x6_2).toInt.toNat (by omega); rw [show (t_place).toInt.toNat + (x6_2).toInt.toNat = (v_10).toInt.toNat from (by omega), ev_11, ← hw_13_1] at z3; omega); omega)⟩) [0, 1] (by decide) rfl (by decide) (by decide) dX8_isWord_56
      have el_0 : (0 : Int32).toInt = 0 := rfl
      exact j_lv [0, 1, 2] rfl (loop_6 4096 0 (by decide) (by omega) (fun j h0 => absurd h0 (by omega)) (by omega))
    · skip
      rw [i_eq] at c_5
      refine j_iconst (pc := 24) (v := 0) C dX8_isWord_24 (by decide) ?_
      have el_0 : (0 : Int32).toInt = 0 := rfl
      have el_0 : (0 : Int32).toInt = 0 := rfl
      exact j_zret (pc := 25) C hr rfl hk (fun i => [].getD i 0, fun i => [0].getD i 0, fun i => [].getD i (fun _ => 0), fun i => [].getD i (fun _ => 0)) rfl (show (0 ≤ ((0 : Int32)).toInt ∧ ((0 : Int32)).toInt ≤ 1) ∧ ((0 : Int32).toInt = wI (TKS t_text (t_length).toInt.toNat) (t_place).toInt.toNat (wnL i)) from ⟨by omega, (by have z9 : wI (TKS t_text (t_length).toInt.toNat) (t_place).toInt.toNat (wnL i) = 0 := wI_0.mpr (fun z => by have z0 := (hTH.word hwl).mpr z; have z1 := z0.1; have z2 := z0.2.1; omega); omega)⟩) [0, 1] (by decide) rfl (by decide) (by decide) dX8_isWord_25
set_option maxHeartbeats 4000000 in
set_option maxRecDepth 100000 in
theorem c_X8_isSign_f (l : Launch) (D : DG) (cyC cyI cyJ cyZ cyO : ClassId) (t0 : Nat) (t1 : Nat) (p0 : Int32) (t_length : Int32) (t_next : Int32) (t_kind : Int32) (t_place : Int32) (t_number : Int32) (t_text : Nat → Int32) (h_t_length : 0 ≤ (t_length).toInt ∧ (t_length).toInt ≤ 1000) (h_t_next : 0 ≤ (t_next).toInt ∧ (t_next).toInt ≤ 1000) (h_t_kind : 0 ≤ (t_kind).toInt ∧ (t_kind).toInt ≤ 4) (h_t_place : 0 ≤ (t_place).toInt ∧ (t_place).toInt ≤ 1000) (h_t_text : Iv 1000 (0) (126) t_text) (ht3 : ¬ (t_kind).toInt = 3 ∨ (t_place).toInt ≤ 999) (hTH : TH t_text (t_length).toInt.toNat (t_next).toInt (t_kind).toInt (t_place).toInt (t_number).toInt) : KK l D (TY cyC cyI cyJ cyZ cyO) yX8_isSign cX8_isSign 2 (some .boolean) ({ frames := 0, cells := 0, slots := 0, locals := 0 } : Room) 0 0 [.ref t0, .int p0] [(t0, .inr (8, [.ref t1, .int t_length, .int t_next, .int t_kind, .int t_place, .int t_number])), (t1, .inl (cyC, 1000, .inl t_text))] (fun u => some (.int (u.2.1 0))) (fun u => (0 ≤ (u.2.1 0).toInt ∧ (u.2.1 0).toInt ≤ 1) ∧ ((u.2.1 0).toInt = gI (TKS t_text (t_length).toInt.toNat) (t_place).toInt.toNat p0)) (fun u => [(t0, .inr (8, [.ref t1, .int t_length, .int t_next, .int t_kind, .int t_place, .int t_number])), (t1, .inl (cyC, 1000, .inl t_text))]) := by
  refine KK.of (lv0 := [(0, .ref t0), (1, .int p0)]) (by decide) rfl (Nat.le_of_ble_eq_true rfl) ?_
  intro p e s m args below meth c A C hr hk hin
  refine j_aload_n (pc := 0) C dX8_isSign_0 rfl 0 rfl ?_
  refine j_get (pc := 1) (ci := 8) (v := .int t_kind) C inw_8 0 rfl rfl 3 (by decide) wd_271 rfl rfl dX8_isSign_1 ?_
  refine j_iconst (pc := 4) (v := 3) C dX8_isSign_4 (by decide) ?_
  refine j_icmp_ne (pc := 5) (tgt := 25) C dX8_isSign_5 (by decide) (fun c_1 => ?_) (fun c_1 => ?_)
  · skip
    have el_3 : (3 : Int32).toInt = 3 := rfl
    rw [i_eq] at c_1
    refine j_iconst (pc := 25) (v := 0) C dX8_isSign_25 (by decide) ?_
    have el_0 : (0 : Int32).toInt = 0 := rfl
    have el_0 : (0 : Int32).toInt = 0 := rfl
    exact j_zret (pc := 26) C hr rfl hk (fun i => [].getD i 0, fun i => [0].getD i 0, fun i => [].getD i (fun _ => 0), fun i => [].getD i (fun _ => 0)) rfl (show (0 ≤ ((0 : Int32)).toInt ∧ ((0 : Int32)).toInt ≤ 1) ∧ ((0 : Int32).toInt = gI (TKS t_text (t_length).toInt.toNat) (t_place).toInt.toNat p0) from ⟨by omega, (by have z9 : gI (TKS t_text (t_length).toInt.toNat) (t_place).toInt.toNat p0 = 0 := gI_0.mpr (fun z => by have z0 := (hTH.sign.mpr z).1; omega); omega)⟩) [0, 1] (by decide) rfl (by decide) (by decide) dX8_isSign_26
  · skip
    have el_3 : (3 : Int32).toInt = 3 := rfl
    rw [i_eq] at c_1
    refine j_aload_n (pc := 8) C dX8_isSign_8 rfl 0 rfl ?_
    refine j_get (pc := 9) (ci := 8) (v := .ref t1) C inw_8 0 rfl rfl 0 (by decide) wd_255 rfl rfl dX8_isSign_9 ?_
    refine j_aload_n (pc := 12) C dX8_isSign_12 rfl 0 rfl ?_
    refine j_get (pc := 13) (ci := 8) (v := .int t_place) C inw_8 0 rfl rfl 4 (by decide) wd_262 rfl rfl dX8_isSign_13 ?_
    obtain ⟨v_2, ev_2⟩ : ∃ z, t_text (t_place).toInt.toNat = z := ⟨_, rfl⟩
    have env_2 : (t_text (t_place).toInt.toNat).toInt = v_2.toInt := by rw [ev_2]
    have hv_2 := h_t_text (t_place).toInt.toNat (i_lt_n h_t_place.1 (by omega)); rw [ev_2] at hv_2
    refine j_cald (pc := 16) (v := v_2) (k := (t_place).toInt.toNat) C 1 0 rfl rfl (i_nn h_t_place.1) rfl (i_lt_n h_t_place.1 (by omega)) ev_2 dX8_isSign_16 ?_
    refine j_iload_n (pc := 17) C dX8_isSign_17 rfl 1 rfl ?_
    refine j_icmp_ne (pc := 18) (tgt := 25) C dX8_isSign_18 (by decide) (fun c_3 => ?_) (fun c_3 => ?_)
    · skip
      rw [i_eq] at c_3
      refine j_iconst (pc := 25) (v := 0) C dX8_isSign_25 (by decide) ?_
      have el_0 : (0 : Int32).toInt = 0 := rfl
      have el_0 : (0 : Int32).toInt = 0 := rfl
      exact j_zret (pc := 26) C hr rfl hk (fun i => [].getD i 0, fun i => [0].getD i 0, fun i => [].getD i (fun _ => 0), fun i => [].getD i (fun _ => 0)) rfl (show (0 ≤ ((0 : Int32)).toInt ∧ ((0 : Int32)).toInt ≤ 1) ∧ ((0 : Int32).toInt = gI (TKS t_text (t_length).toInt.toNat) (t_place).toInt.toNat p0) from ⟨by omega, (by have z9 : gI (TKS t_text (t_length).toInt.toNat) (t_place).toInt.toNat p0 = 0 := gI_0.mpr (fun z => by have z0 := (i_eq _ _).mp (ev_2.symm.trans (hTH.sign.mpr z).2); omega); omega)⟩) [0, 1] (by decide) rfl (by decide) (by decide) dX8_isSign_26
    · skip
      rw [i_eq] at c_3
      refine j_iconst (pc := 21) (v := 1) C dX8_isSign_21 (by decide) ?_
      refine j_goto (pc := 22) (tgt := 26) C dX8_isSign_22 (by decide) ?_
      have el_1 : (1 : Int32).toInt = 1 := rfl
      have el_1 : (1 : Int32).toInt = 1 := rfl
      exact j_zret (pc := 26) C hr rfl hk (fun i => [].getD i 0, fun i => [1].getD i 0, fun i => [].getD i (fun _ => 0), fun i => [].getD i (fun _ => 0)) rfl (show (0 ≤ ((1 : Int32)).toInt ∧ ((1 : Int32)).toInt ≤ 1) ∧ ((1 : Int32).toInt = gI (TKS t_text (t_length).toInt.toNat) (t_place).toInt.toNat p0) from ⟨by omega, (by have z9 : gI (TKS t_text (t_length).toInt.toNat) (t_place).toInt.toNat p0 = 1 := gI_1.mpr (hTH.sign.mp ⟨by omega, ev_2.trans ((i_eq _ _).mpr (by omega))⟩); omega)⟩) [0, 1] (by decide) rfl (by decide) (by decide) dX8_isSign_26
