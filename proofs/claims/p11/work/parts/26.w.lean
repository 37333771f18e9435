set_option maxHeartbeats 4000000 in
set_option maxRecDepth 100000 in
theorem c_X11_isLetter_f (l : Launch) (D : DG) (cyC cyI cyJ cyZ cyO : ClassId) (p0 : Int32) : KK l D (TY cyC cyI cyJ cyZ cyO) yX11_isLetter cX11_isLetter 1 (some .boolean) ({ frames := 0, cells := 0, slots := 0, locals := 0 } : Room) 0 0 [.int p0] [] (fun u => some (.int (u.2.1 0))) (fun u => (0 ≤ (u.2.1 0).toInt ∧ (u.2.1 0).toInt ≤ 1) ∧ ((u.2.1 0).toInt = 1 ∨ (p0).toInt < 97 ∨ 122 < (p0).toInt) ∧ ((u.2.1 0).toInt = 0 ∨ 97 ≤ (p0).toInt ∧ (p0).toInt ≤ 122)) (fun u => []) := by
  refine KK.of (lv0 := [(0, .int p0)]) (by decide) rfl (Nat.le_of_ble_eq_true rfl) ?_
  intro p e s m args below meth c A C hr hk hin
  refine j_iload_n (pc := 0) C dX11_isLetter_0 rfl 0 rfl ?_
  refine j_bipush (pc := 1) (v := 97) C dX11_isLetter_1 (by decide) ?_
  refine j_icmp_lt (pc := 3) (tgt := 16) C dX11_isLetter_3 (by decide) (fun c_1 => ?_) (fun c_1 => ?_)
  · skip
    have el_97 : (97 : Int32).toInt = 97 := rfl
    rw [i_lt] at c_1
    refine j_iconst (pc := 16) (v := 0) C dX11_isLetter_16 (by decide) ?_
    have el_0 : (0 : Int32).toInt = 0 := rfl
    have el_0 : (0 : Int32).toInt = 0 := rfl
    have el_0 : (0 : Int32).toInt = 0 := rfl
    exact j_zret (pc := 17) C hr rfl hk (fun i => [].getD i 0, fun i => [0].getD i 0, fun i => [].getD i (fun _ => 0), fun i => [].getD i (fun _ => 0)) rfl (show (0 ≤ ((0 : Int32)).toInt ∧ ((0 : Int32)).toInt ≤ 1) ∧ ((0 : Int32).toInt = 1 ∨ (p0).toInt < 97 ∨ 122 < (p0).toInt) ∧ ((0 : Int32).toInt = 0 ∨ 97 ≤ (p0).toInt ∧ (p0).toInt ≤ 122) from ⟨by omega, by omega, by omega⟩) [] (by decide) rfl (by decide) (by decide) dX11_isLetter_17
  · skip
    have el_97 : (97 : Int32).toInt = 97 := rfl
    rw [i_lt] at c_1
    refine j_iload_n (pc := 6) C dX11_isLetter_6 rfl 0 rfl ?_
    refine j_bipush (pc := 7) (v := 122) C dX11_isLetter_7 (by decide) ?_
    refine j_icmp_gt (pc := 9) (tgt := 16) C dX11_isLetter_9 (by decide) (fun c_2 => ?_) (fun c_2 => ?_)
    · skip
      have el_122 : (122 : Int32).toInt = 122 := rfl
      rw [i_lt] at c_2
      refine j_iconst (pc := 16) (v := 0) C dX11_isLetter_16 (by decide) ?_
      have el_0 : (0 : Int32).toInt = 0 := rfl
      have el_0 : (0 : Int32).toInt = 0 := rfl
      have el_0 : (0 : Int32).toInt = 0 := rfl
      exact j_zret (pc := 17) C hr rfl hk (fun i => [].getD i 0, fun i => [0].getD i 0, fun i => [].getD i (fun _ => 0), fun i => [].getD i (fun _ => 0)) rfl (show (0 ≤ ((0 : Int32)).toInt ∧ ((0 : Int32)).toInt ≤ 1) ∧ ((0 : Int32).toInt = 1 ∨ (p0).toInt < 97 ∨ 122 < (p0).toInt) ∧ ((0 : Int32).toInt = 0 ∨ 97 ≤ (p0).toInt ∧ (p0).toInt ≤ 122) from ⟨by omega, by omega, by omega⟩) [] (by decide) rfl (by decide) (by decide) dX11_isLetter_17
    · skip
      have el_122 : (122 : Int32).toInt = 122 := rfl
      rw [i_lt] at c_2
      refine j_iconst (pc := 12) (v := 1) C dX11_isLetter_12 (by decide) ?_
      refine j_goto (pc := 13) (tgt := 17) C dX11_isLetter_13 (by decide) ?_
      have el_1 : (1 : Int32).toInt = 1 := rfl
      have el_1 : (1 : Int32).toInt = 1 := rfl
      have el_1 : (1 : Int32).toInt = 1 := rfl
      exact j_zret (pc := 17) C hr rfl hk (fun i => [].getD i 0, fun i => [1].getD i 0, fun i => [].getD i (fun _ => 0), fun i => [].getD i (fun _ => 0)) rfl (show (0 ≤ ((1 : Int32)).toInt ∧ ((1 : Int32)).toInt ≤ 1) ∧ ((1 : Int32).toInt = 1 ∨ (p0).toInt < 97 ∨ 122 < (p0).toInt) ∧ ((1 : Int32).toInt = 0 ∨ 97 ≤ (p0).toInt ∧ (p0).toInt ≤ 122) from ⟨by omega, by omega, by omega⟩) [] (by decide) rfl (by decide) (by decide) dX11_isLetter_17
set_option maxHeartbeats 4000000 in
set_option maxRecDepth 100000 in
theorem c_X11_rank_f (l : Launch) (D : DG) (cyC cyI cyJ cyZ cyO : ClassId) (p0 : Int32) (h_p0 : 97 ≤ (p0).toInt ∧ (p0).toInt ≤ 122) : KK l D (TY cyC cyI cyJ cyZ cyO) yX11_rank cX11_rank 1 (some .int) ({ frames := 1, cells := 0, slots := 0, locals := 20 } : Room) 0 0 [.int p0] [] (fun u => some (.int (u.2.1 0))) (fun u => ((u.2.1 0) = p0 - 96)) (fun u => []) := by
  refine KK.of (lv0 := [(0, .int p0)]) (by decide) rfl (Nat.le_of_ble_eq_true rfl) ?_
  intro p e s m args below meth c A C hr hk hin
  refine j_iload_n (pc := 0) C dX11_rank_0 rfl 0 rfl ?_
  refine j_callS (pc := 1) (As := [.int p0]) (rest := []) (wr := []) C (c_X11_isLetter_f l D cyC cyI cyJ cyZ cyO p0) wd_623 wd_624 wd_625 wd_626 ⟨by decide, by decide, rfl⟩ rfl ⟨rfl, rfl, by decide, by decide⟩ ⟨by decide, by decide⟩ [] [] rfl rfl ⟨by decide, by decide, by decide⟩ rfl (Nat.le_of_ble_eq_true rfl) dX11_rank_1 (fun u_1 hw_2 => ?_)
  refine j_eq (ws2 := []) (pc2 := 4) (lv2 := [(0, .int p0)]) (st2 := [.int (u_1.2.1 0)]) rfl rfl rfl rfl ?_
  obtain ⟨hw_2_0, hw_2_1, hw_2_2⟩ := hw_2
  refine j_if_eq (pc := 4) (tgt := 14) C dX11_rank_4 (by decide) (fun c_3 => ?_) (fun c_3 => ?_)
  · skip
    have el_0 : (0 : Int32).toInt = 0 := rfl
    rw [i_eq] at c_3
    refine j_iload_n (pc := 14) C dX11_rank_14 rfl 0 rfl ?_
    refine j_bipush (pc := 15) (v := 21) C dX11_rank_15 (by decide) ?_
    obtain ⟨v_4, ev_4⟩ : ∃ z : Int32, p0 - 21 = z := ⟨_, rfl⟩
    have el_21 : (21 : Int32).toInt = 21 := rfl
    have hv_4 : v_4.toInt = p0.toInt - (21 : Int32).toInt := by rw [← ev_4]; exact fb_subI (by omega) (by omega)
    refine j_isub (pc := 17) (v := v_4) C dX11_rank_17 ev_4 ?_
    exact j_iret (pc := 18) C hr hk (fun i => [].getD i 0, fun i => [v_4].getD i 0, fun i => [].getD i (fun _ => 0), fun i => [].getD i (fun _ => 0)) rfl (show (v_4 = p0 - 96) from ((by first | exact ev_4.symm | (exfalso; omega)))) [] (by decide) rfl (by decide) (by decide) dX11_rank_18
  · skip
    have el_0 : (0 : Int32).toInt = 0 := rfl
    rw [i_eq] at c_3
    have k0c_3 : ((u_1.2.1 0)).toInt = 1 := by omega
    refine j_iload_n (pc := 7) C dX11_rank_7 rfl 0 rfl ?_
    refine j_bipush (pc := 8) (v := 96) C dX11_rank_8 (by decide) ?_
    obtain ⟨v_5, ev_5⟩ : ∃ z : Int32, p0 - 96 = z := ⟨_, rfl⟩
    have el_96 : (96 : Int32).toInt = 96 := rfl
    have hv_5 : v_5.toInt = p0.toInt - (96 : Int32).toInt := by rw [← ev_5]; exact fb_subI (by omega) (by omega)
    refine j_isub (pc := 10) (v := v_5) C dX11_rank_10 ev_5 ?_
    refine j_goto (pc := 11) (tgt := 18) C dX11_rank_11 (by decide) ?_
    exact j_iret (pc := 18) C hr hk (fun i => [].getD i 0, fun i => [v_5].getD i 0, fun i => [].getD i (fun _ => 0), fun i => [].getD i (fun _ => 0)) rfl (show (v_5 = p0 - 96) from ((by first | exact ev_5.symm | (exfalso; omega)))) [] (by decide) rfl (by decide) (by decide) dX11_rank_18
set_option maxHeartbeats 4000000 in
set_option maxRecDepth 100000 in
theorem c_X11_isSignOf_f (l : Launch) (D : DG) (cyC cyI cyJ cyZ cyO : ClassId) (p0 : Int32) : KK l D (TY cyC cyI cyJ cyZ cyO) yX11_isSignOf cX11_isSignOf 1 (some .boolean) ({ frames := 0, cells := 0, slots := 0, locals := 0 } : Room) 0 0 [.int p0] [] (fun u => some (.int (u.2.1 0))) (fun u => (0 ≤ (u.2.1 0).toInt ∧ (u.2.1 0).toInt ≤ 1) ∧ (isS p0 = true ∧ (u.2.1 0).toInt = 1 ∨ isS p0 = false ∧ (u.2.1 0).toInt = 0)) (fun u => []) := by
  refine KK.of (lv0 := [(0, .int p0)]) (by decide) rfl (Nat.le_of_ble_eq_true rfl) ?_
  intro p e s m args below meth c A C hr hk hin
  refine j_iload_n (pc := 0) C dX11_isSignOf_0 rfl 0 rfl ?_
  refine j_bipush (pc := 1) (v := 40) C dX11_isSignOf_1 (by decide) ?_
  refine j_icmp_eq (pc := 3) (tgt := 48) C dX11_isSignOf_3 (by decide) (fun c_1 => ?_) (fun c_1 => ?_)
  · skip
    have el_40 : (40 : Int32).toInt = 40 := rfl
    rw [i_eq] at c_1
    refine j_iconst (pc := 48) (v := 1) C dX11_isSignOf_48 (by decide) ?_
    refine j_goto (pc := 49) (tgt := 53) C dX11_isSignOf_49 (by decide) ?_
    have el_1 : (1 : Int32).toInt = 1 := rfl
    have el_1 : (1 : Int32).toInt = 1 := rfl
    exact j_zret (pc := 53) C hr rfl hk (fun i => [].getD i 0, fun i => [1].getD i 0, fun i => [].getD i (fun _ => 0), fun i => [].getD i (fun _ => 0)) rfl (show (0 ≤ ((1 : Int32)).toInt ∧ ((1 : Int32)).toInt ≤ 1) ∧ (isS p0 = true ∧ (1 : Int32).toInt = 1 ∨ isS p0 = false ∧ (1 : Int32).toInt = 0) from ⟨by omega, (Or.inl ⟨decide_eq_true (by omega), by omega⟩)⟩) [] (by decide) rfl (by decide) (by decide) dX11_isSignOf_53
  · skip
    have el_40 : (40 : Int32).toInt = 40 := rfl
    rw [i_eq] at c_1
    refine j_iload_n (pc := 6) C dX11_isSignOf_6 rfl 0 rfl ?_
    refine j_bipush (pc := 7) (v := 41) C dX11_isSignOf_7 (by decide) ?_
    refine j_icmp_eq (pc := 9) (tgt := 48) C dX11_isSignOf_9 (by decide) (fun c_2 => ?_) (fun c_2 => ?_)
    · skip
      have el_41 : (41 : Int32).toInt = 41 := rfl
      rw [i_eq] at c_2
      refine j_iconst (pc := 48) (v := 1) C dX11_isSignOf_48 (by decide) ?_
      refine j_goto (pc := 49) (tgt := 53) C dX11_isSignOf_49 (by decide) ?_
      have el_1 : (1 : Int32).toInt = 1 := rfl
      have el_1 : (1 : Int32).toInt = 1 := rfl
      exact j_zret (pc := 53) C hr rfl hk (fun i => [].getD i 0, fun i => [1].getD i 0, fun i => [].getD i (fun _ => 0), fun i => [].getD i (fun _ => 0)) rfl (show (0 ≤ ((1 : Int32)).toInt ∧ ((1 : Int32)).toInt ≤ 1) ∧ (isS p0 = true ∧ (1 : Int32).toInt = 1 ∨ isS p0 = false ∧ (1 : Int32).toInt = 0) from ⟨by omega, (Or.inl ⟨decide_eq_true (by omega), by omega⟩)⟩) [] (by decide) rfl (by decide) (by decide) dX11_isSignOf_53
    · skip
      have el_41 : (41 : Int32).toInt = 41 := rfl
      rw [i_eq] at c_2
      refine j_iload_n (pc := 12) C dX11_isSignOf_12 rfl 0 rfl ?_
      refine j_bipush (pc := 13) (v := 59) C dX11_isSignOf_13 (by decide) ?_
      refine j_icmp_eq (pc := 15) (tgt := 48) C dX11_isSignOf_15 (by decide) (fun c_3 => ?_) (fun c_3 => ?_)
      · skip
        have el_59 : (59 : Int32).toInt = 59 := rfl
        rw [i_eq] at c_3
        refine j_iconst (pc := 48) (v := 1) C dX11_isSignOf_48 (by decide) ?_
        refine j_goto (pc := 49) (tgt := 53) C dX11_isSignOf_49 (by decide) ?_
        have el_1 : (1 : Int32).toInt = 1 := rfl
        have el_1 : (1 : Int32).toInt = 1 := rfl
        exact j_zret (pc := 53) C hr rfl hk (fun i => [].getD i 0, fun i => [1].getD i 0, fun i => [].getD i (fun _ => 0), fun i => [].getD i (fun _ => 0)) rfl (show (0 ≤ ((1 : Int32)).toInt ∧ ((1 : Int32)).toInt ≤ 1) ∧ (isS p0 = true ∧ (1 : Int32).toInt = 1 ∨ isS p0 = false ∧ (1 : Int32).toInt = 0) from ⟨by omega, (Or.inl ⟨decide_eq_true (by omega), by omega⟩)⟩) [] (by decide) rfl (by decide) (by decide) dX11_isSignOf_53
      · skip
        have el_59 : (59 : Int32).toInt = 59 := rfl
        rw [i_eq] at c_3
        refine j_iload_n (pc := 18) C dX11_isSignOf_18 rfl 0 rfl ?_
        refine j_bipush (pc := 19) (v := 61) C dX11_isSignOf_19 (by decide) ?_
        refine j_icmp_eq (pc := 21) (tgt := 48) C dX11_isSignOf_21 (by decide) (fun c_4 => ?_) (fun c_4 => ?_)
        · skip
          have el_61 : (61 : Int32).toInt = 61 := rfl
          rw [i_eq] at c_4
          refine j_iconst (pc := 48) (v := 1) C dX11_isSignOf_48 (by decide) ?_
          refine j_goto (pc := 49) (tgt := 53) C dX11_isSignOf_49 (by decide) ?_
          have el_1 : (1 : Int32).toInt = 1 := rfl
          have el_1 : (1 : Int32).toInt = 1 := rfl
          exact j_zret (pc := 53) C hr rfl hk (fun i => [].getD i 0, fun i => [1].getD i 0, fun i => [].getD i (fun _ => 0), fun i => [].getD i (fun _ => 0)) rfl (show (0 ≤ ((1 : Int32)).toInt ∧ ((1 : Int32)).toInt ≤ 1) ∧ (isS p0 = true ∧ (1 : Int32).toInt = 1 ∨ isS p0 = false ∧ (1 : Int32).toInt = 0) from ⟨by omega, (Or.inl ⟨decide_eq_true (by omega), by omega⟩)⟩) [] (by decide) rfl (by decide) (by decide) dX11_isSignOf_53
        · skip
          have el_61 : (61 : Int32).toInt = 61 := rfl
          rw [i_eq] at c_4
          refine j_iload_n (pc := 24) C dX11_isSignOf_24 rfl 0 rfl ?_
          refine j_bipush (pc := 25) (v := 60) C dX11_isSignOf_25 (by decide) ?_
          refine j_icmp_eq (pc := 27) (tgt := 48) C dX11_isSignOf_27 (by decide) (fun c_5 => ?_) (fun c_5 => ?_)
          · skip
            have el_60 : (60 : Int32).toInt = 60 := rfl
            rw [i_eq] at c_5
            refine j_iconst (pc := 48) (v := 1) C dX11_isSignOf_48 (by decide) ?_
            refine j_goto (pc := 49) (tgt := 53) C dX11_isSignOf_49 (by decide) ?_
            have el_1 : (1 : Int32).toInt = 1 := rfl
            have el_1 : (1 : Int32).toInt = 1 := rfl
            exact j_zret (pc := 53) C hr rfl hk (fun i => [].getD i 0, fun i => [1].getD i 0, fun i => [].getD i (fun _ => 0), fun i => [].getD i (fun _ => 0)) rfl (show (0 ≤ ((1 : Int32)).toInt ∧ ((1 : Int32)).toInt ≤ 1) ∧ (isS p0 = true ∧ (1 : Int32).toInt = 1 ∨ isS p0 = false ∧ (1 : Int32).toInt = 0) from ⟨by omega, (Or.inl ⟨decide_eq_true (by omega), by omega⟩)⟩) [] (by decide) rfl (by decide) (by decide) dX11_isSignOf_53
          · skip
            have el_60 : (60 : Int32).toInt = 60 := rfl
            rw [i_eq] at c_5
            refine j_iload_n (pc := 30) C dX11_isSignOf_30 rfl 0 rfl ?_
            refine j_bipush (pc := 31) (v := 43) C dX11_isSignOf_31 (by decide) ?_
            refine j_icmp_eq (pc := 33) (tgt := 48) C dX11_isSignOf_33 (by decide) (fun c_6 => ?_) (fun c_6 => ?_)
            · skip
              have el_43 : (43 : Int32).toInt = 43 := rfl
              rw [i_eq] at c_6
              refine j_iconst (pc := 48) (v := 1) C dX11_isSignOf_48 (by decide) ?_
              refine j_goto (pc := 49) (tgt := 53) C dX11_isSignOf_49 (by decide) ?_
              have el_1 : (1 : Int32).toInt = 1 := rfl
              have el_1 : (1 : Int32).toInt = 1 := rfl
              exact j_zret (pc := 53) C hr rfl hk (fun i => [].getD i 0, fun i => [1].getD i 0, fun i => [].getD i (fun _ => 0), fun i => [].getD i (fun _ => 0)) rfl (show (0 ≤ ((1 : Int32)).toInt ∧ ((1 : Int32)).toInt ≤ 1) ∧ (isS p0 = true ∧ (1 : Int32).toInt = 1 ∨ isS p0 = false ∧ (1 : Int32).toInt = 0) from ⟨by omega, (Or.inl ⟨decide_eq_true (by omega), by omega⟩)⟩) [] (by decide) rfl (by decide) (by decide) dX11_isSignOf_53
            · skip
              have el_43 : (43 : Int32).toInt = 43 := rfl
              rw [i_eq] at c_6
              refine j_iload_n (pc := 36) C dX11_isSignOf_36 rfl 0 rfl ?_
              refine j_bipush (pc := 37) (v := 45) C dX11_isSignOf_37 (by decide) ?_
              refine j_icmp_eq (pc := 39) (tgt := 48) C dX11_isSignOf_39 (by decide) (fun c_7 => ?_) (fun c_7 => ?_)
              · skip
                have el_45 : (45 : Int32).toInt = 45 := rfl
                rw [i_eq] at c_7
                refine j_iconst (pc := 48) (v := 1) C dX11_isSignOf_48 (by decide) ?_
                refine j_goto (pc := 49) (tgt := 53) C dX11_isSignOf_49 (by decide) ?_
                have el_1 : (1 : Int32).toInt = 1 := rfl
                have el_1 : (1 : Int32).toInt = 1 := rfl
                exact j_zret (pc := 53) C hr rfl hk (fun i => [].getD i 0, fun i => [1].getD i 0, fun i => [].getD i (fun _ => 0), fun i => [].getD i (fun _ => 0)) rfl (show (0 ≤ ((1 : Int32)).toInt ∧ ((1 : Int32)).toInt ≤ 1) ∧ (isS p0 = true ∧ (1 : Int32).toInt = 1 ∨ isS p0 = false ∧ (1 : Int32).toInt = 0) from ⟨by omega, (Or.inl ⟨decide_eq_true (by omega), by omega⟩)⟩) [] (by decide) rfl (by decide) (by decide) dX11_isSignOf_53
              · skip
                have el_45 : (45 : Int32).toInt = 45 := rfl
                rw [i_eq] at c_7
                refine j_iload_n (pc := 42) C dX11_isSignOf_42 rfl 0 rfl ?_
                refine j_bipush (pc := 43) (v := 42) C dX11_isSignOf_43 (by decide) ?_
                refine j_icmp_ne (pc := 45) (tgt := 52) C dX11_isSignOf_45 (by decide) (fun c_8 => ?_) (fun c_8 => ?_)
                · skip
                  have el_42 : (42 : Int32).toInt = 42 := rfl
                  rw [i_eq] at c_8
                  refine j_iconst (pc := 52) (v := 0) C dX11_isSignOf_52 (by decide) ?_
                  have el_0 : (0 : Int32).toInt = 0 := rfl
                  have el_0 : (0 : Int32).toInt = 0 := rfl
                  exact j_zret (pc := 53) C hr rfl hk (fun i => [].getD i 0, fun i => [0].getD i 0, fun i => [].getD i (fun _ => 0), fun i => [].getD i (fun _ => 0)) rfl (show (0 ≤ ((0 : Int32)).toInt ∧ ((0 : Int32)).toInt ≤ 1) ∧ (isS p0 = true ∧ (0 : Int32).toInt = 1 ∨ isS p0 = false ∧ (0 : Int32).toInt = 0) from ⟨by omega, (Or.inr ⟨decide_eq_false (by omega), by omega⟩)⟩) [] (by decide) rfl (by decide) (by decide) dX11_isSignOf_53
                · skip
                  have el_42 : (42 : Int32).toInt = 42 := rfl
                  rw [i_eq] at c_8
                  refine j_iconst (pc := 48) (v := 1) C dX11_isSignOf_48 (by decide) ?_
                  refine j_goto (pc := 49) (tgt := 53) C dX11_isSignOf_49 (by decide) ?_
                  have el_1 : (1 : Int32).toInt = 1 := rfl
                  have el_1 : (1 : Int32).toInt = 1 := rfl
                  exact j_zret (pc := 53) C hr rfl hk (fun i => [].getD i 0, fun i => [1].getD i 0, fun i => [].getD i (fun _ => 0), fun i => [].getD i (fun _ => 0)) rfl (show (0 ≤ ((1 : Int32)).toInt ∧ ((1 : Int32)).toInt ≤ 1) ∧ (isS p0 = true ∧ (1 : Int32).toInt = 1 ∨ isS p0 = false ∧ (1 : Int32).toInt = 0) from ⟨by omega, (Or.inl ⟨decide_eq_true (by omega), by omega⟩)⟩) [] (by decide) rfl (by decide) (by decide) dX11_isSignOf_53
set_option maxHeartbeats 4000000 in
set_option maxRecDepth 100000 in
theorem c_X11_within_f (l : Launch) (D : DG) (cyC cyI cyJ cyZ cyO : ClassId) (p0 : Int32) (p1 : Int32) (p2 : Int32) : KK l D (TY cyC cyI cyJ cyZ cyO) yX11_within cX11_within 3 (some .boolean) ({ frames := 0, cells := 0, slots := 0, locals := 0 } : Room) 0 0 [.int p0, .int p1, .int p2] [] (fun u => some (.int (u.2.1 0))) (fun u => (0 ≤ (u.2.1 0).toInt ∧ (u.2.1 0).toInt ≤ 1) ∧ ((u.2.1 0).toInt = 0 ∨ (p1).toInt ≤ (p0).toInt ∧ (p0).toInt ≤ (p2).toInt) ∧ ((u.2.1 0).toInt = 1 ∨ (p0).toInt < (p1).toInt ∨ (p2).toInt < (p0).toInt)) (fun u => []) := by
  refine KK.of (lv0 := [(0, .int p0), (1, .int p1), (2, .int p2)]) (by decide) rfl (Nat.le_of_ble_eq_true rfl) ?_
  intro p e s m args below meth c A C hr hk hin
  refine j_iload_n (pc := 0) C dX11_within_0 rfl 0 rfl ?_
  refine j_iload_n (pc := 1) C dX11_within_1 rfl 1 rfl ?_
  refine j_icmp_lt (pc := 2) (tgt := 14) C dX11_within_2 (by decide) (fun c_1 => ?_) (fun c_1 => ?_)
  · skip
    rw [i_lt] at c_1
    refine j_iconst (pc := 14) (v := 0) C dX11_within_14 (by decide) ?_
    have el_0 : (0 : Int32).toInt = 0 := rfl
    have el_0 : (0 : Int32).toInt = 0 := rfl
    have el_0 : (0 : Int32).toInt = 0 := rfl
    exact j_zret (pc := 15) C hr rfl hk (fun i => [].getD i 0, fun i => [0].getD i 0, fun i => [].getD i (fun _ => 0), fun i => [].getD i (fun _ => 0)) rfl (show (0 ≤ ((0 : Int32)).toInt ∧ ((0 : Int32)).toInt ≤ 1) ∧ ((0 : Int32).toInt = 0 ∨ (p1).toInt ≤ (p0).toInt ∧ (p0).toInt ≤ (p2).toInt) ∧ ((0 : Int32).toInt = 1 ∨ (p0).toInt < (p1).toInt ∨ (p2).toInt < (p0).toInt) from ⟨by omega, by omega, by omega⟩) [] (by decide) rfl (by decide) (by decide) dX11_within_15
  · skip
    rw [i_lt] at c_1
    refine j_iload_n (pc := 5) C dX11_within_5 rfl 0 rfl ?_
    refine j_iload_n (pc := 6) C dX11_within_6 rfl 2 rfl ?_
    refine j_icmp_gt (pc := 7) (tgt := 14) C dX11_within_7 (by decide) (fun c_2 => ?_) (fun c_2 => ?_)
    · skip
      rw [i_lt] at c_2
      refine j_iconst (pc := 14) (v := 0) C dX11_within_14 (by decide) ?_
      have el_0 : (0 : Int32).toInt = 0 := rfl
      have el_0 : (0 : Int32).toInt = 0 := rfl
      have el_0 : (0 : Int32).toInt = 0 := rfl
      exact j_zret (pc := 15) C hr rfl hk (fun i => [].getD i 0, fun i => [0].getD i 0, fun i => [].getD i (fun _ => 0), fun i => [].getD i (fun _ => 0)) rfl (show (0 ≤ ((0 : Int32)).toInt ∧ ((0 : Int32)).toInt ≤ 1) ∧ ((0 : Int32).toInt = 0 ∨ (p1).toInt ≤ (p0).toInt ∧ (p0).toInt ≤ (p2).toInt) ∧ ((0 : Int32).toInt = 1 ∨ (p0).toInt < (p1).toInt ∨ (p2).toInt < (p0).toInt) from ⟨by omega, by omega, by omega⟩) [] (by decide) rfl (by decide) (by decide) dX11_within_15
    · skip
      rw [i_lt] at c_2
      refine j_iconst (pc := 10) (v := 1) C dX11_within_10 (by decide) ?_
      refine j_goto (pc := 11) (tgt := 15) C dX11_within_11 (by decide) ?_
      have el_1 : (1 : Int32).toInt = 1 := rfl
      have el_1 : (1 : Int32).toInt = 1 := rfl
      have el_1 : (1 : Int32).toInt = 1 := rfl
      exact j_zret (pc := 15) C hr rfl hk (fun i => [].getD i 0, fun i => [1].getD i 0, fun i => [].getD i (fun _ => 0), fun i => [].getD i (fun _ => 0)) rfl (show (0 ≤ ((1 : Int32)).toInt ∧ ((1 : Int32)).toInt ≤ 1) ∧ ((1 : Int32).toInt = 0 ∨ (p1).toInt ≤ (p0).toInt ∧ (p0).toInt ≤ (p2).toInt) ∧ ((1 : Int32).toInt = 1 ∨ (p0).toInt < (p1).toInt ∨ (p2).toInt < (p0).toInt) from ⟨by omega, by omega, by omega⟩) [] (by decide) rfl (by decide) (by decide) dX11_within_15
