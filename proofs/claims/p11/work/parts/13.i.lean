theorem wd_183 : Cond.fieldLink RX0 21 "BowlShelf$Heights" "known" "Z" ∈ WALL := wl_in (by decide +kernel) (by decide +kernel)
theorem wd_184 : Cond.fieldLink RX0 25 "BowlShelf$Told" "wares" "I" ∈ WALL := wl_in (by decide +kernel) (by decide +kernel)
theorem wd_185 : Cond.code yX0_settleSet cX0_settleSet 8 none ∈ WALL := wl_in (by decide +kernel) (by decide +kernel)
theorem wd_186 : Cond.methodLink RX0 32 yX0_settleSet ∈ WALL := wl_in (by decide +kernel) (by decide +kernel)
theorem wd_187 : Cond.instanceMethod yX0_settleSet ∈ WALL := wl_in (by decide +kernel) (by decide +kernel)
theorem wd_188 : Cond.selects RX0 yX0_settleSet yX0_settleSet ∈ WALL := wl_in (by decide +kernel) (by decide +kernel)
theorem wd_189 : Cond.arrayClass .int ∈ WALL := wl_in (by decide +kernel) (by decide +kernel)
theorem dX0_settle_0 : decode cX0_settle 0 = .ok (.aload_n 0, 1) := by decide +kernel
theorem dX0_settle_1 : decode cX0_settle 1 = .ok (.getfield 21, 3) := by decide +kernel
theorem dX0_settle_4 : decode cX0_settle 4 = .ok (.ifCond .eq 4, 3) := by decide +kernel
theorem dX0_settle_7 : decode cX0_settle 7 = .ok (.return_, 1) := by decide +kernel
theorem dX0_settle_8 : decode cX0_settle 8 = .ok (.aload_n 0, 1) := by decide +kernel
theorem dX0_settle_9 : decode cX0_settle 9 = .ok (.iconst 1, 1) := by decide +kernel
theorem dX0_settle_10 : decode cX0_settle 10 = .ok (.putfield 21, 3) := by decide +kernel
theorem dX0_settle_13 : decode cX0_settle 13 = .ok (.aload_n 0, 1) := by decide +kernel
theorem dX0_settle_14 : decode cX0_settle 14 = .ok (.aload_n 1, 1) := by decide +kernel
theorem dX0_settle_15 : decode cX0_settle 15 = .ok (.getfield 25, 3) := by decide +kernel
theorem dX0_settle_18 : decode cX0_settle 18 = .ok (.putfield 31, 3) := by decide +kernel
theorem dX0_settle_21 : decode cX0_settle 21 = .ok (.iconst 1, 1) := by decide +kernel
theorem dX0_settle_22 : decode cX0_settle 22 = .ok (.aload_n 0, 1) := by decide +kernel
theorem dX0_settle_23 : decode cX0_settle 23 = .ok (.getfield 31, 3) := by decide +kernel
theorem dX0_settle_26 : decode cX0_settle 26 = .ok (.ishl, 1) := by decide +kernel
theorem dX0_settle_27 : decode cX0_settle 27 = .ok (.istore_n 2, 1) := by decide +kernel
theorem dX0_settle_28 : decode cX0_settle 28 = .ok (.aload_n 0, 1) := by decide +kernel
theorem dX0_settle_29 : decode cX0_settle 29 = .ok (.getfield 15, 3) := by decide +kernel
theorem dX0_settle_32 : decode cX0_settle 32 = .ok (.arraylength, 1) := by decide +kernel
theorem dX0_settle_33 : decode cX0_settle 33 = .ok (.iload_n 2, 1) := by decide +kernel
theorem dX0_settle_34 : decode cX0_settle 34 = .ok (.if_icmp .ge 29, 3) := by decide +kernel
theorem dX0_settle_37 : decode cX0_settle 37 = .ok (.aload_n 0, 1) := by decide +kernel
theorem dX0_settle_38 : decode cX0_settle 38 = .ok (.iload_n 2, 1) := by decide +kernel
theorem dX0_settle_39 : decode cX0_settle 39 = .ok (.newarray .int, 2) := by decide +kernel
theorem dX0_settle_41 : decode cX0_settle 41 = .ok (.putfield 15, 3) := by decide +kernel
theorem dX0_settle_44 : decode cX0_settle 44 = .ok (.aload_n 0, 1) := by decide +kernel
theorem dX0_settle_45 : decode cX0_settle 45 = .ok (.iload_n 2, 1) := by decide +kernel
theorem dX0_settle_46 : decode cX0_settle 46 = .ok (.newarray .int, 2) := by decide +kernel
theorem dX0_settle_48 : decode cX0_settle 48 = .ok (.putfield 18, 3) := by decide +kernel
theorem dX0_settle_51 : decode cX0_settle 51 = .ok (.aload_n 0, 1) := by decide +kernel
theorem dX0_settle_52 : decode cX0_settle 52 = .ok (.iload_n 2, 1) := by decide +kernel
theorem dX0_settle_53 : decode cX0_settle 53 = .ok (.aload_n 0, 1) := by decide +kernel
theorem dX0_settle_54 : decode cX0_settle 54 = .ok (.getfield 31, 3) := by decide +kernel
theorem dX0_settle_57 : decode cX0_settle 57 = .ok (.imul, 1) := by decide +kernel
theorem dX0_settle_58 : decode cX0_settle 58 = .ok (.newarray .int, 2) := by decide +kernel
theorem dX0_settle_60 : decode cX0_settle 60 = .ok (.putfield 9, 3) := by decide +kernel
theorem dX0_settle_63 : decode cX0_settle 63 = .ok (.iconst 1, 1) := by decide +kernel
theorem dX0_settle_64 : decode cX0_settle 64 = .ok (.istore_n 3, 1) := by decide +kernel
theorem dX0_settle_65 : decode cX0_settle 65 = .ok (.iload_n 3, 1) := by decide +kernel
theorem dX0_settle_66 : decode cX0_settle 66 = .ok (.iload_n 2, 1) := by decide +kernel
theorem dX0_settle_67 : decode cX0_settle 67 = .ok (.if_icmp .ge 15, 3) := by decide +kernel
theorem dX0_settle_70 : decode cX0_settle 70 = .ok (.aload_n 0, 1) := by decide +kernel
theorem dX0_settle_71 : decode cX0_settle 71 = .ok (.aload_n 1, 1) := by decide +kernel
theorem dX0_settle_72 : decode cX0_settle 72 = .ok (.iload_n 3, 1) := by decide +kernel
theorem dX0_settle_73 : decode cX0_settle 73 = .ok (.invokevirtual 32, 3) := by decide +kernel
theorem dX0_settle_76 : decode cX0_settle 76 = .ok (.iinc 3 1, 3) := by decide +kernel
theorem dX0_settle_79 : decode cX0_settle 79 = .ok (.goto (-14), 3) := by decide +kernel
theorem dX0_settle_82 : decode cX0_settle 82 = .ok (.return_, 1) := by decide +kernel
set_option maxHeartbeats 4000000 in
set_option maxRecDepth 100000 in
theorem c_X0_settle (l : Launch) (D : DG) (cyC cyI cyJ cyZ cyO : ClassId) (h0 : Nat) (h1 : Nat) (h2 : Nat) (h3 : Nat) (a0 : Nat) (a1 : Nat) (a2 : Nat) (a3 : Nat) (a4 : Nat) (a7 : Nat) (a5 : Nat) (a6 : Nat) (a8 : Nat) (a9 : Nat) (a10 : Nat) (h_r : Nat) (h_n : Nat) (h_known : Int32) (h_wares : Int32) (a_wares : Int32) (a_shelves : Int32) (a_nests : Int32) (a_lids : Int32) (a_tops : Int32) (h_leastRim : Nat → Int32) (h_least : Nat → Int32) (h_stacks : Nat → Int32) (a_wide : Nat → Int32) (a_deep : Nat → Int32) (a_weight : Nat → Int32) (a_bears : Nat → Int32) (a_mayOn : Nat → Int32) (h_h_known : 0 ≤ (h_known).toInt ∧ (h_known).toInt ≤ 1) (h_h_wares : 0 ≤ (h_wares).toInt ∧ (h_wares).toInt ≤ 12) (h_a_wares : 0 ≤ (a_wares).toInt ∧ (a_wares).toInt ≤ 12) (h_a_shelves : 0 ≤ (a_shelves).toInt ∧ (a_shelves).toInt ≤ 4) (h_a_nests : 0 ≤ (a_nests).toInt ∧ (a_nests).toInt ≤ 4) (hH : HL h_n h_r) (hk9 : (h_known).toInt = 0 ∨ h_wares = a_wares ∧ (2 : Int) ^ (h_wares).toInt.toNat ≤ (h_n : Int)) : KK l D (TY cyC cyI cyJ cyZ cyO) yX0_settle cX0_settle 4 none ({ frames := 3, cells := 3, slots := 57344, locals := 77 } : Room) 3 57344 [.ref h0, .ref a0] [(h0, .inr (0, [.int h_known, .int h_wares, .ref h1, .ref h2, .ref h3])), (h1, .inl (cyI, h_r, .inl h_leastRim)), (h2, .inl (cyI, h_n, .inl h_least)), (h3, .inl (cyI, h_n, .inl h_stacks)), (a0, .inr (9, [.int a_wares, .int a_shelves, .int a_nests, .ref a1, .ref a2, .ref a3, .ref a4, .ref a5, .ref a6, .int a_lids, .int a_tops, .ref a7, .ref a8, .ref a9, .ref a10])), (a1, .inl (cyI, 12, .inl a_wide)), (a2, .inl (cyI, 12, .inl a_deep)), (a3, .inl (cyI, 12, .inl a_weight)), (a4, .inl (cyI, 12, .inl a_bears)), (a7, .inl (cyI, 12, .inl a_mayOn))] (fun u => none) (fun u => (1 ≤ (u.2.1 0).toInt ∧ (u.2.1 0).toInt ≤ 1) ∧ (0 ≤ (u.2.1 1).toInt ∧ (u.2.1 1).toInt ≤ 12) ∧ (HL (u.1 3) (u.1 1)) ∧ ((u.2.1 1) = a_wares) ∧ ((2 : Int) ^ ((u.2.1 1)).toInt.toNat = (2 : Int) ^ (a_wares).toInt.toNat) ∧ ((2 : Int) ^ ((u.2.1 1)).toInt.toNat ≤ (((u.1 3) : Nat) : Int)) ∧ ((2 : Int) ^ ((u.2.1 1)).toInt.toNat * ((u.2.1 1)).toInt ≤ (((u.1 1) : Nat) : Int)) ∧ ((u.1 3) ≤ 4096) ∧ ((u.1 1) ≤ 49152)) (fun u => [(h0, .inr (0, [.int (u.2.1 0), .int (u.2.1 1), .ref (u.1 0), .ref (u.1 2), .ref (u.1 4)])), ((u.1 0), .inl (cyI, (u.1 1), .inl (u.2.2.1 0))), ((u.1 2), .inl (cyI, (u.1 3), .inl (u.2.2.1 1))), ((u.1 4), .inl (cyI, (u.1 3), .inl (u.2.2.1 2))), (a0, .inr (9, [.int a_wares, .int a_shelves, .int a_nests, .ref a1, .ref a2, .ref a3, .ref a4, .ref a5, .ref a6, .int a_lids, .int a_tops, .ref a7, .ref a8, .ref a9, .ref a10])), (a1, .inl (cyI, 12, .inl a_wide)), (a2, .inl (cyI, 12, .inl a_deep)), (a3, .inl (cyI, 12, .inl a_weight)), (a4, .inl (cyI, 12, .inl a_bears)), (a7, .inl (cyI, 12, .inl a_mayOn))]) := by
  refine KK.of (lv0 := [(0, .ref h0), (1, .ref a0)]) (by decide) rfl (Nat.le_of_ble_eq_true rfl) ?_
  intro p e s m args below meth c A C hr hk hin
  have hpw1 := pw1 (a_wares).toInt.toNat
  have hbd := hH.bd
  refine j_aload_n (pc := 0) C dX0_settle_0 rfl 0 rfl ?_
  refine j_get (pc := 1) (ci := 0) (v := .int h_known) C inw_0 0 rfl rfl 0 (by decide) wd_183 rfl rfl dX0_settle_1 ?_
  refine j_if_eq (pc := 4) (tgt := 8) C dX0_settle_4 (by decide) (fun c_1 => ?_) (fun c_1 => ?_)
  · skip
    have el_0 : (0 : Int32).toInt = 0 := rfl
    rw [i_eq] at c_1
    refine j_aload_n (pc := 8) C dX0_settle_8 rfl 0 rfl ?_
    refine j_iconst (pc := 9) (v := 1) C dX0_settle_9 (by decide) ?_
    refine j_put (pc := 10) (ci := 0) (v := .int 1) (ws' := [(h0, .inr (0, [.int 1, .int h_wares, .ref h1, .ref h2, .ref h3])), (h1, .inl (cyI, h_r, .inl h_leastRim)), (h2, .inl (cyI, h_n, .inl h_least)), (h3, .inl (cyI, h_n, .inl h_stacks)), (a0, .inr (9, [.int a_wares, .int a_shelves, .int a_nests, .ref a1, .ref a2, .ref a3, .ref a4, .ref a5, .ref a6, .int a_lids, .int a_tops, .ref a7, .ref a8, .ref a9, .ref a10])), (a1, .inl (cyI, 12, .inl a_wide)), (a2, .inl (cyI, 12, .inl a_deep)), (a3, .inl (cyI, 12, .inl a_weight)), (a4, .inl (cyI, 12, .inl a_bears)), (a7, .inl (cyI, 12, .inl a_mayOn))]) C inw_0 0 rfl rfl 0 (by decide) wd_183 rfl tyX0_ok nmX0 rfl (tyX0_ok 0 (by decide)) rfl rfl (Nat.le_of_ble_eq_true rfl) dX0_settle_10 rfl ?_
    refine j_aload_n (pc := 13) C dX0_settle_13 rfl 0 rfl ?_
    refine j_aload_n (pc := 14) C dX0_settle_14 rfl 1 rfl ?_
    refine j_get (pc := 15) (ci := 9) (v := .int a_wares) C inw_9 4 rfl rfl 0 (by decide) wd_184 rfl rfl dX0_settle_15 ?_
    refine j_put (pc := 18) (ci := 0) (v := .int a_wares) (ws' := [(h0, .inr (0, [.int 1, .int a_wares, .ref h1, .ref h2, .ref h3])), (h1, .inl (cyI, h_r, .inl h_leastRim)), (h2, .inl (cyI, h_n, .inl h_least)), (h3, .inl (cyI, h_n, .inl h_stacks)), (a0, .inr (9, [.int a_wares, .int a_shelves, .int a_nests, .ref a1, .ref a2, .ref a3, .ref a4, .ref a5, .ref a6, .int a_lids, .int a_tops, .ref a7, .ref a8, .ref a9, .ref a10])), (a1, .inl (cyI, 12, .inl a_wide)), (a2, .inl (cyI, 12, .inl a_deep)), (a3, .inl (cyI, 12, .inl a_weight)), (a4, .inl (cyI, 12, .inl a_bears)), (a7, .inl (cyI, 12, .inl a_mayOn))]) C inw_0 0 rfl rfl 1 (by decide) wd_156 rfl tyX0_ok nmX0 rfl (tyX0_ok 1 (by decide)) rfl rfl (Nat.le_of_ble_eq_true rfl) dX0_settle_18 rfl ?_
    refine j_iconst (pc := 21) (v := 1) C dX0_settle_21 (by decide) ?_
    refine j_aload_n (pc := 22) C dX0_settle_22 rfl 0 rfl ?_
    refine j_get (pc := 23) (ci := 0) (v := .int a_wares) C inw_0 0 rfl rfl 1 (by decide) wd_156 rfl rfl dX0_settle_23 ?_
    obtain ⟨v_2, ev_2⟩ : ∃ z : Int32, 1 <<< (a_wares &&& 31) = z := ⟨_, rfl⟩
    have el_1 : (1 : Int32).toInt = 1 := rfl
    have hv_2 : 1 ≤ v_2.toInt ∧ v_2.toInt ≤ 4096 := by rw [← ev_2]; exact shl1_iv 0 12 (by omega) (by omega) (by omega)
    have hv_2p : v_2.toInt = 2 ^ (a_wares).toInt.toNat := by rw [← ev_2]; exact shl1_I (by omega) (by omega)
    refine j_ishl (pc := 26) (v := v_2) C dX0_settle_26 ev_2 ?_
    refine j_istore_n (pc := 27) (lv' := [(2, .int v_2), (0, .ref h0), (1, .ref a0)]) C dX0_settle_27 rfl (by decide) rfl ?_
    refine j_aload_n (pc := 28) C dX0_settle_28 rfl 1 rfl ?_
    refine j_get (pc := 29) (ci := 0) (v := .ref h2) C inw_0 0 rfl rfl 3 (by decide) wd_162 rfl rfl dX0_settle_29 ?_
    obtain ⟨v_3, ev_3⟩ : ∃ z : Int32, Int32.ofNat h_n = z := ⟨_, rfl⟩
    have hv_3 : v_3.toInt = (h_n : Nat) := by rw [← ev_3]; exact nI_toInt (by omega)
    refine j_alen (pc := 32) (v := v_3) C 2 1 rfl rfl ev_3 dX0_settle_32 ?_
    refine j_iload_n (pc := 33) C dX0_settle_33 rfl 0 rfl ?_
    refine j_icmp_ge (pc := 34) (tgt := 63) C dX0_settle_34 (by decide) (fun c_4 => ?_) (fun c_4 => ?_)
    · skip
      rw [i_le] at c_4
      have hlr9 := hH.leI (x := a_wares) (by omega) (by omega)
      have hbd9 := hH.bd
      refine j_iconst (pc := 63) (v := 1) C dX0_settle_63 (by decide) ?_
      refine j_istore_n (pc := 64) (lv' := [(3, .int 1), (2, .int v_2), (0, .ref h0), (1, .ref a0)]) C dX0_settle_64 rfl (by decide) rfl ?_
      have loop_5 : ∀ (k_5 : Nat) (x5_3 : Int32) (g5_h1 : Nat → Int32) (g5_h2 : Nat → Int32), (1 ≤ (x5_3).toInt ∧ (x5_3).toInt ≤ 4096) → (4096 - x5_3.toInt).toNat < k_5 → J p l e ({ frames := 3, cells := 3, slots := 57344, locals := 77 } : Room) s m args below meth c D A 4 0 0 (QX below D (TY cyC cyI cyJ cyZ cyO) A (fun u => none) (fun u => (1 ≤ (u.2.1 0).toInt ∧ (u.2.1 0).toInt ≤ 1) ∧ (0 ≤ (u.2.1 1).toInt ∧ (u.2.1 1).toInt ≤ 12) ∧ (HL (u.1 3) (u.1 1)) ∧ ((u.2.1 1) = a_wares) ∧ ((2 : Int) ^ ((u.2.1 1)).toInt.toNat = (2 : Int) ^ (a_wares).toInt.toNat) ∧ ((2 : Int) ^ ((u.2.1 1)).toInt.toNat ≤ (((u.1 3) : Nat) : Int)) ∧ ((2 : Int) ^ ((u.2.1 1)).toInt.toNat * ((u.2.1 1)).toInt ≤ (((u.1 1) : Nat) : Int)) ∧ ((u.1 3) ≤ 4096) ∧ ((u.1 1) ≤ 49152)) (fun u => [(h0, .inr (0, [.int (u.2.1 0), .int (u.2.1 1), .ref (u.1 0), .ref (u.1 2), .ref (u.1 4)])), ((u.1 0), .inl (cyI, (u.1 1), .inl (u.2.2.1 0))), ((u.1 2), .inl (cyI, (u.1 3), .inl (u.2.2.1 1))), ((u.1 4), .inl (cyI, (u.1 3), .inl (u.2.2.1 2))), (a0, .inr (9, [.int a_wares, .int a_shelves, .int a_nests, .ref a1, .ref a2, .ref a3, .ref a4, .ref a5, .ref a6, .int a_lids, .int a_tops, .ref a7, .ref a8, .ref a9, .ref a10])), (a1, .inl (cyI, 12, .inl a_wide)), (a2, .inl (cyI, 12, .inl a_deep)), (a3, .inl (cyI, 12, .inl a_weight)), (a4, .inl (cyI, 12, .inl a_bears)), (a7, .inl (cyI, 12, .inl a_mayOn))]) args s 3 57344) [(h0, .inr (0, [.int 1, .int a_wares, .ref h1, .ref h2, .ref h3])), (h1, .inl (cyI, h_r, .inl g5_h1)), (h2, .inl (cyI, h_n, .inl g5_h2)), (h3, .inl (cyI, h_n, .inl h_stacks)), (a0, .inr (9, [.int a_wares, .int a_shelves, .int a_nests, .ref a1, .ref a2, .ref a3, .ref a4, .ref a5, .ref a6, .int a_lids, .int a_tops, .ref a7, .ref a8, .ref a9, .ref a10])), (a1, .inl (cyI, 12, .inl a_wide)), (a2, .inl (cyI, 12, .inl a_deep)), (a3, .inl (cyI, 12, .inl a_weight)), (a4, .inl (cyI, 12, .inl a_bears)), (a7, .inl (cyI, 12, .inl a_mayOn))] 65 [(3, .int x5_3), (2, .int v_2), (0, .ref h0), (1, .ref a0)] [] := by
        intro k_5
        induction k_5 with
        | zero =>
          intro x5_3 g5_h1 g5_h2 hi_5_0 hm_5
          exact absurd hm_5 (Nat.not_lt_zero _)
        | succ k_5 ih_5 =>
          intro x5_3 g5_h1 g5_h2 hi_5_0 hm_5
          refine j_iload_n (pc := 65) C dX0_settle_65 rfl 0 rfl ?_
          refine j_iload_n (pc := 66) C dX0_settle_66 rfl 1 rfl ?_
          refine j_icmp_ge (pc := 67) (tgt := 82) C dX0_settle_67 (by decide) (fun c_6 => ?_) (fun c_6 => ?_)
          · skip
            rw [i_le] at c_6
            have el_1 : (1 : Int32).toInt = 1 := rfl
            have el_1 : (1 : Int32).toInt = 1 := rfl
            have el_1 : (1 : Int32).toInt = 1 := rfl
            have el_1 : (1 : Int32).toInt = 1 := rfl
            have el_1 : (1 : Int32).toInt = 1 := rfl
            have el_1 : (1 : Int32).toInt = 1 := rfl
            have el_1 : (1 : Int32).toInt = 1 := rfl
            have el_1 : (1 : Int32).toInt = 1 := rfl
            exact j_vret (pc := 82) C hr hk (fun i => [h1, h_r, h2, h_n, h3].getD i 0, fun i => [1, a_wares].getD i 0, fun i => [g5_h1, g5_h2, h_stacks].getD i (fun _ => 0), fun i => [].getD i (fun _ => 0)) rfl (show (1 ≤ ((1 : Int32)).toInt ∧ ((1 : Int32)).toInt ≤ 1) ∧ (0 ≤ (a_wares).toInt ∧ (a_wares).toInt ≤ 12) ∧ (HL h_n h_r) ∧ (a_wares = a_wares) ∧ ((2 : Int) ^ (a_wares).toInt.toNat = (2 : Int) ^ (a_wares).toInt.toNat) ∧ ((2 : Int) ^ (a_wares).toInt.toNat ≤ ((h_n : Nat) : Int)) ∧ ((2 : Int) ^ (a_wares).toInt.toNat * (a_wares).toInt ≤ ((h_r : Nat) : Int)) ∧ (h_n ≤ 4096) ∧ (h_r ≤ 49152) from ⟨by omega, h_a_wares, hH, rfl, rfl, (by omega), (hH.leI (by omega) (by omega)), hH.bd.1, hH.bd.2⟩) [0, 1, 2, 3, 4, 5, 6, 7, 8, 9] (by decide) rfl (by decide) (by decide) dX0_settle_82
          · skip
            rw [i_le] at c_6
            refine j_aload_n (pc := 70) C dX0_settle_70 rfl 2 rfl ?_
            refine j_aload_n (pc := 71) C dX0_settle_71 rfl 3 rfl ?_
            refine j_iload_n (pc := 72) C dX0_settle_72 rfl 0 rfl ?_
            refine j_callV (pc := 73) (As := [.ref a0, .int x5_3]) (rest := []) (wr := [(h3, .inl (cyI, h_n, .inl h_stacks))]) C (c_X0_settleSet l D cyC cyI cyJ cyZ cyO h0 h1 h2 a0 a1 a2 a3 a4 a7 h3 a5 a6 a8 a9 a10 h_r h_n x5_3 1 a_wares a_wares a_shelves a_nests a_lids a_tops g5_h1 g5_h2 a_wide a_deep a_weight a_bears a_mayOn (by decide) h_a_wares h_a_wares h_a_shelves h_a_nests (by omega) (by omega) (by omega) (by omega) (by omega) (by omega)) wd_185 wd_166 wd_186 wd_187 wd_188 ⟨by decide, by decide, rfl⟩ rfl ⟨rfl, rfl, by decide, by decide⟩ ⟨by decide, by decide⟩ [0, 1, 2, 4, 5, 6, 7, 8, 9] [3] rfl rfl ⟨by decide, by decide, by decide⟩ 0 rfl rfl rfl (Nat.le_of_ble_eq_true rfl) dX0_settle_73 (fun u_7 hw_8 => ?_)
            refine j_eq (ws2 := [(h3, .inl (cyI, h_n, .inl h_stacks)), (h0, .inr (0, [.int 1, .int a_wares, .ref h1, .ref h2, .ref h3])), (h1, .inl (cyI, h_r, .inl (u_7.2.2.1 0))), (h2, .inl (cyI, h_n, .inl (u_7.2.2.1 1))), (a0, .inr (9, [.int a_wares, .int a_shelves, .int a_nests, .ref a1, .ref a2, .ref a3, .ref a4, .ref a5, .ref a6, .int a_lids, .int a_tops, .ref a7, .ref a8, .ref a9, .ref a10])), (a1, .inl (cyI, 12, .inl a_wide)), (a2, .inl (cyI, 12, .inl a_deep)), (a3, .inl (cyI, 12, .inl a_weight)), (a4, .inl (cyI, 12, .inl a_bears)), (a7, .inl (cyI, 12, .inl a_mayOn))]) (pc2 := 76) (lv2 := [(3, .int x5_3), (2, .int v_2), (0, .ref h0), (1, .ref a0)]) (st2 := []) rfl rfl rfl rfl ?_
            obtain ⟨v_9, ev_9⟩ : ∃ z : Int32, x5_3 + 1 = z := ⟨_, rfl⟩
            have el_1 : (1 : Int32).toInt = 1 := rfl
            have hv_9 : v_9.toInt = x5_3.toInt + (1 : Int32).toInt := by rw [← ev_9]; exact fb_addI (by omega) (by omega)
            refine j_iinc (pc := 76) (v := v_9) (lv' := [(3, .int v_9), (2, .int v_2), (0, .ref h0), (1, .ref a0)]) C dX0_settle_76 0 rfl ev_9 (by decide) rfl ?_
            refine j_goto (pc := 79) (tgt := 65) C dX0_settle_79 (by decide) ?_
            refine j_subG (ws' := [(h0, .inr (0, [.int 1, .int a_wares, .ref h1, .ref h2, .ref h3])), (h1, .inl (cyI, h_r, .inl (u_7.2.2.1 0))), (h2, .inl (cyI, h_n, .inl (u_7.2.2.1 1))), (h3, .inl (cyI, h_n, .inl h_stacks)), (a0, .inr (9, [.int a_wares, .int a_shelves, .int a_nests, .ref a1, .ref a2, .ref a3, .ref a4, .ref a5, .ref a6, .int a_lids, .int a_tops, .ref a7, .ref a8, .ref a9, .ref a10])), (a1, .inl (cyI, 12, .inl a_wide)), (a2, .inl (cyI, 12, .inl a_deep)), (a3, .inl (cyI, 12, .inl a_weight)), (a4, .inl (cyI, 12, .inl a_bears)), (a7, .inl (cyI, 12, .inl a_mayOn))]) [1, 2, 3, 0, 4, 5, 6, 7, 8, 9] (by decide) rfl ?_
            exact j_lv [0, 1, 2, 3] rfl (ih_5 v_9 (u_7.2.2.1 0) (u_7.2.2.1 1) (by omega) (by omega))
      have el_1 : (1 : Int32).toInt = 1 := rfl
      exact j_lv [0, 1, 2, 3] rfl (loop_5 5000 1 h_leastRim h_least (by decide) (by omega))
    · skip
      rw [i_le] at c_4
      refine j_aload_n (pc := 37) C dX0_settle_37 rfl 1 rfl ?_
      refine j_iload_n (pc := 38) C dX0_settle_38 rfl 0 rfl ?_
      refine j_newa (pc := 39) (at1 := .int) (ty := .int) (N := (v_2).toInt.toNat) (a0 := ((v_2).toInt.toNat, .inl (fun _ => 0))) C wd_189 rfl 1 rfl (fun _ _ h => h) (fun _ => rfl) (i_nn (by omega)) rfl (by show (v_2).toInt.toNat * 4 ≤ 536870912; omega) (by decide) (by show 0 + (v_2).toInt.toNat ≤ 57344; omega) dX0_settle_39 (fun q_10 => ?_)
      refine j_widen (k := 1) (n := 4096) (by decide) (by omega) ?_
      refine j_put (pc := 41) (ci := 0) (v := .ref q_10) (ws' := [(h0, .inr (0, [.int 1, .int a_wares, .ref h1, .ref q_10, .ref h3])), (h1, .inl (cyI, h_r, .inl h_leastRim)), (h2, .inl (cyI, h_n, .inl h_least)), (h3, .inl (cyI, h_n, .inl h_stacks)), (a0, .inr (9, [.int a_wares, .int a_shelves, .int a_nests, .ref a1, .ref a2, .ref a3, .ref a4, .ref a5, .ref a6, .int a_lids, .int a_tops, .ref a7, .ref a8, .ref a9, .ref a10])), (a1, .inl (cyI, 12, .inl a_wide)), (a2, .inl (cyI, 12, .inl a_deep)), (a3, .inl (cyI, 12, .inl a_weight)), (a4, .inl (cyI, 12, .inl a_bears)), (a7, .inl (cyI, 12, .inl a_mayOn)), (q_10, .inl (cyI, (v_2).toInt.toNat, .inl (fun _ => 0)))]) C inw_0 0 rfl rfl 3 (by decide) wd_162 rfl tyX0_ok nmX0 rfl (tyX0_ok 3 (by decide)) rfl rfl (Nat.le_of_ble_eq_true rfl) dX0_settle_41 rfl ?_
      refine j_aload_n (pc := 44) C dX0_settle_44 rfl 1 rfl ?_
      refine j_iload_n (pc := 45) C dX0_settle_45 rfl 0 rfl ?_
      refine j_newa (pc := 46) (at1 := .int) (ty := .int) (N := (v_2).toInt.toNat) (a0 := ((v_2).toInt.toNat, .inl (fun _ => 0))) C wd_189 rfl 1 rfl (fun _ _ h => h) (fun _ => rfl) (i_nn (by omega)) rfl (by show (v_2).toInt.toNat * 4 ≤ 536870912; omega) (by decide) (by show 4096 + (v_2).toInt.toNat ≤ 57344; omega) dX0_settle_46 (fun q_11 => ?_)
      refine j_widen (k := 2) (n := 8192) (by decide) (by omega) ?_
      refine j_put (pc := 48) (ci := 0) (v := .ref q_11) (ws' := [(h0, .inr (0, [.int 1, .int a_wares, .ref h1, .ref q_10, .ref q_11])), (h1, .inl (cyI, h_r, .inl h_leastRim)), (h2, .inl (cyI, h_n, .inl h_least)), (h3, .inl (cyI, h_n, .inl h_stacks)), (a0, .inr (9, [.int a_wares, .int a_shelves, .int a_nests, .ref a1, .ref a2, .ref a3, .ref a4, .ref a5, .ref a6, .int a_lids, .int a_tops, .ref a7, .ref a8, .ref a9, .ref a10])), (a1, .inl (cyI, 12, .inl a_wide)), (a2, .inl (cyI, 12, .inl a_deep)), (a3, .inl (cyI, 12, .inl a_weight)), (a4, .inl (cyI, 12, .inl a_bears)), (a7, .inl (cyI, 12, .inl a_mayOn)), (q_10, .inl (cyI, (v_2).toInt.toNat, .inl (fun _ => 0))), (q_11, .inl (cyI, (v_2).toInt.toNat, .inl (fun _ => 0)))]) C inw_0 0 rfl rfl 4 (by decide) wd_178 rfl tyX0_ok nmX0 rfl (tyX0_ok 4 (by decide)) rfl rfl (Nat.le_of_ble_eq_true rfl) dX0_settle_48 rfl ?_
      refine j_aload_n (pc := 51) C dX0_settle_51 rfl 1 rfl ?_
      refine j_iload_n (pc := 52) C dX0_settle_52 rfl 0 rfl ?_
      refine j_aload_n (pc := 53) C dX0_settle_53 rfl 1 rfl ?_
      refine j_get (pc := 54) (ci := 0) (v := .int a_wares) C inw_0 0 rfl rfl 1 (by decide) wd_156 rfl rfl dX0_settle_54 ?_
      obtain ⟨v_12, ev_12⟩ : ∃ z : Int32, v_2 * a_wares = z := ⟨_, rfl⟩
      obtain ⟨hv_12, hv_12a, hv_12b⟩ := mulS (x := v_2) (y := a_wares) (by omega) (by omega) (by omega) (by omega)
      rw [ev_12] at hv_12
      refine j_imul (pc := 57) (v := v_12) C dX0_settle_57 ev_12 ?_
      refine j_newa (pc := 58) (at1 := .int) (ty := .int) (N := (v_12).toInt.toNat) (a0 := ((v_12).toInt.toNat, .inl (fun _ => 0))) C wd_189 rfl 1 rfl (fun _ _ h => h) (fun _ => rfl) (i_nn (by omega)) rfl (by show (v_12).toInt.toNat * 4 ≤ 536870912; omega) (by decide) (by show 8192 + (v_12).toInt.toNat ≤ 57344; omega) dX0_settle_58 (fun q_13 => ?_)
      refine j_widen (k := 3) (n := 57344) (by decide) (by omega) ?_
      refine j_put (pc := 60) (ci := 0) (v := .ref q_13) (ws' := [(h0, .inr (0, [.int 1, .int a_wares, .ref q_13, .ref q_10, .ref q_11])), (h1, .inl (cyI, h_r, .inl h_leastRim)), (h2, .inl (cyI, h_n, .inl h_least)), (h3, .inl (cyI, h_n, .inl h_stacks)), (a0, .inr (9, [.int a_wares, .int a_shelves, .int a_nests, .ref a1, .ref a2, .ref a3, .ref a4, .ref a5, .ref a6, .int a_lids, .int a_tops, .ref a7, .ref a8, .ref a9, .ref a10])), (a1, .inl (cyI, 12, .inl a_wide)), (a2, .inl (cyI, 12, .inl a_deep)), (a3, .inl (cyI, 12, .inl a_weight)), (a4, .inl (cyI, 12, .inl a_bears)), (a7, .inl (cyI, 12, .inl a_mayOn)), (q_10, .inl (cyI, (v_2).toInt.toNat, .inl (fun _ => 0))), (q_11, .inl (cyI, (v_2).toInt.toNat, .inl (fun _ => 0))), (q_13, .inl (cyI, (v_12).toInt.toNat, .inl (fun _ => 0)))]) C inw_0 0 rfl rfl 2 (by decide) wd_159 rfl tyX0_ok nmX0 rfl (tyX0_ok 2 (by decide)) rfl rfl (Nat.le_of_ble_eq_true rfl) dX0_settle_60 rfl ?_
      have hlr9 := (HL.mk (s := v_2) (m := v_12) (x := a_wares) (by omega) (by omega) (by omega) (by omega)).leI (x := a_wares) (by omega) (by omega)
      have hbd9 := (HL.mk (s := v_2) (m := v_12) (x := a_wares) (by omega) (by omega) (by omega) (by omega)).bd
      refine j_iconst (pc := 63) (v := 1) C dX0_settle_63 (by decide) ?_
      refine j_istore_n (pc := 64) (lv' := [(3, .int 1), (2, .int v_2), (0, .ref h0), (1, .ref a0)]) C dX0_settle_64 rfl (by decide) rfl ?_
      have loop_14 : ∀ (k_14 : Nat) (x14_3 : Int32) (g14_h1 : Nat → Int32) (g14_h2 : Nat → Int32) (g14_q_10 : Nat → Int32) (g14_q_13 : Nat → Int32), (1 ≤ (x14_3).toInt ∧ (x14_3).toInt ≤ 4096) → (4096 - x14_3.toInt).toNat < k_14 → J p l e ({ frames := 3, cells := 3, slots := 57344, locals := 77 } : Room) s m args below meth c D A 4 3 57344 (QX below D (TY cyC cyI cyJ cyZ cyO) A (fun u => none) (fun u => (1 ≤ (u.2.1 0).toInt ∧ (u.2.1 0).toInt ≤ 1) ∧ (0 ≤ (u.2.1 1).toInt ∧ (u.2.1 1).toInt ≤ 12) ∧ (HL (u.1 3) (u.1 1)) ∧ ((u.2.1 1) = a_wares) ∧ ((2 : Int) ^ ((u.2.1 1)).toInt.toNat = (2 : Int) ^ (a_wares).toInt.toNat) ∧ ((2 : Int) ^ ((u.2.1 1)).toInt.toNat ≤ (((u.1 3) : Nat) : Int)) ∧ ((2 : Int) ^ ((u.2.1 1)).toInt.toNat * ((u.2.1 1)).toInt ≤ (((u.1 1) : Nat) : Int)) ∧ ((u.1 3) ≤ 4096) ∧ ((u.1 1) ≤ 49152)) (fun u => [(h0, .inr (0, [.int (u.2.1 0), .int (u.2.1 1), .ref (u.1 0), .ref (u.1 2), .ref (u.1 4)])), ((u.1 0), .inl (cyI, (u.1 1), .inl (u.2.2.1 0))), ((u.1 2), .inl (cyI, (u.1 3), .inl (u.2.2.1 1))), ((u.1 4), .inl (cyI, (u.1 3), .inl (u.2.2.1 2))), (a0, .inr (9, [.int a_wares, .int a_shelves, .int a_nests, .ref a1, .ref a2, .ref a3, .ref a4, .ref a5, .ref a6, .int a_lids, .int a_tops, .ref a7, .ref a8, .ref a9, .ref a10])), (a1, .inl (cyI, 12, .inl a_wide)), (a2, .inl (cyI, 12, .inl a_deep)), (a3, .inl (cyI, 12, .inl a_weight)), (a4, .inl (cyI, 12, .inl a_bears)), (a7, .inl (cyI, 12, .inl a_mayOn))]) args s 3 57344) [(h0, .inr (0, [.int 1, .int a_wares, .ref q_13, .ref q_10, .ref q_11])), (h1, .inl (cyI, h_r, .inl g14_h1)), (h2, .inl (cyI, h_n, .inl g14_h2)), (h3, .inl (cyI, h_n, .inl h_stacks)), (a0, .inr (9, [.int a_wares, .int a_shelves, .int a_nests, .ref a1, .ref a2, .ref a3, .ref a4, .ref a5, .ref a6, .int a_lids, .int a_tops, .ref a7, .ref a8, .ref a9, .ref a10])), (a1, .inl (cyI, 12, .inl a_wide)), (a2, .inl (cyI, 12, .inl a_deep)), (a3, .inl (cyI, 12, .inl a_weight)), (a4, .inl (cyI, 12, .inl a_bears)), (a7, .inl (cyI, 12, .inl a_mayOn)), (q_10, .inl (cyI, (v_2).toInt.toNat, .inl g14_q_10)), (q_11, .inl (cyI, (v_2).toInt.toNat, .inl (fun _ => 0))), (q_13, .inl (cyI, (v_12).toInt.toNat, .inl g14_q_13))] 65 [(3, .int x14_3), (2, .int v_2), (0, .ref h0), (1, .ref a0)] [] := by
        intro k_14
        induction k_14 with
        | zero =>
          intro x14_3 g14_h1 g14_h2 g14_q_10 g14_q_13 hi_14_0 hm_14
          exact absurd hm_14 (Nat.not_lt_zero _)
        | succ k_14 ih_14 =>
          intro x14_3 g14_h1 g14_h2 g14_q_10 g14_q_13 hi_14_0 hm_14
          refine j_iload_n (pc := 65) C dX0_settle_65 rfl 0 rfl ?_
          refine j_iload_n (pc := 66) C dX0_settle_66 rfl 1 rfl ?_
          refine j_icmp_ge (pc := 67) (tgt := 82) C dX0_settle_67 (by decide) (fun c_15 => ?_) (fun c_15 => ?_)
          · skip
            rw [i_le] at c_15
            have el_1 : (1 : Int32).toInt = 1 := rfl
            have el_1 : (1 : Int32).toInt = 1 := rfl
            have el_1 : (1 : Int32).toInt = 1 := rfl
            have el_1 : (1 : Int32).toInt = 1 := rfl
            have el_1 : (1 : Int32).toInt = 1 := rfl
            have el_1 : (1 : Int32).toInt = 1 := rfl
            have el_1 : (1 : Int32).toInt = 1 := rfl
            have el_1 : (1 : Int32).toInt = 1 := rfl
            exact j_vret (pc := 82) C hr hk (fun i => [q_13, (v_12).toInt.toNat, q_10, (v_2).toInt.toNat, q_11].getD i 0, fun i => [1, a_wares].getD i 0, fun i => [g14_q_13, g14_q_10, (fun _ => 0)].getD i (fun _ => 0), fun i => [].getD i (fun _ => 0)) rfl (show (1 ≤ ((1 : Int32)).toInt ∧ ((1 : Int32)).toInt ≤ 1) ∧ (0 ≤ (a_wares).toInt ∧ (a_wares).toInt ≤ 12) ∧ (HL ((v_2).toInt.toNat) ((v_12).toInt.toNat)) ∧ (a_wares = a_wares) ∧ ((2 : Int) ^ (a_wares).toInt.toNat = (2 : Int) ^ (a_wares).toInt.toNat) ∧ ((2 : Int) ^ (a_wares).toInt.toNat ≤ ((((v_2).toInt.toNat) : Nat) : Int)) ∧ ((2 : Int) ^ (a_wares).toInt.toNat * (a_wares).toInt ≤ ((((v_12).toInt.toNat) : Nat) : Int)) ∧ (((v_2).toInt.toNat) ≤ 4096) ∧ (((v_12).toInt.toNat) ≤ 49152) from ⟨by omega, h_a_wares, (HL.mk (s := v_2) (m := v_12) (x := a_wares) (by omega) (by omega) (by omega) (by omega)), rfl, rfl, (by omega), ((HL.mk (s := v_2) (m := v_12) (x := a_wares) (by omega) (by omega) (by omega) (by omega)).leI (by omega) (by omega)), (HL.mk (s := v_2) (m := v_12) (x := a_wares) (by omega) (by omega) (by omega) (by omega)).bd.1, (HL.mk (s := v_2) (m := v_12) (x := a_wares) (by omega) (by omega) (by omega) (by omega)).bd.2⟩) [0, 12, 10, 11, 4, 5, 6, 7, 8, 9] (by decide) rfl (by decide) (by decide) dX0_settle_82
          · skip
            rw [i_le] at c_15
            refine j_aload_n (pc := 70) C dX0_settle_70 rfl 2 rfl ?_
            refine j_aload_n (pc := 71) C dX0_settle_71 rfl 3 rfl ?_
            refine j_iload_n (pc := 72) C dX0_settle_72 rfl 0 rfl ?_
            refine j_callV (pc := 73) (As := [.ref a0, .int x14_3]) (rest := []) (wr := [(h1, .inl (cyI, h_r, .inl g14_h1)), (h2, .inl (cyI, h_n, .inl g14_h2)), (h3, .inl (cyI, h_n, .inl h_stacks)), (q_11, .inl (cyI, (v_2).toInt.toNat, .inl (fun _ => 0)))]) C (c_X0_settleSet l D cyC cyI cyJ cyZ cyO h0 q_13 q_10 a0 a1 a2 a3 a4 a7 q_11 a5 a6 a8 a9 a10 ((v_12).toInt.toNat) ((v_2).toInt.toNat) x14_3 1 a_wares a_wares a_shelves a_nests a_lids a_tops g14_q_13 g14_q_10 a_wide a_deep a_weight a_bears a_mayOn (by decide) h_a_wares h_a_wares h_a_shelves h_a_nests (by omega) (by omega) (by omega) (by omega) (by omega) (by omega)) wd_185 wd_166 wd_186 wd_187 wd_188 ⟨by decide, by decide, rfl⟩ rfl ⟨rfl, rfl, by decide, by decide⟩ ⟨by decide, by decide⟩ [0, 12, 10, 4, 5, 6, 7, 8, 9] [1, 2, 3, 11] rfl rfl ⟨by decide, by decide, by decide⟩ 0 rfl rfl rfl (Nat.le_of_ble_eq_true rfl) dX0_settle_73 (fun u_16 hw_17 => ?_)
            refine j_eq (ws2 := [(h1, .inl (cyI, h_r, .inl g14_h1)), (h2, .inl (cyI, h_n, .inl g14_h2)), (h3, .inl (cyI, h_n, .inl h_stacks)), (q_11, .inl (cyI, (v_2).toInt.toNat, .inl (fun _ => 0))), (h0, .inr (0, [.int 1, .int a_wares, .ref q_13, .ref q_10, .ref q_11])), (q_13, .inl (cyI, ((v_12).toInt.toNat), .inl (u_16.2.2.1 0))), (q_10, .inl (cyI, ((v_2).toInt.toNat), .inl (u_16.2.2.1 1))), (a0, .inr (9, [.int a_wares, .int a_shelves, .int a_nests, .ref a1, .ref a2, .ref a3, .ref a4, .ref a5, .ref a6, .int a_lids, .int a_tops, .ref a7, .ref a8, .ref a9, .ref a10])), (a1, .inl (cyI, 12, .inl a_wide)), (a2, .inl (cyI, 12, .inl a_deep)), (a3, .inl (cyI, 12, .inl a_weight)), (a4, .inl (cyI, 12, .inl a_bears)), (a7, .inl (cyI, 12, .inl a_mayOn))]) (pc2 := 76) (lv2 := [(3, .int x14_3), (2, .int v_2), (0, .ref h0), (1, .ref a0)]) (st2 := []) rfl rfl rfl rfl ?_
            obtain ⟨v_18, ev_18⟩ : ∃ z : Int32, x14_3 + 1 = z := ⟨_, rfl⟩
            have el_1 : (1 : Int32).toInt = 1 := rfl
            have hv_18 : v_18.toInt = x14_3.toInt + (1 : Int32).toInt := by rw [← ev_18]; exact fb_addI (by omega) (by omega)
            refine j_iinc (pc := 76) (v := v_18) (lv' := [(3, .int v_18), (2, .int v_2), (0, .ref h0), (1, .ref a0)]) C dX0_settle_76 0 rfl ev_18 (by decide) rfl ?_
            refine j_goto (pc := 79) (tgt := 65) C dX0_settle_79 (by decide) ?_
            refine j_subG (ws' := [(h0, .inr (0, [.int 1, .int a_wares, .ref q_13, .ref q_10, .ref q_11])), (h1, .inl (cyI, h_r, .inl g14_h1)), (h2, .inl (cyI, h_n, .inl g14_h2)), (h3, .inl (cyI, h_n, .inl h_stacks)), (a0, .inr (9, [.int a_wares, .int a_shelves, .int a_nests, .ref a1, .ref a2, .ref a3, .ref a4, .ref a5, .ref a6, .int a_lids, .int a_tops, .ref a7, .ref a8, .ref a9, .ref a10])), (a1, .inl (cyI, 12, .inl a_wide)), (a2, .inl (cyI, 12, .inl a_deep)), (a3, .inl (cyI, 12, .inl a_weight)), (a4, .inl (cyI, 12, .inl a_bears)), (a7, .inl (cyI, 12, .inl a_mayOn)), (q_10, .inl (cyI, ((v_2).toInt.toNat), .inl (u_16.2.2.1 1))), (q_11, .inl (cyI, (v_2).toInt.toNat, .inl (fun _ => 0))), (q_13, .inl (cyI, ((v_12).toInt.toNat), .inl (u_16.2.2.1 0)))]) [4, 0, 1, 2, 7, 8, 9, 10, 11, 12, 6, 3, 5] (by decide) rfl ?_
            exact j_lv [0, 1, 2, 3] rfl (ih_14 v_18 g14_h1 g14_h2 (u_16.2.2.1 1) (u_16.2.2.1 0) (by omega) (by omega))
      have el_1 : (1 : Int32).toInt = 1 := rfl
      exact j_lv [0, 1, 2, 3] rfl (loop_14 5000 1 h_leastRim h_least (fun _ => 0) (fun _ => 0) (by decide) (by omega))
  · skip
    have el_0 : (0 : Int32).toInt = 0 := rfl
    rw [i_eq] at c_1
    have k0c_1 : h_known.toInt = 1 := by omega
    exact j_vret (pc := 7) C hr hk (fun i => [h1, h_r, h2, h_n, h3].getD i 0, fun i => [h_known, h_wares].getD i 0, fun i => [h_leastRim, h_least, h_stacks].getD i (fun _ => 0), fun i => [].getD i (fun _ => 0)) rfl (show (1 ≤ (h_known).toInt ∧ (h_known).toInt ≤ 1) ∧ (0 ≤ (h_wares).toInt ∧ (h_wares).toInt ≤ 12) ∧ (HL h_n h_r) ∧ (h_wares = a_wares) ∧ ((2 : Int) ^ (h_wares).toInt.toNat = (2 : Int) ^ (a_wares).toInt.toNat) ∧ ((2 : Int) ^ (h_wares).toInt.toNat ≤ ((h_n : Nat) : Int)) ∧ ((2 : Int) ^ (h_wares).toInt.toNat * (h_wares).toInt ≤ ((h_r : Nat) : Int)) ∧ (h_n ≤ 4096) ∧ (h_r ≤ 49152) from ⟨by omega, h_h_wares, hH, (by rcases hk9 with h | h; (exfalso; omega); exact h.1), (by rcases hk9 with h | h; (exfalso; omega); rw [h.1]), (by rcases hk9 with h | h; (exfalso; omega); exact h.2), (hH.leI (by omega) (by rcases hk9 with h | h; (exfalso; omega); exact h.2)), hH.bd.1, hH.bd.2⟩) [0, 1, 2, 3, 4, 5, 6, 7, 8, 9] (by decide) rfl (by decide) (by decide) dX0_settle_7
