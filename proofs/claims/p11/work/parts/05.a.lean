theorem wd_0 : Cond.fieldLink RX9 42 "BowlShelf$Told" "wares" "I" ∈ WALL := wl_in (by decide +kernel) (by decide +kernel)
theorem wd_1 : Cond.fieldLink RX9 46 "BowlShelf$Told" "shelves" "I" ∈ WALL := wl_in (by decide +kernel) (by decide +kernel)
theorem wd_2 : Cond.fieldLink RX7 9 "BowlShelf$Standing" "shelf" "[I" ∈ WALL := wl_in (by decide +kernel) (by decide +kernel)
theorem wd_3 : Cond.fieldLink RX7 15 "BowlShelf$Standing" "stack" "[I" ∈ WALL := wl_in (by decide +kernel) (by decide +kernel)
theorem dX9_isWare_0 : decode cX9_isWare 0 = .ok (.iload_n 1, 1) := by decide +kernel
theorem dX9_isWare_1 : decode cX9_isWare 1 = .ok (.ifCond .lt 15, 3) := by decide +kernel
theorem dX9_isWare_4 : decode cX9_isWare 4 = .ok (.iload_n 1, 1) := by decide +kernel
theorem dX9_isWare_5 : decode cX9_isWare 5 = .ok (.aload_n 0, 1) := by decide +kernel
theorem dX9_isWare_6 : decode cX9_isWare 6 = .ok (.getfield 42, 3) := by decide +kernel
theorem dX9_isWare_9 : decode cX9_isWare 9 = .ok (.if_icmp .ge 7, 3) := by decide +kernel
theorem dX9_isWare_12 : decode cX9_isWare 12 = .ok (.iconst 1, 1) := by decide +kernel
theorem dX9_isWare_13 : decode cX9_isWare 13 = .ok (.goto 4, 3) := by decide +kernel
theorem dX9_isWare_16 : decode cX9_isWare 16 = .ok (.iconst 0, 1) := by decide +kernel
theorem dX9_isWare_17 : decode cX9_isWare 17 = .ok (.ireturn, 1) := by decide +kernel
theorem dX9_isShelf_0 : decode cX9_isShelf 0 = .ok (.iload_n 1, 1) := by decide +kernel
theorem dX9_isShelf_1 : decode cX9_isShelf 1 = .ok (.ifCond .lt 15, 3) := by decide +kernel
theorem dX9_isShelf_4 : decode cX9_isShelf 4 = .ok (.iload_n 1, 1) := by decide +kernel
theorem dX9_isShelf_5 : decode cX9_isShelf 5 = .ok (.aload_n 0, 1) := by decide +kernel
theorem dX9_isShelf_6 : decode cX9_isShelf 6 = .ok (.getfield 46, 3) := by decide +kernel
theorem dX9_isShelf_9 : decode cX9_isShelf 9 = .ok (.if_icmp .ge 7, 3) := by decide +kernel
theorem dX9_isShelf_12 : decode cX9_isShelf 12 = .ok (.iconst 1, 1) := by decide +kernel
theorem dX9_isShelf_13 : decode cX9_isShelf 13 = .ok (.goto 4, 3) := by decide +kernel
theorem dX9_isShelf_16 : decode cX9_isShelf 16 = .ok (.iconst 0, 1) := by decide +kernel
theorem dX9_isShelf_17 : decode cX9_isShelf 17 = .ok (.ireturn, 1) := by decide +kernel
theorem dX7_isOut_0 : decode cX7_isOut 0 = .ok (.aload_n 0, 1) := by decide +kernel
theorem dX7_isOut_1 : decode cX7_isOut 1 = .ok (.getfield 9, 3) := by decide +kernel
theorem dX7_isOut_4 : decode cX7_isOut 4 = .ok (.iload_n 1, 1) := by decide +kernel
theorem dX7_isOut_5 : decode cX7_isOut 5 = .ok (.iaload, 1) := by decide +kernel
theorem dX7_isOut_6 : decode cX7_isOut 6 = .ok (.iconst (-1), 1) := by decide +kernel
theorem dX7_isOut_7 : decode cX7_isOut 7 = .ok (.if_icmp .ne 7, 3) := by decide +kernel
theorem dX7_isOut_10 : decode cX7_isOut 10 = .ok (.iconst 1, 1) := by decide +kernel
theorem dX7_isOut_11 : decode cX7_isOut 11 = .ok (.goto 4, 3) := by decide +kernel
theorem dX7_isOut_14 : decode cX7_isOut 14 = .ok (.iconst 0, 1) := by decide +kernel
theorem dX7_isOut_15 : decode cX7_isOut 15 = .ok (.ireturn, 1) := by decide +kernel
theorem dX7_stands_0 : decode cX7_stands 0 = .ok (.aload_n 0, 1) := by decide +kernel
theorem dX7_stands_1 : decode cX7_stands 1 = .ok (.getfield 9, 3) := by decide +kernel
theorem dX7_stands_4 : decode cX7_stands 4 = .ok (.iload_n 1, 1) := by decide +kernel
theorem dX7_stands_5 : decode cX7_stands 5 = .ok (.iaload, 1) := by decide +kernel
theorem dX7_stands_6 : decode cX7_stands 6 = .ok (.iload_n 2, 1) := by decide +kernel
theorem dX7_stands_7 : decode cX7_stands 7 = .ok (.if_icmp .ne 17, 3) := by decide +kernel
theorem dX7_stands_10 : decode cX7_stands 10 = .ok (.aload_n 0, 1) := by decide +kernel
theorem dX7_stands_11 : decode cX7_stands 11 = .ok (.getfield 15, 3) := by decide +kernel
theorem dX7_stands_14 : decode cX7_stands 14 = .ok (.iload_n 1, 1) := by decide +kernel
theorem dX7_stands_15 : decode cX7_stands 15 = .ok (.iaload, 1) := by decide +kernel
theorem dX7_stands_16 : decode cX7_stands 16 = .ok (.iload_n 3, 1) := by decide +kernel
theorem dX7_stands_17 : decode cX7_stands 17 = .ok (.if_icmp .ne 7, 3) := by decide +kernel
theorem dX7_stands_20 : decode cX7_stands 20 = .ok (.iconst 1, 1) := by decide +kernel
theorem dX7_stands_21 : decode cX7_stands 21 = .ok (.goto 4, 3) := by decide +kernel
theorem dX7_stands_24 : decode cX7_stands 24 = .ok (.iconst 0, 1) := by decide +kernel
theorem dX7_stands_25 : decode cX7_stands 25 = .ok (.ireturn, 1) := by decide +kernel
theorem ndX0 : ∀ j, j < 5 → defaultValue (tyX0 j) = vp_V [.int 0, .int 0, .null, .null, .null] j := by decide +kernel
theorem ndX1 : ∀ j, j < 5 → defaultValue (tyX1 j) = vp_V [.int 0, .int 0, .null, .null, .null] j := by decide +kernel
theorem ndX2 : ∀ j, j < 1 → defaultValue (tyX2 j) = vp_V [.null] j := by decide +kernel
theorem ndX3 : ∀ j, j < 8 → defaultValue (tyX3 j) = vp_V [.int 0, .null, .null, .int 0, .int 0, .int 0, .null, .null] j := by decide +kernel
theorem ndX4 : ∀ j, j < 2 → defaultValue (tyX4 j) = vp_V [.null, .int 0] j := by decide +kernel
theorem ndX5 : ∀ j, j < 7 → defaultValue (tyX5 j) = vp_V [.null, .null, .null, .null, .null, .int 0, .int 0] j := by decide +kernel
theorem ndX6 : ∀ j, j < 8 → defaultValue (tyX6 j) = vp_V [.null, .int 0, .int 0, .int 0, .int 0, .int 0, .null, .null] j := by decide +kernel
theorem ndX7 : ∀ j, j < 7 → defaultValue (tyX7 j) = vp_V [.null, .null, .null, .null, .int 0, .int 0, .int 0] j := by decide +kernel
theorem ndX8 : ∀ j, j < 6 → defaultValue (tyX8 j) = vp_V [.null, .int 0, .int 0, .int 0, .int 0, .int 0] j := by decide +kernel
theorem ndX9 : ∀ j, j < 15 → defaultValue (tyX9 j) = vp_V [.int 0, .int 0, .int 0, .null, .null, .null, .null, .null, .null, .int 0, .int 0, .null, .null, .null, .null] j := by decide +kernel
theorem ndX10 : ∀ j, j < 10 → defaultValue (tyX10 j) = vp_V [.null, .null, .null, .null, .null, .null, .null, .null, .null, .null] j := by decide +kernel
theorem ndX11 : ∀ j, j < 43 → defaultValue (tyX11 j) = vp_V [.int 0, .null, .int 0, .int 0, .null, .null, .null, .int 0, .int 0, .null, .null, .null, .null, .int 0, .null, .null, .int 0, .null, .null, .null, .null, .null, .int 0, .int 0, .int 0, .null, .int 0, .null, .null, .null, .null, .null, .null, .int 0, .int 0, .int 0, .null, .null, .int 0, .int 0, .int 0, .int 0, .null] j := by decide +kernel
set_option maxHeartbeats 4000000 in
set_option maxRecDepth 100000 in
theorem c_X9_isWare (l : Launch) (D : DG) (cyC cyI cyJ cyZ cyO : ClassId) (a0 : Nat) (a1 : Nat) (a2 : Nat) (a3 : Nat) (a4 : Nat) (a5 : Nat) (a6 : Nat) (a7 : Nat) (a8 : Nat) (a9 : Nat) (a10 : Nat) (p0 : Int32) (a_wares : Int32) (a_shelves : Int32) (a_nests : Int32) (a_lids : Int32) (a_tops : Int32) (h_a_wares : 0 ≤ (a_wares).toInt ∧ (a_wares).toInt ≤ 12) (h_a_shelves : 0 ≤ (a_shelves).toInt ∧ (a_shelves).toInt ≤ 4) (h_a_nests : 0 ≤ (a_nests).toInt ∧ (a_nests).toInt ≤ 4) : KK l D (TY cyC cyI cyJ cyZ cyO) yX9_isWare cX9_isWare 2 (some .boolean) ({ frames := 0, cells := 0, slots := 0, locals := 0 } : Room) 0 0 [.ref a0, .int p0] [(a0, .inr (9, [.int a_wares, .int a_shelves, .int a_nests, .ref a1, .ref a2, .ref a3, .ref a4, .ref a5, .ref a6, .int a_lids, .int a_tops, .ref a7, .ref a8, .ref a9, .ref a10]))] (fun u => some (.int (u.2.1 0))) (fun u => (0 ≤ (u.2.1 0).toInt ∧ (u.2.1 0).toInt ≤ 1) ∧ ((u.2.1 0).toInt = 0 ∨ 0 ≤ (p0).toInt ∧ (p0).toInt < (a_wares).toInt) ∧ ((u.2.1 0).toInt = 1 ∨ (p0).toInt < 0 ∨ (a_wares).toInt ≤ (p0).toInt)) (fun u => [(a0, .inr (9, [.int a_wares, .int a_shelves, .int a_nests, .ref a1, .ref a2, .ref a3, .ref a4, .ref a5, .ref a6, .int a_lids, .int a_tops, .ref a7, .ref a8, .ref a9, .ref a10]))]) := by
  refine KK.of (lv0 := [(0, .ref a0), (1, .int p0)]) (by decide) rfl (Nat.le_of_ble_eq_true rfl) ?_
  intro p e s m args below meth c A C hr hk hin
  refine j_iload_n (pc := 0) C dX9_isWare_0 rfl 1 rfl ?_
  refine j_if_lt (pc := 1) (tgt := 16) C dX9_isWare_1 (by decide) (fun c_1 => ?_) (fun c_1 => ?_)
  · skip
    have el_0 : (0 : Int32).toInt = 0 := rfl
    rw [i_lt] at c_1
    refine j_iconst (pc := 16) (v := 0) C dX9_isWare_16 (by decide) ?_
    have el_0 : (0 : Int32).toInt = 0 := rfl
    have el_0 : (0 : Int32).toInt = 0 := rfl
    have el_0 : (0 : Int32).toInt = 0 := rfl
    exact j_zret (pc := 17) C hr rfl hk (fun i => [].getD i 0, fun i => [0].getD i 0, fun i => [].getD i (fun _ => 0), fun i => [].getD i (fun _ => 0)) rfl (show (0 ≤ ((0 : Int32)).toInt ∧ ((0 : Int32)).toInt ≤ 1) ∧ ((0 : Int32).toInt = 0 ∨ 0 ≤ (p0).toInt ∧ (p0).toInt < (a_wares).toInt) ∧ ((0 : Int32).toInt = 1 ∨ (p0).toInt < 0 ∨ (a_wares).toInt ≤ (p0).toInt) from ⟨by omega, by omega, by omega⟩) [0] (by decide) rfl (by decide) (by decide) dX9_isWare_17
  · skip
    have el_0 : (0 : Int32).toInt = 0 := rfl
    rw [i_lt] at c_1
    refine j_iload_n (pc := 4) C dX9_isWare_4 rfl 1 rfl ?_
    refine j_aload_n (pc := 5) C dX9_isWare_5 rfl 0 rfl ?_
    refine j_get (pc := 6) (ci := 9) (v := .int a_wares) C inw_9 0 rfl rfl 0 (by decide) wd_0 rfl rfl dX9_isWare_6 ?_
    refine j_icmp_ge (pc := 9) (tgt := 16) C dX9_isWare_9 (by decide) (fun c_2 => ?_) (fun c_2 => ?_)
    · skip
      rw [i_le] at c_2
      refine j_iconst (pc := 16) (v := 0) C dX9_isWare_16 (by decide) ?_
      have el_0 : (0 : Int32).toInt = 0 := rfl
      have el_0 : (0 : Int32).toInt = 0 := rfl
      have el_0 : (0 : Int32).toInt = 0 := rfl
      exact j_zret (pc := 17) C hr rfl hk (fun i => [].getD i 0, fun i => [0].getD i 0, fun i => [].getD i (fun _ => 0), fun i => [].getD i (fun _ => 0)) rfl (show (0 ≤ ((0 : Int32)).toInt ∧ ((0 : Int32)).toInt ≤ 1) ∧ ((0 : Int32).toInt = 0 ∨ 0 ≤ (p0).toInt ∧ (p0).toInt < (a_wares).toInt) ∧ ((0 : Int32).toInt = 1 ∨ (p0).toInt < 0 ∨ (a_wares).toInt ≤ (p0).toInt) from ⟨by omega, by omega, by omega⟩) [0] (by decide) rfl (by decide) (by decide) dX9_isWare_17
    · skip
      rw [i_le] at c_2
      refine j_iconst (pc := 12) (v := 1) C dX9_isWare_12 (by decide) ?_
      refine j_goto (pc := 13) (tgt := 17) C dX9_isWare_13 (by decide) ?_
      have el_1 : (1 : Int32).toInt = 1 := rfl
      have el_1 : (1 : Int32).toInt = 1 := rfl
      have el_1 : (1 : Int32).toInt = 1 := rfl
      exact j_zret (pc := 17) C hr rfl hk (fun i => [].getD i 0, fun i => [1].getD i 0, fun i => [].getD i (fun _ => 0), fun i => [].getD i (fun _ => 0)) rfl (show (0 ≤ ((1 : Int32)).toInt ∧ ((1 : Int32)).toInt ≤ 1) ∧ ((1 : Int32).toInt = 0 ∨ 0 ≤ (p0).toInt ∧ (p0).toInt < (a_wares).toInt) ∧ ((1 : Int32).toInt = 1 ∨ (p0).toInt < 0 ∨ (a_wares).toInt ≤ (p0).toInt) from ⟨by omega, by omega, by omega⟩) [0] (by decide) rfl (by decide) (by decide) dX9_isWare_17
set_option maxHeartbeats 4000000 in
set_option maxRecDepth 100000 in
theorem c_X9_isShelf (l : Launch) (D : DG) (cyC cyI cyJ cyZ cyO : ClassId) (a0 : Nat) (a1 : Nat) (a2 : Nat) (a3 : Nat) (a4 : Nat) (a5 : Nat) (a6 : Nat) (a7 : Nat) (a8 : Nat) (a9 : Nat) (a10 : Nat) (p0 : Int32) (a_wares : Int32) (a_shelves : Int32) (a_nests : Int32) (a_lids : Int32) (a_tops : Int32) (h_a_wares : 0 ≤ (a_wares).toInt ∧ (a_wares).toInt ≤ 12) (h_a_shelves : 0 ≤ (a_shelves).toInt ∧ (a_shelves).toInt ≤ 4) (h_a_nests : 0 ≤ (a_nests).toInt ∧ (a_nests).toInt ≤ 4) : KK l D (TY cyC cyI cyJ cyZ cyO) yX9_isShelf cX9_isShelf 2 (some .boolean) ({ frames := 0, cells := 0, slots := 0, locals := 0 } : Room) 0 0 [.ref a0, .int p0] [(a0, .inr (9, [.int a_wares, .int a_shelves, .int a_nests, .ref a1, .ref a2, .ref a3, .ref a4, .ref a5, .ref a6, .int a_lids, .int a_tops, .ref a7, .ref a8, .ref a9, .ref a10]))] (fun u => some (.int (u.2.1 0))) (fun u => (0 ≤ (u.2.1 0).toInt ∧ (u.2.1 0).toInt ≤ 1) ∧ ((u.2.1 0).toInt = 0 ∨ 0 ≤ (p0).toInt ∧ (p0).toInt < (a_shelves).toInt) ∧ ((u.2.1 0).toInt = 1 ∨ (p0).toInt < 0 ∨ (a_shelves).toInt ≤ (p0).toInt)) (fun u => [(a0, .inr (9, [.int a_wares, .int a_shelves, .int a_nests, .ref a1, .ref a2, .ref a3, .ref a4, .ref a5, .ref a6, .int a_lids, .int a_tops, .ref a7, .ref a8, .ref a9, .ref a10]))]) := by
  refine KK.of (lv0 := [(0, .ref a0), (1, .int p0)]) (by decide) rfl (Nat.le_of_ble_eq_true rfl) ?_
  intro p e s m args below meth c A C hr hk hin
  refine j_iload_n (pc := 0) C dX9_isShelf_0 rfl 1 rfl ?_
  refine j_if_lt (pc := 1) (tgt := 16) C dX9_isShelf_1 (by decide) (fun c_1 => ?_) (fun c_1 => ?_)
  · skip
    have el_0 : (0 : Int32).toInt = 0 := rfl
    rw [i_lt] at c_1
    refine j_iconst (pc := 16) (v := 0) C dX9_isShelf_16 (by decide) ?_
    have el_0 : (0 : Int32).toInt = 0 := rfl
    have el_0 : (0 : Int32).toInt = 0 := rfl
    have el_0 : (0 : Int32).toInt = 0 := rfl
    exact j_zret (pc := 17) C hr rfl hk (fun i => [].getD i 0, fun i => [0].getD i 0, fun i => [].getD i (fun _ => 0), fun i => [].getD i (fun _ => 0)) rfl (show (0 ≤ ((0 : Int32)).toInt ∧ ((0 : Int32)).toInt ≤ 1) ∧ ((0 : Int32).toInt = 0 ∨ 0 ≤ (p0).toInt ∧ (p0).toInt < (a_shelves).toInt) ∧ ((0 : Int32).toInt = 1 ∨ (p0).toInt < 0 ∨ (a_shelves).toInt ≤ (p0).toInt) from ⟨by omega, by omega, by omega⟩) [0] (by decide) rfl (by decide) (by decide) dX9_isShelf_17
  · skip
    have el_0 : (0 : Int32).toInt = 0 := rfl
    rw [i_lt] at c_1
    refine j_iload_n (pc := 4) C dX9_isShelf_4 rfl 1 rfl ?_
    refine j_aload_n (pc := 5) C dX9_isShelf_5 rfl 0 rfl ?_
    refine j_get (pc := 6) (ci := 9) (v := .int a_shelves) C inw_9 0 rfl rfl 1 (by decide) wd_1 rfl rfl dX9_isShelf_6 ?_
    refine j_icmp_ge (pc := 9) (tgt := 16) C dX9_isShelf_9 (by decide) (fun c_2 => ?_) (fun c_2 => ?_)
    · skip
      rw [i_le] at c_2
      refine j_iconst (pc := 16) (v := 0) C dX9_isShelf_16 (by decide) ?_
      have el_0 : (0 : Int32).toInt = 0 := rfl
      have el_0 : (0 : Int32).toInt = 0 := rfl
      have el_0 : (0 : Int32).toInt = 0 := rfl
      exact j_zret (pc := 17) C hr rfl hk (fun i => [].getD i 0, fun i => [0].getD i 0, fun i => [].getD i (fun _ => 0), fun i => [].getD i (fun _ => 0)) rfl (show (0 ≤ ((0 : Int32)).toInt ∧ ((0 : Int32)).toInt ≤ 1) ∧ ((0 : Int32).toInt = 0 ∨ 0 ≤ (p0).toInt ∧ (p0).toInt < (a_shelves).toInt) ∧ ((0 : Int32).toInt = 1 ∨ (p0).toInt < 0 ∨ (a_shelves).toInt ≤ (p0).toInt) from ⟨by omega, by omega, by omega⟩) [0] (by decide) rfl (by decide) (by decide) dX9_isShelf_17
    · skip
      rw [i_le] at c_2
      refine j_iconst (pc := 12) (v := 1) C dX9_isShelf_12 (by decide) ?_
      refine j_goto (pc := 13) (tgt := 17) C dX9_isShelf_13 (by decide) ?_
      have el_1 : (1 : Int32).toInt = 1 := rfl
      have el_1 : (1 : Int32).toInt = 1 := rfl
      have el_1 : (1 : Int32).toInt = 1 := rfl
      exact j_zret (pc := 17) C hr rfl hk (fun i => [].getD i 0, fun i => [1].getD i 0, fun i => [].getD i (fun _ => 0), fun i => [].getD i (fun _ => 0)) rfl (show (0 ≤ ((1 : Int32)).toInt ∧ ((1 : Int32)).toInt ≤ 1) ∧ ((1 : Int32).toInt = 0 ∨ 0 ≤ (p0).toInt ∧ (p0).toInt < (a_shelves).toInt) ∧ ((1 : Int32).toInt = 1 ∨ (p0).toInt < 0 ∨ (a_shelves).toInt ≤ (p0).toInt) from ⟨by omega, by omega, by omega⟩) [0] (by decide) rfl (by decide) (by decide) dX9_isShelf_17
set_option maxHeartbeats 4000000 in
set_option maxRecDepth 100000 in
theorem c_X7_isOut (l : Launch) (D : DG) (cyC cyI cyJ cyZ cyO : ClassId) (n0 : Nat) (n1 : Nat) (n2 : Nat) (n3 : Nat) (n4 : Nat) (p0 : Int32) (n_askings : Int32) (n_cost : Int32) (n_laid : Int32) (n_shelf : Nat → Int32) (h_n_askings : 0 ≤ (n_askings).toInt ∧ (n_askings).toInt ≤ 30) (h_n_laid : 0 ≤ (n_laid).toInt ∧ (n_laid).toInt ≤ 1) (h_p0 : 0 ≤ (p0).toInt ∧ (p0).toInt ≤ 11) (h_n_shelf : Iv 12 (-1) (3) n_shelf) : KK l D (TY cyC cyI cyJ cyZ cyO) yX7_isOut cX7_isOut 2 (some .boolean) ({ frames := 0, cells := 0, slots := 0, locals := 0 } : Room) 0 0 [.ref n0, .int p0] [(n0, .inr (7, [.ref n1, .ref n2, .ref n3, .ref n4, .int n_askings, .int n_cost, .int n_laid])), (n1, .inl (cyI, 12, .inl n_shelf))] (fun u => some (.int (u.2.1 0))) (fun u => (0 ≤ (u.2.1 0).toInt ∧ (u.2.1 0).toInt ≤ 1) ∧ ((u.2.1 0).toInt = 0 ∨ n_shelf (p0).toInt.toNat = -1) ∧ ((u.2.1 0).toInt = 1 ∨ 0 ≤ (n_shelf (p0).toInt.toNat).toInt)) (fun u => [(n0, .inr (7, [.ref n1, .ref n2, .ref n3, .ref n4, .int n_askings, .int n_cost, .int n_laid])), (n1, .inl (cyI, 12, .inl n_shelf))]) := by
  refine KK.of (lv0 := [(0, .ref n0), (1, .int p0)]) (by decide) rfl (Nat.le_of_ble_eq_true rfl) ?_
  intro p e s m args below meth c A C hr hk hin
  refine j_aload_n (pc := 0) C dX7_isOut_0 rfl 0 rfl ?_
  refine j_get (pc := 1) (ci := 7) (v := .ref n1) C inw_7 0 rfl rfl 0 (by decide) wd_2 rfl rfl dX7_isOut_1 ?_
  refine j_iload_n (pc := 4) C dX7_isOut_4 rfl 1 rfl ?_
  obtain ⟨v_1, ev_1⟩ : ∃ z, n_shelf (p0).toInt.toNat = z := ⟨_, rfl⟩
  have env_1 : (n_shelf (p0).toInt.toNat).toInt = v_1.toInt := by rw [ev_1]
  have hv_1 := h_n_shelf (p0).toInt.toNat (i_lt_n h_p0.1 (Int.lt_of_le_of_lt h_p0.2 (by decide))); rw [ev_1] at hv_1
  refine j_iald (pc := 5) (v := v_1) (k := (p0).toInt.toNat) C 1 1 rfl rfl (i_nn h_p0.1) rfl (i_lt_n h_p0.1 (Int.lt_of_le_of_lt h_p0.2 (by decide))) ev_1 dX7_isOut_5 ?_
  refine j_iconst (pc := 6) (v := (-1)) C dX7_isOut_6 (by decide) ?_
  refine j_icmp_ne (pc := 7) (tgt := 14) C dX7_isOut_7 (by decide) (fun c_2 => ?_) (fun c_2 => ?_)
  · skip
    have el_m1 : ((-1) : Int32).toInt = (-1) := rfl
    rw [i_eq] at c_2
    refine j_iconst (pc := 14) (v := 0) C dX7_isOut_14 (by decide) ?_
    have el_0 : (0 : Int32).toInt = 0 := rfl
    have el_0 : (0 : Int32).toInt = 0 := rfl
    have el_0 : (0 : Int32).toInt = 0 := rfl
    exact j_zret (pc := 15) C hr rfl hk (fun i => [].getD i 0, fun i => [0].getD i 0, fun i => [].getD i (fun _ => 0), fun i => [].getD i (fun _ => 0)) rfl (show (0 ≤ ((0 : Int32)).toInt ∧ ((0 : Int32)).toInt ≤ 1) ∧ ((0 : Int32).toInt = 0 ∨ n_shelf (p0).toInt.toNat = -1) ∧ ((0 : Int32).toInt = 1 ∨ 0 ≤ (n_shelf (p0).toInt.toNat).toInt) from ⟨by omega, by omega, by omega⟩) [0, 1] (by decide) rfl (by decide) (by decide) dX7_isOut_15
  · skip
    have el_m1 : ((-1) : Int32).toInt = (-1) := rfl
    rw [i_eq] at c_2
    refine j_iconst (pc := 10) (v := 1) C dX7_isOut_10 (by decide) ?_
    refine j_goto (pc := 11) (tgt := 15) C dX7_isOut_11 (by decide) ?_
    have el_1 : (1 : Int32).toInt = 1 := rfl
    have el_1 : (1 : Int32).toInt = 1 := rfl
    have el_1 : (1 : Int32).toInt = 1 := rfl
    exact j_zret (pc := 15) C hr rfl hk (fun i => [].getD i 0, fun i => [1].getD i 0, fun i => [].getD i (fun _ => 0), fun i => [].getD i (fun _ => 0)) rfl (show (0 ≤ ((1 : Int32)).toInt ∧ ((1 : Int32)).toInt ≤ 1) ∧ ((1 : Int32).toInt = 0 ∨ n_shelf (p0).toInt.toNat = -1) ∧ ((1 : Int32).toInt = 1 ∨ 0 ≤ (n_shelf (p0).toInt.toNat).toInt) from ⟨by omega, Or.inr (ev_1.trans ((i_eq _ _).mpr (by omega))), by omega⟩) [0, 1] (by decide) rfl (by decide) (by decide) dX7_isOut_15
set_option maxHeartbeats 4000000 in
set_option maxRecDepth 100000 in
theorem c_X7_stands (l : Launch) (D : DG) (cyC cyI cyJ cyZ cyO : ClassId) (n0 : Nat) (n1 : Nat) (n2 : Nat) (n3 : Nat) (n4 : Nat) (p0 : Int32) (p1 : Int32) (p2 : Int32) (n_askings : Int32) (n_cost : Int32) (n_laid : Int32) (n_shelf : Nat → Int32) (n_stack : Nat → Int32) (h_n_askings : 0 ≤ (n_askings).toInt ∧ (n_askings).toInt ≤ 30) (h_n_laid : 0 ≤ (n_laid).toInt ∧ (n_laid).toInt ≤ 1) (h_p0 : 0 ≤ (p0).toInt ∧ (p0).toInt ≤ 11) (h_n_shelf : Iv 12 (-1) (3) n_shelf) (h_n_stack : Iv 12 (0) (7) n_stack) : KK l D (TY cyC cyI cyJ cyZ cyO) yX7_stands cX7_stands 4 (some .boolean) ({ frames := 0, cells := 0, slots := 0, locals := 0 } : Room) 0 0 [.ref n0, .int p0, .int p1, .int p2] [(n0, .inr (7, [.ref n1, .ref n2, .ref n3, .ref n4, .int n_askings, .int n_cost, .int n_laid])), (n1, .inl (cyI, 12, .inl n_shelf)), (n2, .inl (cyI, 12, .inl n_stack))] (fun u => some (.int (u.2.1 0))) (fun u => (0 ≤ (u.2.1 0).toInt ∧ (u.2.1 0).toInt ≤ 1) ∧ ((u.2.1 0).toInt = 1 ∨ ¬ n_shelf (p0).toInt.toNat = p1 ∨ ¬ n_stack (p0).toInt.toNat = p2) ∧ ((u.2.1 0).toInt = 0 ∨ n_shelf (p0).toInt.toNat = p1 ∧ n_stack (p0).toInt.toNat = p2)) (fun u => [(n0, .inr (7, [.ref n1, .ref n2, .ref n3, .ref n4, .int n_askings, .int n_cost, .int n_laid])), (n1, .inl (cyI, 12, .inl n_shelf)), (n2, .inl (cyI, 12, .inl n_stack))]) := by
  refine KK.of (lv0 := [(0, .ref n0), (1, .int p0), (2, .int p1), (3, .int p2)]) (by decide) rfl (Nat.le_of_ble_eq_true rfl) ?_
  intro p e s m args below meth c A C hr hk hin
  refine j_aload_n (pc := 0) C dX7_stands_0 rfl 0 rfl ?_
  refine j_get (pc := 1) (ci := 7) (v := .ref n1) C inw_7 0 rfl rfl 0 (by decide) wd_2 rfl rfl dX7_stands_1 ?_
  refine j_iload_n (pc := 4) C dX7_stands_4 rfl 1 rfl ?_
  obtain ⟨v_1, ev_1⟩ : ∃ z, n_shelf (p0).toInt.toNat = z := ⟨_, rfl⟩
  have env_1 : (n_shelf (p0).toInt.toNat).toInt = v_1.toInt := by rw [ev_1]
  have hv_1 := h_n_shelf (p0).toInt.toNat (i_lt_n h_p0.1 (Int.lt_of_le_of_lt h_p0.2 (by decide))); rw [ev_1] at hv_1
  refine j_iald (pc := 5) (v := v_1) (k := (p0).toInt.toNat) C 1 1 rfl rfl (i_nn h_p0.1) rfl (i_lt_n h_p0.1 (Int.lt_of_le_of_lt h_p0.2 (by decide))) ev_1 dX7_stands_5 ?_
  refine j_iload_n (pc := 6) C dX7_stands_6 rfl 2 rfl ?_
  refine j_icmp_ne (pc := 7) (tgt := 24) C dX7_stands_7 (by decide) (fun c_2 => ?_) (fun c_2 => ?_)
  · skip
    rw [i_eq] at c_2
    refine j_iconst (pc := 24) (v := 0) C dX7_stands_24 (by decide) ?_
    have el_0 : (0 : Int32).toInt = 0 := rfl
    have el_0 : (0 : Int32).toInt = 0 := rfl
    have el_0 : (0 : Int32).toInt = 0 := rfl
    exact j_zret (pc := 25) C hr rfl hk (fun i => [].getD i 0, fun i => [0].getD i 0, fun i => [].getD i (fun _ => 0), fun i => [].getD i (fun _ => 0)) rfl (show (0 ≤ ((0 : Int32)).toInt ∧ ((0 : Int32)).toInt ≤ 1) ∧ ((0 : Int32).toInt = 1 ∨ ¬ n_shelf (p0).toInt.toNat = p1 ∨ ¬ n_stack (p0).toInt.toNat = p2) ∧ ((0 : Int32).toInt = 0 ∨ n_shelf (p0).toInt.toNat = p1 ∧ n_stack (p0).toInt.toNat = p2) from ⟨by omega, Or.inr (Or.inl (fun h => c_2 (by rw [← ev_1, h]))), by omega⟩) [0, 1, 2] (by decide) rfl (by decide) (by decide) dX7_stands_25
  · skip
    rw [i_eq] at c_2
    refine j_aload_n (pc := 10) C dX7_stands_10 rfl 0 rfl ?_
    refine j_get (pc := 11) (ci := 7) (v := .ref n2) C inw_7 0 rfl rfl 1 (by decide) wd_3 rfl rfl dX7_stands_11 ?_
    refine j_iload_n (pc := 14) C dX7_stands_14 rfl 1 rfl ?_
    obtain ⟨v_3, ev_3⟩ : ∃ z, n_stack (p0).toInt.toNat = z := ⟨_, rfl⟩
    have env_3 : (n_stack (p0).toInt.toNat).toInt = v_3.toInt := by rw [ev_3]
    have hv_3 := h_n_stack (p0).toInt.toNat (i_lt_n h_p0.1 (Int.lt_of_le_of_lt h_p0.2 (by decide))); rw [ev_3] at hv_3
    refine j_iald (pc := 15) (v := v_3) (k := (p0).toInt.toNat) C 2 1 rfl rfl (i_nn h_p0.1) rfl (i_lt_n h_p0.1 (Int.lt_of_le_of_lt h_p0.2 (by decide))) ev_3 dX7_stands_15 ?_
    refine j_iload_n (pc := 16) C dX7_stands_16 rfl 3 rfl ?_
    refine j_icmp_ne (pc := 17) (tgt := 24) C dX7_stands_17 (by decide) (fun c_4 => ?_) (fun c_4 => ?_)
    · skip
      rw [i_eq] at c_4
      refine j_iconst (pc := 24) (v := 0) C dX7_stands_24 (by decide) ?_
      have el_0 : (0 : Int32).toInt = 0 := rfl
      have el_0 : (0 : Int32).toInt = 0 := rfl
      have el_0 : (0 : Int32).toInt = 0 := rfl
      exact j_zret (pc := 25) C hr rfl hk (fun i => [].getD i 0, fun i => [0].getD i 0, fun i => [].getD i (fun _ => 0), fun i => [].getD i (fun _ => 0)) rfl (show (0 ≤ ((0 : Int32)).toInt ∧ ((0 : Int32)).toInt ≤ 1) ∧ ((0 : Int32).toInt = 1 ∨ ¬ n_shelf (p0).toInt.toNat = p1 ∨ ¬ n_stack (p0).toInt.toNat = p2) ∧ ((0 : Int32).toInt = 0 ∨ n_shelf (p0).toInt.toNat = p1 ∧ n_stack (p0).toInt.toNat = p2) from ⟨by omega, Or.inr (Or.inr (fun h => c_4 (by rw [← ev_3, h]))), by omega⟩) [0, 1, 2] (by decide) rfl (by decide) (by decide) dX7_stands_25
    · skip
      rw [i_eq] at c_4
      refine j_iconst (pc := 20) (v := 1) C dX7_stands_20 (by decide) ?_
      refine j_goto (pc := 21) (tgt := 25) C dX7_stands_21 (by decide) ?_
      have el_1 : (1 : Int32).toInt = 1 := rfl
      have el_1 : (1 : Int32).toInt = 1 := rfl
      have el_1 : (1 : Int32).toInt = 1 := rfl
      exact j_zret (pc := 25) C hr rfl hk (fun i => [].getD i 0, fun i => [1].getD i 0, fun i => [].getD i (fun _ => 0), fun i => [].getD i (fun _ => 0)) rfl (show (0 ≤ ((1 : Int32)).toInt ∧ ((1 : Int32)).toInt ≤ 1) ∧ ((1 : Int32).toInt = 1 ∨ ¬ n_shelf (p0).toInt.toNat = p1 ∨ ¬ n_stack (p0).toInt.toNat = p2) ∧ ((1 : Int32).toInt = 0 ∨ n_shelf (p0).toInt.toNat = p1 ∧ n_stack (p0).toInt.toNat = p2) from ⟨by omega, by omega, Or.inr ⟨ev_1.trans ((i_eq _ _).mpr (by omega)), ev_3.trans ((i_eq _ _).mpr (by omega))⟩⟩) [0, 1, 2] (by decide) rfl (by decide) (by decide) dX7_stands_25
