theorem wd_4 : Cond.methodLink RX7 47 Lib.Math.max.name ∈ WALL := wl_in (by decide +kernel) (by decide +kernel)
theorem wd_5 : Cond.static Lib.Math.max.name ∈ WALL := wl_in (by decide +kernel) (by decide +kernel)
theorem wd_6 : Cond.initialized "java/lang/Math" ∈ WALL := wl_in (by decide +kernel) (by decide +kernel)
theorem wd_7 : Cond.code Lib.Math.max.name Lib.Math.max.code 2 (some .int) ∈ WALL := wl_in (by decide +kernel) (by decide +kernel)
theorem wd_8 : Cond.code yX7_stands cX7_stands 4 (some .boolean) ∈ WALL := wl_in (by decide +kernel) (by decide +kernel)
theorem wd_9 : Cond.initialized RX7 ∈ WALL := wl_in (by decide +kernel) (by decide +kernel)
theorem wd_10 : Cond.methodLink RX7 53 yX7_stands ∈ WALL := wl_in (by decide +kernel) (by decide +kernel)
theorem wd_11 : Cond.instanceMethod yX7_stands ∈ WALL := wl_in (by decide +kernel) (by decide +kernel)
theorem wd_12 : Cond.selects RX7 yX7_stands yX7_stands ∈ WALL := wl_in (by decide +kernel) (by decide +kernel)
theorem wd_13 : Cond.code yX7_isOut cX7_isOut 2 (some .boolean) ∈ WALL := wl_in (by decide +kernel) (by decide +kernel)
theorem wd_14 : Cond.methodLink RX7 43 yX7_isOut ∈ WALL := wl_in (by decide +kernel) (by decide +kernel)
theorem wd_15 : Cond.instanceMethod yX7_isOut ∈ WALL := wl_in (by decide +kernel) (by decide +kernel)
theorem wd_16 : Cond.selects RX7 yX7_isOut yX7_isOut ∈ WALL := wl_in (by decide +kernel) (by decide +kernel)
theorem wd_17 : Cond.fieldLink RX9 9 "BowlShelf$Told" "wide" "[I" ∈ WALL := wl_in (by decide +kernel) (by decide +kernel)
theorem wd_18 : Cond.fieldLink RX9 15 "BowlShelf$Told" "deep" "[I" ∈ WALL := wl_in (by decide +kernel) (by decide +kernel)
theorem wd_19 : Cond.fieldLink RX9 52 "BowlShelf$Told" "lids" "I" ∈ WALL := wl_in (by decide +kernel) (by decide +kernel)
theorem wd_20 : Cond.fieldLink RX9 18 "BowlShelf$Told" "weight" "[I" ∈ WALL := wl_in (by decide +kernel) (by decide +kernel)
theorem dX7_stacks_0 : decode cX7_stacks 0 = .ok (.iconst 0, 1) := by decide +kernel
theorem dX7_stacks_1 : decode cX7_stacks 1 = .ok (.istore_n 2, 1) := by decide +kernel
theorem dX7_stacks_2 : decode cX7_stacks 2 = .ok (.iconst 0, 1) := by decide +kernel
theorem dX7_stacks_3 : decode cX7_stacks 3 = .ok (.istore_n 3, 1) := by decide +kernel
theorem dX7_stacks_4 : decode cX7_stacks 4 = .ok (.iload_n 3, 1) := by decide +kernel
theorem dX7_stacks_5 : decode cX7_stacks 5 = .ok (.bipush 12, 2) := by decide +kernel
theorem dX7_stacks_7 : decode cX7_stacks 7 = .ok (.if_icmp .ge 32, 3) := by decide +kernel
theorem dX7_stacks_10 : decode cX7_stacks 10 = .ok (.aload_n 0, 1) := by decide +kernel
theorem dX7_stacks_11 : decode cX7_stacks 11 = .ok (.getfield 9, 3) := by decide +kernel
theorem dX7_stacks_14 : decode cX7_stacks 14 = .ok (.iload_n 3, 1) := by decide +kernel
theorem dX7_stacks_15 : decode cX7_stacks 15 = .ok (.iaload, 1) := by decide +kernel
theorem dX7_stacks_16 : decode cX7_stacks 16 = .ok (.iload_n 1, 1) := by decide +kernel
theorem dX7_stacks_17 : decode cX7_stacks 17 = .ok (.if_icmp .ne 16, 3) := by decide +kernel
theorem dX7_stacks_20 : decode cX7_stacks 20 = .ok (.iload_n 2, 1) := by decide +kernel
theorem dX7_stacks_21 : decode cX7_stacks 21 = .ok (.aload_n 0, 1) := by decide +kernel
theorem dX7_stacks_22 : decode cX7_stacks 22 = .ok (.getfield 15, 3) := by decide +kernel
theorem dX7_stacks_25 : decode cX7_stacks 25 = .ok (.iload_n 3, 1) := by decide +kernel
theorem dX7_stacks_26 : decode cX7_stacks 26 = .ok (.iaload, 1) := by decide +kernel
theorem dX7_stacks_27 : decode cX7_stacks 27 = .ok (.iconst 1, 1) := by decide +kernel
theorem dX7_stacks_28 : decode cX7_stacks 28 = .ok (.iadd, 1) := by decide +kernel
theorem dX7_stacks_29 : decode cX7_stacks 29 = .ok (.invokestatic 47, 3) := by decide +kernel
theorem dX7_stacks_32 : decode cX7_stacks 32 = .ok (.istore_n 2, 1) := by decide +kernel
theorem dX7_stacks_33 : decode cX7_stacks 33 = .ok (.iinc 3 1, 3) := by decide +kernel
theorem dX7_stacks_36 : decode cX7_stacks 36 = .ok (.goto (-32), 3) := by decide +kernel
theorem dX7_stacks_39 : decode cX7_stacks 39 = .ok (.iload_n 2, 1) := by decide +kernel
theorem dX7_stacks_40 : decode cX7_stacks 40 = .ok (.ireturn, 1) := by decide +kernel
theorem dX7_size_0 : decode cX7_size 0 = .ok (.iconst 0, 1) := by decide +kernel
theorem dX7_size_1 : decode cX7_size 1 = .ok (.istore_n 3, 1) := by decide +kernel
theorem dX7_size_2 : decode cX7_size 2 = .ok (.iconst 0, 1) := by decide +kernel
theorem dX7_size_3 : decode cX7_size 3 = .ok (.istore 4, 2) := by decide +kernel
theorem dX7_size_5 : decode cX7_size 5 = .ok (.iload 4, 2) := by decide +kernel
theorem dX7_size_7 : decode cX7_size 7 = .ok (.bipush 12, 2) := by decide +kernel
theorem dX7_size_9 : decode cX7_size 9 = .ok (.if_icmp .ge 28, 3) := by decide +kernel
theorem dX7_size_12 : decode cX7_size 12 = .ok (.iload_n 3, 1) := by decide +kernel
theorem dX7_size_13 : decode cX7_size 13 = .ok (.aload_n 0, 1) := by decide +kernel
theorem dX7_size_14 : decode cX7_size 14 = .ok (.iload 4, 2) := by decide +kernel
theorem dX7_size_16 : decode cX7_size 16 = .ok (.iload_n 1, 1) := by decide +kernel
theorem dX7_size_17 : decode cX7_size 17 = .ok (.iload_n 2, 1) := by decide +kernel
theorem dX7_size_18 : decode cX7_size 18 = .ok (.invokevirtual 53, 3) := by decide +kernel
theorem dX7_size_21 : decode cX7_size 21 = .ok (.ifCond .eq 7, 3) := by decide +kernel
theorem dX7_size_24 : decode cX7_size 24 = .ok (.iconst 1, 1) := by decide +kernel
theorem dX7_size_25 : decode cX7_size 25 = .ok (.goto 4, 3) := by decide +kernel
theorem dX7_size_28 : decode cX7_size 28 = .ok (.iconst 0, 1) := by decide +kernel
theorem dX7_size_29 : decode cX7_size 29 = .ok (.iadd, 1) := by decide +kernel
theorem dX7_size_30 : decode cX7_size 30 = .ok (.istore_n 3, 1) := by decide +kernel
theorem dX7_size_31 : decode cX7_size 31 = .ok (.iinc 4 1, 3) := by decide +kernel
theorem dX7_size_34 : decode cX7_size 34 = .ok (.goto (-29), 3) := by decide +kernel
theorem dX7_size_37 : decode cX7_size 37 = .ok (.iload_n 3, 1) := by decide +kernel
theorem dX7_size_38 : decode cX7_size 38 = .ok (.ireturn, 1) := by decide +kernel
theorem dX7_outOf_0 : decode cX7_outOf 0 = .ok (.iconst 0, 1) := by decide +kernel
theorem dX7_outOf_1 : decode cX7_outOf 1 = .ok (.istore_n 2, 1) := by decide +kernel
theorem dX7_outOf_2 : decode cX7_outOf 2 = .ok (.iconst 0, 1) := by decide +kernel
theorem dX7_outOf_3 : decode cX7_outOf 3 = .ok (.istore_n 3, 1) := by decide +kernel
theorem dX7_outOf_4 : decode cX7_outOf 4 = .ok (.iload_n 3, 1) := by decide +kernel
theorem dX7_outOf_5 : decode cX7_outOf 5 = .ok (.iload_n 1, 1) := by decide +kernel
theorem dX7_outOf_6 : decode cX7_outOf 6 = .ok (.if_icmp .ge 25, 3) := by decide +kernel
theorem dX7_outOf_9 : decode cX7_outOf 9 = .ok (.iload_n 2, 1) := by decide +kernel
theorem dX7_outOf_10 : decode cX7_outOf 10 = .ok (.aload_n 0, 1) := by decide +kernel
theorem dX7_outOf_11 : decode cX7_outOf 11 = .ok (.iload_n 3, 1) := by decide +kernel
theorem dX7_outOf_12 : decode cX7_outOf 12 = .ok (.invokevirtual 43, 3) := by decide +kernel
theorem dX7_outOf_15 : decode cX7_outOf 15 = .ok (.ifCond .eq 7, 3) := by decide +kernel
theorem dX7_outOf_18 : decode cX7_outOf 18 = .ok (.iconst 1, 1) := by decide +kernel
theorem dX7_outOf_19 : decode cX7_outOf 19 = .ok (.goto 4, 3) := by decide +kernel
theorem dX7_outOf_22 : decode cX7_outOf 22 = .ok (.iconst 0, 1) := by decide +kernel
theorem dX7_outOf_23 : decode cX7_outOf 23 = .ok (.iadd, 1) := by decide +kernel
theorem dX7_outOf_24 : decode cX7_outOf 24 = .ok (.istore_n 2, 1) := by decide +kernel
theorem dX7_outOf_25 : decode cX7_outOf 25 = .ok (.iinc 3 1, 3) := by decide +kernel
theorem dX7_outOf_28 : decode cX7_outOf 28 = .ok (.goto (-24), 3) := by decide +kernel
theorem dX7_outOf_31 : decode cX7_outOf 31 = .ok (.iload_n 2, 1) := by decide +kernel
theorem dX7_outOf_32 : decode cX7_outOf 32 = .ok (.ireturn, 1) := by decide +kernel
theorem dX9_rise_0 : decode cX9_rise 0 = .ok (.aload_n 0, 1) := by decide +kernel
theorem dX9_rise_1 : decode cX9_rise 1 = .ok (.getfield 9, 3) := by decide +kernel
theorem dX9_rise_4 : decode cX9_rise 4 = .ok (.iload_n 1, 1) := by decide +kernel
theorem dX9_rise_5 : decode cX9_rise 5 = .ok (.iaload, 1) := by decide +kernel
theorem dX9_rise_6 : decode cX9_rise 6 = .ok (.aload_n 0, 1) := by decide +kernel
theorem dX9_rise_7 : decode cX9_rise 7 = .ok (.getfield 9, 3) := by decide +kernel
theorem dX9_rise_10 : decode cX9_rise 10 = .ok (.iload_n 2, 1) := by decide +kernel
theorem dX9_rise_11 : decode cX9_rise 11 = .ok (.iaload, 1) := by decide +kernel
theorem dX9_rise_12 : decode cX9_rise 12 = .ok (.if_icmp .ge 18, 3) := by decide +kernel
theorem dX9_rise_15 : decode cX9_rise 15 = .ok (.aload_n 0, 1) := by decide +kernel
theorem dX9_rise_16 : decode cX9_rise 16 = .ok (.getfield 52, 3) := by decide +kernel
theorem dX9_rise_19 : decode cX9_rise 19 = .ok (.iload_n 2, 1) := by decide +kernel
theorem dX9_rise_20 : decode cX9_rise 20 = .ok (.iushr, 1) := by decide +kernel
theorem dX9_rise_21 : decode cX9_rise 21 = .ok (.iconst 1, 1) := by decide +kernel
theorem dX9_rise_22 : decode cX9_rise 22 = .ok (.iand, 1) := by decide +kernel
theorem dX9_rise_23 : decode cX9_rise 23 = .ok (.ifCond .ne 7, 3) := by decide +kernel
theorem dX9_rise_26 : decode cX9_rise 26 = .ok (.iconst 1, 1) := by decide +kernel
theorem dX9_rise_27 : decode cX9_rise 27 = .ok (.goto 4, 3) := by decide +kernel
theorem dX9_rise_30 : decode cX9_rise 30 = .ok (.iconst 0, 1) := by decide +kernel
theorem dX9_rise_31 : decode cX9_rise 31 = .ok (.istore_n 3, 1) := by decide +kernel
theorem dX9_rise_32 : decode cX9_rise 32 = .ok (.iload_n 3, 1) := by decide +kernel
theorem dX9_rise_33 : decode cX9_rise 33 = .ok (.ifCond .eq 7, 3) := by decide +kernel
theorem dX9_rise_36 : decode cX9_rise 36 = .ok (.iconst 1, 1) := by decide +kernel
theorem dX9_rise_37 : decode cX9_rise 37 = .ok (.goto 9, 3) := by decide +kernel
theorem dX9_rise_40 : decode cX9_rise 40 = .ok (.aload_n 0, 1) := by decide +kernel
theorem dX9_rise_41 : decode cX9_rise 41 = .ok (.getfield 15, 3) := by decide +kernel
theorem dX9_rise_44 : decode cX9_rise 44 = .ok (.iload_n 2, 1) := by decide +kernel
theorem dX9_rise_45 : decode cX9_rise 45 = .ok (.iaload, 1) := by decide +kernel
theorem dX9_rise_46 : decode cX9_rise 46 = .ok (.ireturn, 1) := by decide +kernel
theorem dX9_weightOf_0 : decode cX9_weightOf 0 = .ok (.iconst 0, 1) := by decide +kernel
theorem dX9_weightOf_1 : decode cX9_weightOf 1 = .ok (.istore_n 2, 1) := by decide +kernel
theorem dX9_weightOf_2 : decode cX9_weightOf 2 = .ok (.iconst 0, 1) := by decide +kernel
theorem dX9_weightOf_3 : decode cX9_weightOf 3 = .ok (.istore_n 3, 1) := by decide +kernel
theorem dX9_weightOf_4 : decode cX9_weightOf 4 = .ok (.iload_n 3, 1) := by decide +kernel
theorem dX9_weightOf_5 : decode cX9_weightOf 5 = .ok (.aload_n 0, 1) := by decide +kernel
theorem dX9_weightOf_6 : decode cX9_weightOf 6 = .ok (.getfield 42, 3) := by decide +kernel
theorem dX9_weightOf_9 : decode cX9_weightOf 9 = .ok (.if_icmp .ge 24, 3) := by decide +kernel
theorem dX9_weightOf_12 : decode cX9_weightOf 12 = .ok (.iload_n 2, 1) := by decide +kernel
theorem dX9_weightOf_13 : decode cX9_weightOf 13 = .ok (.iload_n 1, 1) := by decide +kernel
theorem dX9_weightOf_14 : decode cX9_weightOf 14 = .ok (.iload_n 3, 1) := by decide +kernel
theorem dX9_weightOf_15 : decode cX9_weightOf 15 = .ok (.iushr, 1) := by decide +kernel
theorem dX9_weightOf_16 : decode cX9_weightOf 16 = .ok (.iconst 1, 1) := by decide +kernel
theorem dX9_weightOf_17 : decode cX9_weightOf 17 = .ok (.iand, 1) := by decide +kernel
theorem dX9_weightOf_18 : decode cX9_weightOf 18 = .ok (.aload_n 0, 1) := by decide +kernel
theorem dX9_weightOf_19 : decode cX9_weightOf 19 = .ok (.getfield 18, 3) := by decide +kernel
theorem dX9_weightOf_22 : decode cX9_weightOf 22 = .ok (.iload_n 3, 1) := by decide +kernel
theorem dX9_weightOf_23 : decode cX9_weightOf 23 = .ok (.iaload, 1) := by decide +kernel
theorem dX9_weightOf_24 : decode cX9_weightOf 24 = .ok (.imul, 1) := by decide +kernel
theorem dX9_weightOf_25 : decode cX9_weightOf 25 = .ok (.iadd, 1) := by decide +kernel
theorem dX9_weightOf_26 : decode cX9_weightOf 26 = .ok (.istore_n 2, 1) := by decide +kernel
theorem dX9_weightOf_27 : decode cX9_weightOf 27 = .ok (.iinc 3 1, 3) := by decide +kernel
theorem dX9_weightOf_30 : decode cX9_weightOf 30 = .ok (.goto (-26), 3) := by decide +kernel
theorem dX9_weightOf_33 : decode cX9_weightOf 33 = .ok (.iload_n 2, 1) := by decide +kernel
theorem dX9_weightOf_34 : decode cX9_weightOf 34 = .ok (.ireturn, 1) := by decide +kernel
/-- how many stacks a shelf has, by the rows of shelves and stacks -/
def stF (sh st : Nat → Int32) (s : Int32) : Nat → Int32
  | 0 => 0
  | k + 1 => if sh k = s then (if stF sh st s k < st k + 1 then st k + 1 else stF sh st s k) else stF sh st s k
theorem stF_s (sh st : Nat → Int32) (s : Int32) (k : Nat) : stF sh st s (k + 1) = if sh k = s then (if stF sh st s k < st k + 1 then st k + 1 else stF sh st s k) else stF sh st s k := rfl
set_option maxHeartbeats 4000000 in
set_option maxRecDepth 100000 in
theorem c_X7_stacks (l : Launch) (D : DG) (cyC cyI cyJ cyZ cyO : ClassId) (n0 : Nat) (n1 : Nat) (n2 : Nat) (n3 : Nat) (n4 : Nat) (p0 : Int32) (n_askings : Int32) (n_cost : Int32) (n_laid : Int32) (n_shelf : Nat → Int32) (n_stack : Nat → Int32) (h_n_askings : 0 ≤ (n_askings).toInt ∧ (n_askings).toInt ≤ 30) (h_n_laid : 0 ≤ (n_laid).toInt ∧ (n_laid).toInt ≤ 1) (h_n_shelf : Iv 12 (-1) (3) n_shelf) (h_n_stack : Iv 12 (0) (7) n_stack) : KK l D (TY cyC cyI cyJ cyZ cyO) yX7_stacks cX7_stacks 4 (some .int) ({ frames := 1, cells := 0, slots := 0, locals := 13 } : Room) 0 0 [.ref n0, .int p0] [(n0, .inr (7, [.ref n1, .ref n2, .ref n3, .ref n4, .int n_askings, .int n_cost, .int n_laid])), (n1, .inl (cyI, 12, .inl n_shelf)), (n2, .inl (cyI, 12, .inl n_stack))] (fun u => some (.int (u.2.1 0))) (fun u => (0 ≤ (u.2.1 0).toInt ∧ (u.2.1 0).toInt ≤ 8) ∧ ((u.2.1 0) = stF n_shelf n_stack p0 12)) (fun u => [(n0, .inr (7, [.ref n1, .ref n2, .ref n3, .ref n4, .int n_askings, .int n_cost, .int n_laid])), (n1, .inl (cyI, 12, .inl n_shelf)), (n2, .inl (cyI, 12, .inl n_stack))]) := by
  refine KK.of (lv0 := [(0, .ref n0), (1, .int p0)]) (by decide) rfl (Nat.le_of_ble_eq_true rfl) ?_
  intro p e s m args below meth c A C hr hk hin
  refine j_iconst (pc := 0) (v := 0) C dX7_stacks_0 (by decide) ?_
  refine j_istore_n (pc := 1) (lv' := [(2, .int 0), (0, .ref n0), (1, .int p0)]) C dX7_stacks_1 rfl (by decide) rfl ?_
  refine j_iconst (pc := 2) (v := 0) C dX7_stacks_2 (by decide) ?_
  refine j_istore_n (pc := 3) (lv' := [(3, .int 0), (2, .int 0), (0, .ref n0), (1, .int p0)]) C dX7_stacks_3 rfl (by decide) rfl ?_
  have loop_1 : ∀ (k_1 : Nat) (x1_3 : Int32) (x1_2 : Int32), (0 ≤ (x1_3).toInt ∧ (x1_3).toInt ≤ 12) → (0 ≤ (x1_2).toInt ∧ (x1_2).toInt ≤ 8) → (x1_2 = stF n_shelf n_stack p0 (x1_3.toInt).toNat) → (12 - x1_3.toInt).toNat < k_1 → J p l e ({ frames := 1, cells := 0, slots := 0, locals := 13 } : Room) s m args below meth c D A 4 0 0 (QX below D (TY cyC cyI cyJ cyZ cyO) A (fun u => some (.int (u.2.1 0))) (fun u => (0 ≤ (u.2.1 0).toInt ∧ (u.2.1 0).toInt ≤ 8) ∧ ((u.2.1 0) = stF n_shelf n_stack p0 12)) (fun u => [(n0, .inr (7, [.ref n1, .ref n2, .ref n3, .ref n4, .int n_askings, .int n_cost, .int n_laid])), (n1, .inl (cyI, 12, .inl n_shelf)), (n2, .inl (cyI, 12, .inl n_stack))]) args s 0 0) [(n0, .inr (7, [.ref n1, .ref n2, .ref n3, .ref n4, .int n_askings, .int n_cost, .int n_laid])), (n1, .inl (cyI, 12, .inl n_shelf)), (n2, .inl (cyI, 12, .inl n_stack))] 4 [(3, .int x1_3), (2, .int x1_2), (0, .ref n0), (1, .int p0)] [] := by
    intro k_1
    induction k_1 with
    | zero =>
      intro x1_3 x1_2 hi_1_0 hi_1_1 hq_1_0 hm_1
      exact absurd hm_1 (Nat.not_lt_zero _)
    | succ k_1 ih_1 =>
      intro x1_3 x1_2 hi_1_0 hi_1_1 hq_1_0 hm_1
      refine j_iload_n (pc := 4) C dX7_stacks_4 rfl 0 rfl ?_
      refine j_bipush (pc := 5) (v := 12) C dX7_stacks_5 (by decide) ?_
      refine j_icmp_ge (pc := 7) (tgt := 39) C dX7_stacks_7 (by decide) (fun c_2 => ?_) (fun c_2 => ?_)
      · skip
        have el_12 : (12 : Int32).toInt = 12 := rfl
        rw [i_le] at c_2
        have k0c_2 : x1_3.toInt = 12 := by omega
        refine j_iload_n (pc := 39) C dX7_stacks_39 rfl 1 rfl ?_
        exact j_iret (pc := 40) C hr hk (fun i => [].getD i 0, fun i => [x1_2].getD i 0, fun i => [].getD i (fun _ => 0), fun i => [].getD i (fun _ => 0)) rfl (show (0 ≤ (x1_2).toInt ∧ (x1_2).toInt ≤ 8) ∧ (x1_2 = stF n_shelf n_stack p0 12) from ⟨hi_1_1, by have e : (x1_3.toInt).toNat = 12 := (by omega); rw [← e]; exact hq_1_0⟩) [0, 1, 2] (by decide) rfl (by decide) (by decide) dX7_stacks_40
      · skip
        have el_12 : (12 : Int32).toInt = 12 := rfl
        rw [i_le] at c_2
        refine j_aload_n (pc := 10) C dX7_stacks_10 rfl 2 rfl ?_
        refine j_get (pc := 11) (ci := 7) (v := .ref n1) C inw_7 0 rfl rfl 0 (by decide) wd_2 rfl rfl dX7_stacks_11 ?_
        refine j_iload_n (pc := 14) C dX7_stacks_14 rfl 0 rfl ?_
        obtain ⟨v_3, ev_3⟩ : ∃ z, n_shelf (x1_3).toInt.toNat = z := ⟨_, rfl⟩
        have env_3 : (n_shelf (x1_3).toInt.toNat).toInt = v_3.toInt := by rw [ev_3]
        have hv_3 := h_n_shelf (x1_3).toInt.toNat (i_lt_n hi_1_0.1 (by omega)); rw [ev_3] at hv_3
        refine j_iald (pc := 15) (v := v_3) (k := (x1_3).toInt.toNat) C 1 1 rfl rfl (i_nn hi_1_0.1) rfl (i_lt_n hi_1_0.1 (by omega)) ev_3 dX7_stacks_15 ?_
        refine j_iload_n (pc := 16) C dX7_stacks_16 rfl 3 rfl ?_
        refine j_icmp_ne (pc := 17) (tgt := 33) C dX7_stacks_17 (by decide) (fun c_4 => ?_) (fun c_4 => ?_)
        · skip
          rw [i_eq] at c_4
          obtain ⟨v_5, ev_5⟩ : ∃ z : Int32, x1_3 + 1 = z := ⟨_, rfl⟩
          have el_1 : (1 : Int32).toInt = 1 := rfl
          have hv_5 : v_5.toInt = x1_3.toInt + (1 : Int32).toInt := by rw [← ev_5]; exact fb_addI (by omega) (by omega)
          refine j_iinc (pc := 33) (v := v_5) (lv' := [(3, .int v_5), (2, .int x1_2), (0, .ref n0), (1, .int p0)]) C dX7_stacks_33 0 rfl ev_5 (by decide) rfl ?_
          refine j_goto (pc := 36) (tgt := 4) C dX7_stacks_36 (by decide) ?_
          exact j_lv [0, 1, 2, 3] rfl (ih_1 v_5 x1_2 (by omega) hi_1_1 (by have e : (v_5.toInt).toNat = (x1_3.toInt).toNat + 1 := (by omega); rw [e, stF_s]; rw [if_neg (fun h => c_4 (by rw [← ev_3, h]))]; exact hq_1_0) (by omega))
        · skip
          rw [i_eq] at c_4
          refine j_iload_n (pc := 20) C dX7_stacks_20 rfl 1 rfl ?_
          refine j_aload_n (pc := 21) C dX7_stacks_21 rfl 2 rfl ?_
          refine j_get (pc := 22) (ci := 7) (v := .ref n2) C inw_7 0 rfl rfl 1 (by decide) wd_3 rfl rfl dX7_stacks_22 ?_
          refine j_iload_n (pc := 25) C dX7_stacks_25 rfl 0 rfl ?_
          obtain ⟨v_6, ev_6⟩ : ∃ z, n_stack (x1_3).toInt.toNat = z := ⟨_, rfl⟩
          have env_6 : (n_stack (x1_3).toInt.toNat).toInt = v_6.toInt := by rw [ev_6]
          have hv_6 := h_n_stack (x1_3).toInt.toNat (i_lt_n hi_1_0.1 (by omega)); rw [ev_6] at hv_6
          refine j_iald (pc := 26) (v := v_6) (k := (x1_3).toInt.toNat) C 2 1 rfl rfl (i_nn hi_1_0.1) rfl (i_lt_n hi_1_0.1 (by omega)) ev_6 dX7_stacks_26 ?_
          refine j_iconst (pc := 27) (v := 1) C dX7_stacks_27 (by decide) ?_
          obtain ⟨v_7, ev_7⟩ : ∃ z : Int32, v_6 + 1 = z := ⟨_, rfl⟩
          have el_1 : (1 : Int32).toInt = 1 := rfl
          have hv_7 : v_7.toInt = v_6.toInt + (1 : Int32).toInt := by rw [← ev_7]; exact fb_addI (by omega) (by omega)
          refine j_iadd (pc := 28) (v := v_7) C dX7_stacks_28 ev_7 ?_
          obtain ⟨v_8, ev_8⟩ : ∃ z : Int32, (if (x1_2 : Int32) < v_7 then v_7 else x1_2) = z := ⟨_, rfl⟩
          have hv_8 : v_8.toInt = max x1_2.toInt v_7.toInt := by rw [← ev_8]; exact mmax_I _ _
          refine j_mmax (pc := 29) (v := v_8) C wd_4 wd_5 wd_6 wd_7 (by decide) (Nat.le_of_ble_eq_true rfl) (by decide) (by decide) ev_8 dX7_stacks_29 ?_
          refine j_istore_n (pc := 32) (lv' := [(2, .int v_8), (3, .int x1_3), (0, .ref n0), (1, .int p0)]) C dX7_stacks_32 rfl (by decide) rfl ?_
          obtain ⟨v_9, ev_9⟩ : ∃ z : Int32, x1_3 + 1 = z := ⟨_, rfl⟩
          have el_1 : (1 : Int32).toInt = 1 := rfl
          have hv_9 : v_9.toInt = x1_3.toInt + (1 : Int32).toInt := by rw [← ev_9]; exact fb_addI (by omega) (by omega)
          refine j_iinc (pc := 33) (v := v_9) (lv' := [(3, .int v_9), (2, .int v_8), (0, .ref n0), (1, .int p0)]) C dX7_stacks_33 1 rfl ev_9 (by decide) rfl ?_
          refine j_goto (pc := 36) (tgt := 4) C dX7_stacks_36 (by decide) ?_
          exact j_lv [0, 1, 2, 3] rfl (ih_1 v_9 v_8 (by omega) (by omega) (by have e : (v_9.toInt).toNat = (x1_3.toInt).toNat + 1 := (by omega); rw [e, stF_s]; rw [if_pos (ev_3.trans ((i_eq _ _).mpr (by omega))), ← hq_1_0, ev_6, ev_7]; exact ev_8.symm) (by omega))
  have el_0 : (0 : Int32).toInt = 0 := rfl
  have el_0 : (0 : Int32).toInt = 0 := rfl
  exact j_lv [0, 1, 2, 3] rfl (loop_1 4096 0 0 (by decide) (by decide) rfl (by omega))
set_option maxHeartbeats 4000000 in
set_option maxRecDepth 100000 in
theorem c_X7_size (l : Launch) (D : DG) (cyC cyI cyJ cyZ cyO : ClassId) (n0 : Nat) (n1 : Nat) (n2 : Nat) (n3 : Nat) (n4 : Nat) (p0 : Int32) (p1 : Int32) (n_askings : Int32) (n_cost : Int32) (n_laid : Int32) (n_shelf : Nat → Int32) (n_stack : Nat → Int32) (h_n_askings : 0 ≤ (n_askings).toInt ∧ (n_askings).toInt ≤ 30) (h_n_laid : 0 ≤ (n_laid).toInt ∧ (n_laid).toInt ≤ 1) (h_n_shelf : Iv 12 (-1) (3) n_shelf) (h_n_stack : Iv 12 (0) (7) n_stack) : KK l D (TY cyC cyI cyJ cyZ cyO) yX7_size cX7_size 5 (some .int) ({ frames := 1, cells := 0, slots := 0, locals := 23 } : Room) 0 0 [.ref n0, .int p0, .int p1] [(n0, .inr (7, [.ref n1, .ref n2, .ref n3, .ref n4, .int n_askings, .int n_cost, .int n_laid])), (n1, .inl (cyI, 12, .inl n_shelf)), (n2, .inl (cyI, 12, .inl n_stack))] (fun u => some (.int (u.2.1 0))) (fun u => (0 ≤ (u.2.1 0).toInt ∧ (u.2.1 0).toInt ≤ 12) ∧ ((u.2.1 0).toInt = ((cnB (std n_shelf n_stack p0 p1) 12 : Nat) : Int))) (fun u => [(n0, .inr (7, [.ref n1, .ref n2, .ref n3, .ref n4, .int n_askings, .int n_cost, .int n_laid])), (n1, .inl (cyI, 12, .inl n_shelf)), (n2, .inl (cyI, 12, .inl n_stack))]) := by
  refine KK.of (lv0 := [(0, .ref n0), (1, .int p0), (2, .int p1)]) (by decide) rfl (Nat.le_of_ble_eq_true rfl) ?_
  intro p e s m args below meth c A C hr hk hin
  refine j_iconst (pc := 0) (v := 0) C dX7_size_0 (by decide) ?_
  refine j_istore_n (pc := 1) (lv' := [(3, .int 0), (0, .ref n0), (1, .int p0), (2, .int p1)]) C dX7_size_1 rfl (by decide) rfl ?_
  refine j_iconst (pc := 2) (v := 0) C dX7_size_2 (by decide) ?_
  refine j_istore (pc := 3) (lv' := [(4, .int 0), (3, .int 0), (0, .ref n0), (1, .int p0), (2, .int p1)]) C dX7_size_3 (by decide) rfl ?_
  have loop_1 : ∀ (k_1 : Nat) (x1_4 : Int32) (x1_3 : Int32), (0 ≤ (x1_4).toInt ∧ (x1_4).toInt ≤ 12) → (0 ≤ (x1_3).toInt ∧ (x1_3).toInt ≤ 12) → (x1_3.toInt ≤ x1_4.toInt) → (x1_3.toInt = ((cnB (std n_shelf n_stack p0 p1) (x1_4.toInt).toNat : Nat) : Int)) → (12 - x1_4.toInt).toNat < k_1 → J p l e ({ frames := 1, cells := 0, slots := 0, locals := 23 } : Room) s m args below meth c D A 5 0 0 (QX below D (TY cyC cyI cyJ cyZ cyO) A (fun u => some (.int (u.2.1 0))) (fun u => (0 ≤ (u.2.1 0).toInt ∧ (u.2.1 0).toInt ≤ 12) ∧ ((u.2.1 0).toInt = ((cnB (std n_shelf n_stack p0 p1) 12 : Nat) : Int))) (fun u => [(n0, .inr (7, [.ref n1, .ref n2, .ref n3, .ref n4, .int n_askings, .int n_cost, .int n_laid])), (n1, .inl (cyI, 12, .inl n_shelf)), (n2, .inl (cyI, 12, .inl n_stack))]) args s 0 0) [(n0, .inr (7, [.ref n1, .ref n2, .ref n3, .ref n4, .int n_askings, .int n_cost, .int n_laid])), (n1, .inl (cyI, 12, .inl n_shelf)), (n2, .inl (cyI, 12, .inl n_stack))] 5 [(4, .int x1_4), (3, .int x1_3), (0, .ref n0), (1, .int p0), (2, .int p1)] [] := by
    intro k_1
    induction k_1 with
    | zero =>
      intro x1_4 x1_3 hi_1_0 hi_1_1 hr_1 hq_1_0 hm_1
      exact absurd hm_1 (Nat.not_lt_zero _)
    | succ k_1 ih_1 =>
      intro x1_4 x1_3 hi_1_0 hi_1_1 hr_1 hq_1_0 hm_1
      refine j_iload (pc := 5) C dX7_size_5 0 rfl ?_
      refine j_bipush (pc := 7) (v := 12) C dX7_size_7 (by decide) ?_
      refine j_icmp_ge (pc := 9) (tgt := 37) C dX7_size_9 (by decide) (fun c_2 => ?_) (fun c_2 => ?_)
      · skip
        have el_12 : (12 : Int32).toInt = 12 := rfl
        rw [i_le] at c_2
        have k0c_2 : x1_4.toInt = 12 := by omega
        refine j_iload_n (pc := 37) C dX7_size_37 rfl 1 rfl ?_
        exact j_iret (pc := 38) C hr hk (fun i => [].getD i 0, fun i => [x1_3].getD i 0, fun i => [].getD i (fun _ => 0), fun i => [].getD i (fun _ => 0)) rfl (show (0 ≤ (x1_3).toInt ∧ (x1_3).toInt ≤ 12) ∧ (x1_3.toInt = ((cnB (std n_shelf n_stack p0 p1) 12 : Nat) : Int)) from ⟨hi_1_1, (by rw [show (12 : Nat) = (x1_4).toInt.toNat from (by omega)]; exact hq_1_0)⟩) [0, 1, 2] (by decide) rfl (by decide) (by decide) dX7_size_38
      · skip
        have el_12 : (12 : Int32).toInt = 12 := rfl
        rw [i_le] at c_2
        refine j_iload_n (pc := 12) C dX7_size_12 rfl 1 rfl ?_
        refine j_aload_n (pc := 13) C dX7_size_13 rfl 2 rfl ?_
        refine j_iload (pc := 14) C dX7_size_14 0 rfl ?_
        refine j_iload_n (pc := 16) C dX7_size_16 rfl 3 rfl ?_
        refine j_iload_n (pc := 17) C dX7_size_17 rfl 4 rfl ?_
        refine j_callV (pc := 18) (As := [.int x1_4, .int p0, .int p1]) (rest := [.int x1_3]) (wr := []) C (c_X7_stands l D cyC cyI cyJ cyZ cyO n0 n1 n2 n3 n4 x1_4 p0 p1 n_askings n_cost n_laid n_shelf n_stack h_n_askings h_n_laid (by omega) h_n_shelf h_n_stack) wd_8 wd_9 wd_10 wd_11 wd_12 ⟨by decide, by decide, rfl⟩ rfl ⟨rfl, rfl, by decide, by decide⟩ ⟨by decide, by decide⟩ [0, 1, 2] [] rfl rfl ⟨by decide, by decide, by decide⟩ 0 rfl rfl rfl (Nat.le_of_ble_eq_true rfl) dX7_size_18 (fun u_3 hw_4 => ?_)
        refine j_eq (ws2 := [(n0, .inr (7, [.ref n1, .ref n2, .ref n3, .ref n4, .int n_askings, .int n_cost, .int n_laid])), (n1, .inl (cyI, 12, .inl n_shelf)), (n2, .inl (cyI, 12, .inl n_stack))]) (pc2 := 21) (lv2 := [(4, .int x1_4), (3, .int x1_3), (0, .ref n0), (1, .int p0), (2, .int p1)]) (st2 := [.int (u_3.2.1 0), .int x1_3]) rfl rfl rfl rfl ?_
        obtain ⟨hw_4_0, hw_4_1, hw_4_2⟩ := hw_4
        refine j_if_eq (pc := 21) (tgt := 28) C dX7_size_21 (by decide) (fun c_5 => ?_) (fun c_5 => ?_)
        · skip
          have el_0 : (0 : Int32).toInt = 0 := rfl
          rw [i_eq] at c_5
          refine j_iconst (pc := 28) (v := 0) C dX7_size_28 (by decide) ?_
          obtain ⟨v_6, ev_6⟩ : ∃ z : Int32, x1_3 + 0 = z := ⟨_, rfl⟩
          have el_0 : (0 : Int32).toInt = 0 := rfl
          have hv_6 : v_6.toInt = x1_3.toInt + (0 : Int32).toInt := by rw [← ev_6]; exact fb_addI (by omega) (by omega)
          refine j_iadd (pc := 29) (v := v_6) C dX7_size_29 ev_6 ?_
          refine j_istore_n (pc := 30) (lv' := [(3, .int v_6), (4, .int x1_4), (0, .ref n0), (1, .int p0), (2, .int p1)]) C dX7_size_30 rfl (by decide) rfl ?_
          obtain ⟨v_7, ev_7⟩ : ∃ z : Int32, x1_4 + 1 = z := ⟨_, rfl⟩
          have el_1 : (1 : Int32).toInt = 1 := rfl
          have hv_7 : v_7.toInt = x1_4.toInt + (1 : Int32).toInt := by rw [← ev_7]; exact fb_addI (by omega) (by omega)
          refine j_iinc (pc := 31) (v := v_7) (lv' := [(4, .int v_7), (3, .int v_6), (0, .ref n0), (1, .int p0), (2, .int p1)]) C dX7_size_31 1 rfl ev_7 (by decide) rfl ?_
          refine j_goto (pc := 34) (tgt := 5) C dX7_size_34 (by decide) ?_
          exact j_lv [0, 1, 2, 3, 4] rfl (ih_1 v_7 v_6 (by omega) (by omega) (by omega) (by rw [show (v_7.toInt).toNat = (x1_4).toInt.toNat + 1 from (by omega), cnB_n (P := (std n_shelf n_stack p0 p1)) (j := (x1_4).toInt.toNat) (fun z => by have y9 := std_iff.mp z; rcases hw_4_1 with h | h | h; omega; exact h y9.1; exact h y9.2)]; omega) (by omega))
        · skip
          have el_0 : (0 : Int32).toInt = 0 := rfl
          rw [i_eq] at c_5
          have k0c_5 : ((u_3.2.1 0)).toInt = 1 := by omega
          refine j_iconst (pc := 24) (v := 1) C dX7_size_24 (by decide) ?_
          refine j_goto (pc := 25) (tgt := 29) C dX7_size_25 (by decide) ?_
          obtain ⟨v_8, ev_8⟩ : ∃ z : Int32, x1_3 + 1 = z := ⟨_, rfl⟩
          have el_1 : (1 : Int32).toInt = 1 := rfl
          have hv_8 : v_8.toInt = x1_3.toInt + (1 : Int32).toInt := by rw [← ev_8]; exact fb_addI (by omega) (by omega)
          refine j_iadd (pc := 29) (v := v_8) C dX7_size_29 ev_8 ?_
          refine j_istore_n (pc := 30) (lv' := [(3, .int v_8), (4, .int x1_4), (0, .ref n0), (1, .int p0), (2, .int p1)]) C dX7_size_30 rfl (by decide) rfl ?_
          obtain ⟨v_9, ev_9⟩ : ∃ z : Int32, x1_4 + 1 = z := ⟨_, rfl⟩
          have el_1 : (1 : Int32).toInt = 1 := rfl
          have hv_9 : v_9.toInt = x1_4.toInt + (1 : Int32).toInt := by rw [← ev_9]; exact fb_addI (by omega) (by omega)
          refine j_iinc (pc := 31) (v := v_9) (lv' := [(4, .int v_9), (3, .int v_8), (0, .ref n0), (1, .int p0), (2, .int p1)]) C dX7_size_31 1 rfl ev_9 (by decide) rfl ?_
          refine j_goto (pc := 34) (tgt := 5) C dX7_size_34 (by decide) ?_
          exact j_lv [0, 1, 2, 3, 4] rfl (ih_1 v_9 v_8 (by omega) (by omega) (by omega) (by rw [show (v_9.toInt).toNat = (x1_4).toInt.toNat + 1 from (by omega), cnB_y (P := (std n_shelf n_stack p0 p1)) (j := (x1_4).toInt.toNat) (std_iff.mpr (by rcases hw_4_2 with h | h; (exfalso; omega); exact h))]; omega) (by omega))
  have el_0 : (0 : Int32).toInt = 0 := rfl
  have el_0 : (0 : Int32).toInt = 0 := rfl
  exact j_lv [0, 1, 2, 3, 4] rfl (loop_1 4096 0 0 (by decide) (by decide) (by omega) rfl (by omega))
set_option maxHeartbeats 4000000 in
set_option maxRecDepth 100000 in
theorem c_X7_outOf (l : Launch) (D : DG) (cyC cyI cyJ cyZ cyO : ClassId) (n0 : Nat) (n1 : Nat) (n2 : Nat) (n3 : Nat) (n4 : Nat) (p0 : Int32) (n_askings : Int32) (n_cost : Int32) (n_laid : Int32) (n_shelf : Nat → Int32) (h_n_askings : 0 ≤ (n_askings).toInt ∧ (n_askings).toInt ≤ 30) (h_n_laid : 0 ≤ (n_laid).toInt ∧ (n_laid).toInt ≤ 1) (h_p0 : 0 ≤ (p0).toInt ∧ (p0).toInt ≤ 12) (h_n_shelf : Iv 12 (-1) (3) n_shelf) : KK l D (TY cyC cyI cyJ cyZ cyO) yX7_outOf cX7_outOf 4 (some .int) ({ frames := 1, cells := 0, slots := 0, locals := 21 } : Room) 0 0 [.ref n0, .int p0] [(n0, .inr (7, [.ref n1, .ref n2, .ref n3, .ref n4, .int n_askings, .int n_cost, .int n_laid])), (n1, .inl (cyI, 12, .inl n_shelf))] (fun u => some (.int (u.2.1 0))) (fun u => (0 ≤ (u.2.1 0).toInt ∧ (u.2.1 0).toInt ≤ 12) ∧ ((u.2.1 0).toInt = ((cnB (oT n_shelf) (p0).toInt.toNat : Nat) : Int))) (fun u => [(n0, .inr (7, [.ref n1, .ref n2, .ref n3, .ref n4, .int n_askings, .int n_cost, .int n_laid])), (n1, .inl (cyI, 12, .inl n_shelf))]) := by
  refine KK.of (lv0 := [(0, .ref n0), (1, .int p0)]) (by decide) rfl (Nat.le_of_ble_eq_true rfl) ?_
  intro p e s m args below meth c A C hr hk hin
  refine j_iconst (pc := 0) (v := 0) C dX7_outOf_0 (by decide) ?_
  refine j_istore_n (pc := 1) (lv' := [(2, .int 0), (0, .ref n0), (1, .int p0)]) C dX7_outOf_1 rfl (by decide) rfl ?_
  refine j_iconst (pc := 2) (v := 0) C dX7_outOf_2 (by decide) ?_
  refine j_istore_n (pc := 3) (lv' := [(3, .int 0), (2, .int 0), (0, .ref n0), (1, .int p0)]) C dX7_outOf_3 rfl (by decide) rfl ?_
  have loop_1 : ∀ (k_1 : Nat) (x1_3 : Int32) (x1_2 : Int32), (0 ≤ (x1_3).toInt ∧ (x1_3).toInt ≤ 12) → (0 ≤ (x1_2).toInt ∧ (x1_2).toInt ≤ 12) → (x1_2.toInt ≤ x1_3.toInt ∧ x1_3.toInt ≤ (p0).toInt) → (x1_2.toInt = ((cnB (oT n_shelf) (x1_3.toInt).toNat : Nat) : Int)) → (12 - x1_3.toInt).toNat < k_1 → J p l e ({ frames := 1, cells := 0, slots := 0, locals := 21 } : Room) s m args below meth c D A 4 0 0 (QX below D (TY cyC cyI cyJ cyZ cyO) A (fun u => some (.int (u.2.1 0))) (fun u => (0 ≤ (u.2.1 0).toInt ∧ (u.2.1 0).toInt ≤ 12) ∧ ((u.2.1 0).toInt = ((cnB (oT n_shelf) (p0).toInt.toNat : Nat) : Int))) (fun u => [(n0, .inr (7, [.ref n1, .ref n2, .ref n3, .ref n4, .int n_askings, .int n_cost, .int n_laid])), (n1, .inl (cyI, 12, .inl n_shelf))]) args s 0 0) [(n0, .inr (7, [.ref n1, .ref n2, .ref n3, .ref n4, .int n_askings, .int n_cost, .int n_laid])), (n1, .inl (cyI, 12, .inl n_shelf))] 4 [(3, .int x1_3), (2, .int x1_2), (0, .ref n0), (1, .int p0)] [] := by
    intro k_1
    induction k_1 with
    | zero =>
      intro x1_3 x1_2 hi_1_0 hi_1_1 hr_1 hq_1_0 hm_1
      exact absurd hm_1 (Nat.not_lt_zero _)
    | succ k_1 ih_1 =>
      intro x1_3 x1_2 hi_1_0 hi_1_1 hr_1 hq_1_0 hm_1
      refine j_iload_n (pc := 4) C dX7_outOf_4 rfl 0 rfl ?_
      refine j_iload_n (pc := 5) C dX7_outOf_5 rfl 3 rfl ?_
      refine j_icmp_ge (pc := 6) (tgt := 31) C dX7_outOf_6 (by decide) (fun c_2 => ?_) (fun c_2 => ?_)
      · skip
        rw [i_le] at c_2
        refine j_iload_n (pc := 31) C dX7_outOf_31 rfl 1 rfl ?_
        exact j_iret (pc := 32) C hr hk (fun i => [].getD i 0, fun i => [x1_2].getD i 0, fun i => [].getD i (fun _ => 0), fun i => [].getD i (fun _ => 0)) rfl (show (0 ≤ (x1_2).toInt ∧ (x1_2).toInt ≤ 12) ∧ (x1_2.toInt = ((cnB (oT n_shelf) (p0).toInt.toNat : Nat) : Int)) from ⟨hi_1_1, (by rw [show (p0).toInt.toNat = (x1_3).toInt.toNat from (by omega)]; exact hq_1_0)⟩) [0, 1] (by decide) rfl (by decide) (by decide) dX7_outOf_32
      · skip
        rw [i_le] at c_2
        refine j_iload_n (pc := 9) C dX7_outOf_9 rfl 1 rfl ?_
        refine j_aload_n (pc := 10) C dX7_outOf_10 rfl 2 rfl ?_
        refine j_iload_n (pc := 11) C dX7_outOf_11 rfl 0 rfl ?_
        refine j_callV (pc := 12) (As := [.int x1_3]) (rest := [.int x1_2]) (wr := []) C (c_X7_isOut l D cyC cyI cyJ cyZ cyO n0 n1 n2 n3 n4 x1_3 n_askings n_cost n_laid n_shelf h_n_askings h_n_laid (by omega) h_n_shelf) wd_13 wd_9 wd_14 wd_15 wd_16 ⟨by decide, by decide, rfl⟩ rfl ⟨rfl, rfl, by decide, by decide⟩ ⟨by decide, by decide⟩ [0, 1] [] rfl rfl ⟨by decide, by decide, by decide⟩ 0 rfl rfl rfl (Nat.le_of_ble_eq_true rfl) dX7_outOf_12 (fun u_3 hw_4 => ?_)
        refine j_eq (ws2 := [(n0, .inr (7, [.ref n1, .ref n2, .ref n3, .ref n4, .int n_askings, .int n_cost, .int n_laid])), (n1, .inl (cyI, 12, .inl n_shelf))]) (pc2 := 15) (lv2 := [(3, .int x1_3), (2, .int x1_2), (0, .ref n0), (1, .int p0)]) (st2 := [.int (u_3.2.1 0), .int x1_2]) rfl rfl rfl rfl ?_
        obtain ⟨hw_4_0, hw_4_1, hw_4_2⟩ := hw_4
        refine j_if_eq (pc := 15) (tgt := 22) C dX7_outOf_15 (by decide) (fun c_5 => ?_) (fun c_5 => ?_)
        · skip
          have el_0 : (0 : Int32).toInt = 0 := rfl
          rw [i_eq] at c_5
          refine j_iconst (pc := 22) (v := 0) C dX7_outOf_22 (by decide) ?_
          obtain ⟨v_6, ev_6⟩ : ∃ z : Int32, x1_2 + 0 = z := ⟨_, rfl⟩
          have el_0 : (0 : Int32).toInt = 0 := rfl
          have hv_6 : v_6.toInt = x1_2.toInt + (0 : Int32).toInt := by rw [← ev_6]; exact fb_addI (by omega) (by omega)
          refine j_iadd (pc := 23) (v := v_6) C dX7_outOf_23 ev_6 ?_
          refine j_istore_n (pc := 24) (lv' := [(2, .int v_6), (3, .int x1_3), (0, .ref n0), (1, .int p0)]) C dX7_outOf_24 rfl (by decide) rfl ?_
          obtain ⟨v_7, ev_7⟩ : ∃ z : Int32, x1_3 + 1 = z := ⟨_, rfl⟩
          have el_1 : (1 : Int32).toInt = 1 := rfl
          have hv_7 : v_7.toInt = x1_3.toInt + (1 : Int32).toInt := by rw [← ev_7]; exact fb_addI (by omega) (by omega)
          refine j_iinc (pc := 25) (v := v_7) (lv' := [(3, .int v_7), (2, .int v_6), (0, .ref n0), (1, .int p0)]) C dX7_outOf_25 1 rfl ev_7 (by decide) rfl ?_
          refine j_goto (pc := 28) (tgt := 4) C dX7_outOf_28 (by decide) ?_
          exact j_lv [0, 1, 2, 3] rfl (ih_1 v_7 v_6 (by omega) (by omega) (by omega) (by rw [show (v_7.toInt).toNat = (x1_3).toInt.toNat + 1 from (by omega), cnB_n (P := (oT n_shelf)) (j := (x1_3).toInt.toNat) (fun z => by have y9 := oT_iff.mp z; omega)]; omega) (by omega))
        · skip
          have el_0 : (0 : Int32).toInt = 0 := rfl
          rw [i_eq] at c_5
          have k0c_5 : ((u_3.2.1 0)).toInt = 1 := by omega
          refine j_iconst (pc := 18) (v := 1) C dX7_outOf_18 (by decide) ?_
          refine j_goto (pc := 19) (tgt := 23) C dX7_outOf_19 (by decide) ?_
          obtain ⟨v_8, ev_8⟩ : ∃ z : Int32, x1_2 + 1 = z := ⟨_, rfl⟩
          have el_1 : (1 : Int32).toInt = 1 := rfl
          have hv_8 : v_8.toInt = x1_2.toInt + (1 : Int32).toInt := by rw [← ev_8]; exact fb_addI (by omega) (by omega)
          refine j_iadd (pc := 23) (v := v_8) C dX7_outOf_23 ev_8 ?_
          refine j_istore_n (pc := 24) (lv' := [(2, .int v_8), (3, .int x1_3), (0, .ref n0), (1, .int p0)]) C dX7_outOf_24 rfl (by decide) rfl ?_
          obtain ⟨v_9, ev_9⟩ : ∃ z : Int32, x1_3 + 1 = z := ⟨_, rfl⟩
          have el_1 : (1 : Int32).toInt = 1 := rfl
          have hv_9 : v_9.toInt = x1_3.toInt + (1 : Int32).toInt := by rw [← ev_9]; exact fb_addI (by omega) (by omega)
          refine j_iinc (pc := 25) (v := v_9) (lv' := [(3, .int v_9), (2, .int v_8), (0, .ref n0), (1, .int p0)]) C dX7_outOf_25 1 rfl ev_9 (by decide) rfl ?_
          refine j_goto (pc := 28) (tgt := 4) C dX7_outOf_28 (by decide) ?_
          exact j_lv [0, 1, 2, 3] rfl (ih_1 v_9 v_8 (by omega) (by omega) (by omega) (by rw [show (v_9.toInt).toNat = (x1_3).toInt.toNat + 1 from (by omega), cnB_y (P := (oT n_shelf)) (j := (x1_3).toInt.toNat) (oT_iff.mpr (by rcases hw_4_1 with h | h; (exfalso; omega); (rw [h]; rfl)))]; omega) (by omega))
  have el_0 : (0 : Int32).toInt = 0 := rfl
  have el_0 : (0 : Int32).toInt = 0 := rfl
  exact j_lv [0, 1, 2, 3] rfl (loop_1 4096 0 0 (by decide) (by decide) (by omega) rfl (by omega))
set_option maxHeartbeats 4000000 in
set_option maxRecDepth 100000 in
theorem c_X9_rise (l : Launch) (D : DG) (cyC cyI cyJ cyZ cyO : ClassId) (a0 : Nat) (a1 : Nat) (a2 : Nat) (a3 : Nat) (a4 : Nat) (a5 : Nat) (a6 : Nat) (a7 : Nat) (a8 : Nat) (a9 : Nat) (a10 : Nat) (p0 : Int32) (p1 : Int32) (a_wares : Int32) (a_shelves : Int32) (a_nests : Int32) (a_lids : Int32) (a_tops : Int32) (a_wide : Nat → Int32) (a_deep : Nat → Int32) (h_a_wares : 0 ≤ (a_wares).toInt ∧ (a_wares).toInt ≤ 12) (h_a_shelves : 0 ≤ (a_shelves).toInt ∧ (a_shelves).toInt ≤ 4) (h_a_nests : 0 ≤ (a_nests).toInt ∧ (a_nests).toInt ≤ 4) (h_p0 : 0 ≤ (p0).toInt ∧ (p0).toInt ≤ 11) (h_p1 : 0 ≤ (p1).toInt ∧ (p1).toInt ≤ 11) : KK l D (TY cyC cyI cyJ cyZ cyO) yX9_rise cX9_rise 4 (some .int) ({ frames := 0, cells := 0, slots := 0, locals := 0 } : Room) 0 0 [.ref a0, .int p0, .int p1] [(a0, .inr (9, [.int a_wares, .int a_shelves, .int a_nests, .ref a1, .ref a2, .ref a3, .ref a4, .ref a5, .ref a6, .int a_lids, .int a_tops, .ref a7, .ref a8, .ref a9, .ref a10])), (a1, .inl (cyI, 12, .inl a_wide)), (a2, .inl (cyI, 12, .inl a_deep))] (fun u => some (.int (u.2.1 0))) (fun u => ((u.2.1 0) = (rsC a_wide a_deep a_lids) (p0).toInt.toNat (p1).toInt.toNat)) (fun u => [(a0, .inr (9, [.int a_wares, .int a_shelves, .int a_nests, .ref a1, .ref a2, .ref a3, .ref a4, .ref a5, .ref a6, .int a_lids, .int a_tops, .ref a7, .ref a8, .ref a9, .ref a10])), (a1, .inl (cyI, 12, .inl a_wide)), (a2, .inl (cyI, 12, .inl a_deep))]) := by
  refine KK.of (lv0 := [(0, .ref a0), (1, .int p0), (2, .int p1)]) (by decide) rfl (Nat.le_of_ble_eq_true rfl) ?_
  intro p e s m args below meth c A C hr hk hin
  refine j_aload_n (pc := 0) C dX9_rise_0 rfl 0 rfl ?_
  refine j_get (pc := 1) (ci := 9) (v := .ref a1) C inw_9 0 rfl rfl 3 (by decide) wd_17 rfl rfl dX9_rise_1 ?_
  refine j_iload_n (pc := 4) C dX9_rise_4 rfl 1 rfl ?_
  obtain ⟨v_1, ev_1⟩ : ∃ z, a_wide (p0).toInt.toNat = z := ⟨_, rfl⟩
  have env_1 : (a_wide (p0).toInt.toNat).toInt = v_1.toInt := by rw [ev_1]
  refine j_iald (pc := 5) (v := v_1) (k := (p0).toInt.toNat) C 1 1 rfl rfl (i_nn h_p0.1) rfl (i_lt_n h_p0.1 (Int.lt_of_le_of_lt h_p0.2 (by decide))) ev_1 dX9_rise_5 ?_
  refine j_aload_n (pc := 6) C dX9_rise_6 rfl 0 rfl ?_
  refine j_get (pc := 7) (ci := 9) (v := .ref a1) C inw_9 0 rfl rfl 3 (by decide) wd_17 rfl rfl dX9_rise_7 ?_
  refine j_iload_n (pc := 10) C dX9_rise_10 rfl 2 rfl ?_
  obtain ⟨v_2, ev_2⟩ : ∃ z, a_wide (p1).toInt.toNat = z := ⟨_, rfl⟩
  have env_2 : (a_wide (p1).toInt.toNat).toInt = v_2.toInt := by rw [ev_2]
  refine j_iald (pc := 11) (v := v_2) (k := (p1).toInt.toNat) C 1 1 rfl rfl (i_nn h_p1.1) rfl (i_lt_n h_p1.1 (Int.lt_of_le_of_lt h_p1.2 (by decide))) ev_2 dX9_rise_11 ?_
  refine j_icmp_ge (pc := 12) (tgt := 30) C dX9_rise_12 (by decide) (fun c_3 => ?_) (fun c_3 => ?_)
  · skip
    rw [i_le] at c_3
    refine j_iconst (pc := 30) (v := 0) C dX9_rise_30 (by decide) ?_
    refine j_istore_n (pc := 31) (lv' := [(3, .int 0), (0, .ref a0), (1, .int p0), (2, .int p1)]) C dX9_rise_31 rfl (by decide) rfl ?_
    refine j_iload_n (pc := 32) C dX9_rise_32 rfl 0 rfl ?_
    refine j_if_eq_t (pc := 33) (tgt := 40) C dX9_rise_33 (by decide) (by decide) ?_
    refine j_aload_n (pc := 40) C dX9_rise_40 rfl 1 rfl ?_
    refine j_get (pc := 41) (ci := 9) (v := .ref a2) C inw_9 0 rfl rfl 4 (by decide) wd_18 rfl rfl dX9_rise_41 ?_
    refine j_iload_n (pc := 44) C dX9_rise_44 rfl 3 rfl ?_
    obtain ⟨v_4, ev_4⟩ : ∃ z, a_deep (p1).toInt.toNat = z := ⟨_, rfl⟩
    have env_4 : (a_deep (p1).toInt.toNat).toInt = v_4.toInt := by rw [ev_4]
    refine j_iald (pc := 45) (v := v_4) (k := (p1).toInt.toNat) C 2 1 rfl rfl (i_nn h_p1.1) rfl (i_lt_n h_p1.1 (Int.lt_of_le_of_lt h_p1.2 (by decide))) ev_4 dX9_rise_45 ?_
    exact j_iret (pc := 46) C hr hk (fun i => [].getD i 0, fun i => [v_4].getD i 0, fun i => [].getD i (fun _ => 0), fun i => [].getD i (fun _ => 0)) rfl (show (v_4 = (rsC a_wide a_deep a_lids) (p0).toInt.toNat (p1).toInt.toNat) from ((by unfold rsC; rw [if_neg (fun z => by have z1 := z.1; omega)]; exact ev_4.symm))) [0, 1, 2] (by decide) rfl (by decide) (by decide) dX9_rise_46
  · skip
    rw [i_le] at c_3
    refine j_aload_n (pc := 15) C dX9_rise_15 rfl 0 rfl ?_
    refine j_get (pc := 16) (ci := 9) (v := .int a_lids) C inw_9 0 rfl rfl 9 (by decide) wd_19 rfl rfl dX9_rise_16 ?_
    refine j_iload_n (pc := 19) C dX9_rise_19 rfl 2 rfl ?_
    obtain ⟨v_5, ev_5⟩ : ∃ z : Int32, ((a_lids : Int32).toUInt32 >>> ((p1 : Int32).toUInt32 &&& Int32.toUInt32 31)).toInt32 = z := ⟨_, rfl⟩
    refine j_iushr (pc := 20) (v := v_5) C dX9_rise_20 ev_5 ?_
    refine j_iconst (pc := 21) (v := 1) C dX9_rise_21 (by decide) ?_
    obtain ⟨v_6, ev_6⟩ : ∃ z : Int32, v_5 &&& 1 = z := ⟨_, rfl⟩
    have el_1 : (1 : Int32).toInt = 1 := rfl
    have hv_6 : 0 ≤ v_6.toInt ∧ v_6.toInt ≤ 1 := by rw [← ev_6]; exact and1_r _
    refine j_iand (pc := 22) (v := v_6) C dX9_rise_22 ev_6 ?_
    have hb9 : v_6.toInt = if BT a_lids (p1).toInt.toNat = true then 1 else 0 := by rw [← ev_6, ← ev_5]; exact bt_rd (by omega) (by omega)
    refine j_if_ne (pc := 23) (tgt := 30) C dX9_rise_23 (by decide) (fun c_7 => ?_) (fun c_7 => ?_)
    · skip
      have el_0 : (0 : Int32).toInt = 0 := rfl
      rw [i_eq] at c_7
      have k0c_7 : v_6.toInt = 1 := by omega
      refine j_iconst (pc := 30) (v := 0) C dX9_rise_30 (by decide) ?_
      refine j_istore_n (pc := 31) (lv' := [(3, .int 0), (0, .ref a0), (1, .int p0), (2, .int p1)]) C dX9_rise_31 rfl (by decide) rfl ?_
      refine j_iload_n (pc := 32) C dX9_rise_32 rfl 0 rfl ?_
      refine j_if_eq_t (pc := 33) (tgt := 40) C dX9_rise_33 (by decide) (by decide) ?_
      refine j_aload_n (pc := 40) C dX9_rise_40 rfl 1 rfl ?_
      refine j_get (pc := 41) (ci := 9) (v := .ref a2) C inw_9 0 rfl rfl 4 (by decide) wd_18 rfl rfl dX9_rise_41 ?_
      refine j_iload_n (pc := 44) C dX9_rise_44 rfl 3 rfl ?_
      obtain ⟨v_8, ev_8⟩ : ∃ z, a_deep (p1).toInt.toNat = z := ⟨_, rfl⟩
      have env_8 : (a_deep (p1).toInt.toNat).toInt = v_8.toInt := by rw [ev_8]
      refine j_iald (pc := 45) (v := v_8) (k := (p1).toInt.toNat) C 2 1 rfl rfl (i_nn h_p1.1) rfl (i_lt_n h_p1.1 (Int.lt_of_le_of_lt h_p1.2 (by decide))) ev_8 dX9_rise_45 ?_
      exact j_iret (pc := 46) C hr hk (fun i => [].getD i 0, fun i => [v_8].getD i 0, fun i => [].getD i (fun _ => 0), fun i => [].getD i (fun _ => 0)) rfl (show (v_8 = (rsC a_wide a_deep a_lids) (p0).toInt.toNat (p1).toInt.toNat) from ((by unfold rsC; rw [if_neg (fun z => by have z2 := z.2; rw [z2, if_neg (by decide)] at hb9; omega)]; exact ev_8.symm))) [0, 1, 2] (by decide) rfl (by decide) (by decide) dX9_rise_46
    · skip
      have el_0 : (0 : Int32).toInt = 0 := rfl
      rw [i_eq] at c_7
      refine j_iconst (pc := 26) (v := 1) C dX9_rise_26 (by decide) ?_
      refine j_goto (pc := 27) (tgt := 31) C dX9_rise_27 (by decide) ?_
      refine j_istore_n (pc := 31) (lv' := [(3, .int 1), (0, .ref a0), (1, .int p0), (2, .int p1)]) C dX9_rise_31 rfl (by decide) rfl ?_
      refine j_iload_n (pc := 32) C dX9_rise_32 rfl 0 rfl ?_
      refine j_if_eq_f (pc := 33) (tgt := 40) C dX9_rise_33 (by decide) (by decide) ?_
      refine j_iconst (pc := 36) (v := 1) C dX9_rise_36 (by decide) ?_
      refine j_goto (pc := 37) (tgt := 46) C dX9_rise_37 (by decide) ?_
      have el_1 : (1 : Int32).toInt = 1 := rfl
      exact j_iret (pc := 46) C hr hk (fun i => [].getD i 0, fun i => [1].getD i 0, fun i => [].getD i (fun _ => 0), fun i => [].getD i (fun _ => 0)) rfl (show ((1 : Int32) = (rsC a_wide a_deep a_lids) (p0).toInt.toNat (p1).toInt.toNat) from ((by unfold rsC; rw [if_pos ⟨by omega, by (by_cases q : BT a_lids (p1).toInt.toNat = true; (rw [if_pos q] at hb9; exfalso; omega); exact Bool.eq_false_iff.mpr q)⟩]))) [0, 1, 2] (by decide) rfl (by decide) (by decide) dX9_rise_46
set_option maxHeartbeats 4000000 in
set_option maxRecDepth 100000 in
theorem c_X9_weightOf (l : Launch) (D : DG) (cyC cyI cyJ cyZ cyO : ClassId) (a0 : Nat) (a3 : Nat) (a1 : Nat) (a2 : Nat) (a4 : Nat) (a5 : Nat) (a6 : Nat) (a7 : Nat) (a8 : Nat) (a9 : Nat) (a10 : Nat) (p0 : Int32) (a_wares : Int32) (a_shelves : Int32) (a_nests : Int32) (a_lids : Int32) (a_tops : Int32) (a_weight : Nat → Int32) (h_a_wares : 0 ≤ (a_wares).toInt ∧ (a_wares).toInt ≤ 12) (h_a_shelves : 0 ≤ (a_shelves).toInt ∧ (a_shelves).toInt ≤ 4) (h_a_nests : 0 ≤ (a_nests).toInt ∧ (a_nests).toInt ≤ 4) : KK l D (TY cyC cyI cyJ cyZ cyO) yX9_weightOf cX9_weightOf 4 (some .int) ({ frames := 0, cells := 0, slots := 0, locals := 0 } : Room) 0 0 [.ref a0, .int p0] [(a0, .inr (9, [.int a_wares, .int a_shelves, .int a_nests, .ref a1, .ref a2, .ref a3, .ref a4, .ref a5, .ref a6, .int a_lids, .int a_tops, .ref a7, .ref a8, .ref a9, .ref a10])), (a3, .inl (cyI, 12, .inl a_weight))] (fun u => some (.int (u.2.1 0))) (fun u => True) (fun u => [(a0, .inr (9, [.int a_wares, .int a_shelves, .int a_nests, .ref a1, .ref a2, .ref a3, .ref a4, .ref a5, .ref a6, .int a_lids, .int a_tops, .ref a7, .ref a8, .ref a9, .ref a10])), (a3, .inl (cyI, 12, .inl a_weight))]) := by
  refine KK.of (lv0 := [(0, .ref a0), (1, .int p0)]) (by decide) rfl (Nat.le_of_ble_eq_true rfl) ?_
  intro p e s m args below meth c A C hr hk hin
  refine j_iconst (pc := 0) (v := 0) C dX9_weightOf_0 (by decide) ?_
  refine j_istore_n (pc := 1) (lv' := [(2, .int 0), (0, .ref a0), (1, .int p0)]) C dX9_weightOf_1 rfl (by decide) rfl ?_
  refine j_iconst (pc := 2) (v := 0) C dX9_weightOf_2 (by decide) ?_
  refine j_istore_n (pc := 3) (lv' := [(3, .int 0), (2, .int 0), (0, .ref a0), (1, .int p0)]) C dX9_weightOf_3 rfl (by decide) rfl ?_
  have loop_1 : ∀ (k_1 : Nat) (x1_3 : Int32) (x1_2 : Int32), (0 ≤ (x1_3).toInt ∧ (x1_3).toInt ≤ 12) → (12 - x1_3.toInt).toNat < k_1 → J p l e ({ frames := 0, cells := 0, slots := 0, locals := 0 } : Room) s m args below meth c D A 4 0 0 (QX below D (TY cyC cyI cyJ cyZ cyO) A (fun u => some (.int (u.2.1 0))) (fun u => True) (fun u => [(a0, .inr (9, [.int a_wares, .int a_shelves, .int a_nests, .ref a1, .ref a2, .ref a3, .ref a4, .ref a5, .ref a6, .int a_lids, .int a_tops, .ref a7, .ref a8, .ref a9, .ref a10])), (a3, .inl (cyI, 12, .inl a_weight))]) args s 0 0) [(a0, .inr (9, [.int a_wares, .int a_shelves, .int a_nests, .ref a1, .ref a2, .ref a3, .ref a4, .ref a5, .ref a6, .int a_lids, .int a_tops, .ref a7, .ref a8, .ref a9, .ref a10])), (a3, .inl (cyI, 12, .inl a_weight))] 4 [(3, .int x1_3), (2, .int x1_2), (0, .ref a0), (1, .int p0)] [] := by
    intro k_1
    induction k_1 with
    | zero =>
      intro x1_3 x1_2 hi_1_0 hm_1
      exact absurd hm_1 (Nat.not_lt_zero _)
    | succ k_1 ih_1 =>
      intro x1_3 x1_2 hi_1_0 hm_1
      refine j_iload_n (pc := 4) C dX9_weightOf_4 rfl 0 rfl ?_
      refine j_aload_n (pc := 5) C dX9_weightOf_5 rfl 2 rfl ?_
      refine j_get (pc := 6) (ci := 9) (v := .int a_wares) C inw_9 0 rfl rfl 0 (by decide) wd_0 rfl rfl dX9_weightOf_6 ?_
      refine j_icmp_ge (pc := 9) (tgt := 33) C dX9_weightOf_9 (by decide) (fun c_2 => ?_) (fun c_2 => ?_)
      · skip
        rw [i_le] at c_2
        refine j_iload_n (pc := 33) C dX9_weightOf_33 rfl 1 rfl ?_
        exact j_iret (pc := 34) C hr hk (fun i => [].getD i 0, fun i => [x1_2].getD i 0, fun i => [].getD i (fun _ => 0), fun i => [].getD i (fun _ => 0)) rfl trivial [0, 1] (by decide) rfl (by decide) (by decide) dX9_weightOf_34
      · skip
        rw [i_le] at c_2
        refine j_iload_n (pc := 12) C dX9_weightOf_12 rfl 1 rfl ?_
        refine j_iload_n (pc := 13) C dX9_weightOf_13 rfl 3 rfl ?_
        refine j_iload_n (pc := 14) C dX9_weightOf_14 rfl 0 rfl ?_
        obtain ⟨v_3, ev_3⟩ : ∃ z : Int32, ((p0 : Int32).toUInt32 >>> ((x1_3 : Int32).toUInt32 &&& Int32.toUInt32 31)).toInt32 = z := ⟨_, rfl⟩
        refine j_iushr (pc := 15) (v := v_3) C dX9_weightOf_15 ev_3 ?_
        refine j_iconst (pc := 16) (v := 1) C dX9_weightOf_16 (by decide) ?_
        obtain ⟨v_4, ev_4⟩ : ∃ z : Int32, v_3 &&& 1 = z := ⟨_, rfl⟩
        have el_1 : (1 : Int32).toInt = 1 := rfl
        have hv_4 : 0 ≤ v_4.toInt ∧ v_4.toInt ≤ 1 := by rw [← ev_4]; exact and1_r _
        refine j_iand (pc := 17) (v := v_4) C dX9_weightOf_17 ev_4 ?_
        refine j_aload_n (pc := 18) C dX9_weightOf_18 rfl 2 rfl ?_
        refine j_get (pc := 19) (ci := 9) (v := .ref a3) C inw_9 0 rfl rfl 5 (by decide) wd_20 rfl rfl dX9_weightOf_19 ?_
        refine j_iload_n (pc := 22) C dX9_weightOf_22 rfl 0 rfl ?_
        obtain ⟨v_5, ev_5⟩ : ∃ z, a_weight (x1_3).toInt.toNat = z := ⟨_, rfl⟩
        have env_5 : (a_weight (x1_3).toInt.toNat).toInt = v_5.toInt := by rw [ev_5]
        refine j_iald (pc := 23) (v := v_5) (k := (x1_3).toInt.toNat) C 1 1 rfl rfl (i_nn hi_1_0.1) rfl (i_lt_n hi_1_0.1 (by omega)) ev_5 dX9_weightOf_23 ?_
        obtain ⟨v_6, ev_6⟩ : ∃ z : Int32, v_4 * v_5 = z := ⟨_, rfl⟩
        refine j_imul (pc := 24) (v := v_6) C dX9_weightOf_24 ev_6 ?_
        obtain ⟨v_7, ev_7⟩ : ∃ z : Int32, x1_2 + v_6 = z := ⟨_, rfl⟩
        refine j_iadd (pc := 25) (v := v_7) C dX9_weightOf_25 ev_7 ?_
        refine j_istore_n (pc := 26) (lv' := [(2, .int v_7), (3, .int x1_3), (0, .ref a0), (1, .int p0)]) C dX9_weightOf_26 rfl (by decide) rfl ?_
        obtain ⟨v_8, ev_8⟩ : ∃ z : Int32, x1_3 + 1 = z := ⟨_, rfl⟩
        have el_1 : (1 : Int32).toInt = 1 := rfl
        have hv_8 : v_8.toInt = x1_3.toInt + (1 : Int32).toInt := by rw [← ev_8]; exact fb_addI (by omega) (by omega)
        refine j_iinc (pc := 27) (v := v_8) (lv' := [(3, .int v_8), (2, .int v_7), (0, .ref a0), (1, .int p0)]) C dX9_weightOf_27 1 rfl ev_8 (by decide) rfl ?_
        refine j_goto (pc := 30) (tgt := 4) C dX9_weightOf_30 (by decide) ?_
        exact j_lv [0, 1, 2, 3] rfl (ih_1 v_8 v_7 (by omega) (by omega))
  have el_0 : (0 : Int32).toInt = 0 := rfl
  have el_0 : (0 : Int32).toInt = 0 := rfl
  exact j_lv [0, 1, 2, 3] rfl (loop_1 4096 0 0 (by decide) (by omega))
