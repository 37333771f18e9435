theorem wd_169 : Cond.fieldLink RX9 42 "BowlShelf$Told" "wares" "I" ∈ WALL := wl_in (by decide +kernel) (by decide +kernel)
theorem wd_170 : Cond.fieldLink RX9 46 "BowlShelf$Told" "shelves" "I" ∈ WALL := wl_in (by decide +kernel) (by decide +kernel)
theorem wd_171 : Cond.code yX9_isShelf cX9_isShelf 2 (some .boolean) ∈ WALL := wl_in (by decide +kernel) (by decide +kernel)
theorem wd_172 : Cond.methodLink RX10 141 yX9_isShelf ∈ WALL := wl_in (by decide +kernel) (by decide +kernel)
theorem wd_173 : Cond.instanceMethod yX9_isShelf ∈ WALL := wl_in (by decide +kernel) (by decide +kernel)
theorem wd_174 : Cond.selects RX9 yX9_isShelf yX9_isShelf ∈ WALL := wl_in (by decide +kernel) (by decide +kernel)
theorem wd_175 : Cond.code yX9_isWare cX9_isWare 2 (some .boolean) ∈ WALL := wl_in (by decide +kernel) (by decide +kernel)
theorem wd_176 : Cond.methodLink RX10 112 yX9_isWare ∈ WALL := wl_in (by decide +kernel) (by decide +kernel)
theorem wd_177 : Cond.instanceMethod yX9_isWare ∈ WALL := wl_in (by decide +kernel) (by decide +kernel)
theorem wd_178 : Cond.selects RX9 yX9_isWare yX9_isWare ∈ WALL := wl_in (by decide +kernel) (by decide +kernel)
theorem wd_179 : Cond.code yX10_isStack cX10_isStack 3 (some .boolean) ∈ WALL := wl_in (by decide +kernel) (by decide +kernel)
theorem wd_180 : Cond.initialized RX10 ∈ WALL := wl_in (by decide +kernel) (by decide +kernel)
theorem wd_181 : Cond.methodLink RX10 198 yX10_isStack ∈ WALL := wl_in (by decide +kernel) (by decide +kernel)
theorem wd_182 : Cond.instanceMethod yX10_isStack ∈ WALL := wl_in (by decide +kernel) (by decide +kernel)
theorem wd_183 : Cond.selects RX10 yX10_isStack yX10_isStack ∈ WALL := wl_in (by decide +kernel) (by decide +kernel)
theorem wd_184 : Cond.fieldLink RX10 167 "BowlShelf$Standing" "cost" "I" ∈ WALL := wl_in (by decide +kernel) (by decide +kernel)
theorem wd_185 : Cond.fieldLink RX10 281 "BowlShelf$Standing" "askings" "I" ∈ WALL := wl_in (by decide +kernel) (by decide +kernel)
theorem dX9_isWare_0 : decode cX9_isWare 0 = .ok (.iload_n 1, 1) := by decide +kernel
theorem dX9_isWare_1 : decode cX9_isWare 1 = .ok (.ifCond .lt 15, 3) := by decide +kernel
theorem dX9_isWare_4 : decode cX9_isWare 4 = .ok (.iload_n 1, 1) := by decide +kernel
theorem dX9_isWare_5 : decode cX9_isWare 5 = .ok (.aload_n 0, 1) := by decide +kernel
theorem dX9_isWare_6 : decode cX9_isWare 6 = .ok (.getfield 42, 3) := by decide +kernel
theorem dX9_isWare_9 : decode cX9_isWare 9 = .ok (.if_icmp .ge 7, 3) := by decide +kernel
theorem dX9_isWare_16 : decode cX9_isWare 16 = .ok (.iconst 0, 1) := by decide +kernel
theorem dX9_isWare_17 : decode cX9_isWare 17 = .ok (.ireturn, 1) := by decide +kernel
theorem dX9_isShelf_0 : decode cX9_isShelf 0 = .ok (.iload_n 1, 1) := by decide +kernel
theorem dX9_isShelf_1 : decode cX9_isShelf 1 = .ok (.ifCond .lt 15, 3) := by decide +kernel
theorem dX9_isShelf_4 : decode cX9_isShelf 4 = .ok (.iload_n 1, 1) := by decide +kernel
theorem dX9_isShelf_5 : decode cX9_isShelf 5 = .ok (.aload_n 0, 1) := by decide +kernel
theorem dX9_isShelf_6 : decode cX9_isShelf 6 = .ok (.getfield 46, 3) := by decide +kernel
theorem dX9_isShelf_9 : decode cX9_isShelf 9 = .ok (.if_icmp .ge 7, 3) := by decide +kernel
theorem dX9_isShelf_16 : decode cX9_isShelf 16 = .ok (.iconst 0, 1) := by decide +kernel
theorem dX9_isShelf_17 : decode cX9_isShelf 17 = .ok (.ireturn, 1) := by decide +kernel
theorem dX10_isStack_0 : decode cX10_isStack 0 = .ok (.aload_n 0, 1) := by decide +kernel
theorem dX10_isStack_1 : decode cX10_isStack 1 = .ok (.getfield 19, 3) := by decide +kernel
theorem dX10_isStack_4 : decode cX10_isStack 4 = .ok (.iload_n 1, 1) := by decide +kernel
theorem dX10_isStack_5 : decode cX10_isStack 5 = .ok (.invokevirtual 141, 3) := by decide +kernel
theorem dX10_isStack_8 : decode cX10_isStack 8 = .ok (.ifCond .eq 23, 3) := by decide +kernel
theorem dX10_isStack_31 : decode cX10_isStack 31 = .ok (.iconst 0, 1) := by decide +kernel
theorem dX10_isStack_32 : decode cX10_isStack 32 = .ok (.ireturn, 1) := by decide +kernel
theorem dX10_ware_0 : decode cX10_ware 0 = .ok (.aload_n 0, 1) := by decide +kernel
theorem dX10_ware_1 : decode cX10_ware 1 = .ok (.getfield 19, 3) := by decide +kernel
theorem dX10_ware_4 : decode cX10_ware 4 = .ok (.iload_n 1, 1) := by decide +kernel
theorem dX10_ware_5 : decode cX10_ware 5 = .ok (.invokevirtual 112, 3) := by decide +kernel
theorem dX10_ware_8 : decode cX10_ware 8 = .ok (.ifCond .ne 5, 3) := by decide +kernel
theorem dX10_ware_11 : decode cX10_ware 11 = .ok (.iconst (-1), 1) := by decide +kernel
theorem dX10_ware_12 : decode cX10_ware 12 = .ok (.ireturn, 1) := by decide +kernel
theorem dX10_shelf_0 : decode cX10_shelf 0 = .ok (.aload_n 0, 1) := by decide +kernel
theorem dX10_shelf_1 : decode cX10_shelf 1 = .ok (.getfield 19, 3) := by decide +kernel
theorem dX10_shelf_4 : decode cX10_shelf 4 = .ok (.iload_n 1, 1) := by decide +kernel
theorem dX10_shelf_5 : decode cX10_shelf 5 = .ok (.invokevirtual 141, 3) := by decide +kernel
theorem dX10_shelf_8 : decode cX10_shelf 8 = .ok (.ifCond .ne 5, 3) := by decide +kernel
theorem dX10_shelf_11 : decode cX10_shelf 11 = .ok (.iconst (-1), 1) := by decide +kernel
theorem dX10_shelf_12 : decode cX10_shelf 12 = .ok (.ireturn, 1) := by decide +kernel
theorem dX10_may_0 : decode cX10_may 0 = .ok (.aload_n 0, 1) := by decide +kernel
theorem dX10_may_1 : decode cX10_may 1 = .ok (.getfield 19, 3) := by decide +kernel
theorem dX10_may_4 : decode cX10_may 4 = .ok (.iload_n 1, 1) := by decide +kernel
theorem dX10_may_5 : decode cX10_may 5 = .ok (.invokevirtual 112, 3) := by decide +kernel
theorem dX10_may_8 : decode cX10_may 8 = .ok (.ifCond .eq 19, 3) := by decide +kernel
theorem dX10_may_27 : decode cX10_may 27 = .ok (.iconst (-1), 1) := by decide +kernel
theorem dX10_may_28 : decode cX10_may 28 = .ok (.ireturn, 1) := by decide +kernel
theorem dX10_put_0 : decode cX10_put 0 = .ok (.aload_n 0, 1) := by decide +kernel
theorem dX10_put_1 : decode cX10_put 1 = .ok (.getfield 19, 3) := by decide +kernel
theorem dX10_put_4 : decode cX10_put 4 = .ok (.iload_n 1, 1) := by decide +kernel
theorem dX10_put_5 : decode cX10_put 5 = .ok (.invokevirtual 112, 3) := by decide +kernel
theorem dX10_put_8 : decode cX10_put 8 = .ok (.ifCond .eq 14, 3) := by decide +kernel
theorem dX10_put_22 : decode cX10_put 22 = .ok (.iconst 1, 1) := by decide +kernel
theorem dX10_put_23 : decode cX10_put 23 = .ok (.ireturn, 1) := by decide +kernel
theorem dX10_draw_0 : decode cX10_draw 0 = .ok (.aload_n 0, 1) := by decide +kernel
theorem dX10_draw_1 : decode cX10_draw 1 = .ok (.getfield 19, 3) := by decide +kernel
theorem dX10_draw_4 : decode cX10_draw 4 = .ok (.iload_n 1, 1) := by decide +kernel
theorem dX10_draw_5 : decode cX10_draw 5 = .ok (.invokevirtual 112, 3) := by decide +kernel
theorem dX10_draw_8 : decode cX10_draw 8 = .ok (.ifCond .ne 5, 3) := by decide +kernel
theorem dX10_draw_11 : decode cX10_draw 11 = .ok (.iconst 1, 1) := by decide +kernel
theorem dX10_draw_12 : decode cX10_draw 12 = .ok (.ireturn, 1) := by decide +kernel
theorem dX10_carry_0 : decode cX10_carry 0 = .ok (.aload_n 0, 1) := by decide +kernel
theorem dX10_carry_1 : decode cX10_carry 1 = .ok (.iload_n 1, 1) := by decide +kernel
theorem dX10_carry_2 : decode cX10_carry 2 = .ok (.iload_n 2, 1) := by decide +kernel
theorem dX10_carry_3 : decode cX10_carry 3 = .ok (.invokevirtual 198, 3) := by decide +kernel
theorem dX10_carry_6 : decode cX10_carry 6 = .ok (.ifCond .eq 19, 3) := by decide +kernel
theorem dX10_carry_25 : decode cX10_carry 25 = .ok (.iconst 1, 1) := by decide +kernel
theorem dX10_carry_26 : decode cX10_carry 26 = .ok (.ireturn, 1) := by decide +kernel
theorem dX10_where_0 : decode cX10_where 0 = .ok (.aload_n 0, 1) := by decide +kernel
theorem dX10_where_1 : decode cX10_where 1 = .ok (.getfield 19, 3) := by decide +kernel
theorem dX10_where_4 : decode cX10_where 4 = .ok (.iload_n 1, 1) := by decide +kernel
theorem dX10_where_5 : decode cX10_where 5 = .ok (.invokevirtual 112, 3) := by decide +kernel
theorem dX10_where_8 : decode cX10_where 8 = .ok (.ifCond .eq 14, 3) := by decide +kernel
theorem dX10_where_22 : decode cX10_where 22 = .ok (.iconst (-1), 1) := by decide +kernel
theorem dX10_where_23 : decode cX10_where 23 = .ok (.ireturn, 1) := by decide +kernel
theorem dX10_at_0 : decode cX10_at 0 = .ok (.aload_n 0, 1) := by decide +kernel
theorem dX10_at_1 : decode cX10_at 1 = .ok (.iload_n 1, 1) := by decide +kernel
theorem dX10_at_2 : decode cX10_at 2 = .ok (.iload_n 2, 1) := by decide +kernel
theorem dX10_at_3 : decode cX10_at 3 = .ok (.invokevirtual 198, 3) := by decide +kernel
theorem dX10_at_6 : decode cX10_at 6 = .ok (.ifCond .ne 5, 3) := by decide +kernel
theorem dX10_at_9 : decode cX10_at 9 = .ok (.iconst (-1), 1) := by decide +kernel
theorem dX10_at_10 : decode cX10_at 10 = .ok (.ireturn, 1) := by decide +kernel
theorem dX10_stack_0 : decode cX10_stack 0 = .ok (.aload_n 0, 1) := by decide +kernel
theorem dX10_stack_1 : decode cX10_stack 1 = .ok (.iload_n 1, 1) := by decide +kernel
theorem dX10_stack_2 : decode cX10_stack 2 = .ok (.iload_n 2, 1) := by decide +kernel
theorem dX10_stack_3 : decode cX10_stack 3 = .ok (.invokevirtual 198, 3) := by decide +kernel
theorem dX10_stack_6 : decode cX10_stack 6 = .ok (.ifCond .ne 5, 3) := by decide +kernel
theorem dX10_stack_9 : decode cX10_stack 9 = .ok (.iconst (-1), 1) := by decide +kernel
theorem dX10_stack_10 : decode cX10_stack 10 = .ok (.ireturn, 1) := by decide +kernel
theorem dX10_lift_0 : decode cX10_lift 0 = .ok (.aload_n 0, 1) := by decide +kernel
theorem dX10_lift_1 : decode cX10_lift 1 = .ok (.getfield 19, 3) := by decide +kernel
theorem dX10_lift_4 : decode cX10_lift 4 = .ok (.iload_n 1, 1) := by decide +kernel
theorem dX10_lift_5 : decode cX10_lift 5 = .ok (.invokevirtual 112, 3) := by decide +kernel
theorem dX10_lift_8 : decode cX10_lift 8 = .ok (.ifCond .eq 26, 3) := by decide +kernel
theorem dX10_lift_34 : decode cX10_lift 34 = .ok (.iconst (-1), 1) := by decide +kernel
theorem dX10_lift_35 : decode cX10_lift 35 = .ok (.ireturn, 1) := by decide +kernel
theorem dX10_cost_0 : decode cX10_cost 0 = .ok (.aload_n 0, 1) := by decide +kernel
theorem dX10_cost_1 : decode cX10_cost 1 = .ok (.getfield 26, 3) := by decide +kernel
theorem dX10_cost_4 : decode cX10_cost 4 = .ok (.getfield 167, 3) := by decide +kernel
theorem dX10_cost_7 : decode cX10_cost 7 = .ok (.ireturn, 1) := by decide +kernel
theorem dX10_through_0 : decode cX10_through 0 = .ok (.aload_n 0, 1) := by decide +kernel
theorem dX10_through_1 : decode cX10_through 1 = .ok (.getfield 19, 3) := by decide +kernel
theorem dX10_through_4 : decode cX10_through 4 = .ok (.iload_n 1, 1) := by decide +kernel
theorem dX10_through_5 : decode cX10_through 5 = .ok (.invokevirtual 112, 3) := by decide +kernel
theorem dX10_through_8 : decode cX10_through 8 = .ok (.ifCond .eq 14, 3) := by decide +kernel
theorem dX10_through_22 : decode cX10_through 22 = .ok (.iconst (-1), 1) := by decide +kernel
theorem dX10_through_23 : decode cX10_through 23 = .ok (.ireturn, 1) := by decide +kernel
theorem dX10_rowOf_0 : decode cX10_rowOf 0 = .ok (.aload_n 0, 1) := by decide +kernel
theorem dX10_rowOf_1 : decode cX10_rowOf 1 = .ok (.getfield 19, 3) := by decide +kernel
theorem dX10_rowOf_4 : decode cX10_rowOf 4 = .ok (.iload_n 1, 1) := by decide +kernel
theorem dX10_rowOf_5 : decode cX10_rowOf 5 = .ok (.invokevirtual 112, 3) := by decide +kernel
theorem dX10_rowOf_8 : decode cX10_rowOf 8 = .ok (.ifCond .eq 13, 3) := by decide +kernel
theorem dX10_rowOf_21 : decode cX10_rowOf 21 = .ok (.iconst (-1), 1) := by decide +kernel
theorem dX10_rowOf_22 : decode cX10_rowOf 22 = .ok (.ireturn, 1) := by decide +kernel
theorem dX10_goes_0 : decode cX10_goes 0 = .ok (.aload_n 0, 1) := by decide +kernel
theorem dX10_goes_1 : decode cX10_goes 1 = .ok (.getfield 19, 3) := by decide +kernel
theorem dX10_goes_4 : decode cX10_goes 4 = .ok (.iload_n 1, 1) := by decide +kernel
theorem dX10_goes_5 : decode cX10_goes 5 = .ok (.invokevirtual 112, 3) := by decide +kernel
theorem dX10_goes_8 : decode cX10_goes 8 = .ok (.ifCond .eq 14, 3) := by decide +kernel
theorem dX10_goes_22 : decode cX10_goes 22 = .ok (.iconst (-1), 1) := by decide +kernel
theorem dX10_goes_23 : decode cX10_goes 23 = .ok (.ireturn, 1) := by decide +kernel
theorem dX10_ask_0 : decode cX10_ask 0 = .ok (.aload_n 0, 1) := by decide +kernel
theorem dX10_ask_1 : decode cX10_ask 1 = .ok (.getfield 19, 3) := by decide +kernel
theorem dX10_ask_4 : decode cX10_ask 4 = .ok (.iload_n 1, 1) := by decide +kernel
theorem dX10_ask_5 : decode cX10_ask 5 = .ok (.invokevirtual 112, 3) := by decide +kernel
theorem dX10_ask_8 : decode cX10_ask 8 = .ok (.ifCond .eq 15, 3) := by decide +kernel
theorem dX10_ask_23 : decode cX10_ask 23 = .ok (.iconst (-1), 1) := by decide +kernel
theorem dX10_ask_24 : decode cX10_ask 24 = .ok (.ireturn, 1) := by decide +kernel
theorem dX10_clear_0 : decode cX10_clear 0 = .ok (.aload_n 0, 1) := by decide +kernel
theorem dX10_clear_1 : decode cX10_clear 1 = .ok (.getfield 26, 3) := by decide +kernel
theorem dX10_clear_4 : decode cX10_clear 4 = .ok (.iconst 0, 1) := by decide +kernel
theorem dX10_clear_5 : decode cX10_clear 5 = .ok (.putfield 281, 3) := by decide +kernel
theorem dX10_clear_8 : decode cX10_clear 8 = .ok (.iconst 1, 1) := by decide +kernel
theorem dX10_clear_9 : decode cX10_clear 9 = .ok (.ireturn, 1) := by decide +kernel
theorem dX10_asked_0 : decode cX10_asked 0 = .ok (.iconst 0, 1) := by decide +kernel
theorem dX10_asked_1 : decode cX10_asked 1 = .ok (.istore_n 1, 1) := by decide +kernel
theorem dX10_asked_2 : decode cX10_asked 2 = .ok (.iconst 0, 1) := by decide +kernel
theorem dX10_asked_3 : decode cX10_asked 3 = .ok (.istore_n 2, 1) := by decide +kernel
theorem dX10_asked_4 : decode cX10_asked 4 = .ok (.iload_n 2, 1) := by decide +kernel
theorem dX10_asked_5 : decode cX10_asked 5 = .ok (.aload_n 0, 1) := by decide +kernel
theorem dX10_asked_6 : decode cX10_asked 6 = .ok (.getfield 26, 3) := by decide +kernel
theorem dX10_asked_9 : decode cX10_asked 9 = .ok (.getfield 281, 3) := by decide +kernel
theorem dX10_asked_12 : decode cX10_asked 12 = .ok (.if_icmp .ge 42, 3) := by decide +kernel
theorem dX10_asked_54 : decode cX10_asked 54 = .ok (.iload_n 1, 1) := by decide +kernel
theorem dX10_asked_55 : decode cX10_asked 55 = .ok (.ireturn, 1) := by decide +kernel
theorem dX10_best_0 : decode cX10_best 0 = .ok (.aload_n 0, 1) := by decide +kernel
theorem dX10_best_1 : decode cX10_best 1 = .ok (.iload_n 1, 1) := by decide +kernel
theorem dX10_best_2 : decode cX10_best 2 = .ok (.iload_n 2, 1) := by decide +kernel
theorem dX10_best_3 : decode cX10_best 3 = .ok (.invokevirtual 198, 3) := by decide +kernel
theorem dX10_best_6 : decode cX10_best 6 = .ok (.ifCond .ne 5, 3) := by decide +kernel
theorem dX10_best_9 : decode cX10_best 9 = .ok (.iconst (-1), 1) := by decide +kernel
theorem dX10_best_10 : decode cX10_best 10 = .ok (.ireturn, 1) := by decide +kernel
set_option maxHeartbeats 4000000 in
set_option maxRecDepth 100000 in
theorem c_X9_isWare (l : Launch) (D : va_G) (cyC cyI cyJ cyZ cyO : ClassId) (p0 : Int32) (t21 : Nat) (t22 : Nat) (t23 : Nat) (t24 : Nat) (t25 : Nat) (t26 : Nat) (t27 : Nat) (t28 : Nat) (t29 : Nat) (t30 : Nat) (t31 : Nat) : KK l D (TY cyC cyI cyJ cyZ cyO) yX9_isWare cX9_isWare 2 (some .boolean) ({ frames := 0, cells := 0, slots := 0, locals := 0 } : Room) 0 0 [.ref t21, .int p0] [(t21, .inr (9, [.int 0, .int 0, .int 0, .ref t22, .ref t23, .ref t24, .ref t25, .ref t26, .ref t27, .int 0, .int 0, .ref t28, .ref t29, .ref t30, .ref t31]))] (fun u => some (.int 0)) (fun u => True) (fun u => [(t21, .inr (9, [.int 0, .int 0, .int 0, .ref t22, .ref t23, .ref t24, .ref t25, .ref t26, .ref t27, .int 0, .int 0, .ref t28, .ref t29, .ref t30, .ref t31]))]) := by
  refine KK.of (lv0 := [(0, .ref t21), (1, .int p0)]) (by decide) rfl (Nat.le_of_ble_eq_true rfl) ?_
  intro p e s m args below meth c A C hr hk hin
  refine j_iload_n (pc := 0) C dX9_isWare_0 rfl 1 rfl ?_
  refine j_if_lt (pc := 1) (tgt := 16) C dX9_isWare_1 (by decide) (fun c_1 => ?_) (fun c_1 => ?_)
  · skip
    refine j_iconst (pc := 16) (v := 0) C dX9_isWare_16 (by decide) ?_
    exact j_zret (pc := 17) C hr rfl hk (fun i => [].getD i 0, fun _ => 0, fun _ _ => 0) rfl trivial [0] (by decide) rfl (by decide) (by decide) dX9_isWare_17
  · skip
    refine j_iload_n (pc := 4) C dX9_isWare_4 rfl 1 rfl ?_
    refine j_aload_n (pc := 5) C dX9_isWare_5 rfl 0 rfl ?_
    refine j_get (pc := 6) (ci := 9) (v := .int 0) C inw_9 0 rfl rfl 0 (by decide) wd_169 rfl rfl dX9_isWare_6 ?_
    refine j_icmp_ge_t (pc := 9) (tgt := 16) C dX9_isWare_9 (by decide) (br_ltf_ge c_1) ?_
    refine j_iconst (pc := 16) (v := 0) C dX9_isWare_16 (by decide) ?_
    exact j_zret (pc := 17) C hr rfl hk (fun i => [].getD i 0, fun _ => 0, fun _ _ => 0) rfl trivial [0] (by decide) rfl (by decide) (by decide) dX9_isWare_17
set_option maxHeartbeats 4000000 in
set_option maxRecDepth 100000 in
theorem c_X9_isShelf (l : Launch) (D : va_G) (cyC cyI cyJ cyZ cyO : ClassId) (p0 : Int32) (t21 : Nat) (t22 : Nat) (t23 : Nat) (t24 : Nat) (t25 : Nat) (t26 : Nat) (t27 : Nat) (t28 : Nat) (t29 : Nat) (t30 : Nat) (t31 : Nat) : KK l D (TY cyC cyI cyJ cyZ cyO) yX9_isShelf cX9_isShelf 2 (some .boolean) ({ frames := 0, cells := 0, slots := 0, locals := 0 } : Room) 0 0 [.ref t21, .int p0] [(t21, .inr (9, [.int 0, .int 0, .int 0, .ref t22, .ref t23, .ref t24, .ref t25, .ref t26, .ref t27, .int 0, .int 0, .ref t28, .ref t29, .ref t30, .ref t31]))] (fun u => some (.int 0)) (fun u => True) (fun u => [(t21, .inr (9, [.int 0, .int 0, .int 0, .ref t22, .ref t23, .ref t24, .ref t25, .ref t26, .ref t27, .int 0, .int 0, .ref t28, .ref t29, .ref t30, .ref t31]))]) := by
  refine KK.of (lv0 := [(0, .ref t21), (1, .int p0)]) (by decide) rfl (Nat.le_of_ble_eq_true rfl) ?_
  intro p e s m args below meth c A C hr hk hin
  refine j_iload_n (pc := 0) C dX9_isShelf_0 rfl 1 rfl ?_
  refine j_if_lt (pc := 1) (tgt := 16) C dX9_isShelf_1 (by decide) (fun c_1 => ?_) (fun c_1 => ?_)
  · skip
    refine j_iconst (pc := 16) (v := 0) C dX9_isShelf_16 (by decide) ?_
    exact j_zret (pc := 17) C hr rfl hk (fun i => [].getD i 0, fun _ => 0, fun _ _ => 0) rfl trivial [0] (by decide) rfl (by decide) (by decide) dX9_isShelf_17
  · skip
    refine j_iload_n (pc := 4) C dX9_isShelf_4 rfl 1 rfl ?_
    refine j_aload_n (pc := 5) C dX9_isShelf_5 rfl 0 rfl ?_
    refine j_get (pc := 6) (ci := 9) (v := .int 0) C inw_9 0 rfl rfl 1 (by decide) wd_170 rfl rfl dX9_isShelf_6 ?_
    refine j_icmp_ge_t (pc := 9) (tgt := 16) C dX9_isShelf_9 (by decide) (br_ltf_ge c_1) ?_
    refine j_iconst (pc := 16) (v := 0) C dX9_isShelf_16 (by decide) ?_
    exact j_zret (pc := 17) C hr rfl hk (fun i => [].getD i 0, fun _ => 0, fun _ _ => 0) rfl trivial [0] (by decide) rfl (by decide) (by decide) dX9_isShelf_17
set_option maxHeartbeats 4000000 in
set_option maxRecDepth 100000 in
theorem c_X10_isStack (l : Launch) (D : va_G) (cyC cyI cyJ cyZ cyO : ClassId) (p0 : Int32) (p1 : Int32) (t0 : Nat) (t1 : Nat) (t21 : Nat) (t32 : Nat) (t37 : Nat) (t42 : Nat) (t43 : Nat) (t45 : Nat) (t50 : Nat) (t54 : Nat) (t58 : Nat) (t22 : Nat) (t23 : Nat) (t24 : Nat) (t25 : Nat) (t26 : Nat) (t27 : Nat) (t28 : Nat) (t29 : Nat) (t30 : Nat) (t31 : Nat) : KK l D (TY cyC cyI cyJ cyZ cyO) yX10_isStack cX10_isStack 3 (some .boolean) ({ frames := 1, cells := 0, slots := 0, locals := 21 } : Room) 0 0 [.ref t0, .int p0, .int p1] [(t0, .inr (10, [.ref t1, .ref t21, .ref t32, .ref t37, .ref t42, .ref t43, .ref t45, .ref t50, .ref t54, .ref t58])), (t21, .inr (9, [.int 0, .int 0, .int 0, .ref t22, .ref t23, .ref t24, .ref t25, .ref t26, .ref t27, .int 0, .int 0, .ref t28, .ref t29, .ref t30, .ref t31]))] (fun u => some (.int 0)) (fun u => True) (fun u => [(t0, .inr (10, [.ref t1, .ref t21, .ref t32, .ref t37, .ref t42, .ref t43, .ref t45, .ref t50, .ref t54, .ref t58])), (t21, .inr (9, [.int 0, .int 0, .int 0, .ref t22, .ref t23, .ref t24, .ref t25, .ref t26, .ref t27, .int 0, .int 0, .ref t28, .ref t29, .ref t30, .ref t31]))]) := by
  refine KK.of (lv0 := [(0, .ref t0), (1, .int p0), (2, .int p1)]) (by decide) rfl (Nat.le_of_ble_eq_true rfl) ?_
  intro p e s m args below meth c A C hr hk hin
  refine j_aload_n (pc := 0) C dX10_isStack_0 rfl 0 rfl ?_
  refine j_get (pc := 1) (ci := 10) (v := .ref t21) C inw_10 0 rfl rfl 1 (by decide) wd_77 rfl rfl dX10_isStack_1 ?_
  refine j_iload_n (pc := 4) C dX10_isStack_4 rfl 1 rfl ?_
  refine j_callV (pc := 5) (As := [.int p0]) (rest := []) (wr := [(t0, .inr (10, [.ref t1, .ref t21, .ref t32, .ref t37, .ref t42, .ref t43, .ref t45, .ref t50, .ref t54, .ref t58]))]) C (c_X9_isShelf l D cyC cyI cyJ cyZ cyO p0 t21 t22 t23 t24 t25 t26 t27 t28 t29 t30 t31) wd_171 wd_39 wd_172 wd_173 wd_174 ⟨by decide, by decide, rfl⟩ rfl ⟨rfl, rfl, by decide, by decide⟩ ⟨by decide, by decide⟩ [1] [0] rfl rfl ⟨by decide, by decide, by decide⟩ 1 rfl rfl rfl (Nat.le_of_ble_eq_true rfl) dX10_isStack_5 (fun u_1 hw_2 => ?_)
  refine j_eq (ws2 := [(t0, .inr (10, [.ref t1, .ref t21, .ref t32, .ref t37, .ref t42, .ref t43, .ref t45, .ref t50, .ref t54, .ref t58])), (t21, .inr (9, [.int 0, .int 0, .int 0, .ref t22, .ref t23, .ref t24, .ref t25, .ref t26, .ref t27, .int 0, .int 0, .ref t28, .ref t29, .ref t30, .ref t31]))]) (pc2 := 8) (lv2 := [(0, .ref t0), (1, .int p0), (2, .int p1)]) (st2 := [.int 0]) rfl rfl rfl rfl ?_
  refine j_if_eq_t (pc := 8) (tgt := 31) C dX10_isStack_8 (by decide) (by decide) ?_
  refine j_iconst (pc := 31) (v := 0) C dX10_isStack_31 (by decide) ?_
  exact j_zret (pc := 32) C hr rfl hk (fun i => [].getD i 0, fun _ => 0, fun _ _ => 0) rfl trivial [0, 1] (by decide) rfl (by decide) (by decide) dX10_isStack_32
set_option maxHeartbeats 4000000 in
set_option maxRecDepth 100000 in
theorem c_X10_ware (l : Launch) (D : va_G) (cyC cyI cyJ cyZ cyO : ClassId) (p0 : Int32) (p1 : Int32) (t0 : Nat) (t1 : Nat) (t21 : Nat) (t32 : Nat) (t37 : Nat) (t42 : Nat) (t43 : Nat) (t45 : Nat) (t50 : Nat) (t54 : Nat) (t58 : Nat) (t22 : Nat) (t23 : Nat) (t24 : Nat) (t25 : Nat) (t26 : Nat) (t27 : Nat) (t28 : Nat) (t29 : Nat) (t30 : Nat) (t31 : Nat) : KK l D (TY cyC cyI cyJ cyZ cyO) yX10_ware cX10_ware 3 (some .int) ({ frames := 1, cells := 0, slots := 0, locals := 21 } : Room) 0 0 [.ref t0, .int p0, .int p1] [(t0, .inr (10, [.ref t1, .ref t21, .ref t32, .ref t37, .ref t42, .ref t43, .ref t45, .ref t50, .ref t54, .ref t58])), (t21, .inr (9, [.int 0, .int 0, .int 0, .ref t22, .ref t23, .ref t24, .ref t25, .ref t26, .ref t27, .int 0, .int 0, .ref t28, .ref t29, .ref t30, .ref t31]))] (fun u => some (.int (-1))) (fun u => True) (fun u => []) := by
  refine KK.of (lv0 := [(0, .ref t0), (1, .int p0), (2, .int p1)]) (by decide) rfl (Nat.le_of_ble_eq_true rfl) ?_
  intro p e s m args below meth c A C hr hk hin
  refine j_aload_n (pc := 0) C dX10_ware_0 rfl 0 rfl ?_
  refine j_get (pc := 1) (ci := 10) (v := .ref t21) C inw_10 0 rfl rfl 1 (by decide) wd_77 rfl rfl dX10_ware_1 ?_
  refine j_iload_n (pc := 4) C dX10_ware_4 rfl 1 rfl ?_
  refine j_callV (pc := 5) (As := [.int p0]) (rest := []) (wr := [(t0, .inr (10, [.ref t1, .ref t21, .ref t32, .ref t37, .ref t42, .ref t43, .ref t45, .ref t50, .ref t54, .ref t58]))]) C (c_X9_isWare l D cyC cyI cyJ cyZ cyO p0 t21 t22 t23 t24 t25 t26 t27 t28 t29 t30 t31) wd_175 wd_39 wd_176 wd_177 wd_178 ⟨by decide, by decide, rfl⟩ rfl ⟨rfl, rfl, by decide, by decide⟩ ⟨by decide, by decide⟩ [1] [0] rfl rfl ⟨by decide, by decide, by decide⟩ 1 rfl rfl rfl (Nat.le_of_ble_eq_true rfl) dX10_ware_5 (fun u_1 hw_2 => ?_)
  refine j_eq (ws2 := [(t0, .inr (10, [.ref t1, .ref t21, .ref t32, .ref t37, .ref t42, .ref t43, .ref t45, .ref t50, .ref t54, .ref t58])), (t21, .inr (9, [.int 0, .int 0, .int 0, .ref t22, .ref t23, .ref t24, .ref t25, .ref t26, .ref t27, .int 0, .int 0, .ref t28, .ref t29, .ref t30, .ref t31]))]) (pc2 := 8) (lv2 := [(0, .ref t0), (1, .int p0), (2, .int p1)]) (st2 := [.int 0]) rfl rfl rfl rfl ?_
  refine j_if_ne_f (pc := 8) (tgt := 13) C dX10_ware_8 (by decide) (by decide) ?_
  refine j_iconst (pc := 11) (v := (-1)) C dX10_ware_11 (by decide) ?_
  exact j_iret (pc := 12) C hr hk (fun i => [].getD i 0, fun _ => 0, fun _ _ => 0) rfl trivial [] (by decide) rfl (by decide) (by decide) dX10_ware_12
set_option maxHeartbeats 4000000 in
set_option maxRecDepth 100000 in
theorem c_X10_shelf (l : Launch) (D : va_G) (cyC cyI cyJ cyZ cyO : ClassId) (p0 : Int32) (p1 : Int32) (t0 : Nat) (t1 : Nat) (t21 : Nat) (t32 : Nat) (t37 : Nat) (t42 : Nat) (t43 : Nat) (t45 : Nat) (t50 : Nat) (t54 : Nat) (t58 : Nat) (t22 : Nat) (t23 : Nat) (t24 : Nat) (t25 : Nat) (t26 : Nat) (t27 : Nat) (t28 : Nat) (t29 : Nat) (t30 : Nat) (t31 : Nat) : KK l D (TY cyC cyI cyJ cyZ cyO) yX10_shelf cX10_shelf 3 (some .int) ({ frames := 1, cells := 0, slots := 0, locals := 21 } : Room) 0 0 [.ref t0, .int p0, .int p1] [(t0, .inr (10, [.ref t1, .ref t21, .ref t32, .ref t37, .ref t42, .ref t43, .ref t45, .ref t50, .ref t54, .ref t58])), (t21, .inr (9, [.int 0, .int 0, .int 0, .ref t22, .ref t23, .ref t24, .ref t25, .ref t26, .ref t27, .int 0, .int 0, .ref t28, .ref t29, .ref t30, .ref t31]))] (fun u => some (.int (-1))) (fun u => True) (fun u => []) := by
  refine KK.of (lv0 := [(0, .ref t0), (1, .int p0), (2, .int p1)]) (by decide) rfl (Nat.le_of_ble_eq_true rfl) ?_
  intro p e s m args below meth c A C hr hk hin
  refine j_aload_n (pc := 0) C dX10_shelf_0 rfl 0 rfl ?_
  refine j_get (pc := 1) (ci := 10) (v := .ref t21) C inw_10 0 rfl rfl 1 (by decide) wd_77 rfl rfl dX10_shelf_1 ?_
  refine j_iload_n (pc := 4) C dX10_shelf_4 rfl 1 rfl ?_
  refine j_callV (pc := 5) (As := [.int p0]) (rest := []) (wr := [(t0, .inr (10, [.ref t1, .ref t21, .ref t32, .ref t37, .ref t42, .ref t43, .ref t45, .ref t50, .ref t54, .ref t58]))]) C (c_X9_isShelf l D cyC cyI cyJ cyZ cyO p0 t21 t22 t23 t24 t25 t26 t27 t28 t29 t30 t31) wd_171 wd_39 wd_172 wd_173 wd_174 ⟨by decide, by decide, rfl⟩ rfl ⟨rfl, rfl, by decide, by decide⟩ ⟨by decide, by decide⟩ [1] [0] rfl rfl ⟨by decide, by decide, by decide⟩ 1 rfl rfl rfl (Nat.le_of_ble_eq_true rfl) dX10_shelf_5 (fun u_1 hw_2 => ?_)
  refine j_eq (ws2 := [(t0, .inr (10, [.ref t1, .ref t21, .ref t32, .ref t37, .ref t42, .ref t43, .ref t45, .ref t50, .ref t54, .ref t58])), (t21, .inr (9, [.int 0, .int 0, .int 0, .ref t22, .ref t23, .ref t24, .ref t25, .ref t26, .ref t27, .int 0, .int 0, .ref t28, .ref t29, .ref t30, .ref t31]))]) (pc2 := 8) (lv2 := [(0, .ref t0), (1, .int p0), (2, .int p1)]) (st2 := [.int 0]) rfl rfl rfl rfl ?_
  refine j_if_ne_f (pc := 8) (tgt := 13) C dX10_shelf_8 (by decide) (by decide) ?_
  refine j_iconst (pc := 11) (v := (-1)) C dX10_shelf_11 (by decide) ?_
  exact j_iret (pc := 12) C hr hk (fun i => [].getD i 0, fun _ => 0, fun _ _ => 0) rfl trivial [] (by decide) rfl (by decide) (by decide) dX10_shelf_12
set_option maxHeartbeats 4000000 in
set_option maxRecDepth 100000 in
theorem c_X10_may (l : Launch) (D : va_G) (cyC cyI cyJ cyZ cyO : ClassId) (p0 : Int32) (p1 : Int32) (t0 : Nat) (t1 : Nat) (t21 : Nat) (t32 : Nat) (t37 : Nat) (t42 : Nat) (t43 : Nat) (t45 : Nat) (t50 : Nat) (t54 : Nat) (t58 : Nat) (t22 : Nat) (t23 : Nat) (t24 : Nat) (t25 : Nat) (t26 : Nat) (t27 : Nat) (t28 : Nat) (t29 : Nat) (t30 : Nat) (t31 : Nat) : KK l D (TY cyC cyI cyJ cyZ cyO) yX10_may cX10_may 3 (some .int) ({ frames := 1, cells := 0, slots := 0, locals := 21 } : Room) 0 0 [.ref t0, .int p0, .int p1] [(t0, .inr (10, [.ref t1, .ref t21, .ref t32, .ref t37, .ref t42, .ref t43, .ref t45, .ref t50, .ref t54, .ref t58])), (t21, .inr (9, [.int 0, .int 0, .int 0, .ref t22, .ref t23, .ref t24, .ref t25, .ref t26, .ref t27, .int 0, .int 0, .ref t28, .ref t29, .ref t30, .ref t31]))] (fun u => some (.int (-1))) (fun u => True) (fun u => []) := by
  refine KK.of (lv0 := [(0, .ref t0), (1, .int p0), (2, .int p1)]) (by decide) rfl (Nat.le_of_ble_eq_true rfl) ?_
  intro p e s m args below meth c A C hr hk hin
  refine j_aload_n (pc := 0) C dX10_may_0 rfl 0 rfl ?_
  refine j_get (pc := 1) (ci := 10) (v := .ref t21) C inw_10 0 rfl rfl 1 (by decide) wd_77 rfl rfl dX10_may_1 ?_
  refine j_iload_n (pc := 4) C dX10_may_4 rfl 1 rfl ?_
  refine j_callV (pc := 5) (As := [.int p0]) (rest := []) (wr := [(t0, .inr (10, [.ref t1, .ref t21, .ref t32, .ref t37, .ref t42, .ref t43, .ref t45, .ref t50, .ref t54, .ref t58]))]) C (c_X9_isWare l D cyC cyI cyJ cyZ cyO p0 t21 t22 t23 t24 t25 t26 t27 t28 t29 t30 t31) wd_175 wd_39 wd_176 wd_177 wd_178 ⟨by decide, by decide, rfl⟩ rfl ⟨rfl, rfl, by decide, by decide⟩ ⟨by decide, by decide⟩ [1] [0] rfl rfl ⟨by decide, by decide, by decide⟩ 1 rfl rfl rfl (Nat.le_of_ble_eq_true rfl) dX10_may_5 (fun u_1 hw_2 => ?_)
  refine j_eq (ws2 := [(t0, .inr (10, [.ref t1, .ref t21, .ref t32, .ref t37, .ref t42, .ref t43, .ref t45, .ref t50, .ref t54, .ref t58])), (t21, .inr (9, [.int 0, .int 0, .int 0, .ref t22, .ref t23, .ref t24, .ref t25, .ref t26, .ref t27, .int 0, .int 0, .ref t28, .ref t29, .ref t30, .ref t31]))]) (pc2 := 8) (lv2 := [(0, .ref t0), (1, .int p0), (2, .int p1)]) (st2 := [.int 0]) rfl rfl rfl rfl ?_
  refine j_if_eq_t (pc := 8) (tgt := 27) C dX10_may_8 (by decide) (by decide) ?_
  refine j_iconst (pc := 27) (v := (-1)) C dX10_may_27 (by decide) ?_
  exact j_iret (pc := 28) C hr hk (fun i => [].getD i 0, fun _ => 0, fun _ _ => 0) rfl trivial [] (by decide) rfl (by decide) (by decide) dX10_may_28
set_option maxHeartbeats 4000000 in
set_option maxRecDepth 100000 in
theorem c_X10_put (l : Launch) (D : va_G) (cyC cyI cyJ cyZ cyO : ClassId) (p0 : Int32) (p1 : Int32) (p2 : Int32) (t0 : Nat) (t1 : Nat) (t21 : Nat) (t32 : Nat) (t37 : Nat) (t42 : Nat) (t43 : Nat) (t45 : Nat) (t50 : Nat) (t54 : Nat) (t58 : Nat) (t22 : Nat) (t23 : Nat) (t24 : Nat) (t25 : Nat) (t26 : Nat) (t27 : Nat) (t28 : Nat) (t29 : Nat) (t30 : Nat) (t31 : Nat) : KK l D (TY cyC cyI cyJ cyZ cyO) yX10_put cX10_put 7 (some .int) ({ frames := 1, cells := 0, slots := 0, locals := 21 } : Room) 0 0 [.ref t0, .int p0, .int p1, .int p2] [(t0, .inr (10, [.ref t1, .ref t21, .ref t32, .ref t37, .ref t42, .ref t43, .ref t45, .ref t50, .ref t54, .ref t58])), (t21, .inr (9, [.int 0, .int 0, .int 0, .ref t22, .ref t23, .ref t24, .ref t25, .ref t26, .ref t27, .int 0, .int 0, .ref t28, .ref t29, .ref t30, .ref t31]))] (fun u => some (.int 1)) (fun u => True) (fun u => []) := by
  refine KK.of (lv0 := [(0, .ref t0), (1, .int p0), (2, .int p1), (3, .int p2)]) (by decide) rfl (Nat.le_of_ble_eq_true rfl) ?_
  intro p e s m args below meth c A C hr hk hin
  refine j_aload_n (pc := 0) C dX10_put_0 rfl 0 rfl ?_
  refine j_get (pc := 1) (ci := 10) (v := .ref t21) C inw_10 0 rfl rfl 1 (by decide) wd_77 rfl rfl dX10_put_1 ?_
  refine j_iload_n (pc := 4) C dX10_put_4 rfl 1 rfl ?_
  refine j_callV (pc := 5) (As := [.int p0]) (rest := []) (wr := [(t0, .inr (10, [.ref t1, .ref t21, .ref t32, .ref t37, .ref t42, .ref t43, .ref t45, .ref t50, .ref t54, .ref t58]))]) C (c_X9_isWare l D cyC cyI cyJ cyZ cyO p0 t21 t22 t23 t24 t25 t26 t27 t28 t29 t30 t31) wd_175 wd_39 wd_176 wd_177 wd_178 ⟨by decide, by decide, rfl⟩ rfl ⟨rfl, rfl, by decide, by decide⟩ ⟨by decide, by decide⟩ [1] [0] rfl rfl ⟨by decide, by decide, by decide⟩ 1 rfl rfl rfl (Nat.le_of_ble_eq_true rfl) dX10_put_5 (fun u_1 hw_2 => ?_)
  refine j_eq (ws2 := [(t0, .inr (10, [.ref t1, .ref t21, .ref t32, .ref t37, .ref t42, .ref t43, .ref t45, .ref t50, .ref t54, .ref t58])), (t21, .inr (9, [.int 0, .int 0, .int 0, .ref t22, .ref t23, .ref t24, .ref t25, .ref t26, .ref t27, .int 0, .int 0, .ref t28, .ref t29, .ref t30, .ref t31]))]) (pc2 := 8) (lv2 := [(0, .ref t0), (1, .int p0), (2, .int p1), (3, .int p2)]) (st2 := [.int 0]) rfl rfl rfl rfl ?_
  refine j_if_eq_t (pc := 8) (tgt := 22) C dX10_put_8 (by decide) (by decide) ?_
  refine j_iconst (pc := 22) (v := 1) C dX10_put_22 (by decide) ?_
  exact j_iret (pc := 23) C hr hk (fun i => [].getD i 0, fun _ => 0, fun _ _ => 0) rfl trivial [] (by decide) rfl (by decide) (by decide) dX10_put_23
set_option maxHeartbeats 4000000 in
set_option maxRecDepth 100000 in
theorem c_X10_draw (l : Launch) (D : va_G) (cyC cyI cyJ cyZ cyO : ClassId) (p0 : Int32) (t0 : Nat) (t1 : Nat) (t21 : Nat) (t32 : Nat) (t37 : Nat) (t42 : Nat) (t43 : Nat) (t45 : Nat) (t50 : Nat) (t54 : Nat) (t58 : Nat) (t22 : Nat) (t23 : Nat) (t24 : Nat) (t25 : Nat) (t26 : Nat) (t27 : Nat) (t28 : Nat) (t29 : Nat) (t30 : Nat) (t31 : Nat) : KK l D (TY cyC cyI cyJ cyZ cyO) yX10_draw cX10_draw 5 (some .int) ({ frames := 1, cells := 0, slots := 0, locals := 21 } : Room) 0 0 [.ref t0, .int p0] [(t0, .inr (10, [.ref t1, .ref t21, .ref t32, .ref t37, .ref t42, .ref t43, .ref t45, .ref t50, .ref t54, .ref t58])), (t21, .inr (9, [.int 0, .int 0, .int 0, .ref t22, .ref t23, .ref t24, .ref t25, .ref t26, .ref t27, .int 0, .int 0, .ref t28, .ref t29, .ref t30, .ref t31]))] (fun u => some (.int 1)) (fun u => True) (fun u => []) := by
  refine KK.of (lv0 := [(0, .ref t0), (1, .int p0)]) (by decide) rfl (Nat.le_of_ble_eq_true rfl) ?_
  intro p e s m args below meth c A C hr hk hin
  refine j_aload_n (pc := 0) C dX10_draw_0 rfl 0 rfl ?_
  refine j_get (pc := 1) (ci := 10) (v := .ref t21) C inw_10 0 rfl rfl 1 (by decide) wd_77 rfl rfl dX10_draw_1 ?_
  refine j_iload_n (pc := 4) C dX10_draw_4 rfl 1 rfl ?_
  refine j_callV (pc := 5) (As := [.int p0]) (rest := []) (wr := [(t0, .inr (10, [.ref t1, .ref t21, .ref t32, .ref t37, .ref t42, .ref t43, .ref t45, .ref t50, .ref t54, .ref t58]))]) C (c_X9_isWare l D cyC cyI cyJ cyZ cyO p0 t21 t22 t23 t24 t25 t26 t27 t28 t29 t30 t31) wd_175 wd_39 wd_176 wd_177 wd_178 ⟨by decide, by decide, rfl⟩ rfl ⟨rfl, rfl, by decide, by decide⟩ ⟨by decide, by decide⟩ [1] [0] rfl rfl ⟨by decide, by decide, by decide⟩ 1 rfl rfl rfl (Nat.le_of_ble_eq_true rfl) dX10_draw_5 (fun u_1 hw_2 => ?_)
  refine j_eq (ws2 := [(t0, .inr (10, [.ref t1, .ref t21, .ref t32, .ref t37, .ref t42, .ref t43, .ref t45, .ref t50, .ref t54, .ref t58])), (t21, .inr (9, [.int 0, .int 0, .int 0, .ref t22, .ref t23, .ref t24, .ref t25, .ref t26, .ref t27, .int 0, .int 0, .ref t28, .ref t29, .ref t30, .ref t31]))]) (pc2 := 8) (lv2 := [(0, .ref t0), (1, .int p0)]) (st2 := [.int 0]) rfl rfl rfl rfl ?_
  refine j_if_ne_f (pc := 8) (tgt := 13) C dX10_draw_8 (by decide) (by decide) ?_
  refine j_iconst (pc := 11) (v := 1) C dX10_draw_11 (by decide) ?_
  exact j_iret (pc := 12) C hr hk (fun i => [].getD i 0, fun _ => 0, fun _ _ => 0) rfl trivial [] (by decide) rfl (by decide) (by decide) dX10_draw_12
set_option maxHeartbeats 4000000 in
set_option maxRecDepth 100000 in
theorem c_X10_carry (l : Launch) (D : va_G) (cyC cyI cyJ cyZ cyO : ClassId) (p0 : Int32) (p1 : Int32) (p2 : Int32) (t0 : Nat) (t1 : Nat) (t21 : Nat) (t32 : Nat) (t37 : Nat) (t42 : Nat) (t43 : Nat) (t45 : Nat) (t50 : Nat) (t54 : Nat) (t58 : Nat) (t22 : Nat) (t23 : Nat) (t24 : Nat) (t25 : Nat) (t26 : Nat) (t27 : Nat) (t28 : Nat) (t29 : Nat) (t30 : Nat) (t31 : Nat) : KK l D (TY cyC cyI cyJ cyZ cyO) yX10_carry cX10_carry 4 (some .int) ({ frames := 2, cells := 0, slots := 0, locals := 43 } : Room) 0 0 [.ref t0, .int p0, .int p1, .int p2] [(t0, .inr (10, [.ref t1, .ref t21, .ref t32, .ref t37, .ref t42, .ref t43, .ref t45, .ref t50, .ref t54, .ref t58])), (t21, .inr (9, [.int 0, .int 0, .int 0, .ref t22, .ref t23, .ref t24, .ref t25, .ref t26, .ref t27, .int 0, .int 0, .ref t28, .ref t29, .ref t30, .ref t31]))] (fun u => some (.int 1)) (fun u => True) (fun u => []) := by
  refine KK.of (lv0 := [(0, .ref t0), (1, .int p0), (2, .int p1), (3, .int p2)]) (by decide) rfl (Nat.le_of_ble_eq_true rfl) ?_
  intro p e s m args below meth c A C hr hk hin
  refine j_aload_n (pc := 0) C dX10_carry_0 rfl 0 rfl ?_
  refine j_iload_n (pc := 1) C dX10_carry_1 rfl 1 rfl ?_
  refine j_iload_n (pc := 2) C dX10_carry_2 rfl 2 rfl ?_
  refine j_callV (pc := 3) (As := [.int p0, .int p1]) (rest := []) (wr := []) C (c_X10_isStack l D cyC cyI cyJ cyZ cyO p0 p1 t0 t1 t21 t32 t37 t42 t43 t45 t50 t54 t58 t22 t23 t24 t25 t26 t27 t28 t29 t30 t31) wd_179 wd_180 wd_181 wd_182 wd_183 ⟨by decide, by decide, rfl⟩ rfl ⟨rfl, rfl, by decide, by decide⟩ ⟨by decide, by decide⟩ [0, 1] [] rfl rfl ⟨by decide, by decide, by decide⟩ 0 rfl rfl rfl (Nat.le_of_ble_eq_true rfl) dX10_carry_3 (fun u_1 hw_2 => ?_)
  refine j_eq (ws2 := [(t0, .inr (10, [.ref t1, .ref t21, .ref t32, .ref t37, .ref t42, .ref t43, .ref t45, .ref t50, .ref t54, .ref t58])), (t21, .inr (9, [.int 0, .int 0, .int 0, .ref t22, .ref t23, .ref t24, .ref t25, .ref t26, .ref t27, .int 0, .int 0, .ref t28, .ref t29, .ref t30, .ref t31]))]) (pc2 := 6) (lv2 := [(0, .ref t0), (1, .int p0), (2, .int p1), (3, .int p2)]) (st2 := [.int 0]) rfl rfl rfl rfl ?_
  refine j_if_eq_t (pc := 6) (tgt := 25) C dX10_carry_6 (by decide) (by decide) ?_
  refine j_iconst (pc := 25) (v := 1) C dX10_carry_25 (by decide) ?_
  exact j_iret (pc := 26) C hr hk (fun i => [].getD i 0, fun _ => 0, fun _ _ => 0) rfl trivial [] (by decide) rfl (by decide) (by decide) dX10_carry_26
set_option maxHeartbeats 4000000 in
set_option maxRecDepth 100000 in
theorem c_X10_where (l : Launch) (D : va_G) (cyC cyI cyJ cyZ cyO : ClassId) (p0 : Int32) (p1 : Int32) (t0 : Nat) (t1 : Nat) (t21 : Nat) (t32 : Nat) (t37 : Nat) (t42 : Nat) (t43 : Nat) (t45 : Nat) (t50 : Nat) (t54 : Nat) (t58 : Nat) (t22 : Nat) (t23 : Nat) (t24 : Nat) (t25 : Nat) (t26 : Nat) (t27 : Nat) (t28 : Nat) (t29 : Nat) (t30 : Nat) (t31 : Nat) : KK l D (TY cyC cyI cyJ cyZ cyO) yX10_where cX10_where 4 (some .int) ({ frames := 1, cells := 0, slots := 0, locals := 21 } : Room) 0 0 [.ref t0, .int p0, .int p1] [(t0, .inr (10, [.ref t1, .ref t21, .ref t32, .ref t37, .ref t42, .ref t43, .ref t45, .ref t50, .ref t54, .ref t58])), (t21, .inr (9, [.int 0, .int 0, .int 0, .ref t22, .ref t23, .ref t24, .ref t25, .ref t26, .ref t27, .int 0, .int 0, .ref t28, .ref t29, .ref t30, .ref t31]))] (fun u => some (.int (-1))) (fun u => True) (fun u => []) := by
  refine KK.of (lv0 := [(0, .ref t0), (1, .int p0), (2, .int p1)]) (by decide) rfl (Nat.le_of_ble_eq_true rfl) ?_
  intro p e s m args below meth c A C hr hk hin
  refine j_aload_n (pc := 0) C dX10_where_0 rfl 0 rfl ?_
  refine j_get (pc := 1) (ci := 10) (v := .ref t21) C inw_10 0 rfl rfl 1 (by decide) wd_77 rfl rfl dX10_where_1 ?_
  refine j_iload_n (pc := 4) C dX10_where_4 rfl 1 rfl ?_
  refine j_callV (pc := 5) (As := [.int p0]) (rest := []) (wr := [(t0, .inr (10, [.ref t1, .ref t21, .ref t32, .ref t37, .ref t42, .ref t43, .ref t45, .ref t50, .ref t54, .ref t58]))]) C (c_X9_isWare l D cyC cyI cyJ cyZ cyO p0 t21 t22 t23 t24 t25 t26 t27 t28 t29 t30 t31) wd_175 wd_39 wd_176 wd_177 wd_178 ⟨by decide, by decide, rfl⟩ rfl ⟨rfl, rfl, by decide, by decide⟩ ⟨by decide, by decide⟩ [1] [0] rfl rfl ⟨by decide, by decide, by decide⟩ 1 rfl rfl rfl (Nat.le_of_ble_eq_true rfl) dX10_where_5 (fun u_1 hw_2 => ?_)
  refine j_eq (ws2 := [(t0, .inr (10, [.ref t1, .ref t21, .ref t32, .ref t37, .ref t42, .ref t43, .ref t45, .ref t50, .ref t54, .ref t58])), (t21, .inr (9, [.int 0, .int 0, .int 0, .ref t22, .ref t23, .ref t24, .ref t25, .ref t26, .ref t27, .int 0, .int 0, .ref t28, .ref t29, .ref t30, .ref t31]))]) (pc2 := 8) (lv2 := [(0, .ref t0), (1, .int p0), (2, .int p1)]) (st2 := [.int 0]) rfl rfl rfl rfl ?_
  refine j_if_eq_t (pc := 8) (tgt := 22) C dX10_where_8 (by decide) (by decide) ?_
  refine j_iconst (pc := 22) (v := (-1)) C dX10_where_22 (by decide) ?_
  exact j_iret (pc := 23) C hr hk (fun i => [].getD i 0, fun _ => 0, fun _ _ => 0) rfl trivial [] (by decide) rfl (by decide) (by decide) dX10_where_23
set_option maxHeartbeats 4000000 in
set_option maxRecDepth 100000 in
theorem c_X10_at (l : Launch) (D : va_G) (cyC cyI cyJ cyZ cyO : ClassId) (p0 : Int32) (p1 : Int32) (p2 : Int32) (t0 : Nat) (t1 : Nat) (t21 : Nat) (t32 : Nat) (t37 : Nat) (t42 : Nat) (t43 : Nat) (t45 : Nat) (t50 : Nat) (t54 : Nat) (t58 : Nat) (t22 : Nat) (t23 : Nat) (t24 : Nat) (t25 : Nat) (t26 : Nat) (t27 : Nat) (t28 : Nat) (t29 : Nat) (t30 : Nat) (t31 : Nat) : KK l D (TY cyC cyI cyJ cyZ cyO) yX10_at cX10_at 4 (some .int) ({ frames := 2, cells := 0, slots := 0, locals := 43 } : Room) 0 0 [.ref t0, .int p0, .int p1, .int p2] [(t0, .inr (10, [.ref t1, .ref t21, .ref t32, .ref t37, .ref t42, .ref t43, .ref t45, .ref t50, .ref t54, .ref t58])), (t21, .inr (9, [.int 0, .int 0, .int 0, .ref t22, .ref t23, .ref t24, .ref t25, .ref t26, .ref t27, .int 0, .int 0, .ref t28, .ref t29, .ref t30, .ref t31]))] (fun u => some (.int (-1))) (fun u => True) (fun u => []) := by
  refine KK.of (lv0 := [(0, .ref t0), (1, .int p0), (2, .int p1), (3, .int p2)]) (by decide) rfl (Nat.le_of_ble_eq_true rfl) ?_
  intro p e s m args below meth c A C hr hk hin
  refine j_aload_n (pc := 0) C dX10_at_0 rfl 0 rfl ?_
  refine j_iload_n (pc := 1) C dX10_at_1 rfl 1 rfl ?_
  refine j_iload_n (pc := 2) C dX10_at_2 rfl 2 rfl ?_
  refine j_callV (pc := 3) (As := [.int p0, .int p1]) (rest := []) (wr := []) C (c_X10_isStack l D cyC cyI cyJ cyZ cyO p0 p1 t0 t1 t21 t32 t37 t42 t43 t45 t50 t54 t58 t22 t23 t24 t25 t26 t27 t28 t29 t30 t31) wd_179 wd_180 wd_181 wd_182 wd_183 ⟨by decide, by decide, rfl⟩ rfl ⟨rfl, rfl, by decide, by decide⟩ ⟨by decide, by decide⟩ [0, 1] [] rfl rfl ⟨by decide, by decide, by decide⟩ 0 rfl rfl rfl (Nat.le_of_ble_eq_true rfl) dX10_at_3 (fun u_1 hw_2 => ?_)
  refine j_eq (ws2 := [(t0, .inr (10, [.ref t1, .ref t21, .ref t32, .ref t37, .ref t42, .ref t43, .ref t45, .ref t50, .ref t54, .ref t58])), (t21, .inr (9, [.int 0, .int 0, .int 0, .ref t22, .ref t23, .ref t24, .ref t25, .ref t26, .ref t27, .int 0, .int 0, .ref t28, .ref t29, .ref t30, .ref t31]))]) (pc2 := 6) (lv2 := [(0, .ref t0), (1, .int p0), (2, .int p1), (3, .int p2)]) (st2 := [.int 0]) rfl rfl rfl rfl ?_
  refine j_if_ne_f (pc := 6) (tgt := 11) C dX10_at_6 (by decide) (by decide) ?_
  refine j_iconst (pc := 9) (v := (-1)) C dX10_at_9 (by decide) ?_
  exact j_iret (pc := 10) C hr hk (fun i => [].getD i 0, fun _ => 0, fun _ _ => 0) rfl trivial [] (by decide) rfl (by decide) (by decide) dX10_at_10
set_option maxHeartbeats 4000000 in
set_option maxRecDepth 100000 in
theorem c_X10_stack (l : Launch) (D : va_G) (cyC cyI cyJ cyZ cyO : ClassId) (p0 : Int32) (p1 : Int32) (p2 : Int32) (t0 : Nat) (t1 : Nat) (t21 : Nat) (t32 : Nat) (t37 : Nat) (t42 : Nat) (t43 : Nat) (t45 : Nat) (t50 : Nat) (t54 : Nat) (t58 : Nat) (t22 : Nat) (t23 : Nat) (t24 : Nat) (t25 : Nat) (t26 : Nat) (t27 : Nat) (t28 : Nat) (t29 : Nat) (t30 : Nat) (t31 : Nat) : KK l D (TY cyC cyI cyJ cyZ cyO) yX10_stack cX10_stack 4 (some .int) ({ frames := 2, cells := 0, slots := 0, locals := 43 } : Room) 0 0 [.ref t0, .int p0, .int p1, .int p2] [(t0, .inr (10, [.ref t1, .ref t21, .ref t32, .ref t37, .ref t42, .ref t43, .ref t45, .ref t50, .ref t54, .ref t58])), (t21, .inr (9, [.int 0, .int 0, .int 0, .ref t22, .ref t23, .ref t24, .ref t25, .ref t26, .ref t27, .int 0, .int 0, .ref t28, .ref t29, .ref t30, .ref t31]))] (fun u => some (.int (-1))) (fun u => True) (fun u => []) := by
  refine KK.of (lv0 := [(0, .ref t0), (1, .int p0), (2, .int p1), (3, .int p2)]) (by decide) rfl (Nat.le_of_ble_eq_true rfl) ?_
  intro p e s m args below meth c A C hr hk hin
  refine j_aload_n (pc := 0) C dX10_stack_0 rfl 0 rfl ?_
  refine j_iload_n (pc := 1) C dX10_stack_1 rfl 1 rfl ?_
  refine j_iload_n (pc := 2) C dX10_stack_2 rfl 2 rfl ?_
  refine j_callV (pc := 3) (As := [.int p0, .int p1]) (rest := []) (wr := []) C (c_X10_isStack l D cyC cyI cyJ cyZ cyO p0 p1 t0 t1 t21 t32 t37 t42 t43 t45 t50 t54 t58 t22 t23 t24 t25 t26 t27 t28 t29 t30 t31) wd_179 wd_180 wd_181 wd_182 wd_183 ⟨by decide, by decide, rfl⟩ rfl ⟨rfl, rfl, by decide, by decide⟩ ⟨by decide, by decide⟩ [0, 1] [] rfl rfl ⟨by decide, by decide, by decide⟩ 0 rfl rfl rfl (Nat.le_of_ble_eq_true rfl) dX10_stack_3 (fun u_1 hw_2 => ?_)
  refine j_eq (ws2 := [(t0, .inr (10, [.ref t1, .ref t21, .ref t32, .ref t37, .ref t42, .ref t43, .ref t45, .ref t50, .ref t54, .ref t58])), (t21, .inr (9, [.int 0, .int 0, .int 0, .ref t22, .ref t23, .ref t24, .ref t25, .ref t26, .ref t27, .int 0, .int 0, .ref t28, .ref t29, .ref t30, .ref t31]))]) (pc2 := 6) (lv2 := [(0, .ref t0), (1, .int p0), (2, .int p1), (3, .int p2)]) (st2 := [.int 0]) rfl rfl rfl rfl ?_
  refine j_if_ne_f (pc := 6) (tgt := 11) C dX10_stack_6 (by decide) (by decide) ?_
  refine j_iconst (pc := 9) (v := (-1)) C dX10_stack_9 (by decide) ?_
  exact j_iret (pc := 10) C hr hk (fun i => [].getD i 0, fun _ => 0, fun _ _ => 0) rfl trivial [] (by decide) rfl (by decide) (by decide) dX10_stack_10
set_option maxHeartbeats 4000000 in
set_option maxRecDepth 100000 in
theorem c_X10_lift (l : Launch) (D : va_G) (cyC cyI cyJ cyZ cyO : ClassId) (p0 : Int32) (t0 : Nat) (t1 : Nat) (t21 : Nat) (t32 : Nat) (t37 : Nat) (t42 : Nat) (t43 : Nat) (t45 : Nat) (t50 : Nat) (t54 : Nat) (t58 : Nat) (t22 : Nat) (t23 : Nat) (t24 : Nat) (t25 : Nat) (t26 : Nat) (t27 : Nat) (t28 : Nat) (t29 : Nat) (t30 : Nat) (t31 : Nat) : KK l D (TY cyC cyI cyJ cyZ cyO) yX10_lift cX10_lift 2 (some .int) ({ frames := 1, cells := 0, slots := 0, locals := 21 } : Room) 0 0 [.ref t0, .int p0] [(t0, .inr (10, [.ref t1, .ref t21, .ref t32, .ref t37, .ref t42, .ref t43, .ref t45, .ref t50, .ref t54, .ref t58])), (t21, .inr (9, [.int 0, .int 0, .int 0, .ref t22, .ref t23, .ref t24, .ref t25, .ref t26, .ref t27, .int 0, .int 0, .ref t28, .ref t29, .ref t30, .ref t31]))] (fun u => some (.int (-1))) (fun u => True) (fun u => []) := by
  refine KK.of (lv0 := [(0, .ref t0), (1, .int p0)]) (by decide) rfl (Nat.le_of_ble_eq_true rfl) ?_
  intro p e s m args below meth c A C hr hk hin
  refine j_aload_n (pc := 0) C dX10_lift_0 rfl 0 rfl ?_
  refine j_get (pc := 1) (ci := 10) (v := .ref t21) C inw_10 0 rfl rfl 1 (by decide) wd_77 rfl rfl dX10_lift_1 ?_
  refine j_iload_n (pc := 4) C dX10_lift_4 rfl 1 rfl ?_
  refine j_callV (pc := 5) (As := [.int p0]) (rest := []) (wr := [(t0, .inr (10, [.ref t1, .ref t21, .ref t32, .ref t37, .ref t42, .ref t43, .ref t45, .ref t50, .ref t54, .ref t58]))]) C (c_X9_isWare l D cyC cyI cyJ cyZ cyO p0 t21 t22 t23 t24 t25 t26 t27 t28 t29 t30 t31) wd_175 wd_39 wd_176 wd_177 wd_178 ⟨by decide, by decide, rfl⟩ rfl ⟨rfl, rfl, by decide, by decide⟩ ⟨by decide, by decide⟩ [1] [0] rfl rfl ⟨by decide, by decide, by decide⟩ 1 rfl rfl rfl (Nat.le_of_ble_eq_true rfl) dX10_lift_5 (fun u_1 hw_2 => ?_)
  refine j_eq (ws2 := [(t0, .inr (10, [.ref t1, .ref t21, .ref t32, .ref t37, .ref t42, .ref t43, .ref t45, .ref t50, .ref t54, .ref t58])), (t21, .inr (9, [.int 0, .int 0, .int 0, .ref t22, .ref t23, .ref t24, .ref t25, .ref t26, .ref t27, .int 0, .int 0, .ref t28, .ref t29, .ref t30, .ref t31]))]) (pc2 := 8) (lv2 := [(0, .ref t0), (1, .int p0)]) (st2 := [.int 0]) rfl rfl rfl rfl ?_
  refine j_if_eq_t (pc := 8) (tgt := 34) C dX10_lift_8 (by decide) (by decide) ?_
  refine j_iconst (pc := 34) (v := (-1)) C dX10_lift_34 (by decide) ?_
  exact j_iret (pc := 35) C hr hk (fun i => [].getD i 0, fun _ => 0, fun _ _ => 0) rfl trivial [] (by decide) rfl (by decide) (by decide) dX10_lift_35
set_option maxHeartbeats 4000000 in
set_option maxRecDepth 100000 in
theorem c_X10_cost (l : Launch) (D : va_G) (cyC cyI cyJ cyZ cyO : ClassId) (t0 : Nat) (t1 : Nat) (t21 : Nat) (t32 : Nat) (t37 : Nat) (t42 : Nat) (t43 : Nat) (t45 : Nat) (t50 : Nat) (t54 : Nat) (t58 : Nat) (t33 : Nat) (t34 : Nat) (t35 : Nat) (t36 : Nat) : KK l D (TY cyC cyI cyJ cyZ cyO) yX10_cost cX10_cost 1 (some .int) ({ frames := 0, cells := 0, slots := 0, locals := 0 } : Room) 0 0 [.ref t0] [(t0, .inr (10, [.ref t1, .ref t21, .ref t32, .ref t37, .ref t42, .ref t43, .ref t45, .ref t50, .ref t54, .ref t58])), (t32, .inr (7, [.ref t33, .ref t34, .ref t35, .ref t36, .int 0, .int 0, .int 0]))] (fun u => some (.int 0)) (fun u => True) (fun u => []) := by
  refine KK.of (lv0 := [(0, .ref t0)]) (by decide) rfl (Nat.le_of_ble_eq_true rfl) ?_
  intro p e s m args below meth c A C hr hk hin
  refine j_aload_n (pc := 0) C dX10_cost_0 rfl 0 rfl ?_
  refine j_get (pc := 1) (ci := 10) (v := .ref t32) C inw_10 0 rfl rfl 2 (by decide) wd_84 rfl rfl dX10_cost_1 ?_
  refine j_get (pc := 4) (ci := 7) (v := .int 0) C inw_7 1 rfl rfl 5 (by decide) wd_184 rfl rfl dX10_cost_4 ?_
  exact j_iret (pc := 7) C hr hk (fun i => [].getD i 0, fun _ => 0, fun _ _ => 0) rfl trivial [] (by decide) rfl (by decide) (by decide) dX10_cost_7
set_option maxHeartbeats 4000000 in
set_option maxRecDepth 100000 in
theorem c_X10_through (l : Launch) (D : va_G) (cyC cyI cyJ cyZ cyO : ClassId) (p0 : Int32) (p1 : Int32) (t0 : Nat) (t1 : Nat) (t21 : Nat) (t32 : Nat) (t37 : Nat) (t42 : Nat) (t43 : Nat) (t45 : Nat) (t50 : Nat) (t54 : Nat) (t58 : Nat) (t22 : Nat) (t23 : Nat) (t24 : Nat) (t25 : Nat) (t26 : Nat) (t27 : Nat) (t28 : Nat) (t29 : Nat) (t30 : Nat) (t31 : Nat) : KK l D (TY cyC cyI cyJ cyZ cyO) yX10_through cX10_through 3 (some .int) ({ frames := 1, cells := 0, slots := 0, locals := 21 } : Room) 0 0 [.ref t0, .int p0, .int p1] [(t0, .inr (10, [.ref t1, .ref t21, .ref t32, .ref t37, .ref t42, .ref t43, .ref t45, .ref t50, .ref t54, .ref t58])), (t21, .inr (9, [.int 0, .int 0, .int 0, .ref t22, .ref t23, .ref t24, .ref t25, .ref t26, .ref t27, .int 0, .int 0, .ref t28, .ref t29, .ref t30, .ref t31]))] (fun u => some (.int (-1))) (fun u => True) (fun u => []) := by
  refine KK.of (lv0 := [(0, .ref t0), (1, .int p0), (2, .int p1)]) (by decide) rfl (Nat.le_of_ble_eq_true rfl) ?_
  intro p e s m args below meth c A C hr hk hin
  refine j_aload_n (pc := 0) C dX10_through_0 rfl 0 rfl ?_
  refine j_get (pc := 1) (ci := 10) (v := .ref t21) C inw_10 0 rfl rfl 1 (by decide) wd_77 rfl rfl dX10_through_1 ?_
  refine j_iload_n (pc := 4) C dX10_through_4 rfl 1 rfl ?_
  refine j_callV (pc := 5) (As := [.int p0]) (rest := []) (wr := [(t0, .inr (10, [.ref t1, .ref t21, .ref t32, .ref t37, .ref t42, .ref t43, .ref t45, .ref t50, .ref t54, .ref t58]))]) C (c_X9_isWare l D cyC cyI cyJ cyZ cyO p0 t21 t22 t23 t24 t25 t26 t27 t28 t29 t30 t31) wd_175 wd_39 wd_176 wd_177 wd_178 ⟨by decide, by decide, rfl⟩ rfl ⟨rfl, rfl, by decide, by decide⟩ ⟨by decide, by decide⟩ [1] [0] rfl rfl ⟨by decide, by decide, by decide⟩ 1 rfl rfl rfl (Nat.le_of_ble_eq_true rfl) dX10_through_5 (fun u_1 hw_2 => ?_)
  refine j_eq (ws2 := [(t0, .inr (10, [.ref t1, .ref t21, .ref t32, .ref t37, .ref t42, .ref t43, .ref t45, .ref t50, .ref t54, .ref t58])), (t21, .inr (9, [.int 0, .int 0, .int 0, .ref t22, .ref t23, .ref t24, .ref t25, .ref t26, .ref t27, .int 0, .int 0, .ref t28, .ref t29, .ref t30, .ref t31]))]) (pc2 := 8) (lv2 := [(0, .ref t0), (1, .int p0), (2, .int p1)]) (st2 := [.int 0]) rfl rfl rfl rfl ?_
  refine j_if_eq_t (pc := 8) (tgt := 22) C dX10_through_8 (by decide) (by decide) ?_
  refine j_iconst (pc := 22) (v := (-1)) C dX10_through_22 (by decide) ?_
  exact j_iret (pc := 23) C hr hk (fun i => [].getD i 0, fun _ => 0, fun _ _ => 0) rfl trivial [] (by decide) rfl (by decide) (by decide) dX10_through_23
set_option maxHeartbeats 4000000 in
set_option maxRecDepth 100000 in
theorem c_X10_rowOf (l : Launch) (D : va_G) (cyC cyI cyJ cyZ cyO : ClassId) (p0 : Int32) (t0 : Nat) (t1 : Nat) (t21 : Nat) (t32 : Nat) (t37 : Nat) (t42 : Nat) (t43 : Nat) (t45 : Nat) (t50 : Nat) (t54 : Nat) (t58 : Nat) (t22 : Nat) (t23 : Nat) (t24 : Nat) (t25 : Nat) (t26 : Nat) (t27 : Nat) (t28 : Nat) (t29 : Nat) (t30 : Nat) (t31 : Nat) : KK l D (TY cyC cyI cyJ cyZ cyO) yX10_rowOf cX10_rowOf 2 (some .int) ({ frames := 1, cells := 0, slots := 0, locals := 21 } : Room) 0 0 [.ref t0, .int p0] [(t0, .inr (10, [.ref t1, .ref t21, .ref t32, .ref t37, .ref t42, .ref t43, .ref t45, .ref t50, .ref t54, .ref t58])), (t21, .inr (9, [.int 0, .int 0, .int 0, .ref t22, .ref t23, .ref t24, .ref t25, .ref t26, .ref t27, .int 0, .int 0, .ref t28, .ref t29, .ref t30, .ref t31]))] (fun u => some (.int (-1))) (fun u => True) (fun u => []) := by
  refine KK.of (lv0 := [(0, .ref t0), (1, .int p0)]) (by decide) rfl (Nat.le_of_ble_eq_true rfl) ?_
  intro p e s m args below meth c A C hr hk hin
  refine j_aload_n (pc := 0) C dX10_rowOf_0 rfl 0 rfl ?_
  refine j_get (pc := 1) (ci := 10) (v := .ref t21) C inw_10 0 rfl rfl 1 (by decide) wd_77 rfl rfl dX10_rowOf_1 ?_
  refine j_iload_n (pc := 4) C dX10_rowOf_4 rfl 1 rfl ?_
  refine j_callV (pc := 5) (As := [.int p0]) (rest := []) (wr := [(t0, .inr (10, [.ref t1, .ref t21, .ref t32, .ref t37, .ref t42, .ref t43, .ref t45, .ref t50, .ref t54, .ref t58]))]) C (c_X9_isWare l D cyC cyI cyJ cyZ cyO p0 t21 t22 t23 t24 t25 t26 t27 t28 t29 t30 t31) wd_175 wd_39 wd_176 wd_177 wd_178 ⟨by decide, by decide, rfl⟩ rfl ⟨rfl, rfl, by decide, by decide⟩ ⟨by decide, by decide⟩ [1] [0] rfl rfl ⟨by decide, by decide, by decide⟩ 1 rfl rfl rfl (Nat.le_of_ble_eq_true rfl) dX10_rowOf_5 (fun u_1 hw_2 => ?_)
  refine j_eq (ws2 := [(t0, .inr (10, [.ref t1, .ref t21, .ref t32, .ref t37, .ref t42, .ref t43, .ref t45, .ref t50, .ref t54, .ref t58])), (t21, .inr (9, [.int 0, .int 0, .int 0, .ref t22, .ref t23, .ref t24, .ref t25, .ref t26, .ref t27, .int 0, .int 0, .ref t28, .ref t29, .ref t30, .ref t31]))]) (pc2 := 8) (lv2 := [(0, .ref t0), (1, .int p0)]) (st2 := [.int 0]) rfl rfl rfl rfl ?_
  refine j_if_eq_t (pc := 8) (tgt := 21) C dX10_rowOf_8 (by decide) (by decide) ?_
  refine j_iconst (pc := 21) (v := (-1)) C dX10_rowOf_21 (by decide) ?_
  exact j_iret (pc := 22) C hr hk (fun i => [].getD i 0, fun _ => 0, fun _ _ => 0) rfl trivial [] (by decide) rfl (by decide) (by decide) dX10_rowOf_22
set_option maxHeartbeats 4000000 in
set_option maxRecDepth 100000 in
theorem c_X10_goes (l : Launch) (D : va_G) (cyC cyI cyJ cyZ cyO : ClassId) (p0 : Int32) (p1 : Int32) (t0 : Nat) (t1 : Nat) (t21 : Nat) (t32 : Nat) (t37 : Nat) (t42 : Nat) (t43 : Nat) (t45 : Nat) (t50 : Nat) (t54 : Nat) (t58 : Nat) (t22 : Nat) (t23 : Nat) (t24 : Nat) (t25 : Nat) (t26 : Nat) (t27 : Nat) (t28 : Nat) (t29 : Nat) (t30 : Nat) (t31 : Nat) : KK l D (TY cyC cyI cyJ cyZ cyO) yX10_goes cX10_goes 4 (some .int) ({ frames := 1, cells := 0, slots := 0, locals := 21 } : Room) 0 0 [.ref t0, .int p0, .int p1] [(t0, .inr (10, [.ref t1, .ref t21, .ref t32, .ref t37, .ref t42, .ref t43, .ref t45, .ref t50, .ref t54, .ref t58])), (t21, .inr (9, [.int 0, .int 0, .int 0, .ref t22, .ref t23, .ref t24, .ref t25, .ref t26, .ref t27, .int 0, .int 0, .ref t28, .ref t29, .ref t30, .ref t31]))] (fun u => some (.int (-1))) (fun u => True) (fun u => []) := by
  refine KK.of (lv0 := [(0, .ref t0), (1, .int p0), (2, .int p1)]) (by decide) rfl (Nat.le_of_ble_eq_true rfl) ?_
  intro p e s m args below meth c A C hr hk hin
  refine j_aload_n (pc := 0) C dX10_goes_0 rfl 0 rfl ?_
  refine j_get (pc := 1) (ci := 10) (v := .ref t21) C inw_10 0 rfl rfl 1 (by decide) wd_77 rfl rfl dX10_goes_1 ?_
  refine j_iload_n (pc := 4) C dX10_goes_4 rfl 1 rfl ?_
  refine j_callV (pc := 5) (As := [.int p0]) (rest := []) (wr := [(t0, .inr (10, [.ref t1, .ref t21, .ref t32, .ref t37, .ref t42, .ref t43, .ref t45, .ref t50, .ref t54, .ref t58]))]) C (c_X9_isWare l D cyC cyI cyJ cyZ cyO p0 t21 t22 t23 t24 t25 t26 t27 t28 t29 t30 t31) wd_175 wd_39 wd_176 wd_177 wd_178 ⟨by decide, by decide, rfl⟩ rfl ⟨rfl, rfl, by decide, by decide⟩ ⟨by decide, by decide⟩ [1] [0] rfl rfl ⟨by decide, by decide, by decide⟩ 1 rfl rfl rfl (Nat.le_of_ble_eq_true rfl) dX10_goes_5 (fun u_1 hw_2 => ?_)
  refine j_eq (ws2 := [(t0, .inr (10, [.ref t1, .ref t21, .ref t32, .ref t37, .ref t42, .ref t43, .ref t45, .ref t50, .ref t54, .ref t58])), (t21, .inr (9, [.int 0, .int 0, .int 0, .ref t22, .ref t23, .ref t24, .ref t25, .ref t26, .ref t27, .int 0, .int 0, .ref t28, .ref t29, .ref t30, .ref t31]))]) (pc2 := 8) (lv2 := [(0, .ref t0), (1, .int p0), (2, .int p1)]) (st2 := [.int 0]) rfl rfl rfl rfl ?_
  refine j_if_eq_t (pc := 8) (tgt := 22) C dX10_goes_8 (by decide) (by decide) ?_
  refine j_iconst (pc := 22) (v := (-1)) C dX10_goes_22 (by decide) ?_
  exact j_iret (pc := 23) C hr hk (fun i => [].getD i 0, fun _ => 0, fun _ _ => 0) rfl trivial [] (by decide) rfl (by decide) (by decide) dX10_goes_23
set_option maxHeartbeats 4000000 in
set_option maxRecDepth 100000 in
theorem c_X10_ask (l : Launch) (D : va_G) (cyC cyI cyJ cyZ cyO : ClassId) (p0 : Int32) (t0 : Nat) (t1 : Nat) (t21 : Nat) (t32 : Nat) (t37 : Nat) (t42 : Nat) (t43 : Nat) (t45 : Nat) (t50 : Nat) (t54 : Nat) (t58 : Nat) (t22 : Nat) (t23 : Nat) (t24 : Nat) (t25 : Nat) (t26 : Nat) (t27 : Nat) (t28 : Nat) (t29 : Nat) (t30 : Nat) (t31 : Nat) : KK l D (TY cyC cyI cyJ cyZ cyO) yX10_ask cX10_ask 2 (some .int) ({ frames := 1, cells := 0, slots := 0, locals := 21 } : Room) 0 0 [.ref t0, .int p0] [(t0, .inr (10, [.ref t1, .ref t21, .ref t32, .ref t37, .ref t42, .ref t43, .ref t45, .ref t50, .ref t54, .ref t58])), (t21, .inr (9, [.int 0, .int 0, .int 0, .ref t22, .ref t23, .ref t24, .ref t25, .ref t26, .ref t27, .int 0, .int 0, .ref t28, .ref t29, .ref t30, .ref t31]))] (fun u => some (.int (-1))) (fun u => True) (fun u => []) := by
  refine KK.of (lv0 := [(0, .ref t0), (1, .int p0)]) (by decide) rfl (Nat.le_of_ble_eq_true rfl) ?_
  intro p e s m args below meth c A C hr hk hin
  refine j_aload_n (pc := 0) C dX10_ask_0 rfl 0 rfl ?_
  refine j_get (pc := 1) (ci := 10) (v := .ref t21) C inw_10 0 rfl rfl 1 (by decide) wd_77 rfl rfl dX10_ask_1 ?_
  refine j_iload_n (pc := 4) C dX10_ask_4 rfl 1 rfl ?_
  refine j_callV (pc := 5) (As := [.int p0]) (rest := []) (wr := [(t0, .inr (10, [.ref t1, .ref t21, .ref t32, .ref t37, .ref t42, .ref t43, .ref t45, .ref t50, .ref t54, .ref t58]))]) C (c_X9_isWare l D cyC cyI cyJ cyZ cyO p0 t21 t22 t23 t24 t25 t26 t27 t28 t29 t30 t31) wd_175 wd_39 wd_176 wd_177 wd_178 ⟨by decide, by decide, rfl⟩ rfl ⟨rfl, rfl, by decide, by decide⟩ ⟨by decide, by decide⟩ [1] [0] rfl rfl ⟨by decide, by decide, by decide⟩ 1 rfl rfl rfl (Nat.le_of_ble_eq_true rfl) dX10_ask_5 (fun u_1 hw_2 => ?_)
  refine j_eq (ws2 := [(t0, .inr (10, [.ref t1, .ref t21, .ref t32, .ref t37, .ref t42, .ref t43, .ref t45, .ref t50, .ref t54, .ref t58])), (t21, .inr (9, [.int 0, .int 0, .int 0, .ref t22, .ref t23, .ref t24, .ref t25, .ref t26, .ref t27, .int 0, .int 0, .ref t28, .ref t29, .ref t30, .ref t31]))]) (pc2 := 8) (lv2 := [(0, .ref t0), (1, .int p0)]) (st2 := [.int 0]) rfl rfl rfl rfl ?_
  refine j_if_eq_t (pc := 8) (tgt := 23) C dX10_ask_8 (by decide) (by decide) ?_
  refine j_iconst (pc := 23) (v := (-1)) C dX10_ask_23 (by decide) ?_
  exact j_iret (pc := 24) C hr hk (fun i => [].getD i 0, fun _ => 0, fun _ _ => 0) rfl trivial [] (by decide) rfl (by decide) (by decide) dX10_ask_24
set_option maxHeartbeats 4000000 in
set_option maxRecDepth 100000 in
theorem c_X10_clear (l : Launch) (D : va_G) (cyC cyI cyJ cyZ cyO : ClassId) (t0 : Nat) (t1 : Nat) (t21 : Nat) (t32 : Nat) (t37 : Nat) (t42 : Nat) (t43 : Nat) (t45 : Nat) (t50 : Nat) (t54 : Nat) (t58 : Nat) (t33 : Nat) (t34 : Nat) (t35 : Nat) (t36 : Nat) : KK l D (TY cyC cyI cyJ cyZ cyO) yX10_clear cX10_clear 1 (some .boolean) ({ frames := 0, cells := 0, slots := 0, locals := 0 } : Room) 0 0 [.ref t0] [(t0, .inr (10, [.ref t1, .ref t21, .ref t32, .ref t37, .ref t42, .ref t43, .ref t45, .ref t50, .ref t54, .ref t58])), (t32, .inr (7, [.ref t33, .ref t34, .ref t35, .ref t36, .int 0, .int 0, .int 0]))] (fun u => some (.int 1)) (fun u => True) (fun u => []) := by
  refine KK.of (lv0 := [(0, .ref t0)]) (by decide) rfl (Nat.le_of_ble_eq_true rfl) ?_
  intro p e s m args below meth c A C hr hk hin
  refine j_aload_n (pc := 0) C dX10_clear_0 rfl 0 rfl ?_
  refine j_get (pc := 1) (ci := 10) (v := .ref t32) C inw_10 0 rfl rfl 2 (by decide) wd_84 rfl rfl dX10_clear_1 ?_
  refine j_iconst (pc := 4) (v := 0) C dX10_clear_4 (by decide) ?_
  refine j_put (pc := 5) (ci := 7) (v := .int 0) (ws' := [(t0, .inr (10, [.ref t1, .ref t21, .ref t32, .ref t37, .ref t42, .ref t43, .ref t45, .ref t50, .ref t54, .ref t58])), (t32, .inr (7, [.ref t33, .ref t34, .ref t35, .ref t36, .int 0, .int 0, .int 0]))]) C inw_7 1 rfl rfl 4 (by decide) wd_185 rfl tyX7_ok nmX7 rfl (tyX7_ok 4 (by decide)) rfl rfl (Nat.le_of_ble_eq_true rfl) dX10_clear_5 rfl ?_
  refine j_iconst (pc := 8) (v := 1) C dX10_clear_8 (by decide) ?_
  exact j_zret (pc := 9) C hr rfl hk (fun i => [].getD i 0, fun _ => 0, fun _ _ => 0) rfl trivial [] (by decide) rfl (by decide) (by decide) dX10_clear_9
set_option maxHeartbeats 4000000 in
set_option maxRecDepth 100000 in
theorem c_X10_asked (l : Launch) (D : va_G) (cyC cyI cyJ cyZ cyO : ClassId) (t0 : Nat) (t1 : Nat) (t21 : Nat) (t32 : Nat) (t37 : Nat) (t42 : Nat) (t43 : Nat) (t45 : Nat) (t50 : Nat) (t54 : Nat) (t58 : Nat) (t33 : Nat) (t34 : Nat) (t35 : Nat) (t36 : Nat) : KK l D (TY cyC cyI cyJ cyZ cyO) yX10_asked cX10_asked 4 (some .int) ({ frames := 0, cells := 0, slots := 0, locals := 0 } : Room) 0 0 [.ref t0] [(t0, .inr (10, [.ref t1, .ref t21, .ref t32, .ref t37, .ref t42, .ref t43, .ref t45, .ref t50, .ref t54, .ref t58])), (t32, .inr (7, [.ref t33, .ref t34, .ref t35, .ref t36, .int 0, .int 0, .int 0]))] (fun u => some (.int 0)) (fun u => True) (fun u => []) := by
  refine KK.of (lv0 := [(0, .ref t0)]) (by decide) rfl (Nat.le_of_ble_eq_true rfl) ?_
  intro p e s m args below meth c A C hr hk hin
  refine j_iconst (pc := 0) (v := 0) C dX10_asked_0 (by decide) ?_
  refine j_istore_n (pc := 1) (lv' := [(1, .int 0), (0, .ref t0)]) C dX10_asked_1 rfl (by decide) rfl ?_
  refine j_iconst (pc := 2) (v := 0) C dX10_asked_2 (by decide) ?_
  refine j_istore_n (pc := 3) (lv' := [(2, .int 0), (1, .int 0), (0, .ref t0)]) C dX10_asked_3 rfl (by decide) rfl ?_
  refine j_iload_n (pc := 4) C dX10_asked_4 rfl 0 rfl ?_
  refine j_aload_n (pc := 5) C dX10_asked_5 rfl 2 rfl ?_
  refine j_get (pc := 6) (ci := 10) (v := .ref t32) C inw_10 0 rfl rfl 2 (by decide) wd_84 rfl rfl dX10_asked_6 ?_
  refine j_get (pc := 9) (ci := 7) (v := .int 0) C inw_7 1 rfl rfl 4 (by decide) wd_185 rfl rfl dX10_asked_9 ?_
  refine j_icmp_ge_t (pc := 12) (tgt := 54) C dX10_asked_12 (by decide) (by decide) ?_
  refine j_iload_n (pc := 54) C dX10_asked_54 rfl 1 rfl ?_
  exact j_iret (pc := 55) C hr hk (fun i => [].getD i 0, fun _ => 0, fun _ _ => 0) rfl trivial [] (by decide) rfl (by decide) (by decide) dX10_asked_55
set_option maxHeartbeats 4000000 in
set_option maxRecDepth 100000 in
theorem c_X10_best (l : Launch) (D : va_G) (cyC cyI cyJ cyZ cyO : ClassId) (p0 : Int32) (p1 : Int32) (p2 : Int32) (t0 : Nat) (t1 : Nat) (t21 : Nat) (t32 : Nat) (t37 : Nat) (t42 : Nat) (t43 : Nat) (t45 : Nat) (t50 : Nat) (t54 : Nat) (t58 : Nat) (t22 : Nat) (t23 : Nat) (t24 : Nat) (t25 : Nat) (t26 : Nat) (t27 : Nat) (t28 : Nat) (t29 : Nat) (t30 : Nat) (t31 : Nat) : KK l D (TY cyC cyI cyJ cyZ cyO) yX10_best cX10_best 4 (some .int) ({ frames := 2, cells := 0, slots := 0, locals := 43 } : Room) 0 0 [.ref t0, .int p0, .int p1, .int p2] [(t0, .inr (10, [.ref t1, .ref t21, .ref t32, .ref t37, .ref t42, .ref t43, .ref t45, .ref t50, .ref t54, .ref t58])), (t21, .inr (9, [.int 0, .int 0, .int 0, .ref t22, .ref t23, .ref t24, .ref t25, .ref t26, .ref t27, .int 0, .int 0, .ref t28, .ref t29, .ref t30, .ref t31]))] (fun u => some (.int (-1))) (fun u => True) (fun u => []) := by
  refine KK.of (lv0 := [(0, .ref t0), (1, .int p0), (2, .int p1), (3, .int p2)]) (by decide) rfl (Nat.le_of_ble_eq_true rfl) ?_
  intro p e s m args below meth c A C hr hk hin
  refine j_aload_n (pc := 0) C dX10_best_0 rfl 0 rfl ?_
  refine j_iload_n (pc := 1) C dX10_best_1 rfl 1 rfl ?_
  refine j_iload_n (pc := 2) C dX10_best_2 rfl 2 rfl ?_
  refine j_callV (pc := 3) (As := [.int p0, .int p1]) (rest := []) (wr := []) C (c_X10_isStack l D cyC cyI cyJ cyZ cyO p0 p1 t0 t1 t21 t32 t37 t42 t43 t45 t50 t54 t58 t22 t23 t24 t25 t26 t27 t28 t29 t30 t31) wd_179 wd_180 wd_181 wd_182 wd_183 ⟨by decide, by decide, rfl⟩ rfl ⟨rfl, rfl, by decide, by decide⟩ ⟨by decide, by decide⟩ [0, 1] [] rfl rfl ⟨by decide, by decide, by decide⟩ 0 rfl rfl rfl (Nat.le_of_ble_eq_true rfl) dX10_best_3 (fun u_1 hw_2 => ?_)
  refine j_eq (ws2 := [(t0, .inr (10, [.ref t1, .ref t21, .ref t32, .ref t37, .ref t42, .ref t43, .ref t45, .ref t50, .ref t54, .ref t58])), (t21, .inr (9, [.int 0, .int 0, .int 0, .ref t22, .ref t23, .ref t24, .ref t25, .ref t26, .ref t27, .int 0, .int 0, .ref t28, .ref t29, .ref t30, .ref t31]))]) (pc2 := 6) (lv2 := [(0, .ref t0), (1, .int p0), (2, .int p1), (3, .int p2)]) (st2 := [.int 0]) rfl rfl rfl rfl ?_
  refine j_if_ne_f (pc := 6) (tgt := 11) C dX10_best_6 (by decide) (by decide) ?_
  refine j_iconst (pc := 9) (v := (-1)) C dX10_best_9 (by decide) ?_
  exact j_iret (pc := 10) C hr hk (fun i => [].getD i 0, fun _ => 0, fun _ _ => 0) rfl trivial [] (by decide) rfl (by decide) (by decide) dX10_best_10
