theorem wd_312 : Cond.code yX11_wares cX11_wares 1 (some .int) ∈ WALL := wl_in (by decide +kernel) (by decide +kernel)
theorem wd_313 : Cond.initialized RX11 ∈ WALL := wl_in (by decide +kernel) (by decide +kernel)
theorem wd_314 : Cond.methodLink RX11 264 yX11_wares ∈ WALL := wl_in (by decide +kernel) (by decide +kernel)
theorem wd_315 : Cond.instanceMethod yX11_wares ∈ WALL := wl_in (by decide +kernel) (by decide +kernel)
theorem wd_316 : Cond.selects RX11 yX11_wares yX11_wares ∈ WALL := wl_in (by decide +kernel) (by decide +kernel)
theorem wd_317 : Cond.code yX11_shelves cX11_shelves 1 (some .int) ∈ WALL := wl_in (by decide +kernel) (by decide +kernel)
theorem wd_318 : Cond.methodLink RX11 268 yX11_shelves ∈ WALL := wl_in (by decide +kernel) (by decide +kernel)
theorem wd_319 : Cond.instanceMethod yX11_shelves ∈ WALL := wl_in (by decide +kernel) (by decide +kernel)
theorem wd_320 : Cond.selects RX11 yX11_shelves yX11_shelves ∈ WALL := wl_in (by decide +kernel) (by decide +kernel)
theorem wd_321 : Cond.code yX11_isShelf cX11_isShelf 2 (some .boolean) ∈ WALL := wl_in (by decide +kernel) (by decide +kernel)
theorem wd_322 : Cond.methodLink RX11 288 yX11_isShelf ∈ WALL := wl_in (by decide +kernel) (by decide +kernel)
theorem wd_323 : Cond.instanceMethod yX11_isShelf ∈ WALL := wl_in (by decide +kernel) (by decide +kernel)
theorem wd_324 : Cond.selects RX11 yX11_isShelf yX11_isShelf ∈ WALL := wl_in (by decide +kernel) (by decide +kernel)
theorem wd_325 : Cond.code yX11_isWare cX11_isWare 2 (some .boolean) ∈ WALL := wl_in (by decide +kernel) (by decide +kernel)
theorem wd_326 : Cond.methodLink RX11 277 yX11_isWare ∈ WALL := wl_in (by decide +kernel) (by decide +kernel)
theorem wd_327 : Cond.instanceMethod yX11_isWare ∈ WALL := wl_in (by decide +kernel) (by decide +kernel)
theorem wd_328 : Cond.selects RX11 yX11_isWare yX11_isWare ∈ WALL := wl_in (by decide +kernel) (by decide +kernel)
theorem wd_329 : Cond.fieldLink RX11 1 "BowlShelfModel" "thrown" "I" ∈ WALL := wl_in (by decide +kernel) (by decide +kernel)
theorem wd_330 : Cond.code yX11_whyNotPut cX11_whyNotPut 5 (some .int) ∈ WALL := wl_in (by decide +kernel) (by decide +kernel)
theorem wd_331 : Cond.methodLink RX11 333 yX11_whyNotPut ∈ WALL := wl_in (by decide +kernel) (by decide +kernel)
theorem wd_332 : Cond.instanceMethod yX11_whyNotPut ∈ WALL := wl_in (by decide +kernel) (by decide +kernel)
theorem wd_333 : Cond.selects RX11 yX11_whyNotPut yX11_whyNotPut ∈ WALL := wl_in (by decide +kernel) (by decide +kernel)
theorem wd_334 : Cond.code yX11_isStack cX11_isStack 4 (some .boolean) ∈ WALL := wl_in (by decide +kernel) (by decide +kernel)
theorem wd_335 : Cond.methodLink RX11 318 yX11_isStack ∈ WALL := wl_in (by decide +kernel) (by decide +kernel)
theorem wd_336 : Cond.instanceMethod yX11_isStack ∈ WALL := wl_in (by decide +kernel) (by decide +kernel)
theorem wd_337 : Cond.selects RX11 yX11_isStack yX11_isStack ∈ WALL := wl_in (by decide +kernel) (by decide +kernel)
theorem dX11_wares_0 : decode cX11_wares 0 = .ok (.aload_n 0, 1) := by decide +kernel
theorem dX11_wares_1 : decode cX11_wares 1 = .ok (.getfield 83, 3) := by decide +kernel
theorem dX11_wares_4 : decode cX11_wares 4 = .ok (.iconst 0, 1) := by decide +kernel
theorem dX11_wares_5 : decode cX11_wares 5 = .ok (.iaload, 1) := by decide +kernel
theorem dX11_wares_6 : decode cX11_wares 6 = .ok (.ireturn, 1) := by decide +kernel
theorem dX11_shelves_0 : decode cX11_shelves 0 = .ok (.aload_n 0, 1) := by decide +kernel
theorem dX11_shelves_1 : decode cX11_shelves 1 = .ok (.getfield 83, 3) := by decide +kernel
theorem dX11_shelves_4 : decode cX11_shelves 4 = .ok (.iconst 1, 1) := by decide +kernel
theorem dX11_shelves_5 : decode cX11_shelves 5 = .ok (.iaload, 1) := by decide +kernel
theorem dX11_shelves_6 : decode cX11_shelves 6 = .ok (.ireturn, 1) := by decide +kernel
theorem dX11_isWare_0 : decode cX11_isWare 0 = .ok (.iload_n 1, 1) := by decide +kernel
theorem dX11_isWare_1 : decode cX11_isWare 1 = .ok (.ifCond .lt 15, 3) := by decide +kernel
theorem dX11_isWare_4 : decode cX11_isWare 4 = .ok (.iload_n 1, 1) := by decide +kernel
theorem dX11_isWare_5 : decode cX11_isWare 5 = .ok (.aload_n 0, 1) := by decide +kernel
theorem dX11_isWare_6 : decode cX11_isWare 6 = .ok (.invokevirtual 264, 3) := by decide +kernel
theorem dX11_isWare_9 : decode cX11_isWare 9 = .ok (.if_icmp .ge 7, 3) := by decide +kernel
theorem dX11_isWare_16 : decode cX11_isWare 16 = .ok (.iconst 0, 1) := by decide +kernel
theorem dX11_isWare_17 : decode cX11_isWare 17 = .ok (.ireturn, 1) := by decide +kernel
theorem dX11_isShelf_0 : decode cX11_isShelf 0 = .ok (.iload_n 1, 1) := by decide +kernel
theorem dX11_isShelf_1 : decode cX11_isShelf 1 = .ok (.ifCond .lt 15, 3) := by decide +kernel
theorem dX11_isShelf_4 : decode cX11_isShelf 4 = .ok (.iload_n 1, 1) := by decide +kernel
theorem dX11_isShelf_5 : decode cX11_isShelf 5 = .ok (.aload_n 0, 1) := by decide +kernel
theorem dX11_isShelf_6 : decode cX11_isShelf 6 = .ok (.invokevirtual 268, 3) := by decide +kernel
theorem dX11_isShelf_9 : decode cX11_isShelf 9 = .ok (.if_icmp .ge 7, 3) := by decide +kernel
theorem dX11_isShelf_16 : decode cX11_isShelf 16 = .ok (.iconst 0, 1) := by decide +kernel
theorem dX11_isShelf_17 : decode cX11_isShelf 17 = .ok (.ireturn, 1) := by decide +kernel
theorem dX11_asks_0 : decode cX11_asks 0 = .ok (.aload_n 0, 1) := by decide +kernel
theorem dX11_asks_1 : decode cX11_asks 1 = .ok (.getfield 108, 3) := by decide +kernel
theorem dX11_asks_4 : decode cX11_asks 4 = .ok (.sipush 421, 3) := by decide +kernel
theorem dX11_asks_7 : decode cX11_asks 7 = .ok (.iaload, 1) := by decide +kernel
theorem dX11_asks_8 : decode cX11_asks 8 = .ok (.ireturn, 1) := by decide +kernel
theorem dX11_isStack_0 : decode cX11_isStack 0 = .ok (.aload_n 0, 1) := by decide +kernel
theorem dX11_isStack_1 : decode cX11_isStack 1 = .ok (.iload_n 2, 1) := by decide +kernel
theorem dX11_isStack_2 : decode cX11_isStack 2 = .ok (.invokevirtual 288, 3) := by decide +kernel
theorem dX11_isStack_5 : decode cX11_isStack 5 = .ok (.ifCond .eq 21, 3) := by decide +kernel
theorem dX11_isStack_26 : decode cX11_isStack 26 = .ok (.iconst 0, 1) := by decide +kernel
theorem dX11_isStack_27 : decode cX11_isStack 27 = .ok (.ireturn, 1) := by decide +kernel
theorem dX11_within_0 : decode cX11_within 0 = .ok (.iload_n 0, 1) := by decide +kernel
theorem dX11_within_1 : decode cX11_within 1 = .ok (.iload_n 1, 1) := by decide +kernel
theorem dX11_within_2 : decode cX11_within 2 = .ok (.if_icmp .lt 12, 3) := by decide +kernel
theorem dX11_within_5 : decode cX11_within 5 = .ok (.iload_n 0, 1) := by decide +kernel
theorem dX11_within_6 : decode cX11_within 6 = .ok (.iload_n 2, 1) := by decide +kernel
theorem dX11_within_7 : decode cX11_within 7 = .ok (.if_icmp .gt 7, 3) := by decide +kernel
theorem dX11_within_10 : decode cX11_within 10 = .ok (.iconst 1, 1) := by decide +kernel
theorem dX11_within_11 : decode cX11_within 11 = .ok (.goto 4, 3) := by decide +kernel
theorem dX11_within_14 : decode cX11_within 14 = .ok (.iconst 0, 1) := by decide +kernel
theorem dX11_within_15 : decode cX11_within 15 = .ok (.ireturn, 1) := by decide +kernel
theorem dX11_whyNotPut_0 : decode cX11_whyNotPut 0 = .ok (.aload_n 0, 1) := by decide +kernel
theorem dX11_whyNotPut_1 : decode cX11_whyNotPut 1 = .ok (.iload_n 2, 1) := by decide +kernel
theorem dX11_whyNotPut_2 : decode cX11_whyNotPut 2 = .ok (.invokevirtual 277, 3) := by decide +kernel
theorem dX11_whyNotPut_5 : decode cX11_whyNotPut 5 = .ok (.ifCond .eq 28, 3) := by decide +kernel
theorem dX11_whyNotPut_33 : decode cX11_whyNotPut 33 = .ok (.iconst 1, 1) := by decide +kernel
theorem dX11_whyNotPut_34 : decode cX11_whyNotPut 34 = .ok (.ireturn, 1) := by decide +kernel
theorem dX11_ware_0 : decode cX11_ware 0 = .ok (.aload_n 0, 1) := by decide +kernel
theorem dX11_ware_1 : decode cX11_ware 1 = .ok (.iconst 0, 1) := by decide +kernel
theorem dX11_ware_2 : decode cX11_ware 2 = .ok (.putfield 1, 3) := by decide +kernel
theorem dX11_ware_5 : decode cX11_ware 5 = .ok (.aload_n 0, 1) := by decide +kernel
theorem dX11_ware_6 : decode cX11_ware 6 = .ok (.iload_n 1, 1) := by decide +kernel
theorem dX11_ware_7 : decode cX11_ware 7 = .ok (.invokevirtual 277, 3) := by decide +kernel
theorem dX11_ware_10 : decode cX11_ware 10 = .ok (.ifCond .eq 22, 3) := by decide +kernel
theorem dX11_ware_32 : decode cX11_ware 32 = .ok (.iconst (-1), 1) := by decide +kernel
theorem dX11_ware_33 : decode cX11_ware 33 = .ok (.ireturn, 1) := by decide +kernel
theorem dX11_may_0 : decode cX11_may 0 = .ok (.aload_n 0, 1) := by decide +kernel
theorem dX11_may_1 : decode cX11_may 1 = .ok (.iconst 0, 1) := by decide +kernel
theorem dX11_may_2 : decode cX11_may 2 = .ok (.putfield 1, 3) := by decide +kernel
theorem dX11_may_5 : decode cX11_may 5 = .ok (.aload_n 0, 1) := by decide +kernel
theorem dX11_may_6 : decode cX11_may 6 = .ok (.iload_n 1, 1) := by decide +kernel
theorem dX11_may_7 : decode cX11_may 7 = .ok (.invokevirtual 277, 3) := by decide +kernel
theorem dX11_may_10 : decode cX11_may 10 = .ok (.ifCond .eq 33, 3) := by decide +kernel
theorem dX11_may_43 : decode cX11_may 43 = .ok (.iconst (-1), 1) := by decide +kernel
theorem dX11_may_44 : decode cX11_may 44 = .ok (.ireturn, 1) := by decide +kernel
theorem dX11_put_0 : decode cX11_put 0 = .ok (.aload_n 0, 1) := by decide +kernel
theorem dX11_put_1 : decode cX11_put 1 = .ok (.iconst 0, 1) := by decide +kernel
theorem dX11_put_2 : decode cX11_put 2 = .ok (.putfield 1, 3) := by decide +kernel
theorem dX11_put_5 : decode cX11_put 5 = .ok (.aload_n 0, 1) := by decide +kernel
theorem dX11_put_6 : decode cX11_put 6 = .ok (.iconst 0, 1) := by decide +kernel
theorem dX11_put_7 : decode cX11_put 7 = .ok (.iload_n 1, 1) := by decide +kernel
theorem dX11_put_8 : decode cX11_put 8 = .ok (.iload_n 2, 1) := by decide +kernel
theorem dX11_put_9 : decode cX11_put 9 = .ok (.iload_n 3, 1) := by decide +kernel
theorem dX11_put_10 : decode cX11_put 10 = .ok (.invokevirtual 333, 3) := by decide +kernel
theorem dX11_put_13 : decode cX11_put 13 = .ok (.istore 4, 2) := by decide +kernel
theorem dX11_put_15 : decode cX11_put 15 = .ok (.iload 4, 2) := by decide +kernel
theorem dX11_put_17 : decode cX11_put 17 = .ok (.ifCond .ne 28, 3) := by decide +kernel
theorem dX11_put_45 : decode cX11_put 45 = .ok (.iload 4, 2) := by decide +kernel
theorem dX11_put_47 : decode cX11_put 47 = .ok (.ireturn, 1) := by decide +kernel
theorem dX11_draw_0 : decode cX11_draw 0 = .ok (.aload_n 0, 1) := by decide +kernel
theorem dX11_draw_1 : decode cX11_draw 1 = .ok (.iconst 0, 1) := by decide +kernel
theorem dX11_draw_2 : decode cX11_draw 2 = .ok (.putfield 1, 3) := by decide +kernel
theorem dX11_draw_5 : decode cX11_draw 5 = .ok (.aload_n 0, 1) := by decide +kernel
theorem dX11_draw_6 : decode cX11_draw 6 = .ok (.iload_n 1, 1) := by decide +kernel
theorem dX11_draw_7 : decode cX11_draw 7 = .ok (.invokevirtual 277, 3) := by decide +kernel
theorem dX11_draw_10 : decode cX11_draw 10 = .ok (.ifCond .ne 5, 3) := by decide +kernel
theorem dX11_draw_13 : decode cX11_draw 13 = .ok (.iconst 1, 1) := by decide +kernel
theorem dX11_draw_14 : decode cX11_draw 14 = .ok (.ireturn, 1) := by decide +kernel
theorem dX11_carry_0 : decode cX11_carry 0 = .ok (.aload_n 0, 1) := by decide +kernel
theorem dX11_carry_1 : decode cX11_carry 1 = .ok (.iconst 0, 1) := by decide +kernel
theorem dX11_carry_2 : decode cX11_carry 2 = .ok (.putfield 1, 3) := by decide +kernel
theorem dX11_carry_5 : decode cX11_carry 5 = .ok (.aload_n 0, 1) := by decide +kernel
theorem dX11_carry_6 : decode cX11_carry 6 = .ok (.iconst 0, 1) := by decide +kernel
theorem dX11_carry_7 : decode cX11_carry 7 = .ok (.iload_n 1, 1) := by decide +kernel
theorem dX11_carry_8 : decode cX11_carry 8 = .ok (.iload_n 2, 1) := by decide +kernel
theorem dX11_carry_9 : decode cX11_carry 9 = .ok (.invokevirtual 318, 3) := by decide +kernel
theorem dX11_carry_12 : decode cX11_carry 12 = .ok (.ifCond .eq 16, 3) := by decide +kernel
theorem dX11_carry_28 : decode cX11_carry 28 = .ok (.iconst 1, 1) := by decide +kernel
theorem dX11_carry_29 : decode cX11_carry 29 = .ok (.ireturn, 1) := by decide +kernel
theorem dX11_shelf_0 : decode cX11_shelf 0 = .ok (.aload_n 0, 1) := by decide +kernel
theorem dX11_shelf_1 : decode cX11_shelf 1 = .ok (.iconst 0, 1) := by decide +kernel
theorem dX11_shelf_2 : decode cX11_shelf 2 = .ok (.putfield 1, 3) := by decide +kernel
theorem dX11_shelf_5 : decode cX11_shelf 5 = .ok (.aload_n 0, 1) := by decide +kernel
theorem dX11_shelf_6 : decode cX11_shelf 6 = .ok (.iload_n 1, 1) := by decide +kernel
theorem dX11_shelf_7 : decode cX11_shelf 7 = .ok (.invokevirtual 288, 3) := by decide +kernel
theorem dX11_shelf_10 : decode cX11_shelf 10 = .ok (.ifCond .eq 12, 3) := by decide +kernel
theorem dX11_shelf_22 : decode cX11_shelf 22 = .ok (.iconst (-1), 1) := by decide +kernel
theorem dX11_shelf_23 : decode cX11_shelf 23 = .ok (.ireturn, 1) := by decide +kernel
theorem dX11_where_0 : decode cX11_where 0 = .ok (.aload_n 0, 1) := by decide +kernel
theorem dX11_where_1 : decode cX11_where 1 = .ok (.iconst 0, 1) := by decide +kernel
theorem dX11_where_2 : decode cX11_where 2 = .ok (.putfield 1, 3) := by decide +kernel
theorem dX11_where_5 : decode cX11_where 5 = .ok (.aload_n 0, 1) := by decide +kernel
theorem dX11_where_6 : decode cX11_where 6 = .ok (.iload_n 1, 1) := by decide +kernel
theorem dX11_where_7 : decode cX11_where 7 = .ok (.invokevirtual 277, 3) := by decide +kernel
theorem dX11_where_10 : decode cX11_where 10 = .ok (.ifCond .eq 21, 3) := by decide +kernel
theorem dX11_where_31 : decode cX11_where 31 = .ok (.iconst (-1), 1) := by decide +kernel
theorem dX11_where_32 : decode cX11_where 32 = .ok (.ireturn, 1) := by decide +kernel
theorem dX11_at_0 : decode cX11_at 0 = .ok (.aload_n 0, 1) := by decide +kernel
theorem dX11_at_1 : decode cX11_at 1 = .ok (.iconst 0, 1) := by decide +kernel
theorem dX11_at_2 : decode cX11_at 2 = .ok (.putfield 1, 3) := by decide +kernel
theorem dX11_at_5 : decode cX11_at 5 = .ok (.aload_n 0, 1) := by decide +kernel
theorem dX11_at_6 : decode cX11_at 6 = .ok (.iconst 0, 1) := by decide +kernel
theorem dX11_at_7 : decode cX11_at 7 = .ok (.iload_n 1, 1) := by decide +kernel
theorem dX11_at_8 : decode cX11_at 8 = .ok (.iload_n 2, 1) := by decide +kernel
theorem dX11_at_9 : decode cX11_at 9 = .ok (.invokevirtual 318, 3) := by decide +kernel
theorem dX11_at_12 : decode cX11_at 12 = .ok (.ifCond .eq 40, 3) := by decide +kernel
theorem dX11_at_52 : decode cX11_at 52 = .ok (.iconst (-1), 1) := by decide +kernel
theorem dX11_at_53 : decode cX11_at 53 = .ok (.ireturn, 1) := by decide +kernel
theorem dX11_stack_0 : decode cX11_stack 0 = .ok (.aload_n 0, 1) := by decide +kernel
theorem dX11_stack_1 : decode cX11_stack 1 = .ok (.iconst 0, 1) := by decide +kernel
theorem dX11_stack_2 : decode cX11_stack 2 = .ok (.putfield 1, 3) := by decide +kernel
theorem dX11_stack_5 : decode cX11_stack 5 = .ok (.aload_n 0, 1) := by decide +kernel
theorem dX11_stack_6 : decode cX11_stack 6 = .ok (.iconst 0, 1) := by decide +kernel
theorem dX11_stack_7 : decode cX11_stack 7 = .ok (.iload_n 1, 1) := by decide +kernel
theorem dX11_stack_8 : decode cX11_stack 8 = .ok (.iload_n 2, 1) := by decide +kernel
theorem dX11_stack_9 : decode cX11_stack 9 = .ok (.invokevirtual 318, 3) := by decide +kernel
theorem dX11_stack_12 : decode cX11_stack 12 = .ok (.ifCond .eq 12, 3) := by decide +kernel
theorem dX11_stack_24 : decode cX11_stack 24 = .ok (.iconst (-1), 1) := by decide +kernel
theorem dX11_stack_25 : decode cX11_stack 25 = .ok (.ireturn, 1) := by decide +kernel
theorem dX11_lift_0 : decode cX11_lift 0 = .ok (.aload_n 0, 1) := by decide +kernel
theorem dX11_lift_1 : decode cX11_lift 1 = .ok (.iconst 0, 1) := by decide +kernel
theorem dX11_lift_2 : decode cX11_lift 2 = .ok (.putfield 1, 3) := by decide +kernel
theorem dX11_lift_5 : decode cX11_lift 5 = .ok (.aload_n 0, 1) := by decide +kernel
theorem dX11_lift_6 : decode cX11_lift 6 = .ok (.iload_n 1, 1) := by decide +kernel
theorem dX11_lift_7 : decode cX11_lift 7 = .ok (.invokevirtual 277, 3) := by decide +kernel
theorem dX11_lift_10 : decode cX11_lift 10 = .ok (.ifCond .eq 20, 3) := by decide +kernel
theorem dX11_lift_30 : decode cX11_lift 30 = .ok (.iconst (-1), 1) := by decide +kernel
theorem dX11_lift_31 : decode cX11_lift 31 = .ok (.ireturn, 1) := by decide +kernel
theorem dX11_cost_0 : decode cX11_cost 0 = .ok (.aload_n 0, 1) := by decide +kernel
theorem dX11_cost_1 : decode cX11_cost 1 = .ok (.iconst 0, 1) := by decide +kernel
theorem dX11_cost_2 : decode cX11_cost 2 = .ok (.putfield 1, 3) := by decide +kernel
theorem dX11_cost_5 : decode cX11_cost 5 = .ok (.aload_n 0, 1) := by decide +kernel
theorem dX11_cost_6 : decode cX11_cost 6 = .ok (.getfield 108, 3) := by decide +kernel
theorem dX11_cost_9 : decode cX11_cost 9 = .ok (.sipush 420, 3) := by decide +kernel
theorem dX11_cost_12 : decode cX11_cost 12 = .ok (.iaload, 1) := by decide +kernel
theorem dX11_cost_13 : decode cX11_cost 13 = .ok (.ireturn, 1) := by decide +kernel
theorem dX11_through_0 : decode cX11_through 0 = .ok (.aload_n 0, 1) := by decide +kernel
theorem dX11_through_1 : decode cX11_through 1 = .ok (.iconst 0, 1) := by decide +kernel
theorem dX11_through_2 : decode cX11_through 2 = .ok (.putfield 1, 3) := by decide +kernel
theorem dX11_through_5 : decode cX11_through 5 = .ok (.aload_n 0, 1) := by decide +kernel
theorem dX11_through_6 : decode cX11_through 6 = .ok (.iload_n 1, 1) := by decide +kernel
theorem dX11_through_7 : decode cX11_through 7 = .ok (.invokevirtual 277, 3) := by decide +kernel
theorem dX11_through_10 : decode cX11_through 10 = .ok (.ifCond .eq 11, 3) := by decide +kernel
theorem dX11_through_21 : decode cX11_through 21 = .ok (.iconst (-1), 1) := by decide +kernel
theorem dX11_through_22 : decode cX11_through 22 = .ok (.ireturn, 1) := by decide +kernel
set_option maxHeartbeats 4000000 in
set_option maxRecDepth 100000 in
theorem c_X11_wares (l : Launch) (D : va_G) (cyC cyI cyJ cyZ cyO : ClassId) (n0 : Int32) (g0 : Nat) (g1 : Nat) (g2 : Nat) (g3 : Nat) (g4 : Nat) (g5 : Nat) (g6 : Nat) (g7 : Nat) (g8 : Nat) (g9 : Nat) (g10 : Nat) (g11 : Nat) (g12 : Nat) (g13 : Nat) (g14 : Nat) (g15 : Nat) (g16 : Nat) (g17 : Nat) (g18 : Nat) (g19 : Nat) (g20 : Nat) (g21 : Nat) (g22 : Nat) (g23 : Nat) (g24 : Nat) (g25 : Nat) : KK l D (TY cyC cyI cyJ cyZ cyO) yX11_wares cX11_wares 1 (some .int) ({ frames := 0, cells := 0, slots := 0, locals := 0 } : Room) 0 0 [.ref g0] [(g0, .inr (11, [.int 0, .ref g1, .int 0, .int 0, .ref g2, .ref g3, .ref g4, .int 0, .int 0, .ref g5, .ref g6, .ref g7, .ref g8, .int 0, .ref g9, .ref g10, .int n0, .ref g11, .ref g12, .ref g13, .ref g14, .ref g15, .int 0, .int 0, .int 0, .ref g16, .int 0, .ref g17, .ref g18, .ref g19, .ref g20, .ref g21, .ref g22, .int 0, .int 0, .int 0, .ref g23, .ref g24, .int 0, .int 0, .int 0, .int 0, .ref g25])), (g6, .inl (cyI, 240, .inl (fun _ => 0)))] (fun u => some (.int 0)) (fun u => True) (fun u => [(g0, .inr (11, [.int 0, .ref g1, .int 0, .int 0, .ref g2, .ref g3, .ref g4, .int 0, .int 0, .ref g5, .ref g6, .ref g7, .ref g8, .int 0, .ref g9, .ref g10, .int n0, .ref g11, .ref g12, .ref g13, .ref g14, .ref g15, .int 0, .int 0, .int 0, .ref g16, .int 0, .ref g17, .ref g18, .ref g19, .ref g20, .ref g21, .ref g22, .int 0, .int 0, .int 0, .ref g23, .ref g24, .int 0, .int 0, .int 0, .int 0, .ref g25])), (g6, .inl (cyI, 240, .inl (fun _ => 0)))]) := by
  refine KK.of (lv0 := [(0, .ref g0)]) (by decide) rfl (Nat.le_of_ble_eq_true rfl) ?_
  intro p e s m args below meth c A C hr hk hin
  refine j_aload_n (pc := 0) C dX11_wares_0 rfl 0 rfl ?_
  refine j_get (pc := 1) (ci := 11) (v := .ref g6) C inw_11 0 rfl rfl 10 (by decide) wd_146 rfl rfl dX11_wares_1 ?_
  refine j_iconst (pc := 4) (v := 0) C dX11_wares_4 (by decide) ?_
  refine j_iald (pc := 5) (v := 0) (k := 0) C 1 1 rfl rfl (by decide) (by decide) (by decide) rfl dX11_wares_5 ?_
  exact j_iret (pc := 6) C hr hk (fun i => [].getD i 0, fun _ => 0, fun _ _ => 0) rfl trivial [0, 1] (by decide) rfl (by decide) (by decide) dX11_wares_6
set_option maxHeartbeats 4000000 in
set_option maxRecDepth 100000 in
theorem c_X11_shelves (l : Launch) (D : va_G) (cyC cyI cyJ cyZ cyO : ClassId) (n0 : Int32) (g0 : Nat) (g1 : Nat) (g2 : Nat) (g3 : Nat) (g4 : Nat) (g5 : Nat) (g6 : Nat) (g7 : Nat) (g8 : Nat) (g9 : Nat) (g10 : Nat) (g11 : Nat) (g12 : Nat) (g13 : Nat) (g14 : Nat) (g15 : Nat) (g16 : Nat) (g17 : Nat) (g18 : Nat) (g19 : Nat) (g20 : Nat) (g21 : Nat) (g22 : Nat) (g23 : Nat) (g24 : Nat) (g25 : Nat) : KK l D (TY cyC cyI cyJ cyZ cyO) yX11_shelves cX11_shelves 1 (some .int) ({ frames := 0, cells := 0, slots := 0, locals := 0 } : Room) 0 0 [.ref g0] [(g0, .inr (11, [.int 0, .ref g1, .int 0, .int 0, .ref g2, .ref g3, .ref g4, .int 0, .int 0, .ref g5, .ref g6, .ref g7, .ref g8, .int 0, .ref g9, .ref g10, .int n0, .ref g11, .ref g12, .ref g13, .ref g14, .ref g15, .int 0, .int 0, .int 0, .ref g16, .int 0, .ref g17, .ref g18, .ref g19, .ref g20, .ref g21, .ref g22, .int 0, .int 0, .int 0, .ref g23, .ref g24, .int 0, .int 0, .int 0, .int 0, .ref g25])), (g6, .inl (cyI, 240, .inl (fun _ => 0)))] (fun u => some (.int 0)) (fun u => True) (fun u => [(g0, .inr (11, [.int 0, .ref g1, .int 0, .int 0, .ref g2, .ref g3, .ref g4, .int 0, .int 0, .ref g5, .ref g6, .ref g7, .ref g8, .int 0, .ref g9, .ref g10, .int n0, .ref g11, .ref g12, .ref g13, .ref g14, .ref g15, .int 0, .int 0, .int 0, .ref g16, .int 0, .ref g17, .ref g18, .ref g19, .ref g20, .ref g21, .ref g22, .int 0, .int 0, .int 0, .ref g23, .ref g24, .int 0, .int 0, .int 0, .int 0, .ref g25])), (g6, .inl (cyI, 240, .inl (fun _ => 0)))]) := by
  refine KK.of (lv0 := [(0, .ref g0)]) (by decide) rfl (Nat.le_of_ble_eq_true rfl) ?_
  intro p e s m args below meth c A C hr hk hin
  refine j_aload_n (pc := 0) C dX11_shelves_0 rfl 0 rfl ?_
  refine j_get (pc := 1) (ci := 11) (v := .ref g6) C inw_11 0 rfl rfl 10 (by decide) wd_146 rfl rfl dX11_shelves_1 ?_
  refine j_iconst (pc := 4) (v := 1) C dX11_shelves_4 (by decide) ?_
  refine j_iald (pc := 5) (v := 0) (k := 1) C 1 1 rfl rfl (by decide) (by decide) (by decide) rfl dX11_shelves_5 ?_
  exact j_iret (pc := 6) C hr hk (fun i => [].getD i 0, fun _ => 0, fun _ _ => 0) rfl trivial [0, 1] (by decide) rfl (by decide) (by decide) dX11_shelves_6
set_option maxHeartbeats 4000000 in
set_option maxRecDepth 100000 in
theorem c_X11_isWare (l : Launch) (D : va_G) (cyC cyI cyJ cyZ cyO : ClassId) (p0 : Int32) (n0 : Int32) (g0 : Nat) (g1 : Nat) (g2 : Nat) (g3 : Nat) (g4 : Nat) (g5 : Nat) (g6 : Nat) (g7 : Nat) (g8 : Nat) (g9 : Nat) (g10 : Nat) (g11 : Nat) (g12 : Nat) (g13 : Nat) (g14 : Nat) (g15 : Nat) (g16 : Nat) (g17 : Nat) (g18 : Nat) (g19 : Nat) (g20 : Nat) (g21 : Nat) (g22 : Nat) (g23 : Nat) (g24 : Nat) (g25 : Nat) : KK l D (TY cyC cyI cyJ cyZ cyO) yX11_isWare cX11_isWare 2 (some .boolean) ({ frames := 1, cells := 0, slots := 0, locals := 20 } : Room) 0 0 [.ref g0, .int p0] [(g0, .inr (11, [.int 0, .ref g1, .int 0, .int 0, .ref g2, .ref g3, .ref g4, .int 0, .int 0, .ref g5, .ref g6, .ref g7, .ref g8, .int 0, .ref g9, .ref g10, .int n0, .ref g11, .ref g12, .ref g13, .ref g14, .ref g15, .int 0, .int 0, .int 0, .ref g16, .int 0, .ref g17, .ref g18, .ref g19, .ref g20, .ref g21, .ref g22, .int 0, .int 0, .int 0, .ref g23, .ref g24, .int 0, .int 0, .int 0, .int 0, .ref g25])), (g6, .inl (cyI, 240, .inl (fun _ => 0)))] (fun u => some (.int 0)) (fun u => True) (fun u => [(g0, .inr (11, [.int 0, .ref g1, .int 0, .int 0, .ref g2, .ref g3, .ref g4, .int 0, .int 0, .ref g5, .ref g6, .ref g7, .ref g8, .int 0, .ref g9, .ref g10, .int n0, .ref g11, .ref g12, .ref g13, .ref g14, .ref g15, .int 0, .int 0, .int 0, .ref g16, .int 0, .ref g17, .ref g18, .ref g19, .ref g20, .ref g21, .ref g22, .int 0, .int 0, .int 0, .ref g23, .ref g24, .int 0, .int 0, .int 0, .int 0, .ref g25])), (g6, .inl (cyI, 240, .inl (fun _ => 0)))]) := by
  refine KK.of (lv0 := [(0, .ref g0), (1, .int p0)]) (by decide) rfl (Nat.le_of_ble_eq_true rfl) ?_
  intro p e s m args below meth c A C hr hk hin
  refine j_iload_n (pc := 0) C dX11_isWare_0 rfl 1 rfl ?_
  refine j_if_lt (pc := 1) (tgt := 16) C dX11_isWare_1 (by decide) (fun c_1 => ?_) (fun c_1 => ?_)
  · skip
    refine j_iconst (pc := 16) (v := 0) C dX11_isWare_16 (by decide) ?_
    exact j_zret (pc := 17) C hr rfl hk (fun i => [].getD i 0, fun _ => 0, fun _ _ => 0) rfl trivial [0, 1] (by decide) rfl (by decide) (by decide) dX11_isWare_17
  · skip
    refine j_iload_n (pc := 4) C dX11_isWare_4 rfl 1 rfl ?_
    refine j_aload_n (pc := 5) C dX11_isWare_5 rfl 0 rfl ?_
    refine j_callV (pc := 6) (As := []) (rest := [.int p0]) (wr := []) C (c_X11_wares l D cyC cyI cyJ cyZ cyO n0 g0 g1 g2 g3 g4 g5 g6 g7 g8 g9 g10 g11 g12 g13 g14 g15 g16 g17 g18 g19 g20 g21 g22 g23 g24 g25) wd_312 wd_313 wd_314 wd_315 wd_316 ⟨by decide, by decide, rfl⟩ rfl ⟨rfl, rfl, by decide, by decide⟩ ⟨by decide, by decide⟩ [0, 1] [] rfl rfl ⟨by decide, by decide, by decide⟩ 0 rfl rfl rfl (Nat.le_of_ble_eq_true rfl) dX11_isWare_6 (fun u_2 hw_3 => ?_)
    refine j_eq (ws2 := [(g0, .inr (11, [.int 0, .ref g1, .int 0, .int 0, .ref g2, .ref g3, .ref g4, .int 0, .int 0, .ref g5, .ref g6, .ref g7, .ref g8, .int 0, .ref g9, .ref g10, .int n0, .ref g11, .ref g12, .ref g13, .ref g14, .ref g15, .int 0, .int 0, .int 0, .ref g16, .int 0, .ref g17, .ref g18, .ref g19, .ref g20, .ref g21, .ref g22, .int 0, .int 0, .int 0, .ref g23, .ref g24, .int 0, .int 0, .int 0, .int 0, .ref g25])), (g6, .inl (cyI, 240, .inl (fun _ => 0)))]) (pc2 := 9) (lv2 := [(0, .ref g0), (1, .int p0)]) (st2 := [.int 0, .int p0]) rfl rfl rfl rfl ?_
    refine j_icmp_ge_t (pc := 9) (tgt := 16) C dX11_isWare_9 (by decide) (br_ltf_ge c_1) ?_
    refine j_iconst (pc := 16) (v := 0) C dX11_isWare_16 (by decide) ?_
    exact j_zret (pc := 17) C hr rfl hk (fun i => [].getD i 0, fun _ => 0, fun _ _ => 0) rfl trivial [0, 1] (by decide) rfl (by decide) (by decide) dX11_isWare_17
set_option maxHeartbeats 4000000 in
set_option maxRecDepth 100000 in
theorem c_X11_isShelf (l : Launch) (D : va_G) (cyC cyI cyJ cyZ cyO : ClassId) (p0 : Int32) (n0 : Int32) (g0 : Nat) (g1 : Nat) (g2 : Nat) (g3 : Nat) (g4 : Nat) (g5 : Nat) (g6 : Nat) (g7 : Nat) (g8 : Nat) (g9 : Nat) (g10 : Nat) (g11 : Nat) (g12 : Nat) (g13 : Nat) (g14 : Nat) (g15 : Nat) (g16 : Nat) (g17 : Nat) (g18 : Nat) (g19 : Nat) (g20 : Nat) (g21 : Nat) (g22 : Nat) (g23 : Nat) (g24 : Nat) (g25 : Nat) : KK l D (TY cyC cyI cyJ cyZ cyO) yX11_isShelf cX11_isShelf 2 (some .boolean) ({ frames := 1, cells := 0, slots := 0, locals := 20 } : Room) 0 0 [.ref g0, .int p0] [(g0, .inr (11, [.int 0, .ref g1, .int 0, .int 0, .ref g2, .ref g3, .ref g4, .int 0, .int 0, .ref g5, .ref g6, .ref g7, .ref g8, .int 0, .ref g9, .ref g10, .int n0, .ref g11, .ref g12, .ref g13, .ref g14, .ref g15, .int 0, .int 0, .int 0, .ref g16, .int 0, .ref g17, .ref g18, .ref g19, .ref g20, .ref g21, .ref g22, .int 0, .int 0, .int 0, .ref g23, .ref g24, .int 0, .int 0, .int 0, .int 0, .ref g25])), (g6, .inl (cyI, 240, .inl (fun _ => 0)))] (fun u => some (.int 0)) (fun u => True) (fun u => [(g0, .inr (11, [.int 0, .ref g1, .int 0, .int 0, .ref g2, .ref g3, .ref g4, .int 0, .int 0, .ref g5, .ref g6, .ref g7, .ref g8, .int 0, .ref g9, .ref g10, .int n0, .ref g11, .ref g12, .ref g13, .ref g14, .ref g15, .int 0, .int 0, .int 0, .ref g16, .int 0, .ref g17, .ref g18, .ref g19, .ref g20, .ref g21, .ref g22, .int 0, .int 0, .int 0, .ref g23, .ref g24, .int 0, .int 0, .int 0, .int 0, .ref g25])), (g6, .inl (cyI, 240, .inl (fun _ => 0)))]) := by
  refine KK.of (lv0 := [(0, .ref g0), (1, .int p0)]) (by decide) rfl (Nat.le_of_ble_eq_true rfl) ?_
  intro p e s m args below meth c A C hr hk hin
  refine j_iload_n (pc := 0) C dX11_isShelf_0 rfl 1 rfl ?_
  refine j_if_lt (pc := 1) (tgt := 16) C dX11_isShelf_1 (by decide) (fun c_1 => ?_) (fun c_1 => ?_)
  · skip
    refine j_iconst (pc := 16) (v := 0) C dX11_isShelf_16 (by decide) ?_
    exact j_zret (pc := 17) C hr rfl hk (fun i => [].getD i 0, fun _ => 0, fun _ _ => 0) rfl trivial [0, 1] (by decide) rfl (by decide) (by decide) dX11_isShelf_17
  · skip
    refine j_iload_n (pc := 4) C dX11_isShelf_4 rfl 1 rfl ?_
    refine j_aload_n (pc := 5) C dX11_isShelf_5 rfl 0 rfl ?_
    refine j_callV (pc := 6) (As := []) (rest := [.int p0]) (wr := []) C (c_X11_shelves l D cyC cyI cyJ cyZ cyO n0 g0 g1 g2 g3 g4 g5 g6 g7 g8 g9 g10 g11 g12 g13 g14 g15 g16 g17 g18 g19 g20 g21 g22 g23 g24 g25) wd_317 wd_313 wd_318 wd_319 wd_320 ⟨by decide, by decide, rfl⟩ rfl ⟨rfl, rfl, by decide, by decide⟩ ⟨by decide, by decide⟩ [0, 1] [] rfl rfl ⟨by decide, by decide, by decide⟩ 0 rfl rfl rfl (Nat.le_of_ble_eq_true rfl) dX11_isShelf_6 (fun u_2 hw_3 => ?_)
    refine j_eq (ws2 := [(g0, .inr (11, [.int 0, .ref g1, .int 0, .int 0, .ref g2, .ref g3, .ref g4, .int 0, .int 0, .ref g5, .ref g6, .ref g7, .ref g8, .int 0, .ref g9, .ref g10, .int n0, .ref g11, .ref g12, .ref g13, .ref g14, .ref g15, .int 0, .int 0, .int 0, .ref g16, .int 0, .ref g17, .ref g18, .ref g19, .ref g20, .ref g21, .ref g22, .int 0, .int 0, .int 0, .ref g23, .ref g24, .int 0, .int 0, .int 0, .int 0, .ref g25])), (g6, .inl (cyI, 240, .inl (fun _ => 0)))]) (pc2 := 9) (lv2 := [(0, .ref g0), (1, .int p0)]) (st2 := [.int 0, .int p0]) rfl rfl rfl rfl ?_
    refine j_icmp_ge_t (pc := 9) (tgt := 16) C dX11_isShelf_9 (by decide) (br_ltf_ge c_1) ?_
    refine j_iconst (pc := 16) (v := 0) C dX11_isShelf_16 (by decide) ?_
    exact j_zret (pc := 17) C hr rfl hk (fun i => [].getD i 0, fun _ => 0, fun _ _ => 0) rfl trivial [0, 1] (by decide) rfl (by decide) (by decide) dX11_isShelf_17
set_option maxHeartbeats 4000000 in
set_option maxRecDepth 100000 in
theorem c_X11_asks (l : Launch) (D : va_G) (cyC cyI cyJ cyZ cyO : ClassId) (n0 : Int32) (g0 : Nat) (g1 : Nat) (g2 : Nat) (g3 : Nat) (g4 : Nat) (g5 : Nat) (g6 : Nat) (g7 : Nat) (g8 : Nat) (g9 : Nat) (g10 : Nat) (g11 : Nat) (g12 : Nat) (g13 : Nat) (g14 : Nat) (g15 : Nat) (g16 : Nat) (g17 : Nat) (g18 : Nat) (g19 : Nat) (g20 : Nat) (g21 : Nat) (g22 : Nat) (g23 : Nat) (g24 : Nat) (g25 : Nat) : KK l D (TY cyC cyI cyJ cyZ cyO) yX11_asks cX11_asks 1 (some .int) ({ frames := 0, cells := 0, slots := 0, locals := 0 } : Room) 0 0 [.ref g0] [(g0, .inr (11, [.int 0, .ref g1, .int 0, .int 0, .ref g2, .ref g3, .ref g4, .int 0, .int 0, .ref g5, .ref g6, .ref g7, .ref g8, .int 0, .ref g9, .ref g10, .int n0, .ref g11, .ref g12, .ref g13, .ref g14, .ref g15, .int 0, .int 0, .int 0, .ref g16, .int 0, .ref g17, .ref g18, .ref g19, .ref g20, .ref g21, .ref g22, .int 0, .int 0, .int 0, .ref g23, .ref g24, .int 0, .int 0, .int 0, .int 0, .ref g25])), (g14, .inl (cyI, 2760, .inl (fun _ => 0)))] (fun u => some (.int 0)) (fun u => True) (fun u => [(g0, .inr (11, [.int 0, .ref g1, .int 0, .int 0, .ref g2, .ref g3, .ref g4, .int 0, .int 0, .ref g5, .ref g6, .ref g7, .ref g8, .int 0, .ref g9, .ref g10, .int n0, .ref g11, .ref g12, .ref g13, .ref g14, .ref g15, .int 0, .int 0, .int 0, .ref g16, .int 0, .ref g17, .ref g18, .ref g19, .ref g20, .ref g21, .ref g22, .int 0, .int 0, .int 0, .ref g23, .ref g24, .int 0, .int 0, .int 0, .int 0, .ref g25])), (g14, .inl (cyI, 2760, .inl (fun _ => 0)))]) := by
  refine KK.of (lv0 := [(0, .ref g0)]) (by decide) rfl (Nat.le_of_ble_eq_true rfl) ?_
  intro p e s m args below meth c A C hr hk hin
  refine j_aload_n (pc := 0) C dX11_asks_0 rfl 0 rfl ?_
  refine j_get (pc := 1) (ci := 11) (v := .ref g14) C inw_11 0 rfl rfl 20 (by decide) wd_155 rfl rfl dX11_asks_1 ?_
  refine j_sipush (pc := 4) (v := 421) C dX11_asks_4 (by decide) ?_
  refine j_iald (pc := 7) (v := 0) (k := 421) C 1 1 rfl rfl (by decide) (by decide) (by decide) rfl dX11_asks_7 ?_
  exact j_iret (pc := 8) C hr hk (fun i => [].getD i 0, fun _ => 0, fun _ _ => 0) rfl trivial [0, 1] (by decide) rfl (by decide) (by decide) dX11_asks_8
set_option maxHeartbeats 4000000 in
set_option maxRecDepth 100000 in
theorem c_X11_isStack (l : Launch) (D : va_G) (cyC cyI cyJ cyZ cyO : ClassId) (p0 : Int32) (p1 : Int32) (p2 : Int32) (n0 : Int32) (g0 : Nat) (g1 : Nat) (g2 : Nat) (g3 : Nat) (g4 : Nat) (g5 : Nat) (g6 : Nat) (g7 : Nat) (g8 : Nat) (g9 : Nat) (g10 : Nat) (g11 : Nat) (g12 : Nat) (g13 : Nat) (g14 : Nat) (g15 : Nat) (g16 : Nat) (g17 : Nat) (g18 : Nat) (g19 : Nat) (g20 : Nat) (g21 : Nat) (g22 : Nat) (g23 : Nat) (g24 : Nat) (g25 : Nat) : KK l D (TY cyC cyI cyJ cyZ cyO) yX11_isStack cX11_isStack 4 (some .boolean) ({ frames := 2, cells := 0, slots := 0, locals := 41 } : Room) 0 0 [.ref g0, .int p0, .int p1, .int p2] [(g0, .inr (11, [.int 0, .ref g1, .int 0, .int 0, .ref g2, .ref g3, .ref g4, .int 0, .int 0, .ref g5, .ref g6, .ref g7, .ref g8, .int 0, .ref g9, .ref g10, .int n0, .ref g11, .ref g12, .ref g13, .ref g14, .ref g15, .int 0, .int 0, .int 0, .ref g16, .int 0, .ref g17, .ref g18, .ref g19, .ref g20, .ref g21, .ref g22, .int 0, .int 0, .int 0, .ref g23, .ref g24, .int 0, .int 0, .int 0, .int 0, .ref g25])), (g6, .inl (cyI, 240, .inl (fun _ => 0)))] (fun u => some (.int 0)) (fun u => True) (fun u => [(g0, .inr (11, [.int 0, .ref g1, .int 0, .int 0, .ref g2, .ref g3, .ref g4, .int 0, .int 0, .ref g5, .ref g6, .ref g7, .ref g8, .int 0, .ref g9, .ref g10, .int n0, .ref g11, .ref g12, .ref g13, .ref g14, .ref g15, .int 0, .int 0, .int 0, .ref g16, .int 0, .ref g17, .ref g18, .ref g19, .ref g20, .ref g21, .ref g22, .int 0, .int 0, .int 0, .ref g23, .ref g24, .int 0, .int 0, .int 0, .int 0, .ref g25])), (g6, .inl (cyI, 240, .inl (fun _ => 0)))]) := by
  refine KK.of (lv0 := [(0, .ref g0), (1, .int p0), (2, .int p1), (3, .int p2)]) (by decide) rfl (Nat.le_of_ble_eq_true rfl) ?_
  intro p e s m args below meth c A C hr hk hin
  refine j_aload_n (pc := 0) C dX11_isStack_0 rfl 0 rfl ?_
  refine j_iload_n (pc := 1) C dX11_isStack_1 rfl 2 rfl ?_
  refine j_callV (pc := 2) (As := [.int p1]) (rest := []) (wr := []) C (c_X11_isShelf l D cyC cyI cyJ cyZ cyO p1 n0 g0 g1 g2 g3 g4 g5 g6 g7 g8 g9 g10 g11 g12 g13 g14 g15 g16 g17 g18 g19 g20 g21 g22 g23 g24 g25) wd_321 wd_313 wd_322 wd_323 wd_324 ⟨by decide, by decide, rfl⟩ rfl ⟨rfl, rfl, by decide, by decide⟩ ⟨by decide, by decide⟩ [0, 1] [] rfl rfl ⟨by decide, by decide, by decide⟩ 0 rfl rfl rfl (Nat.le_of_ble_eq_true rfl) dX11_isStack_2 (fun u_1 hw_2 => ?_)
  refine j_eq (ws2 := [(g0, .inr (11, [.int 0, .ref g1, .int 0, .int 0, .ref g2, .ref g3, .ref g4, .int 0, .int 0, .ref g5, .ref g6, .ref g7, .ref g8, .int 0, .ref g9, .ref g10, .int n0, .ref g11, .ref g12, .ref g13, .ref g14, .ref g15, .int 0, .int 0, .int 0, .ref g16, .int 0, .ref g17, .ref g18, .ref g19, .ref g20, .ref g21, .ref g22, .int 0, .int 0, .int 0, .ref g23, .ref g24, .int 0, .int 0, .int 0, .int 0, .ref g25])), (g6, .inl (cyI, 240, .inl (fun _ => 0)))]) (pc2 := 5) (lv2 := [(0, .ref g0), (1, .int p0), (2, .int p1), (3, .int p2)]) (st2 := [.int 0]) rfl rfl rfl rfl ?_
  refine j_if_eq_t (pc := 5) (tgt := 26) C dX11_isStack_5 (by decide) (by decide) ?_
  refine j_iconst (pc := 26) (v := 0) C dX11_isStack_26 (by decide) ?_
  exact j_zret (pc := 27) C hr rfl hk (fun i => [].getD i 0, fun _ => 0, fun _ _ => 0) rfl trivial [0, 1] (by decide) rfl (by decide) (by decide) dX11_isStack_27
set_option maxHeartbeats 4000000 in
set_option maxRecDepth 100000 in
theorem c_X11_within (l : Launch) (D : va_G) (cyC cyI cyJ cyZ cyO : ClassId) (p0 : Int32) (p1 : Int32) (p2 : Int32) : KK l D (TY cyC cyI cyJ cyZ cyO) yX11_within cX11_within 3 (some .boolean) ({ frames := 0, cells := 0, slots := 0, locals := 0 } : Room) 0 0 [.int p0, .int p1, .int p2] [] (fun u => some (.int (u.2.1 0))) (fun u => u.2.1 0 = (if p1 ≤ p0 ∧ p0 ≤ p2 then 1 else 0)) (fun u => []) := by
  refine KK.of (lv0 := [(0, .int p0), (1, .int p1), (2, .int p2)]) (by decide) rfl (Nat.le_of_ble_eq_true rfl) ?_
  intro p e s m args below meth c A C hr hk hin
  refine j_iload_n (pc := 0) C dX11_within_0 rfl 0 rfl ?_
  refine j_iload_n (pc := 1) C dX11_within_1 rfl 1 rfl ?_
  refine j_icmp_lt (pc := 2) (tgt := 14) C dX11_within_2 (by decide) (fun c_1 => ?_) (fun c_1 => ?_)
  · skip
    refine j_iconst (pc := 14) (v := 0) C dX11_within_14 (by decide) ?_
    exact j_zret (pc := 15) C hr rfl hk (fun _ => 0, fun _ => 0, fun _ _ => 0) rfl (by show (0 : Int32) = (if p1 ≤ p0 ∧ p0 ≤ p2 then 1 else 0); exact if hE : p1 ≤ p0 ∧ p0 ≤ p2 then (by first | exact (if_pos hE).symm | (exfalso; simp only [i_lt, i_le, i_eq] at hE c_1; omega)) else (by first | exact (if_neg hE).symm | (exfalso; simp only [i_lt, i_le, i_eq] at hE c_1; omega))) [] (by decide) rfl (by decide) (by decide) dX11_within_15
  · skip
    refine j_iload_n (pc := 5) C dX11_within_5 rfl 0 rfl ?_
    refine j_iload_n (pc := 6) C dX11_within_6 rfl 2 rfl ?_
    refine j_icmp_gt (pc := 7) (tgt := 14) C dX11_within_7 (by decide) (fun c_2 => ?_) (fun c_2 => ?_)
    · skip
      refine j_iconst (pc := 14) (v := 0) C dX11_within_14 (by decide) ?_
      exact j_zret (pc := 15) C hr rfl hk (fun _ => 0, fun _ => 0, fun _ _ => 0) rfl (by show (0 : Int32) = (if p1 ≤ p0 ∧ p0 ≤ p2 then 1 else 0); exact if hE : p1 ≤ p0 ∧ p0 ≤ p2 then (by first | exact (if_pos hE).symm | (exfalso; simp only [i_lt, i_le, i_eq] at hE c_1 c_2; omega)) else (by first | exact (if_neg hE).symm | (exfalso; simp only [i_lt, i_le, i_eq] at hE c_1 c_2; omega))) [] (by decide) rfl (by decide) (by decide) dX11_within_15
    · skip
      refine j_iconst (pc := 10) (v := 1) C dX11_within_10 (by decide) ?_
      refine j_goto (pc := 11) (tgt := 15) C dX11_within_11 (by decide) ?_
      exact j_zret (pc := 15) C hr rfl hk (fun _ => 0, fun _ => 1, fun _ _ => 0) rfl (by show (1 : Int32) = (if p1 ≤ p0 ∧ p0 ≤ p2 then 1 else 0); exact if hE : p1 ≤ p0 ∧ p0 ≤ p2 then (by first | exact (if_pos hE).symm | (exfalso; simp only [i_lt, i_le, i_eq] at hE c_1 c_2; omega)) else (by first | exact (if_neg hE).symm | (exfalso; simp only [i_lt, i_le, i_eq] at hE c_1 c_2; omega))) [] (by decide) rfl (by decide) (by decide) dX11_within_15
set_option maxHeartbeats 4000000 in
set_option maxRecDepth 100000 in
theorem c_X11_whyNotPut (l : Launch) (D : va_G) (cyC cyI cyJ cyZ cyO : ClassId) (p0 : Int32) (p1 : Int32) (p2 : Int32) (g0 : Nat) (g1 : Nat) (g2 : Nat) (g3 : Nat) (g4 : Nat) (g5 : Nat) (g6 : Nat) (g7 : Nat) (g8 : Nat) (g9 : Nat) (g10 : Nat) (g11 : Nat) (g12 : Nat) (g13 : Nat) (g14 : Nat) (g15 : Nat) (g16 : Nat) (g17 : Nat) (g18 : Nat) (g19 : Nat) (g20 : Nat) (g21 : Nat) (g22 : Nat) (g23 : Nat) (g24 : Nat) (g25 : Nat) : KK l D (TY cyC cyI cyJ cyZ cyO) yX11_whyNotPut cX11_whyNotPut 5 (some .int) ({ frames := 2, cells := 0, slots := 0, locals := 41 } : Room) 0 0 [.ref g0, .int 0, .int p0, .int p1, .int p2] [(g0, .inr (11, [.int 0, .ref g1, .int 0, .int 0, .ref g2, .ref g3, .ref g4, .int 0, .int 0, .ref g5, .ref g6, .ref g7, .ref g8, .int 0, .ref g9, .ref g10, .int 1, .ref g11, .ref g12, .ref g13, .ref g14, .ref g15, .int 0, .int 0, .int 0, .ref g16, .int 0, .ref g17, .ref g18, .ref g19, .ref g20, .ref g21, .ref g22, .int 0, .int 0, .int 0, .ref g23, .ref g24, .int 0, .int 0, .int 0, .int 0, .ref g25])), (g6, .inl (cyI, 240, .inl (fun _ => 0)))] (fun u => some (.int 1)) (fun u => True) (fun u => [(g0, .inr (11, [.int 0, .ref g1, .int 0, .int 0, .ref g2, .ref g3, .ref g4, .int 0, .int 0, .ref g5, .ref g6, .ref g7, .ref g8, .int 0, .ref g9, .ref g10, .int 1, .ref g11, .ref g12, .ref g13, .ref g14, .ref g15, .int 0, .int 0, .int 0, .ref g16, .int 0, .ref g17, .ref g18, .ref g19, .ref g20, .ref g21, .ref g22, .int 0, .int 0, .int 0, .ref g23, .ref g24, .int 0, .int 0, .int 0, .int 0, .ref g25])), (g6, .inl (cyI, 240, .inl (fun _ => 0)))]) := by
  refine KK.of (lv0 := [(0, .ref g0), (1, .int 0), (2, .int p0), (3, .int p1), (4, .int p2)]) (by decide) rfl (Nat.le_of_ble_eq_true rfl) ?_
  intro p e s m args below meth c A C hr hk hin
  refine j_aload_n (pc := 0) C dX11_whyNotPut_0 rfl 0 rfl ?_
  refine j_iload_n (pc := 1) C dX11_whyNotPut_1 rfl 2 rfl ?_
  refine j_callV (pc := 2) (As := [.int p0]) (rest := []) (wr := []) C (c_X11_isWare l D cyC cyI cyJ cyZ cyO p0 1 g0 g1 g2 g3 g4 g5 g6 g7 g8 g9 g10 g11 g12 g13 g14 g15 g16 g17 g18 g19 g20 g21 g22 g23 g24 g25) wd_325 wd_313 wd_326 wd_327 wd_328 ⟨by decide, by decide, rfl⟩ rfl ⟨rfl, rfl, by decide, by decide⟩ ⟨by decide, by decide⟩ [0, 1] [] rfl rfl ⟨by decide, by decide, by decide⟩ 0 rfl rfl rfl (Nat.le_of_ble_eq_true rfl) dX11_whyNotPut_2 (fun u_1 hw_2 => ?_)
  refine j_eq (ws2 := [(g0, .inr (11, [.int 0, .ref g1, .int 0, .int 0, .ref g2, .ref g3, .ref g4, .int 0, .int 0, .ref g5, .ref g6, .ref g7, .ref g8, .int 0, .ref g9, .ref g10, .int 1, .ref g11, .ref g12, .ref g13, .ref g14, .ref g15, .int 0, .int 0, .int 0, .ref g16, .int 0, .ref g17, .ref g18, .ref g19, .ref g20, .ref g21, .ref g22, .int 0, .int 0, .int 0, .ref g23, .ref g24, .int 0, .int 0, .int 0, .int 0, .ref g25])), (g6, .inl (cyI, 240, .inl (fun _ => 0)))]) (pc2 := 5) (lv2 := [(0, .ref g0), (1, .int 0), (2, .int p0), (3, .int p1), (4, .int p2)]) (st2 := [.int 0]) rfl rfl rfl rfl ?_
  refine j_if_eq_t (pc := 5) (tgt := 33) C dX11_whyNotPut_5 (by decide) (by decide) ?_
  refine j_iconst (pc := 33) (v := 1) C dX11_whyNotPut_33 (by decide) ?_
  exact j_iret (pc := 34) C hr hk (fun i => [].getD i 0, fun _ => 0, fun _ _ => 0) rfl trivial [0, 1] (by decide) rfl (by decide) (by decide) dX11_whyNotPut_34
set_option maxHeartbeats 4000000 in
set_option maxRecDepth 100000 in
theorem c_X11_ware (l : Launch) (D : va_G) (cyC cyI cyJ cyZ cyO : ClassId) (p0 : Int32) (p1 : Int32) (g0 : Nat) (g1 : Nat) (g2 : Nat) (g3 : Nat) (g4 : Nat) (g5 : Nat) (g6 : Nat) (g7 : Nat) (g8 : Nat) (g9 : Nat) (g10 : Nat) (g11 : Nat) (g12 : Nat) (g13 : Nat) (g14 : Nat) (g15 : Nat) (g16 : Nat) (g17 : Nat) (g18 : Nat) (g19 : Nat) (g20 : Nat) (g21 : Nat) (g22 : Nat) (g23 : Nat) (g24 : Nat) (g25 : Nat) : KK l D (TY cyC cyI cyJ cyZ cyO) yX11_ware cX11_ware 3 (some .int) ({ frames := 2, cells := 0, slots := 0, locals := 41 } : Room) 0 0 [.ref g0, .int p0, .int p1] [(g0, .inr (11, [.int 0, .ref g1, .int 0, .int 0, .ref g2, .ref g3, .ref g4, .int 0, .int 0, .ref g5, .ref g6, .ref g7, .ref g8, .int 0, .ref g9, .ref g10, .int 1, .ref g11, .ref g12, .ref g13, .ref g14, .ref g15, .int 0, .int 0, .int 0, .ref g16, .int 0, .ref g17, .ref g18, .ref g19, .ref g20, .ref g21, .ref g22, .int 0, .int 0, .int 0, .ref g23, .ref g24, .int 0, .int 0, .int 0, .int 0, .ref g25])), (g6, .inl (cyI, 240, .inl (fun _ => 0)))] (fun u => some (.int (-1))) (fun u => True) (fun u => []) := by
  refine KK.of (lv0 := [(0, .ref g0), (1, .int p0), (2, .int p1)]) (by decide) rfl (Nat.le_of_ble_eq_true rfl) ?_
  intro p e s m args below meth c A C hr hk hin
  refine j_aload_n (pc := 0) C dX11_ware_0 rfl 0 rfl ?_
  refine j_iconst (pc := 1) (v := 0) C dX11_ware_1 (by decide) ?_
  refine j_put (pc := 2) (ci := 11) (v := .int 0) (ws' := [(g0, .inr (11, [.int 0, .ref g1, .int 0, .int 0, .ref g2, .ref g3, .ref g4, .int 0, .int 0, .ref g5, .ref g6, .ref g7, .ref g8, .int 0, .ref g9, .ref g10, .int 1, .ref g11, .ref g12, .ref g13, .ref g14, .ref g15, .int 0, .int 0, .int 0, .ref g16, .int 0, .ref g17, .ref g18, .ref g19, .ref g20, .ref g21, .ref g22, .int 0, .int 0, .int 0, .ref g23, .ref g24, .int 0, .int 0, .int 0, .int 0, .ref g25])), (g6, .inl (cyI, 240, .inl (fun _ => 0)))]) C inw_11 0 rfl rfl 0 (by decide) wd_329 rfl tyX11_ok nmX11 rfl (tyX11_ok 0 (by decide)) rfl rfl (Nat.le_of_ble_eq_true rfl) dX11_ware_2 rfl ?_
  refine j_aload_n (pc := 5) C dX11_ware_5 rfl 0 rfl ?_
  refine j_iload_n (pc := 6) C dX11_ware_6 rfl 1 rfl ?_
  refine j_callV (pc := 7) (As := [.int p0]) (rest := []) (wr := []) C (c_X11_isWare l D cyC cyI cyJ cyZ cyO p0 1 g0 g1 g2 g3 g4 g5 g6 g7 g8 g9 g10 g11 g12 g13 g14 g15 g16 g17 g18 g19 g20 g21 g22 g23 g24 g25) wd_325 wd_313 wd_326 wd_327 wd_328 ⟨by decide, by decide, rfl⟩ rfl ⟨rfl, rfl, by decide, by decide⟩ ⟨by decide, by decide⟩ [0, 1] [] rfl rfl ⟨by decide, by decide, by decide⟩ 0 rfl rfl rfl (Nat.le_of_ble_eq_true rfl) dX11_ware_7 (fun u_1 hw_2 => ?_)
  refine j_eq (ws2 := [(g0, .inr (11, [.int 0, .ref g1, .int 0, .int 0, .ref g2, .ref g3, .ref g4, .int 0, .int 0, .ref g5, .ref g6, .ref g7, .ref g8, .int 0, .ref g9, .ref g10, .int 1, .ref g11, .ref g12, .ref g13, .ref g14, .ref g15, .int 0, .int 0, .int 0, .ref g16, .int 0, .ref g17, .ref g18, .ref g19, .ref g20, .ref g21, .ref g22, .int 0, .int 0, .int 0, .ref g23, .ref g24, .int 0, .int 0, .int 0, .int 0, .ref g25])), (g6, .inl (cyI, 240, .inl (fun _ => 0)))]) (pc2 := 10) (lv2 := [(0, .ref g0), (1, .int p0), (2, .int p1)]) (st2 := [.int 0]) rfl rfl rfl rfl ?_
  refine j_if_eq_t (pc := 10) (tgt := 32) C dX11_ware_10 (by decide) (by decide) ?_
  refine j_iconst (pc := 32) (v := (-1)) C dX11_ware_32 (by decide) ?_
  exact j_iret (pc := 33) C hr hk (fun i => [].getD i 0, fun _ => 0, fun _ _ => 0) rfl trivial [] (by decide) rfl (by decide) (by decide) dX11_ware_33
set_option maxHeartbeats 4000000 in
set_option maxRecDepth 100000 in
theorem c_X11_may (l : Launch) (D : va_G) (cyC cyI cyJ cyZ cyO : ClassId) (p0 : Int32) (p1 : Int32) (g0 : Nat) (g1 : Nat) (g2 : Nat) (g3 : Nat) (g4 : Nat) (g5 : Nat) (g6 : Nat) (g7 : Nat) (g8 : Nat) (g9 : Nat) (g10 : Nat) (g11 : Nat) (g12 : Nat) (g13 : Nat) (g14 : Nat) (g15 : Nat) (g16 : Nat) (g17 : Nat) (g18 : Nat) (g19 : Nat) (g20 : Nat) (g21 : Nat) (g22 : Nat) (g23 : Nat) (g24 : Nat) (g25 : Nat) : KK l D (TY cyC cyI cyJ cyZ cyO) yX11_may cX11_may 3 (some .int) ({ frames := 2, cells := 0, slots := 0, locals := 41 } : Room) 0 0 [.ref g0, .int p0, .int p1] [(g0, .inr (11, [.int 0, .ref g1, .int 0, .int 0, .ref g2, .ref g3, .ref g4, .int 0, .int 0, .ref g5, .ref g6, .ref g7, .ref g8, .int 0, .ref g9, .ref g10, .int 1, .ref g11, .ref g12, .ref g13, .ref g14, .ref g15, .int 0, .int 0, .int 0, .ref g16, .int 0, .ref g17, .ref g18, .ref g19, .ref g20, .ref g21, .ref g22, .int 0, .int 0, .int 0, .ref g23, .ref g24, .int 0, .int 0, .int 0, .int 0, .ref g25])), (g6, .inl (cyI, 240, .inl (fun _ => 0)))] (fun u => some (.int (-1))) (fun u => True) (fun u => []) := by
  refine KK.of (lv0 := [(0, .ref g0), (1, .int p0), (2, .int p1)]) (by decide) rfl (Nat.le_of_ble_eq_true rfl) ?_
  intro p e s m args below meth c A C hr hk hin
  refine j_aload_n (pc := 0) C dX11_may_0 rfl 0 rfl ?_
  refine j_iconst (pc := 1) (v := 0) C dX11_may_1 (by decide) ?_
  refine j_put (pc := 2) (ci := 11) (v := .int 0) (ws' := [(g0, .inr (11, [.int 0, .ref g1, .int 0, .int 0, .ref g2, .ref g3, .ref g4, .int 0, .int 0, .ref g5, .ref g6, .ref g7, .ref g8, .int 0, .ref g9, .ref g10, .int 1, .ref g11, .ref g12, .ref g13, .ref g14, .ref g15, .int 0, .int 0, .int 0, .ref g16, .int 0, .ref g17, .ref g18, .ref g19, .ref g20, .ref g21, .ref g22, .int 0, .int 0, .int 0, .ref g23, .ref g24, .int 0, .int 0, .int 0, .int 0, .ref g25])), (g6, .inl (cyI, 240, .inl (fun _ => 0)))]) C inw_11 0 rfl rfl 0 (by decide) wd_329 rfl tyX11_ok nmX11 rfl (tyX11_ok 0 (by decide)) rfl rfl (Nat.le_of_ble_eq_true rfl) dX11_may_2 rfl ?_
  refine j_aload_n (pc := 5) C dX11_may_5 rfl 0 rfl ?_
  refine j_iload_n (pc := 6) C dX11_may_6 rfl 1 rfl ?_
  refine j_callV (pc := 7) (As := [.int p0]) (rest := []) (wr := []) C (c_X11_isWare l D cyC cyI cyJ cyZ cyO p0 1 g0 g1 g2 g3 g4 g5 g6 g7 g8 g9 g10 g11 g12 g13 g14 g15 g16 g17 g18 g19 g20 g21 g22 g23 g24 g25) wd_325 wd_313 wd_326 wd_327 wd_328 ⟨by decide, by decide, rfl⟩ rfl ⟨rfl, rfl, by decide, by decide⟩ ⟨by decide, by decide⟩ [0, 1] [] rfl rfl ⟨by decide, by decide, by decide⟩ 0 rfl rfl rfl (Nat.le_of_ble_eq_true rfl) dX11_may_7 (fun u_1 hw_2 => ?_)
  refine j_eq (ws2 := [(g0, .inr (11, [.int 0, .ref g1, .int 0, .int 0, .ref g2, .ref g3, .ref g4, .int 0, .int 0, .ref g5, .ref g6, .ref g7, .ref g8, .int 0, .ref g9, .ref g10, .int 1, .ref g11, .ref g12, .ref g13, .ref g14, .ref g15, .int 0, .int 0, .int 0, .ref g16, .int 0, .ref g17, .ref g18, .ref g19, .ref g20, .ref g21, .ref g22, .int 0, .int 0, .int 0, .ref g23, .ref g24, .int 0, .int 0, .int 0, .int 0, .ref g25])), (g6, .inl (cyI, 240, .inl (fun _ => 0)))]) (pc2 := 10) (lv2 := [(0, .ref g0), (1, .int p0), (2, .int p1)]) (st2 := [.int 0]) rfl rfl rfl rfl ?_
  refine j_if_eq_t (pc := 10) (tgt := 43) C dX11_may_10 (by decide) (by decide) ?_
  refine j_iconst (pc := 43) (v := (-1)) C dX11_may_43 (by decide) ?_
  exact j_iret (pc := 44) C hr hk (fun i => [].getD i 0, fun _ => 0, fun _ _ => 0) rfl trivial [] (by decide) rfl (by decide) (by decide) dX11_may_44
set_option maxHeartbeats 4000000 in
set_option maxRecDepth 100000 in
theorem c_X11_put (l : Launch) (D : va_G) (cyC cyI cyJ cyZ cyO : ClassId) (p0 : Int32) (p1 : Int32) (p2 : Int32) (g0 : Nat) (g1 : Nat) (g2 : Nat) (g3 : Nat) (g4 : Nat) (g5 : Nat) (g6 : Nat) (g7 : Nat) (g8 : Nat) (g9 : Nat) (g10 : Nat) (g11 : Nat) (g12 : Nat) (g13 : Nat) (g14 : Nat) (g15 : Nat) (g16 : Nat) (g17 : Nat) (g18 : Nat) (g19 : Nat) (g20 : Nat) (g21 : Nat) (g22 : Nat) (g23 : Nat) (g24 : Nat) (g25 : Nat) : KK l D (TY cyC cyI cyJ cyZ cyO) yX11_put cX11_put 5 (some .int) ({ frames := 3, cells := 0, slots := 0, locals := 65 } : Room) 0 0 [.ref g0, .int p0, .int p1, .int p2] [(g0, .inr (11, [.int 0, .ref g1, .int 0, .int 0, .ref g2, .ref g3, .ref g4, .int 0, .int 0, .ref g5, .ref g6, .ref g7, .ref g8, .int 0, .ref g9, .ref g10, .int 1, .ref g11, .ref g12, .ref g13, .ref g14, .ref g15, .int 0, .int 0, .int 0, .ref g16, .int 0, .ref g17, .ref g18, .ref g19, .ref g20, .ref g21, .ref g22, .int 0, .int 0, .int 0, .ref g23, .ref g24, .int 0, .int 0, .int 0, .int 0, .ref g25])), (g6, .inl (cyI, 240, .inl (fun _ => 0)))] (fun u => some (.int 1)) (fun u => True) (fun u => []) := by
  refine KK.of (lv0 := [(0, .ref g0), (1, .int p0), (2, .int p1), (3, .int p2)]) (by decide) rfl (Nat.le_of_ble_eq_true rfl) ?_
  intro p e s m args below meth c A C hr hk hin
  refine j_aload_n (pc := 0) C dX11_put_0 rfl 0 rfl ?_
  refine j_iconst (pc := 1) (v := 0) C dX11_put_1 (by decide) ?_
  refine j_put (pc := 2) (ci := 11) (v := .int 0) (ws' := [(g0, .inr (11, [.int 0, .ref g1, .int 0, .int 0, .ref g2, .ref g3, .ref g4, .int 0, .int 0, .ref g5, .ref g6, .ref g7, .ref g8, .int 0, .ref g9, .ref g10, .int 1, .ref g11, .ref g12, .ref g13, .ref g14, .ref g15, .int 0, .int 0, .int 0, .ref g16, .int 0, .ref g17, .ref g18, .ref g19, .ref g20, .ref g21, .ref g22, .int 0, .int 0, .int 0, .ref g23, .ref g24, .int 0, .int 0, .int 0, .int 0, .ref g25])), (g6, .inl (cyI, 240, .inl (fun _ => 0)))]) C inw_11 0 rfl rfl 0 (by decide) wd_329 rfl tyX11_ok nmX11 rfl (tyX11_ok 0 (by decide)) rfl rfl (Nat.le_of_ble_eq_true rfl) dX11_put_2 rfl ?_
  refine j_aload_n (pc := 5) C dX11_put_5 rfl 0 rfl ?_
  refine j_iconst (pc := 6) (v := 0) C dX11_put_6 (by decide) ?_
  refine j_iload_n (pc := 7) C dX11_put_7 rfl 1 rfl ?_
  refine j_iload_n (pc := 8) C dX11_put_8 rfl 2 rfl ?_
  refine j_iload_n (pc := 9) C dX11_put_9 rfl 3 rfl ?_
  refine j_callV (pc := 10) (As := [.int 0, .int p0, .int p1, .int p2]) (rest := []) (wr := []) C (c_X11_whyNotPut l D cyC cyI cyJ cyZ cyO p0 p1 p2 g0 g1 g2 g3 g4 g5 g6 g7 g8 g9 g10 g11 g12 g13 g14 g15 g16 g17 g18 g19 g20 g21 g22 g23 g24 g25) wd_330 wd_313 wd_331 wd_332 wd_333 ⟨by decide, by decide, rfl⟩ rfl ⟨rfl, rfl, by decide, by decide⟩ ⟨by decide, by decide⟩ [0, 1] [] rfl rfl ⟨by decide, by decide, by decide⟩ 0 rfl rfl rfl (Nat.le_of_ble_eq_true rfl) dX11_put_10 (fun u_1 hw_2 => ?_)
  refine j_eq (ws2 := [(g0, .inr (11, [.int 0, .ref g1, .int 0, .int 0, .ref g2, .ref g3, .ref g4, .int 0, .int 0, .ref g5, .ref g6, .ref g7, .ref g8, .int 0, .ref g9, .ref g10, .int 1, .ref g11, .ref g12, .ref g13, .ref g14, .ref g15, .int 0, .int 0, .int 0, .ref g16, .int 0, .ref g17, .ref g18, .ref g19, .ref g20, .ref g21, .ref g22, .int 0, .int 0, .int 0, .ref g23, .ref g24, .int 0, .int 0, .int 0, .int 0, .ref g25])), (g6, .inl (cyI, 240, .inl (fun _ => 0)))]) (pc2 := 13) (lv2 := [(0, .ref g0), (1, .int p0), (2, .int p1), (3, .int p2)]) (st2 := [.int 1]) rfl rfl rfl rfl ?_
  refine j_istore (pc := 13) (lv' := [(4, .int 1), (0, .ref g0), (1, .int p0), (2, .int p1), (3, .int p2)]) C dX11_put_13 (by decide) rfl ?_
  refine j_iload (pc := 15) C dX11_put_15 0 rfl ?_
  refine j_if_ne_t (pc := 17) (tgt := 45) C dX11_put_17 (by decide) (by decide) ?_
  refine j_iload (pc := 45) C dX11_put_45 0 rfl ?_
  exact j_iret (pc := 47) C hr hk (fun i => [].getD i 0, fun _ => 0, fun _ _ => 0) rfl trivial [] (by decide) rfl (by decide) (by decide) dX11_put_47
set_option maxHeartbeats 4000000 in
set_option maxRecDepth 100000 in
theorem c_X11_draw (l : Launch) (D : va_G) (cyC cyI cyJ cyZ cyO : ClassId) (p0 : Int32) (g0 : Nat) (g1 : Nat) (g2 : Nat) (g3 : Nat) (g4 : Nat) (g5 : Nat) (g6 : Nat) (g7 : Nat) (g8 : Nat) (g9 : Nat) (g10 : Nat) (g11 : Nat) (g12 : Nat) (g13 : Nat) (g14 : Nat) (g15 : Nat) (g16 : Nat) (g17 : Nat) (g18 : Nat) (g19 : Nat) (g20 : Nat) (g21 : Nat) (g22 : Nat) (g23 : Nat) (g24 : Nat) (g25 : Nat) : KK l D (TY cyC cyI cyJ cyZ cyO) yX11_draw cX11_draw 3 (some .int) ({ frames := 2, cells := 0, slots := 0, locals := 41 } : Room) 0 0 [.ref g0, .int p0] [(g0, .inr (11, [.int 0, .ref g1, .int 0, .int 0, .ref g2, .ref g3, .ref g4, .int 0, .int 0, .ref g5, .ref g6, .ref g7, .ref g8, .int 0, .ref g9, .ref g10, .int 1, .ref g11, .ref g12, .ref g13, .ref g14, .ref g15, .int 0, .int 0, .int 0, .ref g16, .int 0, .ref g17, .ref g18, .ref g19, .ref g20, .ref g21, .ref g22, .int 0, .int 0, .int 0, .ref g23, .ref g24, .int 0, .int 0, .int 0, .int 0, .ref g25])), (g6, .inl (cyI, 240, .inl (fun _ => 0)))] (fun u => some (.int 1)) (fun u => True) (fun u => []) := by
  refine KK.of (lv0 := [(0, .ref g0), (1, .int p0)]) (by decide) rfl (Nat.le_of_ble_eq_true rfl) ?_
  intro p e s m args below meth c A C hr hk hin
  refine j_aload_n (pc := 0) C dX11_draw_0 rfl 0 rfl ?_
  refine j_iconst (pc := 1) (v := 0) C dX11_draw_1 (by decide) ?_
  refine j_put (pc := 2) (ci := 11) (v := .int 0) (ws' := [(g0, .inr (11, [.int 0, .ref g1, .int 0, .int 0, .ref g2, .ref g3, .ref g4, .int 0, .int 0, .ref g5, .ref g6, .ref g7, .ref g8, .int 0, .ref g9, .ref g10, .int 1, .ref g11, .ref g12, .ref g13, .ref g14, .ref g15, .int 0, .int 0, .int 0, .ref g16, .int 0, .ref g17, .ref g18, .ref g19, .ref g20, .ref g21, .ref g22, .int 0, .int 0, .int 0, .ref g23, .ref g24, .int 0, .int 0, .int 0, .int 0, .ref g25])), (g6, .inl (cyI, 240, .inl (fun _ => 0)))]) C inw_11 0 rfl rfl 0 (by decide) wd_329 rfl tyX11_ok nmX11 rfl (tyX11_ok 0 (by decide)) rfl rfl (Nat.le_of_ble_eq_true rfl) dX11_draw_2 rfl ?_
  refine j_aload_n (pc := 5) C dX11_draw_5 rfl 0 rfl ?_
  refine j_iload_n (pc := 6) C dX11_draw_6 rfl 1 rfl ?_
  refine j_callV (pc := 7) (As := [.int p0]) (rest := []) (wr := []) C (c_X11_isWare l D cyC cyI cyJ cyZ cyO p0 1 g0 g1 g2 g3 g4 g5 g6 g7 g8 g9 g10 g11 g12 g13 g14 g15 g16 g17 g18 g19 g20 g21 g22 g23 g24 g25) wd_325 wd_313 wd_326 wd_327 wd_328 ⟨by decide, by decide, rfl⟩ rfl ⟨rfl, rfl, by decide, by decide⟩ ⟨by decide, by decide⟩ [0, 1] [] rfl rfl ⟨by decide, by decide, by decide⟩ 0 rfl rfl rfl (Nat.le_of_ble_eq_true rfl) dX11_draw_7 (fun u_1 hw_2 => ?_)
  refine j_eq (ws2 := [(g0, .inr (11, [.int 0, .ref g1, .int 0, .int 0, .ref g2, .ref g3, .ref g4, .int 0, .int 0, .ref g5, .ref g6, .ref g7, .ref g8, .int 0, .ref g9, .ref g10, .int 1, .ref g11, .ref g12, .ref g13, .ref g14, .ref g15, .int 0, .int 0, .int 0, .ref g16, .int 0, .ref g17, .ref g18, .ref g19, .ref g20, .ref g21, .ref g22, .int 0, .int 0, .int 0, .ref g23, .ref g24, .int 0, .int 0, .int 0, .int 0, .ref g25])), (g6, .inl (cyI, 240, .inl (fun _ => 0)))]) (pc2 := 10) (lv2 := [(0, .ref g0), (1, .int p0)]) (st2 := [.int 0]) rfl rfl rfl rfl ?_
  refine j_if_ne_f (pc := 10) (tgt := 15) C dX11_draw_10 (by decide) (by decide) ?_
  refine j_iconst (pc := 13) (v := 1) C dX11_draw_13 (by decide) ?_
  exact j_iret (pc := 14) C hr hk (fun i => [].getD i 0, fun _ => 0, fun _ _ => 0) rfl trivial [] (by decide) rfl (by decide) (by decide) dX11_draw_14
set_option maxHeartbeats 4000000 in
set_option maxRecDepth 100000 in
theorem c_X11_carry (l : Launch) (D : va_G) (cyC cyI cyJ cyZ cyO : ClassId) (p0 : Int32) (p1 : Int32) (p2 : Int32) (g0 : Nat) (g1 : Nat) (g2 : Nat) (g3 : Nat) (g4 : Nat) (g5 : Nat) (g6 : Nat) (g7 : Nat) (g8 : Nat) (g9 : Nat) (g10 : Nat) (g11 : Nat) (g12 : Nat) (g13 : Nat) (g14 : Nat) (g15 : Nat) (g16 : Nat) (g17 : Nat) (g18 : Nat) (g19 : Nat) (g20 : Nat) (g21 : Nat) (g22 : Nat) (g23 : Nat) (g24 : Nat) (g25 : Nat) : KK l D (TY cyC cyI cyJ cyZ cyO) yX11_carry cX11_carry 5 (some .int) ({ frames := 3, cells := 0, slots := 0, locals := 64 } : Room) 0 0 [.ref g0, .int p0, .int p1, .int p2] [(g0, .inr (11, [.int 0, .ref g1, .int 0, .int 0, .ref g2, .ref g3, .ref g4, .int 0, .int 0, .ref g5, .ref g6, .ref g7, .ref g8, .int 0, .ref g9, .ref g10, .int 1, .ref g11, .ref g12, .ref g13, .ref g14, .ref g15, .int 0, .int 0, .int 0, .ref g16, .int 0, .ref g17, .ref g18, .ref g19, .ref g20, .ref g21, .ref g22, .int 0, .int 0, .int 0, .ref g23, .ref g24, .int 0, .int 0, .int 0, .int 0, .ref g25])), (g6, .inl (cyI, 240, .inl (fun _ => 0)))] (fun u => some (.int 1)) (fun u => True) (fun u => []) := by
  refine KK.of (lv0 := [(0, .ref g0), (1, .int p0), (2, .int p1), (3, .int p2)]) (by decide) rfl (Nat.le_of_ble_eq_true rfl) ?_
  intro p e s m args below meth c A C hr hk hin
  refine j_aload_n (pc := 0) C dX11_carry_0 rfl 0 rfl ?_
  refine j_iconst (pc := 1) (v := 0) C dX11_carry_1 (by decide) ?_
  refine j_put (pc := 2) (ci := 11) (v := .int 0) (ws' := [(g0, .inr (11, [.int 0, .ref g1, .int 0, .int 0, .ref g2, .ref g3, .ref g4, .int 0, .int 0, .ref g5, .ref g6, .ref g7, .ref g8, .int 0, .ref g9, .ref g10, .int 1, .ref g11, .ref g12, .ref g13, .ref g14, .ref g15, .int 0, .int 0, .int 0, .ref g16, .int 0, .ref g17, .ref g18, .ref g19, .ref g20, .ref g21, .ref g22, .int 0, .int 0, .int 0, .ref g23, .ref g24, .int 0, .int 0, .int 0, .int 0, .ref g25])), (g6, .inl (cyI, 240, .inl (fun _ => 0)))]) C inw_11 0 rfl rfl 0 (by decide) wd_329 rfl tyX11_ok nmX11 rfl (tyX11_ok 0 (by decide)) rfl rfl (Nat.le_of_ble_eq_true rfl) dX11_carry_2 rfl ?_
  refine j_aload_n (pc := 5) C dX11_carry_5 rfl 0 rfl ?_
  refine j_iconst (pc := 6) (v := 0) C dX11_carry_6 (by decide) ?_
  refine j_iload_n (pc := 7) C dX11_carry_7 rfl 1 rfl ?_
  refine j_iload_n (pc := 8) C dX11_carry_8 rfl 2 rfl ?_
  refine j_callV (pc := 9) (As := [.int 0, .int p0, .int p1]) (rest := []) (wr := []) C (c_X11_isStack l D cyC cyI cyJ cyZ cyO 0 p0 p1 1 g0 g1 g2 g3 g4 g5 g6 g7 g8 g9 g10 g11 g12 g13 g14 g15 g16 g17 g18 g19 g20 g21 g22 g23 g24 g25) wd_334 wd_313 wd_335 wd_336 wd_337 ⟨by decide, by decide, rfl⟩ rfl ⟨rfl, rfl, by decide, by decide⟩ ⟨by decide, by decide⟩ [0, 1] [] rfl rfl ⟨by decide, by decide, by decide⟩ 0 rfl rfl rfl (Nat.le_of_ble_eq_true rfl) dX11_carry_9 (fun u_1 hw_2 => ?_)
  refine j_eq (ws2 := [(g0, .inr (11, [.int 0, .ref g1, .int 0, .int 0, .ref g2, .ref g3, .ref g4, .int 0, .int 0, .ref g5, .ref g6, .ref g7, .ref g8, .int 0, .ref g9, .ref g10, .int 1, .ref g11, .ref g12, .ref g13, .ref g14, .ref g15, .int 0, .int 0, .int 0, .ref g16, .int 0, .ref g17, .ref g18, .ref g19, .ref g20, .ref g21, .ref g22, .int 0, .int 0, .int 0, .ref g23, .ref g24, .int 0, .int 0, .int 0, .int 0, .ref g25])), (g6, .inl (cyI, 240, .inl (fun _ => 0)))]) (pc2 := 12) (lv2 := [(0, .ref g0), (1, .int p0), (2, .int p1), (3, .int p2)]) (st2 := [.int 0]) rfl rfl rfl rfl ?_
  refine j_if_eq_t (pc := 12) (tgt := 28) C dX11_carry_12 (by decide) (by decide) ?_
  refine j_iconst (pc := 28) (v := 1) C dX11_carry_28 (by decide) ?_
  exact j_iret (pc := 29) C hr hk (fun i => [].getD i 0, fun _ => 0, fun _ _ => 0) rfl trivial [] (by decide) rfl (by decide) (by decide) dX11_carry_29
set_option maxHeartbeats 4000000 in
set_option maxRecDepth 100000 in
theorem c_X11_shelf (l : Launch) (D : va_G) (cyC cyI cyJ cyZ cyO : ClassId) (p0 : Int32) (p1 : Int32) (g0 : Nat) (g1 : Nat) (g2 : Nat) (g3 : Nat) (g4 : Nat) (g5 : Nat) (g6 : Nat) (g7 : Nat) (g8 : Nat) (g9 : Nat) (g10 : Nat) (g11 : Nat) (g12 : Nat) (g13 : Nat) (g14 : Nat) (g15 : Nat) (g16 : Nat) (g17 : Nat) (g18 : Nat) (g19 : Nat) (g20 : Nat) (g21 : Nat) (g22 : Nat) (g23 : Nat) (g24 : Nat) (g25 : Nat) : KK l D (TY cyC cyI cyJ cyZ cyO) yX11_shelf cX11_shelf 3 (some .int) ({ frames := 2, cells := 0, slots := 0, locals := 41 } : Room) 0 0 [.ref g0, .int p0, .int p1] [(g0, .inr (11, [.int 0, .ref g1, .int 0, .int 0, .ref g2, .ref g3, .ref g4, .int 0, .int 0, .ref g5, .ref g6, .ref g7, .ref g8, .int 0, .ref g9, .ref g10, .int 1, .ref g11, .ref g12, .ref g13, .ref g14, .ref g15, .int 0, .int 0, .int 0, .ref g16, .int 0, .ref g17, .ref g18, .ref g19, .ref g20, .ref g21, .ref g22, .int 0, .int 0, .int 0, .ref g23, .ref g24, .int 0, .int 0, .int 0, .int 0, .ref g25])), (g6, .inl (cyI, 240, .inl (fun _ => 0)))] (fun u => some (.int (-1))) (fun u => True) (fun u => []) := by
  refine KK.of (lv0 := [(0, .ref g0), (1, .int p0), (2, .int p1)]) (by decide) rfl (Nat.le_of_ble_eq_true rfl) ?_
  intro p e s m args below meth c A C hr hk hin
  refine j_aload_n (pc := 0) C dX11_shelf_0 rfl 0 rfl ?_
  refine j_iconst (pc := 1) (v := 0) C dX11_shelf_1 (by decide) ?_
  refine j_put (pc := 2) (ci := 11) (v := .int 0) (ws' := [(g0, .inr (11, [.int 0, .ref g1, .int 0, .int 0, .ref g2, .ref g3, .ref g4, .int 0, .int 0, .ref g5, .ref g6, .ref g7, .ref g8, .int 0, .ref g9, .ref g10, .int 1, .ref g11, .ref g12, .ref g13, .ref g14, .ref g15, .int 0, .int 0, .int 0, .ref g16, .int 0, .ref g17, .ref g18, .ref g19, .ref g20, .ref g21, .ref g22, .int 0, .int 0, .int 0, .ref g23, .ref g24, .int 0, .int 0, .int 0, .int 0, .ref g25])), (g6, .inl (cyI, 240, .inl (fun _ => 0)))]) C inw_11 0 rfl rfl 0 (by decide) wd_329 rfl tyX11_ok nmX11 rfl (tyX11_ok 0 (by decide)) rfl rfl (Nat.le_of_ble_eq_true rfl) dX11_shelf_2 rfl ?_
  refine j_aload_n (pc := 5) C dX11_shelf_5 rfl 0 rfl ?_
  refine j_iload_n (pc := 6) C dX11_shelf_6 rfl 1 rfl ?_
  refine j_callV (pc := 7) (As := [.int p0]) (rest := []) (wr := []) C (c_X11_isShelf l D cyC cyI cyJ cyZ cyO p0 1 g0 g1 g2 g3 g4 g5 g6 g7 g8 g9 g10 g11 g12 g13 g14 g15 g16 g17 g18 g19 g20 g21 g22 g23 g24 g25) wd_321 wd_313 wd_322 wd_323 wd_324 ⟨by decide, by decide, rfl⟩ rfl ⟨rfl, rfl, by decide, by decide⟩ ⟨by decide, by decide⟩ [0, 1] [] rfl rfl ⟨by decide, by decide, by decide⟩ 0 rfl rfl rfl (Nat.le_of_ble_eq_true rfl) dX11_shelf_7 (fun u_1 hw_2 => ?_)
  refine j_eq (ws2 := [(g0, .inr (11, [.int 0, .ref g1, .int 0, .int 0, .ref g2, .ref g3, .ref g4, .int 0, .int 0, .ref g5, .ref g6, .ref g7, .ref g8, .int 0, .ref g9, .ref g10, .int 1, .ref g11, .ref g12, .ref g13, .ref g14, .ref g15, .int 0, .int 0, .int 0, .ref g16, .int 0, .ref g17, .ref g18, .ref g19, .ref g20, .ref g21, .ref g22, .int 0, .int 0, .int 0, .ref g23, .ref g24, .int 0, .int 0, .int 0, .int 0, .ref g25])), (g6, .inl (cyI, 240, .inl (fun _ => 0)))]) (pc2 := 10) (lv2 := [(0, .ref g0), (1, .int p0), (2, .int p1)]) (st2 := [.int 0]) rfl rfl rfl rfl ?_
  refine j_if_eq_t (pc := 10) (tgt := 22) C dX11_shelf_10 (by decide) (by decide) ?_
  refine j_iconst (pc := 22) (v := (-1)) C dX11_shelf_22 (by decide) ?_
  exact j_iret (pc := 23) C hr hk (fun i => [].getD i 0, fun _ => 0, fun _ _ => 0) rfl trivial [] (by decide) rfl (by decide) (by decide) dX11_shelf_23
set_option maxHeartbeats 4000000 in
set_option maxRecDepth 100000 in
theorem c_X11_where (l : Launch) (D : va_G) (cyC cyI cyJ cyZ cyO : ClassId) (p0 : Int32) (p1 : Int32) (g0 : Nat) (g1 : Nat) (g2 : Nat) (g3 : Nat) (g4 : Nat) (g5 : Nat) (g6 : Nat) (g7 : Nat) (g8 : Nat) (g9 : Nat) (g10 : Nat) (g11 : Nat) (g12 : Nat) (g13 : Nat) (g14 : Nat) (g15 : Nat) (g16 : Nat) (g17 : Nat) (g18 : Nat) (g19 : Nat) (g20 : Nat) (g21 : Nat) (g22 : Nat) (g23 : Nat) (g24 : Nat) (g25 : Nat) : KK l D (TY cyC cyI cyJ cyZ cyO) yX11_where cX11_where 3 (some .int) ({ frames := 2, cells := 0, slots := 0, locals := 41 } : Room) 0 0 [.ref g0, .int p0, .int p1] [(g0, .inr (11, [.int 0, .ref g1, .int 0, .int 0, .ref g2, .ref g3, .ref g4, .int 0, .int 0, .ref g5, .ref g6, .ref g7, .ref g8, .int 0, .ref g9, .ref g10, .int 1, .ref g11, .ref g12, .ref g13, .ref g14, .ref g15, .int 0, .int 0, .int 0, .ref g16, .int 0, .ref g17, .ref g18, .ref g19, .ref g20, .ref g21, .ref g22, .int 0, .int 0, .int 0, .ref g23, .ref g24, .int 0, .int 0, .int 0, .int 0, .ref g25])), (g6, .inl (cyI, 240, .inl (fun _ => 0)))] (fun u => some (.int (-1))) (fun u => True) (fun u => []) := by
  refine KK.of (lv0 := [(0, .ref g0), (1, .int p0), (2, .int p1)]) (by decide) rfl (Nat.le_of_ble_eq_true rfl) ?_
  intro p e s m args below meth c A C hr hk hin
  refine j_aload_n (pc := 0) C dX11_where_0 rfl 0 rfl ?_
  refine j_iconst (pc := 1) (v := 0) C dX11_where_1 (by decide) ?_
  refine j_put (pc := 2) (ci := 11) (v := .int 0) (ws' := [(g0, .inr (11, [.int 0, .ref g1, .int 0, .int 0, .ref g2, .ref g3, .ref g4, .int 0, .int 0, .ref g5, .ref g6, .ref g7, .ref g8, .int 0, .ref g9, .ref g10, .int 1, .ref g11, .ref g12, .ref g13, .ref g14, .ref g15, .int 0, .int 0, .int 0, .ref g16, .int 0, .ref g17, .ref g18, .ref g19, .ref g20, .ref g21, .ref g22, .int 0, .int 0, .int 0, .ref g23, .ref g24, .int 0, .int 0, .int 0, .int 0, .ref g25])), (g6, .inl (cyI, 240, .inl (fun _ => 0)))]) C inw_11 0 rfl rfl 0 (by decide) wd_329 rfl tyX11_ok nmX11 rfl (tyX11_ok 0 (by decide)) rfl rfl (Nat.le_of_ble_eq_true rfl) dX11_where_2 rfl ?_
  refine j_aload_n (pc := 5) C dX11_where_5 rfl 0 rfl ?_
  refine j_iload_n (pc := 6) C dX11_where_6 rfl 1 rfl ?_
  refine j_callV (pc := 7) (As := [.int p0]) (rest := []) (wr := []) C (c_X11_isWare l D cyC cyI cyJ cyZ cyO p0 1 g0 g1 g2 g3 g4 g5 g6 g7 g8 g9 g10 g11 g12 g13 g14 g15 g16 g17 g18 g19 g20 g21 g22 g23 g24 g25) wd_325 wd_313 wd_326 wd_327 wd_328 ⟨by decide, by decide, rfl⟩ rfl ⟨rfl, rfl, by decide, by decide⟩ ⟨by decide, by decide⟩ [0, 1] [] rfl rfl ⟨by decide, by decide, by decide⟩ 0 rfl rfl rfl (Nat.le_of_ble_eq_true rfl) dX11_where_7 (fun u_1 hw_2 => ?_)
  refine j_eq (ws2 := [(g0, .inr (11, [.int 0, .ref g1, .int 0, .int 0, .ref g2, .ref g3, .ref g4, .int 0, .int 0, .ref g5, .ref g6, .ref g7, .ref g8, .int 0, .ref g9, .ref g10, .int 1, .ref g11, .ref g12, .ref g13, .ref g14, .ref g15, .int 0, .int 0, .int 0, .ref g16, .int 0, .ref g17, .ref g18, .ref g19, .ref g20, .ref g21, .ref g22, .int 0, .int 0, .int 0, .ref g23, .ref g24, .int 0, .int 0, .int 0, .int 0, .ref g25])), (g6, .inl (cyI, 240, .inl (fun _ => 0)))]) (pc2 := 10) (lv2 := [(0, .ref g0), (1, .int p0), (2, .int p1)]) (st2 := [.int 0]) rfl rfl rfl rfl ?_
  refine j_if_eq_t (pc := 10) (tgt := 31) C dX11_where_10 (by decide) (by decide) ?_
  refine j_iconst (pc := 31) (v := (-1)) C dX11_where_31 (by decide) ?_
  exact j_iret (pc := 32) C hr hk (fun i => [].getD i 0, fun _ => 0, fun _ _ => 0) rfl trivial [] (by decide) rfl (by decide) (by decide) dX11_where_32
set_option maxHeartbeats 4000000 in
set_option maxRecDepth 100000 in
theorem c_X11_at (l : Launch) (D : va_G) (cyC cyI cyJ cyZ cyO : ClassId) (p0 : Int32) (p1 : Int32) (p2 : Int32) (g0 : Nat) (g1 : Nat) (g2 : Nat) (g3 : Nat) (g4 : Nat) (g5 : Nat) (g6 : Nat) (g7 : Nat) (g8 : Nat) (g9 : Nat) (g10 : Nat) (g11 : Nat) (g12 : Nat) (g13 : Nat) (g14 : Nat) (g15 : Nat) (g16 : Nat) (g17 : Nat) (g18 : Nat) (g19 : Nat) (g20 : Nat) (g21 : Nat) (g22 : Nat) (g23 : Nat) (g24 : Nat) (g25 : Nat) : KK l D (TY cyC cyI cyJ cyZ cyO) yX11_at cX11_at 4 (some .int) ({ frames := 3, cells := 0, slots := 0, locals := 64 } : Room) 0 0 [.ref g0, .int p0, .int p1, .int p2] [(g0, .inr (11, [.int 0, .ref g1, .int 0, .int 0, .ref g2, .ref g3, .ref g4, .int 0, .int 0, .ref g5, .ref g6, .ref g7, .ref g8, .int 0, .ref g9, .ref g10, .int 1, .ref g11, .ref g12, .ref g13, .ref g14, .ref g15, .int 0, .int 0, .int 0, .ref g16, .int 0, .ref g17, .ref g18, .ref g19, .ref g20, .ref g21, .ref g22, .int 0, .int 0, .int 0, .ref g23, .ref g24, .int 0, .int 0, .int 0, .int 0, .ref g25])), (g6, .inl (cyI, 240, .inl (fun _ => 0)))] (fun u => some (.int (-1))) (fun u => True) (fun u => []) := by
  refine KK.of (lv0 := [(0, .ref g0), (1, .int p0), (2, .int p1), (3, .int p2)]) (by decide) rfl (Nat.le_of_ble_eq_true rfl) ?_
  intro p e s m args below meth c A C hr hk hin
  refine j_aload_n (pc := 0) C dX11_at_0 rfl 0 rfl ?_
  refine j_iconst (pc := 1) (v := 0) C dX11_at_1 (by decide) ?_
  refine j_put (pc := 2) (ci := 11) (v := .int 0) (ws' := [(g0, .inr (11, [.int 0, .ref g1, .int 0, .int 0, .ref g2, .ref g3, .ref g4, .int 0, .int 0, .ref g5, .ref g6, .ref g7, .ref g8, .int 0, .ref g9, .ref g10, .int 1, .ref g11, .ref g12, .ref g13, .ref g14, .ref g15, .int 0, .int 0, .int 0, .ref g16, .int 0, .ref g17, .ref g18, .ref g19, .ref g20, .ref g21, .ref g22, .int 0, .int 0, .int 0, .ref g23, .ref g24, .int 0, .int 0, .int 0, .int 0, .ref g25])), (g6, .inl (cyI, 240, .inl (fun _ => 0)))]) C inw_11 0 rfl rfl 0 (by decide) wd_329 rfl tyX11_ok nmX11 rfl (tyX11_ok 0 (by decide)) rfl rfl (Nat.le_of_ble_eq_true rfl) dX11_at_2 rfl ?_
  refine j_aload_n (pc := 5) C dX11_at_5 rfl 0 rfl ?_
  refine j_iconst (pc := 6) (v := 0) C dX11_at_6 (by decide) ?_
  refine j_iload_n (pc := 7) C dX11_at_7 rfl 1 rfl ?_
  refine j_iload_n (pc := 8) C dX11_at_8 rfl 2 rfl ?_
  refine j_callV (pc := 9) (As := [.int 0, .int p0, .int p1]) (rest := []) (wr := []) C (c_X11_isStack l D cyC cyI cyJ cyZ cyO 0 p0 p1 1 g0 g1 g2 g3 g4 g5 g6 g7 g8 g9 g10 g11 g12 g13 g14 g15 g16 g17 g18 g19 g20 g21 g22 g23 g24 g25) wd_334 wd_313 wd_335 wd_336 wd_337 ⟨by decide, by decide, rfl⟩ rfl ⟨rfl, rfl, by decide, by decide⟩ ⟨by decide, by decide⟩ [0, 1] [] rfl rfl ⟨by decide, by decide, by decide⟩ 0 rfl rfl rfl (Nat.le_of_ble_eq_true rfl) dX11_at_9 (fun u_1 hw_2 => ?_)
  refine j_eq (ws2 := [(g0, .inr (11, [.int 0, .ref g1, .int 0, .int 0, .ref g2, .ref g3, .ref g4, .int 0, .int 0, .ref g5, .ref g6, .ref g7, .ref g8, .int 0, .ref g9, .ref g10, .int 1, .ref g11, .ref g12, .ref g13, .ref g14, .ref g15, .int 0, .int 0, .int 0, .ref g16, .int 0, .ref g17, .ref g18, .ref g19, .ref g20, .ref g21, .ref g22, .int 0, .int 0, .int 0, .ref g23, .ref g24, .int 0, .int 0, .int 0, .int 0, .ref g25])), (g6, .inl (cyI, 240, .inl (fun _ => 0)))]) (pc2 := 12) (lv2 := [(0, .ref g0), (1, .int p0), (2, .int p1), (3, .int p2)]) (st2 := [.int 0]) rfl rfl rfl rfl ?_
  refine j_if_eq_t (pc := 12) (tgt := 52) C dX11_at_12 (by decide) (by decide) ?_
  refine j_iconst (pc := 52) (v := (-1)) C dX11_at_52 (by decide) ?_
  exact j_iret (pc := 53) C hr hk (fun i => [].getD i 0, fun _ => 0, fun _ _ => 0) rfl trivial [] (by decide) rfl (by decide) (by decide) dX11_at_53
set_option maxHeartbeats 4000000 in
set_option maxRecDepth 100000 in
theorem c_X11_stack (l : Launch) (D : va_G) (cyC cyI cyJ cyZ cyO : ClassId) (p0 : Int32) (p1 : Int32) (p2 : Int32) (g0 : Nat) (g1 : Nat) (g2 : Nat) (g3 : Nat) (g4 : Nat) (g5 : Nat) (g6 : Nat) (g7 : Nat) (g8 : Nat) (g9 : Nat) (g10 : Nat) (g11 : Nat) (g12 : Nat) (g13 : Nat) (g14 : Nat) (g15 : Nat) (g16 : Nat) (g17 : Nat) (g18 : Nat) (g19 : Nat) (g20 : Nat) (g21 : Nat) (g22 : Nat) (g23 : Nat) (g24 : Nat) (g25 : Nat) : KK l D (TY cyC cyI cyJ cyZ cyO) yX11_stack cX11_stack 6 (some .int) ({ frames := 3, cells := 0, slots := 0, locals := 64 } : Room) 0 0 [.ref g0, .int p0, .int p1, .int p2] [(g0, .inr (11, [.int 0, .ref g1, .int 0, .int 0, .ref g2, .ref g3, .ref g4, .int 0, .int 0, .ref g5, .ref g6, .ref g7, .ref g8, .int 0, .ref g9, .ref g10, .int 1, .ref g11, .ref g12, .ref g13, .ref g14, .ref g15, .int 0, .int 0, .int 0, .ref g16, .int 0, .ref g17, .ref g18, .ref g19, .ref g20, .ref g21, .ref g22, .int 0, .int 0, .int 0, .ref g23, .ref g24, .int 0, .int 0, .int 0, .int 0, .ref g25])), (g6, .inl (cyI, 240, .inl (fun _ => 0)))] (fun u => some (.int (-1))) (fun u => True) (fun u => []) := by
  refine KK.of (lv0 := [(0, .ref g0), (1, .int p0), (2, .int p1), (3, .int p2)]) (by decide) rfl (Nat.le_of_ble_eq_true rfl) ?_
  intro p e s m args below meth c A C hr hk hin
  refine j_aload_n (pc := 0) C dX11_stack_0 rfl 0 rfl ?_
  refine j_iconst (pc := 1) (v := 0) C dX11_stack_1 (by decide) ?_
  refine j_put (pc := 2) (ci := 11) (v := .int 0) (ws' := [(g0, .inr (11, [.int 0, .ref g1, .int 0, .int 0, .ref g2, .ref g3, .ref g4, .int 0, .int 0, .ref g5, .ref g6, .ref g7, .ref g8, .int 0, .ref g9, .ref g10, .int 1, .ref g11, .ref g12, .ref g13, .ref g14, .ref g15, .int 0, .int 0, .int 0, .ref g16, .int 0, .ref g17, .ref g18, .ref g19, .ref g20, .ref g21, .ref g22, .int 0, .int 0, .int 0, .ref g23, .ref g24, .int 0, .int 0, .int 0, .int 0, .ref g25])), (g6, .inl (cyI, 240, .inl (fun _ => 0)))]) C inw_11 0 rfl rfl 0 (by decide) wd_329 rfl tyX11_ok nmX11 rfl (tyX11_ok 0 (by decide)) rfl rfl (Nat.le_of_ble_eq_true rfl) dX11_stack_2 rfl ?_
  refine j_aload_n (pc := 5) C dX11_stack_5 rfl 0 rfl ?_
  refine j_iconst (pc := 6) (v := 0) C dX11_stack_6 (by decide) ?_
  refine j_iload_n (pc := 7) C dX11_stack_7 rfl 1 rfl ?_
  refine j_iload_n (pc := 8) C dX11_stack_8 rfl 2 rfl ?_
  refine j_callV (pc := 9) (As := [.int 0, .int p0, .int p1]) (rest := []) (wr := []) C (c_X11_isStack l D cyC cyI cyJ cyZ cyO 0 p0 p1 1 g0 g1 g2 g3 g4 g5 g6 g7 g8 g9 g10 g11 g12 g13 g14 g15 g16 g17 g18 g19 g20 g21 g22 g23 g24 g25) wd_334 wd_313 wd_335 wd_336 wd_337 ⟨by decide, by decide, rfl⟩ rfl ⟨rfl, rfl, by decide, by decide⟩ ⟨by decide, by decide⟩ [0, 1] [] rfl rfl ⟨by decide, by decide, by decide⟩ 0 rfl rfl rfl (Nat.le_of_ble_eq_true rfl) dX11_stack_9 (fun u_1 hw_2 => ?_)
  refine j_eq (ws2 := [(g0, .inr (11, [.int 0, .ref g1, .int 0, .int 0, .ref g2, .ref g3, .ref g4, .int 0, .int 0, .ref g5, .ref g6, .ref g7, .ref g8, .int 0, .ref g9, .ref g10, .int 1, .ref g11, .ref g12, .ref g13, .ref g14, .ref g15, .int 0, .int 0, .int 0, .ref g16, .int 0, .ref g17, .ref g18, .ref g19, .ref g20, .ref g21, .ref g22, .int 0, .int 0, .int 0, .ref g23, .ref g24, .int 0, .int 0, .int 0, .int 0, .ref g25])), (g6, .inl (cyI, 240, .inl (fun _ => 0)))]) (pc2 := 12) (lv2 := [(0, .ref g0), (1, .int p0), (2, .int p1), (3, .int p2)]) (st2 := [.int 0]) rfl rfl rfl rfl ?_
  refine j_if_eq_t (pc := 12) (tgt := 24) C dX11_stack_12 (by decide) (by decide) ?_
  refine j_iconst (pc := 24) (v := (-1)) C dX11_stack_24 (by decide) ?_
  exact j_iret (pc := 25) C hr hk (fun i => [].getD i 0, fun _ => 0, fun _ _ => 0) rfl trivial [] (by decide) rfl (by decide) (by decide) dX11_stack_25
set_option maxHeartbeats 4000000 in
set_option maxRecDepth 100000 in
theorem c_X11_lift (l : Launch) (D : va_G) (cyC cyI cyJ cyZ cyO : ClassId) (p0 : Int32) (g0 : Nat) (g1 : Nat) (g2 : Nat) (g3 : Nat) (g4 : Nat) (g5 : Nat) (g6 : Nat) (g7 : Nat) (g8 : Nat) (g9 : Nat) (g10 : Nat) (g11 : Nat) (g12 : Nat) (g13 : Nat) (g14 : Nat) (g15 : Nat) (g16 : Nat) (g17 : Nat) (g18 : Nat) (g19 : Nat) (g20 : Nat) (g21 : Nat) (g22 : Nat) (g23 : Nat) (g24 : Nat) (g25 : Nat) : KK l D (TY cyC cyI cyJ cyZ cyO) yX11_lift cX11_lift 2 (some .int) ({ frames := 2, cells := 0, slots := 0, locals := 41 } : Room) 0 0 [.ref g0, .int p0] [(g0, .inr (11, [.int 0, .ref g1, .int 0, .int 0, .ref g2, .ref g3, .ref g4, .int 0, .int 0, .ref g5, .ref g6, .ref g7, .ref g8, .int 0, .ref g9, .ref g10, .int 1, .ref g11, .ref g12, .ref g13, .ref g14, .ref g15, .int 0, .int 0, .int 0, .ref g16, .int 0, .ref g17, .ref g18, .ref g19, .ref g20, .ref g21, .ref g22, .int 0, .int 0, .int 0, .ref g23, .ref g24, .int 0, .int 0, .int 0, .int 0, .ref g25])), (g6, .inl (cyI, 240, .inl (fun _ => 0)))] (fun u => some (.int (-1))) (fun u => True) (fun u => []) := by
  refine KK.of (lv0 := [(0, .ref g0), (1, .int p0)]) (by decide) rfl (Nat.le_of_ble_eq_true rfl) ?_
  intro p e s m args below meth c A C hr hk hin
  refine j_aload_n (pc := 0) C dX11_lift_0 rfl 0 rfl ?_
  refine j_iconst (pc := 1) (v := 0) C dX11_lift_1 (by decide) ?_
  refine j_put (pc := 2) (ci := 11) (v := .int 0) (ws' := [(g0, .inr (11, [.int 0, .ref g1, .int 0, .int 0, .ref g2, .ref g3, .ref g4, .int 0, .int 0, .ref g5, .ref g6, .ref g7, .ref g8, .int 0, .ref g9, .ref g10, .int 1, .ref g11, .ref g12, .ref g13, .ref g14, .ref g15, .int 0, .int 0, .int 0, .ref g16, .int 0, .ref g17, .ref g18, .ref g19, .ref g20, .ref g21, .ref g22, .int 0, .int 0, .int 0, .ref g23, .ref g24, .int 0, .int 0, .int 0, .int 0, .ref g25])), (g6, .inl (cyI, 240, .inl (fun _ => 0)))]) C inw_11 0 rfl rfl 0 (by decide) wd_329 rfl tyX11_ok nmX11 rfl (tyX11_ok 0 (by decide)) rfl rfl (Nat.le_of_ble_eq_true rfl) dX11_lift_2 rfl ?_
  refine j_aload_n (pc := 5) C dX11_lift_5 rfl 0 rfl ?_
  refine j_iload_n (pc := 6) C dX11_lift_6 rfl 1 rfl ?_
  refine j_callV (pc := 7) (As := [.int p0]) (rest := []) (wr := []) C (c_X11_isWare l D cyC cyI cyJ cyZ cyO p0 1 g0 g1 g2 g3 g4 g5 g6 g7 g8 g9 g10 g11 g12 g13 g14 g15 g16 g17 g18 g19 g20 g21 g22 g23 g24 g25) wd_325 wd_313 wd_326 wd_327 wd_328 ⟨by decide, by decide, rfl⟩ rfl ⟨rfl, rfl, by decide, by decide⟩ ⟨by decide, by decide⟩ [0, 1] [] rfl rfl ⟨by decide, by decide, by decide⟩ 0 rfl rfl rfl (Nat.le_of_ble_eq_true rfl) dX11_lift_7 (fun u_1 hw_2 => ?_)
  refine j_eq (ws2 := [(g0, .inr (11, [.int 0, .ref g1, .int 0, .int 0, .ref g2, .ref g3, .ref g4, .int 0, .int 0, .ref g5, .ref g6, .ref g7, .ref g8, .int 0, .ref g9, .ref g10, .int 1, .ref g11, .ref g12, .ref g13, .ref g14, .ref g15, .int 0, .int 0, .int 0, .ref g16, .int 0, .ref g17, .ref g18, .ref g19, .ref g20, .ref g21, .ref g22, .int 0, .int 0, .int 0, .ref g23, .ref g24, .int 0, .int 0, .int 0, .int 0, .ref g25])), (g6, .inl (cyI, 240, .inl (fun _ => 0)))]) (pc2 := 10) (lv2 := [(0, .ref g0), (1, .int p0)]) (st2 := [.int 0]) rfl rfl rfl rfl ?_
  refine j_if_eq_t (pc := 10) (tgt := 30) C dX11_lift_10 (by decide) (by decide) ?_
  refine j_iconst (pc := 30) (v := (-1)) C dX11_lift_30 (by decide) ?_
  exact j_iret (pc := 31) C hr hk (fun i => [].getD i 0, fun _ => 0, fun _ _ => 0) rfl trivial [] (by decide) rfl (by decide) (by decide) dX11_lift_31
set_option maxHeartbeats 4000000 in
set_option maxRecDepth 100000 in
theorem c_X11_cost (l : Launch) (D : va_G) (cyC cyI cyJ cyZ cyO : ClassId) (g0 : Nat) (g1 : Nat) (g2 : Nat) (g3 : Nat) (g4 : Nat) (g5 : Nat) (g6 : Nat) (g7 : Nat) (g8 : Nat) (g9 : Nat) (g10 : Nat) (g11 : Nat) (g12 : Nat) (g13 : Nat) (g14 : Nat) (g15 : Nat) (g16 : Nat) (g17 : Nat) (g18 : Nat) (g19 : Nat) (g20 : Nat) (g21 : Nat) (g22 : Nat) (g23 : Nat) (g24 : Nat) (g25 : Nat) : KK l D (TY cyC cyI cyJ cyZ cyO) yX11_cost cX11_cost 1 (some .int) ({ frames := 0, cells := 0, slots := 0, locals := 0 } : Room) 0 0 [.ref g0] [(g0, .inr (11, [.int 0, .ref g1, .int 0, .int 0, .ref g2, .ref g3, .ref g4, .int 0, .int 0, .ref g5, .ref g6, .ref g7, .ref g8, .int 0, .ref g9, .ref g10, .int 1, .ref g11, .ref g12, .ref g13, .ref g14, .ref g15, .int 0, .int 0, .int 0, .ref g16, .int 0, .ref g17, .ref g18, .ref g19, .ref g20, .ref g21, .ref g22, .int 0, .int 0, .int 0, .ref g23, .ref g24, .int 0, .int 0, .int 0, .int 0, .ref g25])), (g14, .inl (cyI, 2760, .inl (fun _ => 0)))] (fun u => some (.int 0)) (fun u => True) (fun u => []) := by
  refine KK.of (lv0 := [(0, .ref g0)]) (by decide) rfl (Nat.le_of_ble_eq_true rfl) ?_
  intro p e s m args below meth c A C hr hk hin
  refine j_aload_n (pc := 0) C dX11_cost_0 rfl 0 rfl ?_
  refine j_iconst (pc := 1) (v := 0) C dX11_cost_1 (by decide) ?_
  refine j_put (pc := 2) (ci := 11) (v := .int 0) (ws' := [(g0, .inr (11, [.int 0, .ref g1, .int 0, .int 0, .ref g2, .ref g3, .ref g4, .int 0, .int 0, .ref g5, .ref g6, .ref g7, .ref g8, .int 0, .ref g9, .ref g10, .int 1, .ref g11, .ref g12, .ref g13, .ref g14, .ref g15, .int 0, .int 0, .int 0, .ref g16, .int 0, .ref g17, .ref g18, .ref g19, .ref g20, .ref g21, .ref g22, .int 0, .int 0, .int 0, .ref g23, .ref g24, .int 0, .int 0, .int 0, .int 0, .ref g25])), (g14, .inl (cyI, 2760, .inl (fun _ => 0)))]) C inw_11 0 rfl rfl 0 (by decide) wd_329 rfl tyX11_ok nmX11 rfl (tyX11_ok 0 (by decide)) rfl rfl (Nat.le_of_ble_eq_true rfl) dX11_cost_2 rfl ?_
  refine j_aload_n (pc := 5) C dX11_cost_5 rfl 0 rfl ?_
  refine j_get (pc := 6) (ci := 11) (v := .ref g14) C inw_11 0 rfl rfl 20 (by decide) wd_155 rfl rfl dX11_cost_6 ?_
  refine j_sipush (pc := 9) (v := 420) C dX11_cost_9 (by decide) ?_
  refine j_iald (pc := 12) (v := 0) (k := 420) C 1 1 rfl rfl (by decide) (by decide) (by decide) rfl dX11_cost_12 ?_
  exact j_iret (pc := 13) C hr hk (fun i => [].getD i 0, fun _ => 0, fun _ _ => 0) rfl trivial [] (by decide) rfl (by decide) (by decide) dX11_cost_13
set_option maxHeartbeats 4000000 in
set_option maxRecDepth 100000 in
theorem c_X11_through (l : Launch) (D : va_G) (cyC cyI cyJ cyZ cyO : ClassId) (p0 : Int32) (p1 : Int32) (g0 : Nat) (g1 : Nat) (g2 : Nat) (g3 : Nat) (g4 : Nat) (g5 : Nat) (g6 : Nat) (g7 : Nat) (g8 : Nat) (g9 : Nat) (g10 : Nat) (g11 : Nat) (g12 : Nat) (g13 : Nat) (g14 : Nat) (g15 : Nat) (g16 : Nat) (g17 : Nat) (g18 : Nat) (g19 : Nat) (g20 : Nat) (g21 : Nat) (g22 : Nat) (g23 : Nat) (g24 : Nat) (g25 : Nat) : KK l D (TY cyC cyI cyJ cyZ cyO) yX11_through cX11_through 3 (some .int) ({ frames := 2, cells := 0, slots := 0, locals := 41 } : Room) 0 0 [.ref g0, .int p0, .int p1] [(g0, .inr (11, [.int 0, .ref g1, .int 0, .int 0, .ref g2, .ref g3, .ref g4, .int 0, .int 0, .ref g5, .ref g6, .ref g7, .ref g8, .int 0, .ref g9, .ref g10, .int 1, .ref g11, .ref g12, .ref g13, .ref g14, .ref g15, .int 0, .int 0, .int 0, .ref g16, .int 0, .ref g17, .ref g18, .ref g19, .ref g20, .ref g21, .ref g22, .int 0, .int 0, .int 0, .ref g23, .ref g24, .int 0, .int 0, .int 0, .int 0, .ref g25])), (g6, .inl (cyI, 240, .inl (fun _ => 0)))] (fun u => some (.int (-1))) (fun u => True) (fun u => []) := by
  refine KK.of (lv0 := [(0, .ref g0), (1, .int p0), (2, .int p1)]) (by decide) rfl (Nat.le_of_ble_eq_true rfl) ?_
  intro p e s m args below meth c A C hr hk hin
  refine j_aload_n (pc := 0) C dX11_through_0 rfl 0 rfl ?_
  refine j_iconst (pc := 1) (v := 0) C dX11_through_1 (by decide) ?_
  refine j_put (pc := 2) (ci := 11) (v := .int 0) (ws' := [(g0, .inr (11, [.int 0, .ref g1, .int 0, .int 0, .ref g2, .ref g3, .ref g4, .int 0, .int 0, .ref g5, .ref g6, .ref g7, .ref g8, .int 0, .ref g9, .ref g10, .int 1, .ref g11, .ref g12, .ref g13, .ref g14, .ref g15, .int 0, .int 0, .int 0, .ref g16, .int 0, .ref g17, .ref g18, .ref g19, .ref g20, .ref g21, .ref g22, .int 0, .int 0, .int 0, .ref g23, .ref g24, .int 0, .int 0, .int 0, .int 0, .ref g25])), (g6, .inl (cyI, 240, .inl (fun _ => 0)))]) C inw_11 0 rfl rfl 0 (by decide) wd_329 rfl tyX11_ok nmX11 rfl (tyX11_ok 0 (by decide)) rfl rfl (Nat.le_of_ble_eq_true rfl) dX11_through_2 rfl ?_
  refine j_aload_n (pc := 5) C dX11_through_5 rfl 0 rfl ?_
  refine j_iload_n (pc := 6) C dX11_through_6 rfl 1 rfl ?_
  refine j_callV (pc := 7) (As := [.int p0]) (rest := []) (wr := []) C (c_X11_isWare l D cyC cyI cyJ cyZ cyO p0 1 g0 g1 g2 g3 g4 g5 g6 g7 g8 g9 g10 g11 g12 g13 g14 g15 g16 g17 g18 g19 g20 g21 g22 g23 g24 g25) wd_325 wd_313 wd_326 wd_327 wd_328 ⟨by decide, by decide, rfl⟩ rfl ⟨rfl, rfl, by decide, by decide⟩ ⟨by decide, by decide⟩ [0, 1] [] rfl rfl ⟨by decide, by decide, by decide⟩ 0 rfl rfl rfl (Nat.le_of_ble_eq_true rfl) dX11_through_7 (fun u_1 hw_2 => ?_)
  refine j_eq (ws2 := [(g0, .inr (11, [.int 0, .ref g1, .int 0, .int 0, .ref g2, .ref g3, .ref g4, .int 0, .int 0, .ref g5, .ref g6, .ref g7, .ref g8, .int 0, .ref g9, .ref g10, .int 1, .ref g11, .ref g12, .ref g13, .ref g14, .ref g15, .int 0, .int 0, .int 0, .ref g16, .int 0, .ref g17, .ref g18, .ref g19, .ref g20, .ref g21, .ref g22, .int 0, .int 0, .int 0, .ref g23, .ref g24, .int 0, .int 0, .int 0, .int 0, .ref g25])), (g6, .inl (cyI, 240, .inl (fun _ => 0)))]) (pc2 := 10) (lv2 := [(0, .ref g0), (1, .int p0), (2, .int p1)]) (st2 := [.int 0]) rfl rfl rfl rfl ?_
  refine j_if_eq_t (pc := 10) (tgt := 21) C dX11_through_10 (by decide) (by decide) ?_
  refine j_iconst (pc := 21) (v := (-1)) C dX11_through_21 (by decide) ?_
  exact j_iret (pc := 22) C hr hk (fun i => [].getD i 0, fun _ => 0, fun _ _ => 0) rfl trivial [] (by decide) rfl (by decide) (by decide) dX11_through_22
