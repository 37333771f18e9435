theorem wd_814 : Cond.code yX11_isWare cX11_isWare 2 (some .boolean) ∈ WALL := wl_in (by decide +kernel) (by decide +kernel)
theorem wd_815 : Cond.methodLink RX11 277 yX11_isWare ∈ WALL := wl_in (by decide +kernel) (by decide +kernel)
theorem wd_816 : Cond.instanceMethod yX11_isWare ∈ WALL := wl_in (by decide +kernel) (by decide +kernel)
theorem wd_817 : Cond.selects RX11 yX11_isWare yX11_isWare ∈ WALL := wl_in (by decide +kernel) (by decide +kernel)
theorem wd_818 : Cond.code yX11_within cX11_within 3 (some .boolean) ∈ WALL := wl_in (by decide +kernel) (by decide +kernel)
theorem wd_819 : Cond.methodLink RX11 280 yX11_within ∈ WALL := wl_in (by decide +kernel) (by decide +kernel)
theorem wd_820 : Cond.static yX11_within ∈ WALL := wl_in (by decide +kernel) (by decide +kernel)
theorem wd_821 : Cond.code yX11_isStack cX11_isStack 4 (some .boolean) ∈ WALL := wl_in (by decide +kernel) (by decide +kernel)
theorem wd_822 : Cond.methodLink RX11 318 yX11_isStack ∈ WALL := wl_in (by decide +kernel) (by decide +kernel)
theorem wd_823 : Cond.instanceMethod yX11_isStack ∈ WALL := wl_in (by decide +kernel) (by decide +kernel)
theorem wd_824 : Cond.selects RX11 yX11_isStack yX11_isStack ∈ WALL := wl_in (by decide +kernel) (by decide +kernel)
theorem wd_825 : Cond.code yX11_isIn cX11_isIn 7 (some .boolean) ∈ WALL := wl_in (by decide +kernel) (by decide +kernel)
theorem wd_826 : Cond.methodLink RX11 321 yX11_isIn ∈ WALL := wl_in (by decide +kernel) (by decide +kernel)
theorem wd_827 : Cond.instanceMethod yX11_isIn ∈ WALL := wl_in (by decide +kernel) (by decide +kernel)
theorem wd_828 : Cond.selects RX11 yX11_isIn yX11_isIn ∈ WALL := wl_in (by decide +kernel) (by decide +kernel)
theorem wd_829 : Cond.code yX11_liftCost cX11_liftCost 5 (some .int) ∈ WALL := wl_in (by decide +kernel) (by decide +kernel)
theorem wd_830 : Cond.methodLink RX11 347 yX11_liftCost ∈ WALL := wl_in (by decide +kernel) (by decide +kernel)
theorem wd_831 : Cond.instanceMethod yX11_liftCost ∈ WALL := wl_in (by decide +kernel) (by decide +kernel)
theorem wd_832 : Cond.selects RX11 yX11_liftCost yX11_liftCost ∈ WALL := wl_in (by decide +kernel) (by decide +kernel)
theorem wd_833 : Cond.code yX11_asks cX11_asks 1 (some .int) ∈ WALL := wl_in (by decide +kernel) (by decide +kernel)
theorem wd_834 : Cond.methodLink RX11 410 yX11_asks ∈ WALL := wl_in (by decide +kernel) (by decide +kernel)
theorem wd_835 : Cond.instanceMethod yX11_asks ∈ WALL := wl_in (by decide +kernel) (by decide +kernel)
theorem wd_836 : Cond.selects RX11 yX11_asks yX11_asks ∈ WALL := wl_in (by decide +kernel) (by decide +kernel)
theorem dX11_ware_0 : decode cX11_ware 0 = .ok (.aload_n 0, 1) := by decide +kernel
theorem dX11_ware_1 : decode cX11_ware 1 = .ok (.iconst 0, 1) := by decide +kernel
theorem dX11_ware_2 : decode cX11_ware 2 = .ok (.putfield 1, 3) := by decide +kernel
theorem dX11_ware_5 : decode cX11_ware 5 = .ok (.aload_n 0, 1) := by decide +kernel
theorem dX11_ware_6 : decode cX11_ware 6 = .ok (.iload_n 1, 1) := by decide +kernel
theorem dX11_ware_7 : decode cX11_ware 7 = .ok (.invokevirtual 277, 3) := by decide +kernel
theorem dX11_ware_10 : decode cX11_ware 10 = .ok (.ifCond .eq 22, 3) := by decide +kernel
theorem dX11_ware_13 : decode cX11_ware 13 = .ok (.iload_n 2, 1) := by decide +kernel
theorem dX11_ware_14 : decode cX11_ware 14 = .ok (.iconst 0, 1) := by decide +kernel
theorem dX11_ware_15 : decode cX11_ware 15 = .ok (.bipush 7, 2) := by decide +kernel
theorem dX11_ware_17 : decode cX11_ware 17 = .ok (.invokestatic 280, 3) := by decide +kernel
theorem dX11_ware_20 : decode cX11_ware 20 = .ok (.ifCond .eq 12, 3) := by decide +kernel
theorem dX11_ware_23 : decode cX11_ware 23 = .ok (.aload_n 0, 1) := by decide +kernel
theorem dX11_ware_24 : decode cX11_ware 24 = .ok (.iload_n 1, 1) := by decide +kernel
theorem dX11_ware_25 : decode cX11_ware 25 = .ok (.iload_n 2, 1) := by decide +kernel
theorem dX11_ware_26 : decode cX11_ware 26 = .ok (.invokevirtual 271, 3) := by decide +kernel
theorem dX11_ware_29 : decode cX11_ware 29 = .ok (.goto 4, 3) := by decide +kernel
theorem dX11_ware_32 : decode cX11_ware 32 = .ok (.iconst (-1), 1) := by decide +kernel
theorem dX11_ware_33 : decode cX11_ware 33 = .ok (.ireturn, 1) := by decide +kernel
theorem dX11_may_0 : decode cX11_may 0 = .ok (.aload_n 0, 1) := by decide +kernel
theorem dX11_may_1 : decode cX11_may 1 = .ok (.iconst 0, 1) := by decide +kernel
theorem dX11_may_2 : decode cX11_may 2 = .ok (.putfield 1, 3) := by decide +kernel
theorem dX11_may_5 : decode cX11_may 5 = .ok (.aload_n 0, 1) := by decide +kernel
theorem dX11_may_6 : decode cX11_may 6 = .ok (.iload_n 1, 1) := by decide +kernel
theorem dX11_may_7 : decode cX11_may 7 = .ok (.invokevirtual 277, 3) := by decide +kernel
theorem dX11_may_10 : decode cX11_may 10 = .ok (.ifCond .eq 33, 3) := by decide +kernel
theorem dX11_may_13 : decode cX11_may 13 = .ok (.aload_n 0, 1) := by decide +kernel
theorem dX11_may_14 : decode cX11_may 14 = .ok (.iload_n 2, 1) := by decide +kernel
theorem dX11_may_15 : decode cX11_may 15 = .ok (.invokevirtual 277, 3) := by decide +kernel
theorem dX11_may_18 : decode cX11_may 18 = .ok (.ifCond .eq 25, 3) := by decide +kernel
theorem dX11_may_21 : decode cX11_may 21 = .ok (.iload_n 1, 1) := by decide +kernel
theorem dX11_may_22 : decode cX11_may 22 = .ok (.iload_n 2, 1) := by decide +kernel
theorem dX11_may_23 : decode cX11_may 23 = .ok (.if_icmp .eq 20, 3) := by decide +kernel
theorem dX11_may_26 : decode cX11_may 26 = .ok (.aload_n 0, 1) := by decide +kernel
theorem dX11_may_27 : decode cX11_may 27 = .ok (.iload_n 1, 1) := by decide +kernel
theorem dX11_may_28 : decode cX11_may 28 = .ok (.iload_n 2, 1) := by decide +kernel
theorem dX11_may_29 : decode cX11_may 29 = .ok (.invokevirtual 284, 3) := by decide +kernel
theorem dX11_may_32 : decode cX11_may 32 = .ok (.ifCond .eq 7, 3) := by decide +kernel
theorem dX11_may_35 : decode cX11_may 35 = .ok (.iconst 1, 1) := by decide +kernel
theorem dX11_may_36 : decode cX11_may 36 = .ok (.goto 8, 3) := by decide +kernel
theorem dX11_may_39 : decode cX11_may 39 = .ok (.iconst 0, 1) := by decide +kernel
theorem dX11_may_40 : decode cX11_may 40 = .ok (.goto 4, 3) := by decide +kernel
theorem dX11_may_43 : decode cX11_may 43 = .ok (.iconst (-1), 1) := by decide +kernel
theorem dX11_may_44 : decode cX11_may 44 = .ok (.ireturn, 1) := by decide +kernel
theorem dX11_at_0 : decode cX11_at 0 = .ok (.aload_n 0, 1) := by decide +kernel
theorem dX11_at_1 : decode cX11_at 1 = .ok (.iconst 0, 1) := by decide +kernel
theorem dX11_at_2 : decode cX11_at 2 = .ok (.putfield 1, 3) := by decide +kernel
theorem dX11_at_5 : decode cX11_at 5 = .ok (.aload_n 0, 1) := by decide +kernel
theorem dX11_at_6 : decode cX11_at 6 = .ok (.iconst 0, 1) := by decide +kernel
theorem dX11_at_7 : decode cX11_at 7 = .ok (.iload_n 1, 1) := by decide +kernel
theorem dX11_at_8 : decode cX11_at 8 = .ok (.iload_n 2, 1) := by decide +kernel
theorem dX11_at_9 : decode cX11_at 9 = .ok (.invokevirtual 318, 3) := by decide +kernel
theorem dX11_at_12 : decode cX11_at 12 = .ok (.ifCond .eq 40, 3) := by decide +kernel
theorem dX11_at_15 : decode cX11_at 15 = .ok (.iload_n 3, 1) := by decide +kernel
theorem dX11_at_16 : decode cX11_at 16 = .ok (.ifCond .lt 36, 3) := by decide +kernel
theorem dX11_at_19 : decode cX11_at 19 = .ok (.iload_n 3, 1) := by decide +kernel
theorem dX11_at_20 : decode cX11_at 20 = .ok (.aload_n 0, 1) := by decide +kernel
theorem dX11_at_21 : decode cX11_at 21 = .ok (.getfield 108, 3) := by decide +kernel
theorem dX11_at_24 : decode cX11_at 24 = .ok (.iconst 0, 1) := by decide +kernel
theorem dX11_at_25 : decode cX11_at 25 = .ok (.iload_n 1, 1) := by decide +kernel
theorem dX11_at_26 : decode cX11_at 26 = .ok (.iload_n 2, 1) := by decide +kernel
theorem dX11_at_27 : decode cX11_at 27 = .ok (.invokestatic 294, 3) := by decide +kernel
theorem dX11_at_30 : decode cX11_at 30 = .ok (.iaload, 1) := by decide +kernel
theorem dX11_at_31 : decode cX11_at 31 = .ok (.if_icmp .ge 21, 3) := by decide +kernel
theorem dX11_at_34 : decode cX11_at 34 = .ok (.aload_n 0, 1) := by decide +kernel
theorem dX11_at_35 : decode cX11_at 35 = .ok (.getfield 108, 3) := by decide +kernel
theorem dX11_at_38 : decode cX11_at 38 = .ok (.iconst 0, 1) := by decide +kernel
theorem dX11_at_39 : decode cX11_at 39 = .ok (.iload_n 1, 1) := by decide +kernel
theorem dX11_at_40 : decode cX11_at 40 = .ok (.iload_n 2, 1) := by decide +kernel
theorem dX11_at_41 : decode cX11_at 41 = .ok (.invokestatic 294, 3) := by decide +kernel
theorem dX11_at_44 : decode cX11_at 44 = .ok (.iconst 1, 1) := by decide +kernel
theorem dX11_at_45 : decode cX11_at 45 = .ok (.iadd, 1) := by decide +kernel
theorem dX11_at_46 : decode cX11_at 46 = .ok (.iload_n 3, 1) := by decide +kernel
theorem dX11_at_47 : decode cX11_at 47 = .ok (.iadd, 1) := by decide +kernel
theorem dX11_at_48 : decode cX11_at 48 = .ok (.iaload, 1) := by decide +kernel
theorem dX11_at_49 : decode cX11_at 49 = .ok (.goto 4, 3) := by decide +kernel
theorem dX11_at_52 : decode cX11_at 52 = .ok (.iconst (-1), 1) := by decide +kernel
theorem dX11_at_53 : decode cX11_at 53 = .ok (.ireturn, 1) := by decide +kernel
theorem dX11_stack_0 : decode cX11_stack 0 = .ok (.aload_n 0, 1) := by decide +kernel
theorem dX11_stack_1 : decode cX11_stack 1 = .ok (.iconst 0, 1) := by decide +kernel
theorem dX11_stack_2 : decode cX11_stack 2 = .ok (.putfield 1, 3) := by decide +kernel
theorem dX11_stack_5 : decode cX11_stack 5 = .ok (.aload_n 0, 1) := by decide +kernel
theorem dX11_stack_6 : decode cX11_stack 6 = .ok (.iconst 0, 1) := by decide +kernel
theorem dX11_stack_7 : decode cX11_stack 7 = .ok (.iload_n 1, 1) := by decide +kernel
theorem dX11_stack_8 : decode cX11_stack 8 = .ok (.iload_n 2, 1) := by decide +kernel
theorem dX11_stack_9 : decode cX11_stack 9 = .ok (.invokevirtual 318, 3) := by decide +kernel
theorem dX11_stack_12 : decode cX11_stack 12 = .ok (.ifCond .eq 12, 3) := by decide +kernel
theorem dX11_stack_15 : decode cX11_stack 15 = .ok (.iload_n 3, 1) := by decide +kernel
theorem dX11_stack_16 : decode cX11_stack 16 = .ok (.iconst 0, 1) := by decide +kernel
theorem dX11_stack_17 : decode cX11_stack 17 = .ok (.iconst 2, 1) := by decide +kernel
theorem dX11_stack_18 : decode cX11_stack 18 = .ok (.invokestatic 280, 3) := by decide +kernel
theorem dX11_stack_21 : decode cX11_stack 21 = .ok (.ifCond .ne 5, 3) := by decide +kernel
theorem dX11_stack_24 : decode cX11_stack 24 = .ok (.iconst (-1), 1) := by decide +kernel
theorem dX11_stack_25 : decode cX11_stack 25 = .ok (.ireturn, 1) := by decide +kernel
theorem dX11_stack_26 : decode cX11_stack 26 = .ok (.aload_n 0, 1) := by decide +kernel
theorem dX11_stack_27 : decode cX11_stack 27 = .ok (.iconst 0, 1) := by decide +kernel
theorem dX11_stack_28 : decode cX11_stack 28 = .ok (.iload_n 1, 1) := by decide +kernel
theorem dX11_stack_29 : decode cX11_stack 29 = .ok (.iload_n 2, 1) := by decide +kernel
theorem dX11_stack_30 : decode cX11_stack 30 = .ok (.invokestatic 294, 3) := by decide +kernel
theorem dX11_stack_33 : decode cX11_stack 33 = .ok (.invokevirtual 327, 3) := by decide +kernel
theorem dX11_stack_36 : decode cX11_stack 36 = .ok (.iconst 0, 1) := by decide +kernel
theorem dX11_stack_37 : decode cX11_stack 37 = .ok (.istore 4, 2) := by decide +kernel
theorem dX11_stack_39 : decode cX11_stack 39 = .ok (.iconst 0, 1) := by decide +kernel
theorem dX11_stack_40 : decode cX11_stack 40 = .ok (.istore 5, 2) := by decide +kernel
theorem dX11_stack_42 : decode cX11_stack 42 = .ok (.iload 5, 2) := by decide +kernel
theorem dX11_stack_44 : decode cX11_stack 44 = .ok (.aload_n 0, 1) := by decide +kernel
theorem dX11_stack_45 : decode cX11_stack 45 = .ok (.getfield 306, 3) := by decide +kernel
theorem dX11_stack_48 : decode cX11_stack 48 = .ok (.if_icmp .ge 26, 3) := by decide +kernel
theorem dX11_stack_51 : decode cX11_stack 51 = .ok (.iload 4, 2) := by decide +kernel
theorem dX11_stack_53 : decode cX11_stack 53 = .ok (.aload_n 0, 1) := by decide +kernel
theorem dX11_stack_54 : decode cX11_stack 54 = .ok (.aload_n 0, 1) := by decide +kernel
theorem dX11_stack_55 : decode cX11_stack 55 = .ok (.getfield 114, 3) := by decide +kernel
theorem dX11_stack_58 : decode cX11_stack 58 = .ok (.iload 5, 2) := by decide +kernel
theorem dX11_stack_60 : decode cX11_stack 60 = .ok (.iaload, 1) := by decide +kernel
theorem dX11_stack_61 : decode cX11_stack 61 = .ok (.iconst 2, 1) := by decide +kernel
theorem dX11_stack_62 : decode cX11_stack 62 = .ok (.invokevirtual 271, 3) := by decide +kernel
theorem dX11_stack_65 : decode cX11_stack 65 = .ok (.iadd, 1) := by decide +kernel
theorem dX11_stack_66 : decode cX11_stack 66 = .ok (.istore 4, 2) := by decide +kernel
theorem dX11_stack_68 : decode cX11_stack 68 = .ok (.iinc 5 1, 3) := by decide +kernel
theorem dX11_stack_71 : decode cX11_stack 71 = .ok (.goto (-29), 3) := by decide +kernel
theorem dX11_stack_74 : decode cX11_stack 74 = .ok (.iload_n 3, 1) := by decide +kernel
theorem dX11_stack_75 : decode cX11_stack 75 = .ok (.ifCond .ne 10, 3) := by decide +kernel
theorem dX11_stack_78 : decode cX11_stack 78 = .ok (.aload_n 0, 1) := by decide +kernel
theorem dX11_stack_79 : decode cX11_stack 79 = .ok (.getfield 306, 3) := by decide +kernel
theorem dX11_stack_82 : decode cX11_stack 82 = .ok (.goto 17, 3) := by decide +kernel
theorem dX11_stack_85 : decode cX11_stack 85 = .ok (.iload_n 3, 1) := by decide +kernel
theorem dX11_stack_86 : decode cX11_stack 86 = .ok (.iconst 1, 1) := by decide +kernel
theorem dX11_stack_87 : decode cX11_stack 87 = .ok (.if_icmp .ne 10, 3) := by decide +kernel
theorem dX11_stack_90 : decode cX11_stack 90 = .ok (.aload_n 0, 1) := by decide +kernel
theorem dX11_stack_91 : decode cX11_stack 91 = .ok (.invokevirtual 309, 3) := by decide +kernel
theorem dX11_stack_94 : decode cX11_stack 94 = .ok (.goto 5, 3) := by decide +kernel
theorem dX11_stack_97 : decode cX11_stack 97 = .ok (.iload 4, 2) := by decide +kernel
theorem dX11_stack_99 : decode cX11_stack 99 = .ok (.ireturn, 1) := by decide +kernel
theorem dX11_shelf_0 : decode cX11_shelf 0 = .ok (.aload_n 0, 1) := by decide +kernel
theorem dX11_shelf_1 : decode cX11_shelf 1 = .ok (.iconst 0, 1) := by decide +kernel
theorem dX11_shelf_2 : decode cX11_shelf 2 = .ok (.putfield 1, 3) := by decide +kernel
theorem dX11_shelf_5 : decode cX11_shelf 5 = .ok (.aload_n 0, 1) := by decide +kernel
theorem dX11_shelf_6 : decode cX11_shelf 6 = .ok (.iload_n 1, 1) := by decide +kernel
theorem dX11_shelf_7 : decode cX11_shelf 7 = .ok (.invokevirtual 288, 3) := by decide +kernel
theorem dX11_shelf_10 : decode cX11_shelf 10 = .ok (.ifCond .eq 12, 3) := by decide +kernel
theorem dX11_shelf_13 : decode cX11_shelf 13 = .ok (.iload_n 2, 1) := by decide +kernel
theorem dX11_shelf_14 : decode cX11_shelf 14 = .ok (.iconst 0, 1) := by decide +kernel
theorem dX11_shelf_15 : decode cX11_shelf 15 = .ok (.iconst 3, 1) := by decide +kernel
theorem dX11_shelf_16 : decode cX11_shelf 16 = .ok (.invokestatic 280, 3) := by decide +kernel
theorem dX11_shelf_19 : decode cX11_shelf 19 = .ok (.ifCond .ne 5, 3) := by decide +kernel
theorem dX11_shelf_22 : decode cX11_shelf 22 = .ok (.iconst (-1), 1) := by decide +kernel
theorem dX11_shelf_23 : decode cX11_shelf 23 = .ok (.ireturn, 1) := by decide +kernel
theorem dX11_shelf_24 : decode cX11_shelf 24 = .ok (.iload_n 2, 1) := by decide +kernel
theorem dX11_shelf_25 : decode cX11_shelf 25 = .ok (.iconst 3, 1) := by decide +kernel
theorem dX11_shelf_26 : decode cX11_shelf 26 = .ok (.if_icmp .ge 12, 3) := by decide +kernel
theorem dX11_shelf_29 : decode cX11_shelf 29 = .ok (.aload_n 0, 1) := by decide +kernel
theorem dX11_shelf_30 : decode cX11_shelf 30 = .ok (.iload_n 1, 1) := by decide +kernel
theorem dX11_shelf_31 : decode cX11_shelf 31 = .ok (.iload_n 2, 1) := by decide +kernel
theorem dX11_shelf_32 : decode cX11_shelf 32 = .ok (.invokevirtual 324, 3) := by decide +kernel
theorem dX11_shelf_35 : decode cX11_shelf 35 = .ok (.goto 9, 3) := by decide +kernel
theorem dX11_shelf_38 : decode cX11_shelf 38 = .ok (.aload_n 0, 1) := by decide +kernel
theorem dX11_shelf_39 : decode cX11_shelf 39 = .ok (.iconst 0, 1) := by decide +kernel
theorem dX11_shelf_40 : decode cX11_shelf 40 = .ok (.iload_n 1, 1) := by decide +kernel
theorem dX11_shelf_41 : decode cX11_shelf 41 = .ok (.invokevirtual 291, 3) := by decide +kernel
theorem dX11_shelf_44 : decode cX11_shelf 44 = .ok (.ireturn, 1) := by decide +kernel
theorem dX11_cost_0 : decode cX11_cost 0 = .ok (.aload_n 0, 1) := by decide +kernel
theorem dX11_cost_1 : decode cX11_cost 1 = .ok (.iconst 0, 1) := by decide +kernel
theorem dX11_cost_2 : decode cX11_cost 2 = .ok (.putfield 1, 3) := by decide +kernel
theorem dX11_cost_5 : decode cX11_cost 5 = .ok (.aload_n 0, 1) := by decide +kernel
theorem dX11_cost_6 : decode cX11_cost 6 = .ok (.getfield 108, 3) := by decide +kernel
theorem dX11_cost_9 : decode cX11_cost 9 = .ok (.sipush 420, 3) := by decide +kernel
theorem dX11_cost_12 : decode cX11_cost 12 = .ok (.iaload, 1) := by decide +kernel
theorem dX11_cost_13 : decode cX11_cost 13 = .ok (.ireturn, 1) := by decide +kernel
theorem dX11_asks_0 : decode cX11_asks 0 = .ok (.aload_n 0, 1) := by decide +kernel
theorem dX11_asks_1 : decode cX11_asks 1 = .ok (.getfield 108, 3) := by decide +kernel
theorem dX11_asks_4 : decode cX11_asks 4 = .ok (.sipush 421, 3) := by decide +kernel
theorem dX11_asks_7 : decode cX11_asks 7 = .ok (.iaload, 1) := by decide +kernel
theorem dX11_asks_8 : decode cX11_asks 8 = .ok (.ireturn, 1) := by decide +kernel
theorem dX11_lift_0 : decode cX11_lift 0 = .ok (.aload_n 0, 1) := by decide +kernel
theorem dX11_lift_1 : decode cX11_lift 1 = .ok (.iconst 0, 1) := by decide +kernel
theorem dX11_lift_2 : decode cX11_lift 2 = .ok (.putfield 1, 3) := by decide +kernel
theorem dX11_lift_5 : decode cX11_lift 5 = .ok (.aload_n 0, 1) := by decide +kernel
theorem dX11_lift_6 : decode cX11_lift 6 = .ok (.iload_n 1, 1) := by decide +kernel
theorem dX11_lift_7 : decode cX11_lift 7 = .ok (.invokevirtual 277, 3) := by decide +kernel
theorem dX11_lift_10 : decode cX11_lift 10 = .ok (.ifCond .eq 20, 3) := by decide +kernel
theorem dX11_lift_13 : decode cX11_lift 13 = .ok (.aload_n 0, 1) := by decide +kernel
theorem dX11_lift_14 : decode cX11_lift 14 = .ok (.iconst 0, 1) := by decide +kernel
theorem dX11_lift_15 : decode cX11_lift 15 = .ok (.iload_n 1, 1) := by decide +kernel
theorem dX11_lift_16 : decode cX11_lift 16 = .ok (.invokevirtual 321, 3) := by decide +kernel
theorem dX11_lift_19 : decode cX11_lift 19 = .ok (.ifCond .eq 11, 3) := by decide +kernel
theorem dX11_lift_22 : decode cX11_lift 22 = .ok (.aload_n 0, 1) := by decide +kernel
theorem dX11_lift_23 : decode cX11_lift 23 = .ok (.iconst 0, 1) := by decide +kernel
theorem dX11_lift_24 : decode cX11_lift 24 = .ok (.invokevirtual 347, 3) := by decide +kernel
theorem dX11_lift_27 : decode cX11_lift 27 = .ok (.goto 4, 3) := by decide +kernel
theorem dX11_lift_30 : decode cX11_lift 30 = .ok (.iconst (-1), 1) := by decide +kernel
theorem dX11_lift_31 : decode cX11_lift 31 = .ok (.ireturn, 1) := by decide +kernel
theorem dX11_where_0 : decode cX11_where 0 = .ok (.aload_n 0, 1) := by decide +kernel
theorem dX11_where_1 : decode cX11_where 1 = .ok (.iconst 0, 1) := by decide +kernel
theorem dX11_where_2 : decode cX11_where 2 = .ok (.putfield 1, 3) := by decide +kernel
theorem dX11_where_5 : decode cX11_where 5 = .ok (.aload_n 0, 1) := by decide +kernel
theorem dX11_where_6 : decode cX11_where 6 = .ok (.iload_n 1, 1) := by decide +kernel
theorem dX11_where_7 : decode cX11_where 7 = .ok (.invokevirtual 277, 3) := by decide +kernel
theorem dX11_where_10 : decode cX11_where 10 = .ok (.ifCond .eq 21, 3) := by decide +kernel
theorem dX11_where_13 : decode cX11_where 13 = .ok (.iload_n 2, 1) := by decide +kernel
theorem dX11_where_14 : decode cX11_where 14 = .ok (.iconst 0, 1) := by decide +kernel
theorem dX11_where_15 : decode cX11_where 15 = .ok (.iconst 4, 1) := by decide +kernel
theorem dX11_where_16 : decode cX11_where 16 = .ok (.invokestatic 280, 3) := by decide +kernel
theorem dX11_where_19 : decode cX11_where 19 = .ok (.ifCond .eq 12, 3) := by decide +kernel
theorem dX11_where_22 : decode cX11_where 22 = .ok (.aload_n 0, 1) := by decide +kernel
theorem dX11_where_23 : decode cX11_where 23 = .ok (.iconst 0, 1) := by decide +kernel
theorem dX11_where_24 : decode cX11_where 24 = .ok (.iload_n 1, 1) := by decide +kernel
theorem dX11_where_25 : decode cX11_where 25 = .ok (.invokevirtual 321, 3) := by decide +kernel
theorem dX11_where_28 : decode cX11_where 28 = .ok (.ifCond .ne 5, 3) := by decide +kernel
theorem dX11_where_31 : decode cX11_where 31 = .ok (.iconst (-1), 1) := by decide +kernel
theorem dX11_where_32 : decode cX11_where 32 = .ok (.ireturn, 1) := by decide +kernel
theorem dX11_where_33 : decode cX11_where 33 = .ok (.aload_n 0, 1) := by decide +kernel
theorem dX11_where_34 : decode cX11_where 34 = .ok (.iconst 0, 1) := by decide +kernel
theorem dX11_where_35 : decode cX11_where 35 = .ok (.aload_n 0, 1) := by decide +kernel
theorem dX11_where_36 : decode cX11_where 36 = .ok (.getfield 297, 3) := by decide +kernel
theorem dX11_where_39 : decode cX11_where 39 = .ok (.aload_n 0, 1) := by decide +kernel
theorem dX11_where_40 : decode cX11_where 40 = .ok (.getfield 300, 3) := by decide +kernel
theorem dX11_where_43 : decode cX11_where 43 = .ok (.invokestatic 294, 3) := by decide +kernel
theorem dX11_where_46 : decode cX11_where 46 = .ok (.invokevirtual 327, 3) := by decide +kernel
theorem dX11_where_49 : decode cX11_where 49 = .ok (.iload_n 2, 1) := by decide +kernel
theorem dX11_where_50 : decode cX11_where 50 = .ok (.tableswitch 57 0 3 #[30, 35, 40, 45], 30) := by decide +kernel
theorem dX11_where_80 : decode cX11_where 80 = .ok (.aload_n 0, 1) := by decide +kernel
theorem dX11_where_81 : decode cX11_where 81 = .ok (.getfield 297, 3) := by decide +kernel
theorem dX11_where_84 : decode cX11_where 84 = .ok (.ireturn, 1) := by decide +kernel
theorem dX11_where_85 : decode cX11_where 85 = .ok (.aload_n 0, 1) := by decide +kernel
theorem dX11_where_86 : decode cX11_where 86 = .ok (.getfield 300, 3) := by decide +kernel
theorem dX11_where_89 : decode cX11_where 89 = .ok (.ireturn, 1) := by decide +kernel
theorem dX11_where_90 : decode cX11_where 90 = .ok (.aload_n 0, 1) := by decide +kernel
theorem dX11_where_91 : decode cX11_where 91 = .ok (.getfield 303, 3) := by decide +kernel
theorem dX11_where_94 : decode cX11_where 94 = .ok (.ireturn, 1) := by decide +kernel
theorem dX11_where_95 : decode cX11_where 95 = .ok (.aload_n 0, 1) := by decide +kernel
theorem dX11_where_96 : decode cX11_where 96 = .ok (.getfield 306, 3) := by decide +kernel
theorem dX11_where_99 : decode cX11_where 99 = .ok (.iconst 1, 1) := by decide +kernel
theorem dX11_where_100 : decode cX11_where 100 = .ok (.isub, 1) := by decide +kernel
theorem dX11_where_101 : decode cX11_where 101 = .ok (.aload_n 0, 1) := by decide +kernel
theorem dX11_where_102 : decode cX11_where 102 = .ok (.getfield 303, 3) := by decide +kernel
theorem dX11_where_105 : decode cX11_where 105 = .ok (.isub, 1) := by decide +kernel
theorem dX11_where_106 : decode cX11_where 106 = .ok (.ireturn, 1) := by decide +kernel
theorem dX11_where_107 : decode cX11_where 107 = .ok (.aload_n 0, 1) := by decide +kernel
theorem dX11_where_108 : decode cX11_where 108 = .ok (.aload_n 0, 1) := by decide +kernel
theorem dX11_where_109 : decode cX11_where 109 = .ok (.getfield 303, 3) := by decide +kernel
theorem dX11_where_112 : decode cX11_where 112 = .ok (.invokevirtual 315, 3) := by decide +kernel
theorem dX11_where_115 : decode cX11_where 115 = .ok (.ireturn, 1) := by decide +kernel
theorem dX11_count_0 : decode cX11_count 0 = .ok (.aload_n 0, 1) := by decide +kernel
theorem dX11_count_1 : decode cX11_count 1 = .ok (.iconst 0, 1) := by decide +kernel
theorem dX11_count_2 : decode cX11_count 2 = .ok (.putfield 1, 3) := by decide +kernel
theorem dX11_count_5 : decode cX11_count 5 = .ok (.iconst 0, 1) := by decide +kernel
theorem dX11_count_6 : decode cX11_count 6 = .ok (.istore_n 2, 1) := by decide +kernel
theorem dX11_count_7 : decode cX11_count 7 = .ok (.iload_n 1, 1) := by decide +kernel
theorem dX11_count_8 : decode cX11_count 8 = .ok (.tableswitch 102 0 5 #[40, 45, 50, 57, 92, 97], 40) := by decide +kernel
theorem dX11_count_48 : decode cX11_count 48 = .ok (.aload_n 0, 1) := by decide +kernel
theorem dX11_count_49 : decode cX11_count 49 = .ok (.invokevirtual 264, 3) := by decide +kernel
theorem dX11_count_52 : decode cX11_count 52 = .ok (.ireturn, 1) := by decide +kernel
theorem dX11_count_53 : decode cX11_count 53 = .ok (.aload_n 0, 1) := by decide +kernel
theorem dX11_count_54 : decode cX11_count 54 = .ok (.invokevirtual 268, 3) := by decide +kernel
theorem dX11_count_57 : decode cX11_count 57 = .ok (.ireturn, 1) := by decide +kernel
theorem dX11_count_58 : decode cX11_count 58 = .ok (.aload_n 0, 1) := by decide +kernel
theorem dX11_count_59 : decode cX11_count 59 = .ok (.getfield 83, 3) := by decide +kernel
theorem dX11_count_62 : decode cX11_count 62 = .ok (.iconst 2, 1) := by decide +kernel
theorem dX11_count_63 : decode cX11_count 63 = .ok (.iaload, 1) := by decide +kernel
theorem dX11_count_64 : decode cX11_count 64 = .ok (.ireturn, 1) := by decide +kernel
theorem dX11_count_65 : decode cX11_count 65 = .ok (.iconst 0, 1) := by decide +kernel
theorem dX11_count_66 : decode cX11_count 66 = .ok (.istore_n 3, 1) := by decide +kernel
theorem dX11_count_67 : decode cX11_count 67 = .ok (.iload_n 3, 1) := by decide +kernel
theorem dX11_count_68 : decode cX11_count 68 = .ok (.aload_n 0, 1) := by decide +kernel
theorem dX11_count_69 : decode cX11_count 69 = .ok (.invokevirtual 264, 3) := by decide +kernel
theorem dX11_count_72 : decode cX11_count 72 = .ok (.if_icmp .ge 26, 3) := by decide +kernel
theorem dX11_count_75 : decode cX11_count 75 = .ok (.iload_n 2, 1) := by decide +kernel
theorem dX11_count_76 : decode cX11_count 76 = .ok (.aload_n 0, 1) := by decide +kernel
theorem dX11_count_77 : decode cX11_count 77 = .ok (.iconst 0, 1) := by decide +kernel
theorem dX11_count_78 : decode cX11_count 78 = .ok (.iload_n 3, 1) := by decide +kernel
theorem dX11_count_79 : decode cX11_count 79 = .ok (.invokevirtual 321, 3) := by decide +kernel
theorem dX11_count_82 : decode cX11_count 82 = .ok (.ifCond .eq 7, 3) := by decide +kernel
theorem dX11_count_85 : decode cX11_count 85 = .ok (.iconst 0, 1) := by decide +kernel
theorem dX11_count_86 : decode cX11_count 86 = .ok (.goto 4, 3) := by decide +kernel
theorem dX11_count_89 : decode cX11_count 89 = .ok (.iconst 1, 1) := by decide +kernel
theorem dX11_count_90 : decode cX11_count 90 = .ok (.iadd, 1) := by decide +kernel
theorem dX11_count_91 : decode cX11_count 91 = .ok (.istore_n 2, 1) := by decide +kernel
theorem dX11_count_92 : decode cX11_count 92 = .ok (.iinc 3 1, 3) := by decide +kernel
theorem dX11_count_95 : decode cX11_count 95 = .ok (.goto (-28), 3) := by decide +kernel
theorem dX11_count_98 : decode cX11_count 98 = .ok (.iload_n 2, 1) := by decide +kernel
theorem dX11_count_99 : decode cX11_count 99 = .ok (.ireturn, 1) := by decide +kernel
theorem dX11_count_100 : decode cX11_count 100 = .ok (.aload_n 0, 1) := by decide +kernel
theorem dX11_count_101 : decode cX11_count 101 = .ok (.invokevirtual 410, 3) := by decide +kernel
theorem dX11_count_104 : decode cX11_count 104 = .ok (.ireturn, 1) := by decide +kernel
theorem dX11_count_105 : decode cX11_count 105 = .ok (.aload_n 0, 1) := by decide +kernel
theorem dX11_count_106 : decode cX11_count 106 = .ok (.getfield 11, 3) := by decide +kernel
theorem dX11_count_109 : decode cX11_count 109 = .ok (.ireturn, 1) := by decide +kernel
theorem dX11_count_110 : decode cX11_count 110 = .ok (.iconst (-1), 1) := by decide +kernel
theorem dX11_count_111 : decode cX11_count 111 = .ok (.ireturn, 1) := by decide +kernel
theorem dX11_asked_0 : decode cX11_asked 0 = .ok (.aload_n 0, 1) := by decide +kernel
theorem dX11_asked_1 : decode cX11_asked 1 = .ok (.iconst 0, 1) := by decide +kernel
theorem dX11_asked_2 : decode cX11_asked 2 = .ok (.putfield 1, 3) := by decide +kernel
theorem dX11_asked_5 : decode cX11_asked 5 = .ok (.iconst 0, 1) := by decide +kernel
theorem dX11_asked_6 : decode cX11_asked 6 = .ok (.istore_n 1, 1) := by decide +kernel
theorem dX11_asked_7 : decode cX11_asked 7 = .ok (.iconst 0, 1) := by decide +kernel
theorem dX11_asked_8 : decode cX11_asked 8 = .ok (.istore_n 2, 1) := by decide +kernel
theorem dX11_asked_9 : decode cX11_asked 9 = .ok (.iload_n 2, 1) := by decide +kernel
theorem dX11_asked_10 : decode cX11_asked 10 = .ok (.aload_n 0, 1) := by decide +kernel
theorem dX11_asked_11 : decode cX11_asked 11 = .ok (.invokevirtual 410, 3) := by decide +kernel
theorem dX11_asked_14 : decode cX11_asked 14 = .ok (.if_icmp .ge 39, 3) := by decide +kernel
theorem dX11_asked_17 : decode cX11_asked 17 = .ok (.iload_n 1, 1) := by decide +kernel
theorem dX11_asked_18 : decode cX11_asked 18 = .ok (.aload_n 0, 1) := by decide +kernel
theorem dX11_asked_19 : decode cX11_asked 19 = .ok (.iconst 0, 1) := by decide +kernel
theorem dX11_asked_20 : decode cX11_asked 20 = .ok (.aload_n 0, 1) := by decide +kernel
theorem dX11_asked_21 : decode cX11_asked 21 = .ok (.getfield 108, 3) := by decide +kernel
theorem dX11_asked_24 : decode cX11_asked 24 = .ok (.sipush 422, 3) := by decide +kernel
theorem dX11_asked_27 : decode cX11_asked 27 = .ok (.iload_n 2, 1) := by decide +kernel
theorem dX11_asked_28 : decode cX11_asked 28 = .ok (.iadd, 1) := by decide +kernel
theorem dX11_asked_29 : decode cX11_asked 29 = .ok (.iaload, 1) := by decide +kernel
theorem dX11_asked_30 : decode cX11_asked 30 = .ok (.invokevirtual 321, 3) := by decide +kernel
theorem dX11_asked_33 : decode cX11_asked 33 = .ok (.ifCond .eq 11, 3) := by decide +kernel
theorem dX11_asked_36 : decode cX11_asked 36 = .ok (.aload_n 0, 1) := by decide +kernel
theorem dX11_asked_37 : decode cX11_asked 37 = .ok (.iconst 0, 1) := by decide +kernel
theorem dX11_asked_38 : decode cX11_asked 38 = .ok (.invokevirtual 347, 3) := by decide +kernel
theorem dX11_asked_41 : decode cX11_asked 41 = .ok (.goto 4, 3) := by decide +kernel
theorem dX11_asked_44 : decode cX11_asked 44 = .ok (.iconst 0, 1) := by decide +kernel
theorem dX11_asked_45 : decode cX11_asked 45 = .ok (.iadd, 1) := by decide +kernel
theorem dX11_asked_46 : decode cX11_asked 46 = .ok (.istore_n 1, 1) := by decide +kernel
theorem dX11_asked_47 : decode cX11_asked 47 = .ok (.iinc 2 1, 3) := by decide +kernel
theorem dX11_asked_50 : decode cX11_asked 50 = .ok (.goto (-41), 3) := by decide +kernel
theorem dX11_asked_53 : decode cX11_asked 53 = .ok (.iload_n 1, 1) := by decide +kernel
theorem dX11_asked_54 : decode cX11_asked 54 = .ok (.ireturn, 1) := by decide +kernel
theorem dX11_lifted_0 : decode cX11_lifted 0 = .ok (.iconst 0, 1) := by decide +kernel
theorem dX11_lifted_1 : decode cX11_lifted 1 = .ok (.istore_n 2, 1) := by decide +kernel
theorem dX11_lifted_2 : decode cX11_lifted 2 = .ok (.iconst 0, 1) := by decide +kernel
theorem dX11_lifted_3 : decode cX11_lifted 3 = .ok (.istore_n 3, 1) := by decide +kernel
theorem dX11_lifted_4 : decode cX11_lifted 4 = .ok (.iload_n 3, 1) := by decide +kernel
theorem dX11_lifted_5 : decode cX11_lifted 5 = .ok (.aload_n 0, 1) := by decide +kernel
theorem dX11_lifted_6 : decode cX11_lifted 6 = .ok (.invokevirtual 410, 3) := by decide +kernel
theorem dX11_lifted_9 : decode cX11_lifted 9 = .ok (.if_icmp .ge 103, 3) := by decide +kernel
theorem dX11_lifted_12 : decode cX11_lifted 12 = .ok (.aload_n 0, 1) := by decide +kernel
theorem dX11_lifted_13 : decode cX11_lifted 13 = .ok (.getfield 108, 3) := by decide +kernel
theorem dX11_lifted_16 : decode cX11_lifted 16 = .ok (.sipush 422, 3) := by decide +kernel
theorem dX11_lifted_19 : decode cX11_lifted 19 = .ok (.iload_n 3, 1) := by decide +kernel
theorem dX11_lifted_20 : decode cX11_lifted 20 = .ok (.iadd, 1) := by decide +kernel
theorem dX11_lifted_21 : decode cX11_lifted 21 = .ok (.iaload, 1) := by decide +kernel
theorem dX11_lifted_22 : decode cX11_lifted 22 = .ok (.istore 4, 2) := by decide +kernel
theorem dX11_lifted_24 : decode cX11_lifted 24 = .ok (.aload_n 0, 1) := by decide +kernel
theorem dX11_lifted_25 : decode cX11_lifted 25 = .ok (.iconst 0, 1) := by decide +kernel
theorem dX11_lifted_26 : decode cX11_lifted 26 = .ok (.iload 4, 2) := by decide +kernel
theorem dX11_lifted_28 : decode cX11_lifted 28 = .ok (.invokevirtual 321, 3) := by decide +kernel
theorem dX11_lifted_31 : decode cX11_lifted 31 = .ok (.ifCond .eq 75, 3) := by decide +kernel
theorem dX11_lifted_34 : decode cX11_lifted 34 = .ok (.aload_n 0, 1) := by decide +kernel
theorem dX11_lifted_35 : decode cX11_lifted 35 = .ok (.iconst 0, 1) := by decide +kernel
theorem dX11_lifted_36 : decode cX11_lifted 36 = .ok (.aload_n 0, 1) := by decide +kernel
theorem dX11_lifted_37 : decode cX11_lifted 37 = .ok (.getfield 297, 3) := by decide +kernel
theorem dX11_lifted_40 : decode cX11_lifted 40 = .ok (.aload_n 0, 1) := by decide +kernel
theorem dX11_lifted_41 : decode cX11_lifted 41 = .ok (.getfield 300, 3) := by decide +kernel
theorem dX11_lifted_44 : decode cX11_lifted 44 = .ok (.invokestatic 294, 3) := by decide +kernel
theorem dX11_lifted_47 : decode cX11_lifted 47 = .ok (.invokevirtual 327, 3) := by decide +kernel
theorem dX11_lifted_50 : decode cX11_lifted 50 = .ok (.iload_n 2, 1) := by decide +kernel
theorem dX11_lifted_51 : decode cX11_lifted 51 = .ok (.iload 4, 2) := by decide +kernel
theorem dX11_lifted_53 : decode cX11_lifted 53 = .ok (.iload_n 1, 1) := by decide +kernel
theorem dX11_lifted_54 : decode cX11_lifted 54 = .ok (.if_icmp .ne 7, 3) := by decide +kernel
theorem dX11_lifted_57 : decode cX11_lifted 57 = .ok (.iconst 1, 1) := by decide +kernel
theorem dX11_lifted_58 : decode cX11_lifted 58 = .ok (.goto 4, 3) := by decide +kernel
theorem dX11_lifted_61 : decode cX11_lifted 61 = .ok (.iconst 0, 1) := by decide +kernel
theorem dX11_lifted_62 : decode cX11_lifted 62 = .ok (.iadd, 1) := by decide +kernel
theorem dX11_lifted_63 : decode cX11_lifted 63 = .ok (.istore_n 2, 1) := by decide +kernel
theorem dX11_lifted_64 : decode cX11_lifted 64 = .ok (.aload_n 0, 1) := by decide +kernel
theorem dX11_lifted_65 : decode cX11_lifted 65 = .ok (.getfield 303, 3) := by decide +kernel
theorem dX11_lifted_68 : decode cX11_lifted 68 = .ok (.iconst 1, 1) := by decide +kernel
theorem dX11_lifted_69 : decode cX11_lifted 69 = .ok (.iadd, 1) := by decide +kernel
theorem dX11_lifted_70 : decode cX11_lifted 70 = .ok (.istore 5, 2) := by decide +kernel
theorem dX11_lifted_72 : decode cX11_lifted 72 = .ok (.iload 5, 2) := by decide +kernel
theorem dX11_lifted_74 : decode cX11_lifted 74 = .ok (.aload_n 0, 1) := by decide +kernel
theorem dX11_lifted_75 : decode cX11_lifted 75 = .ok (.getfield 306, 3) := by decide +kernel
theorem dX11_lifted_78 : decode cX11_lifted 78 = .ok (.if_icmp .ge 28, 3) := by decide +kernel
theorem dX11_lifted_81 : decode cX11_lifted 81 = .ok (.iload_n 2, 1) := by decide +kernel
theorem dX11_lifted_82 : decode cX11_lifted 82 = .ok (.aload_n 0, 1) := by decide +kernel
theorem dX11_lifted_83 : decode cX11_lifted 83 = .ok (.getfield 114, 3) := by decide +kernel
theorem dX11_lifted_86 : decode cX11_lifted 86 = .ok (.iload 5, 2) := by decide +kernel
theorem dX11_lifted_88 : decode cX11_lifted 88 = .ok (.iaload, 1) := by decide +kernel
theorem dX11_lifted_89 : decode cX11_lifted 89 = .ok (.iload_n 1, 1) := by decide +kernel
theorem dX11_lifted_90 : decode cX11_lifted 90 = .ok (.if_icmp .ne 7, 3) := by decide +kernel
theorem dX11_lifted_93 : decode cX11_lifted 93 = .ok (.iconst 2, 1) := by decide +kernel
theorem dX11_lifted_94 : decode cX11_lifted 94 = .ok (.goto 4, 3) := by decide +kernel
theorem dX11_lifted_97 : decode cX11_lifted 97 = .ok (.iconst 0, 1) := by decide +kernel
theorem dX11_lifted_98 : decode cX11_lifted 98 = .ok (.iadd, 1) := by decide +kernel
theorem dX11_lifted_99 : decode cX11_lifted 99 = .ok (.istore_n 2, 1) := by decide +kernel
theorem dX11_lifted_100 : decode cX11_lifted 100 = .ok (.iinc 5 1, 3) := by decide +kernel
theorem dX11_lifted_103 : decode cX11_lifted 103 = .ok (.goto (-31), 3) := by decide +kernel
theorem dX11_lifted_106 : decode cX11_lifted 106 = .ok (.iinc 3 1, 3) := by decide +kernel
theorem dX11_lifted_109 : decode cX11_lifted 109 = .ok (.goto (-105), 3) := by decide +kernel
theorem dX11_lifted_112 : decode cX11_lifted 112 = .ok (.iload_n 2, 1) := by decide +kernel
theorem dX11_lifted_113 : decode cX11_lifted 113 = .ok (.ireturn, 1) := by decide +kernel
set_option maxHeartbeats 4000000 in
set_option maxRecDepth 100000 in
theorem c_X11_ware (l : Launch) (D : DG) (cyC cyI cyJ cyZ cyO : ClassId) (m0 : Nat) (mtold : Nat) (mtape : Nat) (msort : Nat) (mplace : Nat) (mvalue : Nat) (mwords : Nat) (mop : Nat) (marg : Nat) (mnames : Nat) (mhasHabit : Nat) (mfactWords : Nat) (mfacts : Nat) (mpile : Nat) (mstates : Nat) (misMarked : Nat) (mrow : Nat) (mthr : Nat) (mmays : Nat) (mtall : Nat) (mweights : Nat) (mrowOfWare : Nat) (mneededOf : Nat) (mtried : Nat) (mbestRow : Nat) (mdigits : Nat) (p0 : Int32) (p1 : Int32) (m_thrown : Int32) (m_taped : Int32) (m_size : Int32) (m_at : Int32) (m_fault : Int32) (m_codes : Int32) (m_isNew : Int32) (m_inShelf : Int32) (m_inStack : Int32) (m_inPlace : Int32) (m_rowMany : Int32) (m_goShelf : Int32) (m_goStack : Int32) (m_goLeft : Int32) (m_bestCost : Int32) (m_bestMany : Int32) (m_bestShelf : Int32) (m_bestSet : Int32) (m_told : Nat → Int32) (h_m_taped : 0 ≤ (m_taped).toInt ∧ (m_taped).toInt ≤ 1000) (h_m_size : 0 ≤ (m_size).toInt ∧ (m_size).toInt ≤ 1000) (h_m_at : 0 ≤ (m_at).toInt ∧ (m_at).toInt ≤ 1000) (h_m_fault : 0 ≤ (m_fault).toInt ∧ (m_fault).toInt ≤ 16005) (h_m_codes : 0 ≤ (m_codes).toInt ∧ (m_codes).toInt ≤ 1000) (h_m_isNew : 0 ≤ (m_isNew).toInt ∧ (m_isNew).toInt ≤ 1) (h_m_inShelf : 0 ≤ (m_inShelf).toInt ∧ (m_inShelf).toInt ≤ 3) (h_m_inStack : 0 ≤ (m_inStack).toInt ∧ (m_inStack).toInt ≤ 7) (h_m_inPlace : 0 ≤ (m_inPlace).toInt ∧ (m_inPlace).toInt ≤ 11) (h_m_rowMany : 0 ≤ (m_rowMany).toInt ∧ (m_rowMany).toInt ≤ 12) (h_m_goShelf : -1 ≤ (m_goShelf).toInt ∧ (m_goShelf).toInt ≤ 3) (h_m_bestMany : 0 ≤ (m_bestMany).toInt ∧ (m_bestMany).toInt ≤ 7) (h_m_bestShelf : 0 ≤ (m_bestShelf).toInt ∧ (m_bestShelf).toInt ≤ 3) (h_m_told : TV m_told) : KK l D (TY cyC cyI cyJ cyZ cyO) yX11_ware cX11_ware 3 (some .int) ({ frames := 2, cells := 0, slots := 0, locals := 41 } : Room) 0 0 [.ref m0, .int p0, .int p1] [(m0, .inr (11, [.int m_thrown, .ref mtape, .int m_taped, .int m_size, .ref msort, .ref mplace, .ref mvalue, .int m_at, .int m_fault, .ref mwords, .ref mtold, .ref mop, .ref marg, .int m_codes, .ref mnames, .ref mhasHabit, .int m_isNew, .ref mfactWords, .ref mfacts, .ref mpile, .ref mstates, .ref misMarked, .int m_inShelf, .int m_inStack, .int m_inPlace, .ref mrow, .int m_rowMany, .ref mthr, .ref mmays, .ref mtall, .ref mweights, .ref mrowOfWare, .ref mneededOf, .int m_goShelf, .int m_goStack, .int m_goLeft, .ref mtried, .ref mbestRow, .int m_bestCost, .int m_bestMany, .int m_bestShelf, .int m_bestSet, .ref mdigits])), (mtold, .inl (cyI, 240, .inl m_told))] (fun u => some (.int (u.2.1 0))) (fun u => ((u.2.1 0).toInt = wM (p0).toInt (p1).toInt m_told)) (fun u => [(m0, .inr (11, [.int 0, .ref mtape, .int m_taped, .int m_size, .ref msort, .ref mplace, .ref mvalue, .int m_at, .int m_fault, .ref mwords, .ref mtold, .ref mop, .ref marg, .int m_codes, .ref mnames, .ref mhasHabit, .int m_isNew, .ref mfactWords, .ref mfacts, .ref mpile, .ref mstates, .ref misMarked, .int m_inShelf, .int m_inStack, .int m_inPlace, .ref mrow, .int m_rowMany, .ref mthr, .ref mmays, .ref mtall, .ref mweights, .ref mrowOfWare, .ref mneededOf, .int m_goShelf, .int m_goStack, .int m_goLeft, .ref mtried, .ref mbestRow, .int m_bestCost, .int m_bestMany, .int m_bestShelf, .int m_bestSet, .ref mdigits])), (mtold, .inl (cyI, 240, .inl m_told))]) := by
  refine KK.of (lv0 := [(0, .ref m0), (1, .int p0), (2, .int p1)]) (by decide) rfl (Nat.le_of_ble_eq_true rfl) ?_
  intro p e s m args below meth c A C hr hk hin
  refine j_aload_n (pc := 0) C dX11_ware_0 rfl 0 rfl ?_
  refine j_iconst (pc := 1) (v := 0) C dX11_ware_1 (by decide) ?_
  refine j_put (pc := 2) (ci := 11) (v := .int 0) (ws' := [(m0, .inr (11, [.int 0, .ref mtape, .int m_taped, .int m_size, .ref msort, .ref mplace, .ref mvalue, .int m_at, .int m_fault, .ref mwords, .ref mtold, .ref mop, .ref marg, .int m_codes, .ref mnames, .ref mhasHabit, .int m_isNew, .ref mfactWords, .ref mfacts, .ref mpile, .ref mstates, .ref misMarked, .int m_inShelf, .int m_inStack, .int m_inPlace, .ref mrow, .int m_rowMany, .ref mthr, .ref mmays, .ref mtall, .ref mweights, .ref mrowOfWare, .ref mneededOf, .int m_goShelf, .int m_goStack, .int m_goLeft, .ref mtried, .ref mbestRow, .int m_bestCost, .int m_bestMany, .int m_bestShelf, .int m_bestSet, .ref mdigits])), (mtold, .inl (cyI, 240, .inl m_told))]) C inw_11 0 rfl rfl 0 (by decide) wd_629 rfl tyX11_ok nmX11 rfl (tyX11_ok 0 (by decide)) rfl rfl (Nat.le_of_ble_eq_true rfl) dX11_ware_2 rfl ?_
  refine j_aload_n (pc := 5) C dX11_ware_5 rfl 0 rfl ?_
  refine j_iload_n (pc := 6) C dX11_ware_6 rfl 1 rfl ?_
  refine j_callV (pc := 7) (As := [.int p0]) (rest := []) (wr := []) C (c_X11_isWare l D cyC cyI cyJ cyZ cyO m0 mtold mtape msort mplace mvalue mwords mop marg mnames mhasHabit mfactWords mfacts mpile mstates misMarked mrow mthr mmays mtall mweights mrowOfWare mneededOf mtried mbestRow mdigits p0 0 m_taped m_size m_at m_fault m_codes m_isNew m_inShelf m_inStack m_inPlace m_rowMany m_goShelf m_goStack m_goLeft m_bestCost m_bestMany m_bestShelf m_bestSet m_told h_m_taped h_m_size h_m_at h_m_fault h_m_codes h_m_isNew h_m_inShelf h_m_inStack h_m_inPlace h_m_rowMany h_m_goShelf h_m_bestMany h_m_bestShelf h_m_told) wd_814 wd_624 wd_815 wd_816 wd_817 ⟨by decide, by decide, rfl⟩ rfl ⟨rfl, rfl, by decide, by decide⟩ ⟨by decide, by decide⟩ [0, 1] [] rfl rfl ⟨by decide, by decide, by decide⟩ 0 rfl rfl rfl (Nat.le_of_ble_eq_true rfl) dX11_ware_7 (fun u_1 hw_2 => ?_)
  refine j_eq (ws2 := [(m0, .inr (11, [.int 0, .ref mtape, .int m_taped, .int m_size, .ref msort, .ref mplace, .ref mvalue, .int m_at, .int m_fault, .ref mwords, .ref mtold, .ref mop, .ref marg, .int m_codes, .ref mnames, .ref mhasHabit, .int m_isNew, .ref mfactWords, .ref mfacts, .ref mpile, .ref mstates, .ref misMarked, .int m_inShelf, .int m_inStack, .int m_inPlace, .ref mrow, .int m_rowMany, .ref mthr, .ref mmays, .ref mtall, .ref mweights, .ref mrowOfWare, .ref mneededOf, .int m_goShelf, .int m_goStack, .int m_goLeft, .ref mtried, .ref mbestRow, .int m_bestCost, .int m_bestMany, .int m_bestShelf, .int m_bestSet, .ref mdigits])), (mtold, .inl (cyI, 240, .inl m_told))]) (pc2 := 10) (lv2 := [(0, .ref m0), (1, .int p0), (2, .int p1)]) (st2 := [.int (u_1.2.1 0)]) rfl rfl rfl rfl ?_
  obtain ⟨hw_2_0, hw_2_1, hw_2_2⟩ := hw_2
  refine j_if_eq (pc := 10) (tgt := 32) C dX11_ware_10 (by decide) (fun c_3 => ?_) (fun c_3 => ?_)
  · skip
    have el_0 : (0 : Int32).toInt = 0 := rfl
    rw [i_eq] at c_3
    refine j_iconst (pc := 32) (v := (-1)) C dX11_ware_32 (by decide) ?_
    have el_m1 : ((-1) : Int32).toInt = (-1) := rfl
    exact j_iret (pc := 33) C hr hk (fun i => [].getD i 0, fun i => [(-1)].getD i 0, fun i => [].getD i (fun _ => 0), fun i => [].getD i (fun _ => 0)) rfl (show (((-1) : Int32).toInt = wM (p0).toInt (p1).toInt m_told) from ((by have z9 : wM (p0).toInt (p1).toInt m_told = -1 := if_neg (by omega); omega))) [0, 1] (by decide) rfl (by decide) (by decide) dX11_ware_33
  · skip
    have el_0 : (0 : Int32).toInt = 0 := rfl
    rw [i_eq] at c_3
    have k0c_3 : ((u_1.2.1 0)).toInt = 1 := by omega
    refine j_iload_n (pc := 13) C dX11_ware_13 rfl 2 rfl ?_
    refine j_iconst (pc := 14) (v := 0) C dX11_ware_14 (by decide) ?_
    refine j_bipush (pc := 15) (v := 7) C dX11_ware_15 (by decide) ?_
    refine j_callS (pc := 17) (As := [.int p1, .int 0, .int 7]) (rest := []) (wr := [(m0, .inr (11, [.int 0, .ref mtape, .int m_taped, .int m_size, .ref msort, .ref mplace, .ref mvalue, .int m_at, .int m_fault, .ref mwords, .ref mtold, .ref mop, .ref marg, .int m_codes, .ref mnames, .ref mhasHabit, .int m_isNew, .ref mfactWords, .ref mfacts, .ref mpile, .ref mstates, .ref misMarked, .int m_inShelf, .int m_inStack, .int m_inPlace, .ref mrow, .int m_rowMany, .ref mthr, .ref mmays, .ref mtall, .ref mweights, .ref mrowOfWare, .ref mneededOf, .int m_goShelf, .int m_goStack, .int m_goLeft, .ref mtried, .ref mbestRow, .int m_bestCost, .int m_bestMany, .int m_bestShelf, .int m_bestSet, .ref mdigits])), (mtold, .inl (cyI, 240, .inl m_told))]) C (c_X11_within_f l D cyC cyI cyJ cyZ cyO p1 0 7) wd_818 wd_624 wd_819 wd_820 ⟨by decide, by decide, rfl⟩ rfl ⟨rfl, rfl, by decide, by decide⟩ ⟨by decide, by decide⟩ [] [0, 1] rfl rfl ⟨by decide, by decide, by decide⟩ rfl (Nat.le_of_ble_eq_true rfl) dX11_ware_17 (fun u_4 hw_5 => ?_)
    refine j_eq (ws2 := [(m0, .inr (11, [.int 0, .ref mtape, .int m_taped, .int m_size, .ref msort, .ref mplace, .ref mvalue, .int m_at, .int m_fault, .ref mwords, .ref mtold, .ref mop, .ref marg, .int m_codes, .ref mnames, .ref mhasHabit, .int m_isNew, .ref mfactWords, .ref mfacts, .ref mpile, .ref mstates, .ref misMarked, .int m_inShelf, .int m_inStack, .int m_inPlace, .ref mrow, .int m_rowMany, .ref mthr, .ref mmays, .ref mtall, .ref mweights, .ref mrowOfWare, .ref mneededOf, .int m_goShelf, .int m_goStack, .int m_goLeft, .ref mtried, .ref mbestRow, .int m_bestCost, .int m_bestMany, .int m_bestShelf, .int m_bestSet, .ref mdigits])), (mtold, .inl (cyI, 240, .inl m_told))]) (pc2 := 20) (lv2 := [(0, .ref m0), (1, .int p0), (2, .int p1)]) (st2 := [.int (u_4.2.1 0)]) rfl rfl rfl rfl ?_
    obtain ⟨hw_5_0, hw_5_1, hw_5_2⟩ := hw_5
    have el_0 : (0 : Int32).toInt = 0 := rfl
    have el_7 : (7 : Int32).toInt = 7 := rfl
    refine j_if_eq (pc := 20) (tgt := 32) C dX11_ware_20 (by decide) (fun c_6 => ?_) (fun c_6 => ?_)
    · skip
      have el_0 : (0 : Int32).toInt = 0 := rfl
      rw [i_eq] at c_6
      refine j_iconst (pc := 32) (v := (-1)) C dX11_ware_32 (by decide) ?_
      have el_m1 : ((-1) : Int32).toInt = (-1) := rfl
      exact j_iret (pc := 33) C hr hk (fun i => [].getD i 0, fun i => [(-1)].getD i 0, fun i => [].getD i (fun _ => 0), fun i => [].getD i (fun _ => 0)) rfl (show (((-1) : Int32).toInt = wM (p0).toInt (p1).toInt m_told) from ((by have z9 : wM (p0).toInt (p1).toInt m_told = -1 := if_neg (by omega); omega))) [0, 1] (by decide) rfl (by decide) (by decide) dX11_ware_33
    · skip
      have el_0 : (0 : Int32).toInt = 0 := rfl
      rw [i_eq] at c_6
      have k0c_6 : ((u_4.2.1 0)).toInt = 1 := by omega
      refine j_aload_n (pc := 23) C dX11_ware_23 rfl 0 rfl ?_
      refine j_iload_n (pc := 24) C dX11_ware_24 rfl 1 rfl ?_
      refine j_iload_n (pc := 25) C dX11_ware_25 rfl 2 rfl ?_
      refine j_callV (pc := 26) (As := [.int p0, .int p1]) (rest := []) (wr := []) C (c_X11_wareOf l D cyC cyI cyJ cyZ cyO m0 mtold mtape msort mplace mvalue mwords mop marg mnames mhasHabit mfactWords mfacts mpile mstates misMarked mrow mthr mmays mtall mweights mrowOfWare mneededOf mtried mbestRow mdigits p0 p1 0 m_taped m_size m_at m_fault m_codes m_isNew m_inShelf m_inStack m_inPlace m_rowMany m_goShelf m_goStack m_goLeft m_bestCost m_bestMany m_bestShelf m_bestSet m_told h_m_taped h_m_size h_m_at h_m_fault h_m_codes h_m_isNew h_m_inShelf h_m_inStack h_m_inPlace h_m_rowMany h_m_goShelf h_m_bestMany h_m_bestShelf (by omega) (by omega) h_m_told) wd_756 wd_624 wd_757 wd_758 wd_759 ⟨by decide, by decide, rfl⟩ rfl ⟨rfl, rfl, by decide, by decide⟩ ⟨by decide, by decide⟩ [0, 1] [] rfl rfl ⟨by decide, by decide, by decide⟩ 0 rfl rfl rfl (Nat.le_of_ble_eq_true rfl) dX11_ware_26 (fun u_7 hw_8 => ?_)
      refine j_eq (ws2 := [(m0, .inr (11, [.int 0, .ref mtape, .int m_taped, .int m_size, .ref msort, .ref mplace, .ref mvalue, .int m_at, .int m_fault, .ref mwords, .ref mtold, .ref mop, .ref marg, .int m_codes, .ref mnames, .ref mhasHabit, .int m_isNew, .ref mfactWords, .ref mfacts, .ref mpile, .ref mstates, .ref misMarked, .int m_inShelf, .int m_inStack, .int m_inPlace, .ref mrow, .int m_rowMany, .ref mthr, .ref mmays, .ref mtall, .ref mweights, .ref mrowOfWare, .ref mneededOf, .int m_goShelf, .int m_goStack, .int m_goLeft, .ref mtried, .ref mbestRow, .int m_bestCost, .int m_bestMany, .int m_bestShelf, .int m_bestSet, .ref mdigits])), (mtold, .inl (cyI, 240, .inl m_told))]) (pc2 := 29) (lv2 := [(0, .ref m0), (1, .int p0), (2, .int p1)]) (st2 := [.int (u_7.2.1 0)]) rfl rfl rfl rfl ?_
      obtain ⟨hw_8_0, hw_8_1⟩ := hw_8
      refine j_goto (pc := 29) (tgt := 33) C dX11_ware_29 (by decide) ?_
      exact j_iret (pc := 33) C hr hk (fun i => [].getD i 0, fun i => [(u_7.2.1 0)].getD i 0, fun i => [].getD i (fun _ => 0), fun i => [].getD i (fun _ => 0)) rfl (show ((u_7.2.1 0).toInt = wM (p0).toInt (p1).toInt m_told) from ((by have z8 := congrArg Int32.toInt hw_8_1; have z9 : wM (p0).toInt (p1).toInt m_told = (m_told (3 + 8 * (p0).toInt.toNat + (p1).toInt.toNat)).toInt := if_pos (by omega); omega))) [0, 1] (by decide) rfl (by decide) (by decide) dX11_ware_33
set_option maxHeartbeats 4000000 in
set_option maxRecDepth 100000 in
theorem c_X11_may (l : Launch) (D : DG) (cyC cyI cyJ cyZ cyO : ClassId) (m0 : Nat) (mtold : Nat) (mop : Nat) (marg : Nat) (mfacts : Nat) (mpile : Nat) (mtape : Nat) (msort : Nat) (mplace : Nat) (mvalue : Nat) (mwords : Nat) (mnames : Nat) (mhasHabit : Nat) (mfactWords : Nat) (mstates : Nat) (misMarked : Nat) (mrow : Nat) (mthr : Nat) (mmays : Nat) (mtall : Nat) (mweights : Nat) (mrowOfWare : Nat) (mneededOf : Nat) (mtried : Nat) (mbestRow : Nat) (mdigits : Nat) (p0 : Int32) (p1 : Int32) (m_thrown : Int32) (m_taped : Int32) (m_size : Int32) (m_at : Int32) (m_fault : Int32) (m_codes : Int32) (m_isNew : Int32) (m_inShelf : Int32) (m_inStack : Int32) (m_inPlace : Int32) (m_rowMany : Int32) (m_goShelf : Int32) (m_goStack : Int32) (m_goLeft : Int32) (m_bestCost : Int32) (m_bestMany : Int32) (m_bestShelf : Int32) (m_bestSet : Int32) (m_told : Nat → Int32) (m_op : Nat → Int32) (m_arg : Nat → Int32) (m_facts : Nat → Int32) (m_pile : Nat → Int32) (h_m_taped : 0 ≤ (m_taped).toInt ∧ (m_taped).toInt ≤ 1000) (h_m_size : 0 ≤ (m_size).toInt ∧ (m_size).toInt ≤ 1000) (h_m_at : 0 ≤ (m_at).toInt ∧ (m_at).toInt ≤ 1000) (h_m_fault : 0 ≤ (m_fault).toInt ∧ (m_fault).toInt ≤ 16005) (h_m_codes : 0 ≤ (m_codes).toInt ∧ (m_codes).toInt ≤ 1000) (h_m_isNew : 0 ≤ (m_isNew).toInt ∧ (m_isNew).toInt ≤ 1) (h_m_inShelf : 0 ≤ (m_inShelf).toInt ∧ (m_inShelf).toInt ≤ 3) (h_m_inStack : 0 ≤ (m_inStack).toInt ∧ (m_inStack).toInt ≤ 7) (h_m_inPlace : 0 ≤ (m_inPlace).toInt ∧ (m_inPlace).toInt ≤ 11) (h_m_rowMany : 0 ≤ (m_rowMany).toInt ∧ (m_rowMany).toInt ≤ 12) (h_m_goShelf : -1 ≤ (m_goShelf).toInt ∧ (m_goShelf).toInt ≤ 3) (h_m_bestMany : 0 ≤ (m_bestMany).toInt ∧ (m_bestMany).toInt ≤ 7) (h_m_bestShelf : 0 ≤ (m_bestShelf).toInt ∧ (m_bestShelf).toInt ≤ 3) (h_m_told : TV m_told) (hwf : WFm m_told m_op m_arg) : KK l D (TY cyC cyI cyJ cyZ cyO) yX11_may cX11_may 3 (some .int) ({ frames := 3, cells := 0, slots := 0, locals := 70 } : Room) 0 0 [.ref m0, .int p0, .int p1] [(m0, .inr (11, [.int m_thrown, .ref mtape, .int m_taped, .int m_size, .ref msort, .ref mplace, .ref mvalue, .int m_at, .int m_fault, .ref mwords, .ref mtold, .ref mop, .ref marg, .int m_codes, .ref mnames, .ref mhasHabit, .int m_isNew, .ref mfactWords, .ref mfacts, .ref mpile, .ref mstates, .ref misMarked, .int m_inShelf, .int m_inStack, .int m_inPlace, .ref mrow, .int m_rowMany, .ref mthr, .ref mmays, .ref mtall, .ref mweights, .ref mrowOfWare, .ref mneededOf, .int m_goShelf, .int m_goStack, .int m_goLeft, .ref mtried, .ref mbestRow, .int m_bestCost, .int m_bestMany, .int m_bestShelf, .int m_bestSet, .ref mdigits])), (mtold, .inl (cyI, 240, .inl m_told)), (mop, .inl (cyI, 2200, .inl m_op)), (marg, .inl (cyI, 2200, .inl m_arg)), (mfacts, .inl (cyI, 8, .inl m_facts)), (mpile, .inl (cyI, 1100, .inl m_pile))] (fun u => some (.int (u.2.1 0))) (fun u => (∀ E : (Nat → (Nat → Int32) → Int32), ME6 m_told m_op m_arg E → (u.2.1 0).toInt = maR m_told E (p0).toInt (p1).toInt)) (fun u => [(m0, .inr (11, [.int 0, .ref mtape, .int m_taped, .int m_size, .ref msort, .ref mplace, .ref mvalue, .int m_at, .int m_fault, .ref mwords, .ref mtold, .ref mop, .ref marg, .int m_codes, .ref mnames, .ref mhasHabit, .int m_isNew, .ref mfactWords, .ref mfacts, .ref mpile, .ref mstates, .ref misMarked, .int m_inShelf, .int m_inStack, .int m_inPlace, .ref mrow, .int m_rowMany, .ref mthr, .ref mmays, .ref mtall, .ref mweights, .ref mrowOfWare, .ref mneededOf, .int m_goShelf, .int m_goStack, .int m_goLeft, .ref mtried, .ref mbestRow, .int m_bestCost, .int m_bestMany, .int m_bestShelf, .int m_bestSet, .ref mdigits])), (mtold, .inl (cyI, 240, .inl m_told)), (mop, .inl (cyI, 2200, .inl m_op)), (marg, .inl (cyI, 2200, .inl m_arg)), (mfacts, .inl (cyI, 8, .inl (u.2.2.1 0))), (mpile, .inl (cyI, 1100, .inl (u.2.2.1 1)))]) := by
  refine KK.of (lv0 := [(0, .ref m0), (1, .int p0), (2, .int p1)]) (by decide) rfl (Nat.le_of_ble_eq_true rfl) ?_
  intro p e s m args below meth c A C hr hk hin
  refine j_aload_n (pc := 0) C dX11_may_0 rfl 0 rfl ?_
  refine j_iconst (pc := 1) (v := 0) C dX11_may_1 (by decide) ?_
  refine j_put (pc := 2) (ci := 11) (v := .int 0) (ws' := [(m0, .inr (11, [.int 0, .ref mtape, .int m_taped, .int m_size, .ref msort, .ref mplace, .ref mvalue, .int m_at, .int m_fault, .ref mwords, .ref mtold, .ref mop, .ref marg, .int m_codes, .ref mnames, .ref mhasHabit, .int m_isNew, .ref mfactWords, .ref mfacts, .ref mpile, .ref mstates, .ref misMarked, .int m_inShelf, .int m_inStack, .int m_inPlace, .ref mrow, .int m_rowMany, .ref mthr, .ref mmays, .ref mtall, .ref mweights, .ref mrowOfWare, .ref mneededOf, .int m_goShelf, .int m_goStack, .int m_goLeft, .ref mtried, .ref mbestRow, .int m_bestCost, .int m_bestMany, .int m_bestShelf, .int m_bestSet, .ref mdigits])), (mtold, .inl (cyI, 240, .inl m_told)), (mop, .inl (cyI, 2200, .inl m_op)), (marg, .inl (cyI, 2200, .inl m_arg)), (mfacts, .inl (cyI, 8, .inl m_facts)), (mpile, .inl (cyI, 1100, .inl m_pile))]) C inw_11 0 rfl rfl 0 (by decide) wd_629 rfl tyX11_ok nmX11 rfl (tyX11_ok 0 (by decide)) rfl rfl (Nat.le_of_ble_eq_true rfl) dX11_may_2 rfl ?_
  refine j_aload_n (pc := 5) C dX11_may_5 rfl 0 rfl ?_
  refine j_iload_n (pc := 6) C dX11_may_6 rfl 1 rfl ?_
  refine j_callV (pc := 7) (As := [.int p0]) (rest := []) (wr := [(mop, .inl (cyI, 2200, .inl m_op)), (marg, .inl (cyI, 2200, .inl m_arg)), (mfacts, .inl (cyI, 8, .inl m_facts)), (mpile, .inl (cyI, 1100, .inl m_pile))]) C (c_X11_isWare l D cyC cyI cyJ cyZ cyO m0 mtold mtape msort mplace mvalue mwords mop marg mnames mhasHabit mfactWords mfacts mpile mstates misMarked mrow mthr mmays mtall mweights mrowOfWare mneededOf mtried mbestRow mdigits p0 0 m_taped m_size m_at m_fault m_codes m_isNew m_inShelf m_inStack m_inPlace m_rowMany m_goShelf m_goStack m_goLeft m_bestCost m_bestMany m_bestShelf m_bestSet m_told h_m_taped h_m_size h_m_at h_m_fault h_m_codes h_m_isNew h_m_inShelf h_m_inStack h_m_inPlace h_m_rowMany h_m_goShelf h_m_bestMany h_m_bestShelf h_m_told) wd_814 wd_624 wd_815 wd_816 wd_817 ⟨by decide, by decide, rfl⟩ rfl ⟨rfl, rfl, by decide, by decide⟩ ⟨by decide, by decide⟩ [0, 1] [2, 3, 4, 5] rfl rfl ⟨by decide, by decide, by decide⟩ 0 rfl rfl rfl (Nat.le_of_ble_eq_true rfl) dX11_may_7 (fun u_1 hw_2 => ?_)
  refine j_eq (ws2 := [(mop, .inl (cyI, 2200, .inl m_op)), (marg, .inl (cyI, 2200, .inl m_arg)), (mfacts, .inl (cyI, 8, .inl m_facts)), (mpile, .inl (cyI, 1100, .inl m_pile)), (m0, .inr (11, [.int 0, .ref mtape, .int m_taped, .int m_size, .ref msort, .ref mplace, .ref mvalue, .int m_at, .int m_fault, .ref mwords, .ref mtold, .ref mop, .ref marg, .int m_codes, .ref mnames, .ref mhasHabit, .int m_isNew, .ref mfactWords, .ref mfacts, .ref mpile, .ref mstates, .ref misMarked, .int m_inShelf, .int m_inStack, .int m_inPlace, .ref mrow, .int m_rowMany, .ref mthr, .ref mmays, .ref mtall, .ref mweights, .ref mrowOfWare, .ref mneededOf, .int m_goShelf, .int m_goStack, .int m_goLeft, .ref mtried, .ref mbestRow, .int m_bestCost, .int m_bestMany, .int m_bestShelf, .int m_bestSet, .ref mdigits])), (mtold, .inl (cyI, 240, .inl m_told))]) (pc2 := 10) (lv2 := [(0, .ref m0), (1, .int p0), (2, .int p1)]) (st2 := [.int (u_1.2.1 0)]) rfl rfl rfl rfl ?_
  obtain ⟨hw_2_0, hw_2_1, hw_2_2⟩ := hw_2
  refine j_if_eq (pc := 10) (tgt := 43) C dX11_may_10 (by decide) (fun c_3 => ?_) (fun c_3 => ?_)
  · skip
    have el_0 : (0 : Int32).toInt = 0 := rfl
    rw [i_eq] at c_3
    refine j_iconst (pc := 43) (v := (-1)) C dX11_may_43 (by decide) ?_
    have el_m1 : ((-1) : Int32).toInt = (-1) := rfl
    exact j_iret (pc := 44) C hr hk (fun i => [].getD i 0, fun i => [(-1)].getD i 0, fun i => [m_facts, m_pile].getD i (fun _ => 0), fun i => [].getD i (fun _ => 0)) rfl (show (∀ E : (Nat → (Nat → Int32) → Int32), ME6 m_told m_op m_arg E → ((-1) : Int32).toInt = maR m_told E (p0).toInt (p1).toInt) from ((fun E hE => by have z9 : maR m_told E (p0).toInt (p1).toInt = -1 := if_neg (by have i0 := hw_2_1; have j0 := hw_2_2; omega); rw [z9]; rfl))) [4, 5, 0, 1, 2, 3] (by decide) rfl (by decide) (by decide) dX11_may_44
  · skip
    have el_0 : (0 : Int32).toInt = 0 := rfl
    rw [i_eq] at c_3
    have k0c_3 : ((u_1.2.1 0)).toInt = 1 := by omega
    refine j_aload_n (pc := 13) C dX11_may_13 rfl 0 rfl ?_
    refine j_iload_n (pc := 14) C dX11_may_14 rfl 2 rfl ?_
    refine j_callV (pc := 15) (As := [.int p1]) (rest := []) (wr := [(mop, .inl (cyI, 2200, .inl m_op)), (marg, .inl (cyI, 2200, .inl m_arg)), (mfacts, .inl (cyI, 8, .inl m_facts)), (mpile, .inl (cyI, 1100, .inl m_pile))]) C (c_X11_isWare l D cyC cyI cyJ cyZ cyO m0 mtold mtape msort mplace mvalue mwords mop marg mnames mhasHabit mfactWords mfacts mpile mstates misMarked mrow mthr mmays mtall mweights mrowOfWare mneededOf mtried mbestRow mdigits p1 0 m_taped m_size m_at m_fault m_codes m_isNew m_inShelf m_inStack m_inPlace m_rowMany m_goShelf m_goStack m_goLeft m_bestCost m_bestMany m_bestShelf m_bestSet m_told h_m_taped h_m_size h_m_at h_m_fault h_m_codes h_m_isNew h_m_inShelf h_m_inStack h_m_inPlace h_m_rowMany h_m_goShelf h_m_bestMany h_m_bestShelf h_m_told) wd_814 wd_624 wd_815 wd_816 wd_817 ⟨by decide, by decide, rfl⟩ rfl ⟨rfl, rfl, by decide, by decide⟩ ⟨by decide, by decide⟩ [4, 5] [0, 1, 2, 3] rfl rfl ⟨by decide, by decide, by decide⟩ 4 rfl rfl rfl (Nat.le_of_ble_eq_true rfl) dX11_may_15 (fun u_4 hw_5 => ?_)
    refine j_eq (ws2 := [(mop, .inl (cyI, 2200, .inl m_op)), (marg, .inl (cyI, 2200, .inl m_arg)), (mfacts, .inl (cyI, 8, .inl m_facts)), (mpile, .inl (cyI, 1100, .inl m_pile)), (m0, .inr (11, [.int 0, .ref mtape, .int m_taped, .int m_size, .ref msort, .ref mplace, .ref mvalue, .int m_at, .int m_fault, .ref mwords, .ref mtold, .ref mop, .ref marg, .int m_codes, .ref mnames, .ref mhasHabit, .int m_isNew, .ref mfactWords, .ref mfacts, .ref mpile, .ref mstates, .ref misMarked, .int m_inShelf, .int m_inStack, .int m_inPlace, .ref mrow, .int m_rowMany, .ref mthr, .ref mmays, .ref mtall, .ref mweights, .ref mrowOfWare, .ref mneededOf, .int m_goShelf, .int m_goStack, .int m_goLeft, .ref mtried, .ref mbestRow, .int m_bestCost, .int m_bestMany, .int m_bestShelf, .int m_bestSet, .ref mdigits])), (mtold, .inl (cyI, 240, .inl m_told))]) (pc2 := 18) (lv2 := [(0, .ref m0), (1, .int p0), (2, .int p1)]) (st2 := [.int (u_4.2.1 0)]) rfl rfl rfl rfl ?_
    obtain ⟨hw_5_0, hw_5_1, hw_5_2⟩ := hw_5
    refine j_if_eq (pc := 18) (tgt := 43) C dX11_may_18 (by decide) (fun c_6 => ?_) (fun c_6 => ?_)
    · skip
      have el_0 : (0 : Int32).toInt = 0 := rfl
      rw [i_eq] at c_6
      refine j_iconst (pc := 43) (v := (-1)) C dX11_may_43 (by decide) ?_
      have el_m1 : ((-1) : Int32).toInt = (-1) := rfl
      exact j_iret (pc := 44) C hr hk (fun i => [].getD i 0, fun i => [(-1)].getD i 0, fun i => [m_facts, m_pile].getD i (fun _ => 0), fun i => [].getD i (fun _ => 0)) rfl (show (∀ E : (Nat → (Nat → Int32) → Int32), ME6 m_told m_op m_arg E → ((-1) : Int32).toInt = maR m_told E (p0).toInt (p1).toInt) from ((fun E hE => by have z9 : maR m_told E (p0).toInt (p1).toInt = -1 := if_neg (by have i0 := hw_2_1; have j0 := hw_2_2; have i1 := hw_5_1; have j1 := hw_5_2; omega); rw [z9]; rfl))) [4, 5, 0, 1, 2, 3] (by decide) rfl (by decide) (by decide) dX11_may_44
    · skip
      have el_0 : (0 : Int32).toInt = 0 := rfl
      rw [i_eq] at c_6
      have k0c_6 : ((u_4.2.1 0)).toInt = 1 := by omega
      refine j_iload_n (pc := 21) C dX11_may_21 rfl 1 rfl ?_
      refine j_iload_n (pc := 22) C dX11_may_22 rfl 2 rfl ?_
      refine j_icmp_eq (pc := 23) (tgt := 43) C dX11_may_23 (by decide) (fun c_7 => ?_) (fun c_7 => ?_)
      · skip
        rw [i_eq] at c_7
        refine j_iconst (pc := 43) (v := (-1)) C dX11_may_43 (by decide) ?_
        have el_m1 : ((-1) : Int32).toInt = (-1) := rfl
        exact j_iret (pc := 44) C hr hk (fun i => [].getD i 0, fun i => [(-1)].getD i 0, fun i => [m_facts, m_pile].getD i (fun _ => 0), fun i => [].getD i (fun _ => 0)) rfl (show (∀ E : (Nat → (Nat → Int32) → Int32), ME6 m_told m_op m_arg E → ((-1) : Int32).toInt = maR m_told E (p0).toInt (p1).toInt) from ((fun E hE => by have z9 : maR m_told E (p0).toInt (p1).toInt = -1 := if_neg (by have i0 := hw_2_1; have j0 := hw_2_2; have i1 := hw_5_1; have j1 := hw_5_2; omega); rw [z9]; rfl))) [4, 5, 0, 1, 2, 3] (by decide) rfl (by decide) (by decide) dX11_may_44
      · skip
        rw [i_eq] at c_7
        refine j_aload_n (pc := 26) C dX11_may_26 rfl 0 rfl ?_
        refine j_iload_n (pc := 27) C dX11_may_27 rfl 1 rfl ?_
        refine j_iload_n (pc := 28) C dX11_may_28 rfl 2 rfl ?_
        refine j_callV (pc := 29) (As := [.int p0, .int p1]) (rest := []) (wr := []) C (c_X11_mayOn l D cyC cyI cyJ cyZ cyO m0 mtold mop marg mfacts mpile mtape msort mplace mvalue mwords mnames mhasHabit mfactWords mstates misMarked mrow mthr mmays mtall mweights mrowOfWare mneededOf mtried mbestRow mdigits p0 p1 0 m_taped m_size m_at m_fault m_codes m_isNew m_inShelf m_inStack m_inPlace m_rowMany m_goShelf m_goStack m_goLeft m_bestCost m_bestMany m_bestShelf m_bestSet m_told m_op m_arg m_facts m_pile h_m_taped h_m_size h_m_at h_m_fault h_m_codes h_m_isNew h_m_inShelf h_m_inStack h_m_inPlace h_m_rowMany h_m_goShelf h_m_bestMany h_m_bestShelf (by omega) (by omega) h_m_told hwf) wd_810 wd_624 wd_811 wd_812 wd_813 ⟨by decide, by decide, rfl⟩ rfl ⟨rfl, rfl, by decide, by decide⟩ ⟨by decide, by decide⟩ [4, 5, 0, 1, 2, 3] [] rfl rfl ⟨by decide, by decide, by decide⟩ 4 rfl rfl rfl (Nat.le_of_ble_eq_true rfl) dX11_may_29 (fun u_8 hw_9 => ?_)
        refine j_eq (ws2 := [(m0, .inr (11, [.int 0, .ref mtape, .int m_taped, .int m_size, .ref msort, .ref mplace, .ref mvalue, .int m_at, .int m_fault, .ref mwords, .ref mtold, .ref mop, .ref marg, .int m_codes, .ref mnames, .ref mhasHabit, .int m_isNew, .ref mfactWords, .ref mfacts, .ref mpile, .ref mstates, .ref misMarked, .int m_inShelf, .int m_inStack, .int m_inPlace, .ref mrow, .int m_rowMany, .ref mthr, .ref mmays, .ref mtall, .ref mweights, .ref mrowOfWare, .ref mneededOf, .int m_goShelf, .int m_goStack, .int m_goLeft, .ref mtried, .ref mbestRow, .int m_bestCost, .int m_bestMany, .int m_bestShelf, .int m_bestSet, .ref mdigits])), (mtold, .inl (cyI, 240, .inl m_told)), (mop, .inl (cyI, 2200, .inl m_op)), (marg, .inl (cyI, 2200, .inl m_arg)), (mfacts, .inl (cyI, 8, .inl (u_8.2.2.1 0))), (mpile, .inl (cyI, 1100, .inl (u_8.2.2.1 1)))]) (pc2 := 32) (lv2 := [(0, .ref m0), (1, .int p0), (2, .int p1)]) (st2 := [.int (u_8.2.1 0)]) rfl rfl rfl rfl ?_
        obtain ⟨hw_9_0, hw_9_1⟩ := hw_9
        refine j_if_eq (pc := 32) (tgt := 39) C dX11_may_32 (by decide) (fun c_10 => ?_) (fun c_10 => ?_)
        · skip
          have el_0 : (0 : Int32).toInt = 0 := rfl
          rw [i_eq] at c_10
          refine j_iconst (pc := 39) (v := 0) C dX11_may_39 (by decide) ?_
          refine j_goto (pc := 40) (tgt := 44) C dX11_may_40 (by decide) ?_
          have el_0 : (0 : Int32).toInt = 0 := rfl
          exact j_iret (pc := 44) C hr hk (fun i => [].getD i 0, fun i => [0].getD i 0, fun i => [(u_8.2.2.1 0), (u_8.2.2.1 1)].getD i (fun _ => 0), fun i => [].getD i (fun _ => 0)) rfl (show (∀ E : (Nat → (Nat → Int32) → Int32), ME6 m_told m_op m_arg E → (0 : Int32).toInt = maR m_told E (p0).toInt (p1).toInt) from ((fun E hE => by have z8 := hw_9_1 E hE; have z9 : maR m_told E (p0).toInt (p1).toInt = (if mayM m_told E (p0).toInt.toNat (p1).toInt.toNat = true then 1 else 0) := if_pos (by have i0 := hw_2_1; have j0 := hw_2_2; have i1 := hw_5_1; have j1 := hw_5_2; omega); rw [z9, ← z8]; show (0 : Int) = _; omega))) [0, 1, 2, 3, 4, 5] (by decide) rfl (by decide) (by decide) dX11_may_44
        · skip
          have el_0 : (0 : Int32).toInt = 0 := rfl
          rw [i_eq] at c_10
          have k0c_10 : ((u_8.2.1 0)).toInt = 1 := by omega
          refine j_iconst (pc := 35) (v := 1) C dX11_may_35 (by decide) ?_
          refine j_goto (pc := 36) (tgt := 44) C dX11_may_36 (by decide) ?_
          have el_1 : (1 : Int32).toInt = 1 := rfl
          exact j_iret (pc := 44) C hr hk (fun i => [].getD i 0, fun i => [1].getD i 0, fun i => [(u_8.2.2.1 0), (u_8.2.2.1 1)].getD i (fun _ => 0), fun i => [].getD i (fun _ => 0)) rfl (show (∀ E : (Nat → (Nat → Int32) → Int32), ME6 m_told m_op m_arg E → (1 : Int32).toInt = maR m_told E (p0).toInt (p1).toInt) from ((fun E hE => by have z8 := hw_9_1 E hE; have z9 : maR m_told E (p0).toInt (p1).toInt = (if mayM m_told E (p0).toInt.toNat (p1).toInt.toNat = true then 1 else 0) := if_pos (by have i0 := hw_2_1; have j0 := hw_2_2; have i1 := hw_5_1; have j1 := hw_5_2; omega); rw [z9, ← z8]; show (1 : Int) = _; omega))) [0, 1, 2, 3, 4, 5] (by decide) rfl (by decide) (by decide) dX11_may_44
set_option maxHeartbeats 4000000 in
set_option maxRecDepth 100000 in
theorem c_X11_at (l : Launch) (D : DG) (cyC cyI cyJ cyZ cyO : ClassId) (m0 : Nat) (mtold : Nat) (mstates : Nat) (mtape : Nat) (msort : Nat) (mplace : Nat) (mvalue : Nat) (mwords : Nat) (mop : Nat) (marg : Nat) (mnames : Nat) (mhasHabit : Nat) (mfactWords : Nat) (mfacts : Nat) (mpile : Nat) (misMarked : Nat) (mrow : Nat) (mthr : Nat) (mmays : Nat) (mtall : Nat) (mweights : Nat) (mrowOfWare : Nat) (mneededOf : Nat) (mtried : Nat) (mbestRow : Nat) (mdigits : Nat) (p0 : Int32) (p1 : Int32) (p2 : Int32) (m_thrown : Int32) (m_taped : Int32) (m_size : Int32) (m_at : Int32) (m_fault : Int32) (m_codes : Int32) (m_isNew : Int32) (m_inShelf : Int32) (m_inStack : Int32) (m_inPlace : Int32) (m_rowMany : Int32) (m_goShelf : Int32) (m_goStack : Int32) (m_goLeft : Int32) (m_bestCost : Int32) (m_bestMany : Int32) (m_bestShelf : Int32) (m_bestSet : Int32) (m_told : Nat → Int32) (m_states : Nat → Int32) (h_m_taped : 0 ≤ (m_taped).toInt ∧ (m_taped).toInt ≤ 1000) (h_m_size : 0 ≤ (m_size).toInt ∧ (m_size).toInt ≤ 1000) (h_m_at : 0 ≤ (m_at).toInt ∧ (m_at).toInt ≤ 1000) (h_m_fault : 0 ≤ (m_fault).toInt ∧ (m_fault).toInt ≤ 16005) (h_m_codes : 0 ≤ (m_codes).toInt ∧ (m_codes).toInt ≤ 1000) (h_m_isNew : 0 ≤ (m_isNew).toInt ∧ (m_isNew).toInt ≤ 1) (h_m_inShelf : 0 ≤ (m_inShelf).toInt ∧ (m_inShelf).toInt ≤ 3) (h_m_inStack : 0 ≤ (m_inStack).toInt ∧ (m_inStack).toInt ≤ 7) (h_m_inPlace : 0 ≤ (m_inPlace).toInt ∧ (m_inPlace).toInt ≤ 11) (h_m_rowMany : 0 ≤ (m_rowMany).toInt ∧ (m_rowMany).toInt ≤ 12) (h_m_goShelf : -1 ≤ (m_goShelf).toInt ∧ (m_goShelf).toInt ≤ 3) (h_m_bestMany : 0 ≤ (m_bestMany).toInt ∧ (m_bestMany).toInt ≤ 7) (h_m_bestShelf : 0 ≤ (m_bestShelf).toInt ∧ (m_bestShelf).toInt ≤ 3) (h_m_told : TV m_told) (h_m_states : SV m_states) : KK l D (TY cyC cyI cyJ cyZ cyO) yX11_at cX11_at 4 (some .int) ({ frames := 3, cells := 0, slots := 0, locals := 64 } : Room) 0 0 [.ref m0, .int p0, .int p1, .int p2] [(m0, .inr (11, [.int m_thrown, .ref mtape, .int m_taped, .int m_size, .ref msort, .ref mplace, .ref mvalue, .int m_at, .int m_fault, .ref mwords, .ref mtold, .ref mop, .ref marg, .int m_codes, .ref mnames, .ref mhasHabit, .int m_isNew, .ref mfactWords, .ref mfacts, .ref mpile, .ref mstates, .ref misMarked, .int m_inShelf, .int m_inStack, .int m_inPlace, .ref mrow, .int m_rowMany, .ref mthr, .ref mmays, .ref mtall, .ref mweights, .ref mrowOfWare, .ref mneededOf, .int m_goShelf, .int m_goStack, .int m_goLeft, .ref mtried, .ref mbestRow, .int m_bestCost, .int m_bestMany, .int m_bestShelf, .int m_bestSet, .ref mdigits])), (mtold, .inl (cyI, 240, .inl m_told)), (mstates, .inl (cyI, 2760, .inl m_states))] (fun u => some (.int (u.2.1 0))) (fun u => (GRD (0 ≤ (p0).toInt ∧ (p0).toInt < (m_told 1).toInt ∧ 0 ≤ (p1).toInt ∧ (p1).toInt < (m_states (0 + 105 * (p0).toInt.toNat)).toInt) (-1) (fun x => x = atF p2 (fun p => m_states ((105 * (p0).toInt.toNat + 1 + 13 * (p1).toInt.toNat) + 1 + p)) (m_states (105 * (p0).toInt.toNat + 1 + 13 * (p1).toInt.toNat)).toInt) (u.2.1 0).toInt)) (fun u => [(m0, .inr (11, [.int 0, .ref mtape, .int m_taped, .int m_size, .ref msort, .ref mplace, .ref mvalue, .int m_at, .int m_fault, .ref mwords, .ref mtold, .ref mop, .ref marg, .int m_codes, .ref mnames, .ref mhasHabit, .int m_isNew, .ref mfactWords, .ref mfacts, .ref mpile, .ref mstates, .ref misMarked, .int m_inShelf, .int m_inStack, .int m_inPlace, .ref mrow, .int m_rowMany, .ref mthr, .ref mmays, .ref mtall, .ref mweights, .ref mrowOfWare, .ref mneededOf, .int m_goShelf, .int m_goStack, .int m_goLeft, .ref mtried, .ref mbestRow, .int m_bestCost, .int m_bestMany, .int m_bestShelf, .int m_bestSet, .ref mdigits])), (mtold, .inl (cyI, 240, .inl m_told)), (mstates, .inl (cyI, 2760, .inl m_states))]) := by
  refine KK.of (lv0 := [(0, .ref m0), (1, .int p0), (2, .int p1), (3, .int p2)]) (by decide) rfl (Nat.le_of_ble_eq_true rfl) ?_
  intro p e s m args below meth c A C hr hk hin
  refine j_aload_n (pc := 0) C dX11_at_0 rfl 0 rfl ?_
  refine j_iconst (pc := 1) (v := 0) C dX11_at_1 (by decide) ?_
  refine j_put (pc := 2) (ci := 11) (v := .int 0) (ws' := [(m0, .inr (11, [.int 0, .ref mtape, .int m_taped, .int m_size, .ref msort, .ref mplace, .ref mvalue, .int m_at, .int m_fault, .ref mwords, .ref mtold, .ref mop, .ref marg, .int m_codes, .ref mnames, .ref mhasHabit, .int m_isNew, .ref mfactWords, .ref mfacts, .ref mpile, .ref mstates, .ref misMarked, .int m_inShelf, .int m_inStack, .int m_inPlace, .ref mrow, .int m_rowMany, .ref mthr, .ref mmays, .ref mtall, .ref mweights, .ref mrowOfWare, .ref mneededOf, .int m_goShelf, .int m_goStack, .int m_goLeft, .ref mtried, .ref mbestRow, .int m_bestCost, .int m_bestMany, .int m_bestShelf, .int m_bestSet, .ref mdigits])), (mtold, .inl (cyI, 240, .inl m_told)), (mstates, .inl (cyI, 2760, .inl m_states))]) C inw_11 0 rfl rfl 0 (by decide) wd_629 rfl tyX11_ok nmX11 rfl (tyX11_ok 0 (by decide)) rfl rfl (Nat.le_of_ble_eq_true rfl) dX11_at_2 rfl ?_
  refine j_aload_n (pc := 5) C dX11_at_5 rfl 0 rfl ?_
  refine j_iconst (pc := 6) (v := 0) C dX11_at_6 (by decide) ?_
  refine j_iload_n (pc := 7) C dX11_at_7 rfl 1 rfl ?_
  refine j_iload_n (pc := 8) C dX11_at_8 rfl 2 rfl ?_
  refine j_callV (pc := 9) (As := [.int 0, .int p0, .int p1]) (rest := []) (wr := []) C (c_X11_isStack_0 l D cyC cyI cyJ cyZ cyO m0 mtold mstates mtape msort mplace mvalue mwords mop marg mnames mhasHabit mfactWords mfacts mpile misMarked mrow mthr mmays mtall mweights mrowOfWare mneededOf mtried mbestRow mdigits p0 p1 0 m_taped m_size m_at m_fault m_codes m_isNew m_inShelf m_inStack m_inPlace m_rowMany m_goShelf m_goStack m_goLeft m_bestCost m_bestMany m_bestShelf m_bestSet m_told m_states h_m_taped h_m_size h_m_at h_m_fault h_m_codes h_m_isNew h_m_inShelf h_m_inStack h_m_inPlace h_m_rowMany h_m_goShelf h_m_bestMany h_m_bestShelf h_m_told h_m_states) wd_821 wd_624 wd_822 wd_823 wd_824 ⟨by decide, by decide, rfl⟩ rfl ⟨rfl, rfl, by decide, by decide⟩ ⟨by decide, by decide⟩ [0, 1, 2] [] rfl rfl ⟨by decide, by decide, by decide⟩ 0 rfl rfl rfl (Nat.le_of_ble_eq_true rfl) dX11_at_9 (fun u_1 hw_2 => ?_)
  refine j_eq (ws2 := [(m0, .inr (11, [.int 0, .ref mtape, .int m_taped, .int m_size, .ref msort, .ref mplace, .ref mvalue, .int m_at, .int m_fault, .ref mwords, .ref mtold, .ref mop, .ref marg, .int m_codes, .ref mnames, .ref mhasHabit, .int m_isNew, .ref mfactWords, .ref mfacts, .ref mpile, .ref mstates, .ref misMarked, .int m_inShelf, .int m_inStack, .int m_inPlace, .ref mrow, .int m_rowMany, .ref mthr, .ref mmays, .ref mtall, .ref mweights, .ref mrowOfWare, .ref mneededOf, .int m_goShelf, .int m_goStack, .int m_goLeft, .ref mtried, .ref mbestRow, .int m_bestCost, .int m_bestMany, .int m_bestShelf, .int m_bestSet, .ref mdigits])), (mtold, .inl (cyI, 240, .inl m_told)), (mstates, .inl (cyI, 2760, .inl m_states))]) (pc2 := 12) (lv2 := [(0, .ref m0), (1, .int p0), (2, .int p1), (3, .int p2)]) (st2 := [.int (u_1.2.1 0)]) rfl rfl rfl rfl ?_
  obtain ⟨hw_2_0, hw_2_1, hw_2_2⟩ := hw_2
  refine j_if_eq (pc := 12) (tgt := 52) C dX11_at_12 (by decide) (fun c_3 => ?_) (fun c_3 => ?_)
  · skip
    have el_0 : (0 : Int32).toInt = 0 := rfl
    rw [i_eq] at c_3
    refine j_iconst (pc := 52) (v := (-1)) C dX11_at_52 (by decide) ?_
    have el_m1 : ((-1) : Int32).toInt = (-1) := rfl
    exact j_iret (pc := 53) C hr hk (fun i => [].getD i 0, fun i => [(-1)].getD i 0, fun i => [].getD i (fun _ => 0), fun i => [].getD i (fun _ => 0)) rfl (show (GRD (0 ≤ (p0).toInt ∧ (p0).toInt < (m_told 1).toInt ∧ 0 ≤ (p1).toInt ∧ (p1).toInt < (m_states (0 + 105 * (p0).toInt.toNat)).toInt) (-1) (fun x => x = atF p2 (fun p => m_states ((105 * (p0).toInt.toNat + 1 + 13 * (p1).toInt.toNat) + 1 + p)) (m_states (105 * (p0).toInt.toNat + 1 + 13 * (p1).toInt.toNat)).toInt) ((-1) : Int32).toInt) from ((Or.inl ⟨rfl, fun z => hw_2_2 (by omega) z⟩))) [0, 1, 2] (by decide) rfl (by decide) (by decide) dX11_at_53
  · skip
    have el_0 : (0 : Int32).toInt = 0 := rfl
    rw [i_eq] at c_3
    have k0c_3 : ((u_1.2.1 0)).toInt = 1 := by omega
    refine j_iload_n (pc := 15) C dX11_at_15 rfl 3 rfl ?_
    refine j_if_lt (pc := 16) (tgt := 52) C dX11_at_16 (by decide) (fun c_4 => ?_) (fun c_4 => ?_)
    · skip
      have el_0 : (0 : Int32).toInt = 0 := rfl
      rw [i_lt] at c_4
      refine j_iconst (pc := 52) (v := (-1)) C dX11_at_52 (by decide) ?_
      have el_m1 : ((-1) : Int32).toInt = (-1) := rfl
      exact j_iret (pc := 53) C hr hk (fun i => [].getD i 0, fun i => [(-1)].getD i 0, fun i => [].getD i (fun _ => 0), fun i => [].getD i (fun _ => 0)) rfl (show (GRD (0 ≤ (p0).toInt ∧ (p0).toInt < (m_told 1).toInt ∧ 0 ≤ (p1).toInt ∧ (p1).toInt < (m_states (0 + 105 * (p0).toInt.toNat)).toInt) (-1) (fun x => x = atF p2 (fun p => m_states ((105 * (p0).toInt.toNat + 1 + 13 * (p1).toInt.toNat) + 1 + p)) (m_states (105 * (p0).toInt.toNat + 1 + 13 * (p1).toInt.toNat)).toInt) ((-1) : Int32).toInt) from ((Or.inr ⟨⟨by omega, by omega, by omega, by omega⟩, by unfold atF; rw [if_neg (by omega)]; rfl⟩))) [0, 1, 2] (by decide) rfl (by decide) (by decide) dX11_at_53
    · skip
      have el_0 : (0 : Int32).toInt = 0 := rfl
      rw [i_lt] at c_4
      refine j_iload_n (pc := 19) C dX11_at_19 rfl 3 rfl ?_
      refine j_aload_n (pc := 20) C dX11_at_20 rfl 0 rfl ?_
      refine j_get (pc := 21) (ci := 11) (v := .ref mstates) C inw_11 0 rfl rfl 20 (by decide) wd_764 rfl rfl dX11_at_21 ?_
      refine j_iconst (pc := 24) (v := 0) C dX11_at_24 (by decide) ?_
      refine j_iload_n (pc := 25) C dX11_at_25 rfl 1 rfl ?_
      refine j_iload_n (pc := 26) C dX11_at_26 rfl 2 rfl ?_
      refine j_callS (pc := 27) (As := [.int 0, .int p0, .int p1]) (rest := [.ref mstates, .int p2]) (wr := [(m0, .inr (11, [.int 0, .ref mtape, .int m_taped, .int m_size, .ref msort, .ref mplace, .ref mvalue, .int m_at, .int m_fault, .ref mwords, .ref mtold, .ref mop, .ref marg, .int m_codes, .ref mnames, .ref mhasHabit, .int m_isNew, .ref mfactWords, .ref mfacts, .ref mpile, .ref mstates, .ref misMarked, .int m_inShelf, .int m_inStack, .int m_inPlace, .ref mrow, .int m_rowMany, .ref mthr, .ref mmays, .ref mtall, .ref mweights, .ref mrowOfWare, .ref mneededOf, .int m_goShelf, .int m_goStack, .int m_goLeft, .ref mtried, .ref mbestRow, .int m_bestCost, .int m_bestMany, .int m_bestShelf, .int m_bestSet, .ref mdigits])), (mtold, .inl (cyI, 240, .inl m_told)), (mstates, .inl (cyI, 2760, .inl m_states))]) C (c_X11_stackAt l D cyC cyI cyJ cyZ cyO 0 p0 p1 (by decide) (by omega) (by omega)) wd_773 wd_624 wd_774 wd_775 ⟨by decide, by decide, rfl⟩ rfl ⟨rfl, rfl, by decide, by decide⟩ ⟨by decide, by decide⟩ [] [0, 1, 2] rfl rfl ⟨by decide, by decide, by decide⟩ rfl (Nat.le_of_ble_eq_true rfl) dX11_at_27 (fun u_5 hw_6 => ?_)
      refine j_eq (ws2 := [(m0, .inr (11, [.int 0, .ref mtape, .int m_taped, .int m_size, .ref msort, .ref mplace, .ref mvalue, .int m_at, .int m_fault, .ref mwords, .ref mtold, .ref mop, .ref marg, .int m_codes, .ref mnames, .ref mhasHabit, .int m_isNew, .ref mfactWords, .ref mfacts, .ref mpile, .ref mstates, .ref misMarked, .int m_inShelf, .int m_inStack, .int m_inPlace, .ref mrow, .int m_rowMany, .ref mthr, .ref mmays, .ref mtall, .ref mweights, .ref mrowOfWare, .ref mneededOf, .int m_goShelf, .int m_goStack, .int m_goLeft, .ref mtried, .ref mbestRow, .int m_bestCost, .int m_bestMany, .int m_bestShelf, .int m_bestSet, .ref mdigits])), (mtold, .inl (cyI, 240, .inl m_told)), (mstates, .inl (cyI, 2760, .inl m_states))]) (pc2 := 30) (lv2 := [(0, .ref m0), (1, .int p0), (2, .int p1), (3, .int p2)]) (st2 := [.int (u_5.2.1 0), .ref mstates, .int p2]) rfl rfl rfl rfl ?_
      obtain ⟨hw_6_0, hw_6_1⟩ := hw_6
      have el_0 : (0 : Int32).toInt = 0 := rfl
      have ad_7 : AD (u_5.2.1 0).toInt := ⟨0, (p0).toInt.toNat, (p1).toInt.toNat, by decide, by omega, by omega, by omega⟩
      obtain ⟨v_8, ev_8⟩ : ∃ z, m_states ((u_5.2.1 0)).toInt.toNat = z := ⟨_, rfl⟩
      have env_8 : (m_states ((u_5.2.1 0)).toInt.toNat).toInt = v_8.toInt := by rw [ev_8]
      have hv_8 : 0 ≤ v_8.toInt ∧ v_8.toInt ≤ 12 := by rw [← ev_8]; exact SV.siz h_m_states ad_7 (by omega)
      refine j_iald (pc := 30) (v := v_8) (k := ((u_5.2.1 0)).toInt.toNat) C 2 1 rfl rfl (i_nn (by omega)) rfl (i_lt_n (by omega) (by omega)) ev_8 dX11_at_30 ?_
      refine j_icmp_ge (pc := 31) (tgt := 52) C dX11_at_31 (by decide) (fun c_9 => ?_) (fun c_9 => ?_)
      · skip
        rw [i_le] at c_9
        refine j_iconst (pc := 52) (v := (-1)) C dX11_at_52 (by decide) ?_
        have el_m1 : ((-1) : Int32).toInt = (-1) := rfl
        exact j_iret (pc := 53) C hr hk (fun i => [].getD i 0, fun i => [(-1)].getD i 0, fun i => [].getD i (fun _ => 0), fun i => [].getD i (fun _ => 0)) rfl (show (GRD (0 ≤ (p0).toInt ∧ (p0).toInt < (m_told 1).toInt ∧ 0 ≤ (p1).toInt ∧ (p1).toInt < (m_states (0 + 105 * (p0).toInt.toNat)).toInt) (-1) (fun x => x = atF p2 (fun p => m_states ((105 * (p0).toInt.toNat + 1 + 13 * (p1).toInt.toNat) + 1 + p)) (m_states (105 * (p0).toInt.toNat + 1 + 13 * (p1).toInt.toNat)).toInt) ((-1) : Int32).toInt) from ((Or.inr ⟨⟨by omega, by omega, by omega, by omega⟩, by have ea : (m_states (105 * (p0).toInt.toNat + 1 + 13 * (p1).toInt.toNat)).toInt = (v_8).toInt := (by rw [show (105 * (p0).toInt.toNat + 1 + 13 * (p1).toInt.toNat) = ((u_5.2.1 0)).toInt.toNat from (by omega), ev_8]); unfold atF; rw [if_neg (by omega)]; rfl⟩))) [0, 1, 2] (by decide) rfl (by decide) (by decide) dX11_at_53
      · skip
        rw [i_le] at c_9
        refine j_aload_n (pc := 34) C dX11_at_34 rfl 0 rfl ?_
        refine j_get (pc := 35) (ci := 11) (v := .ref mstates) C inw_11 0 rfl rfl 20 (by decide) wd_764 rfl rfl dX11_at_35 ?_
        refine j_iconst (pc := 38) (v := 0) C dX11_at_38 (by decide) ?_
        refine j_iload_n (pc := 39) C dX11_at_39 rfl 1 rfl ?_
        refine j_iload_n (pc := 40) C dX11_at_40 rfl 2 rfl ?_
        refine j_callS (pc := 41) (As := [.int 0, .int p0, .int p1]) (rest := [.ref mstates]) (wr := [(m0, .inr (11, [.int 0, .ref mtape, .int m_taped, .int m_size, .ref msort, .ref mplace, .ref mvalue, .int m_at, .int m_fault, .ref mwords, .ref mtold, .ref mop, .ref marg, .int m_codes, .ref mnames, .ref mhasHabit, .int m_isNew, .ref mfactWords, .ref mfacts, .ref mpile, .ref mstates, .ref misMarked, .int m_inShelf, .int m_inStack, .int m_inPlace, .ref mrow, .int m_rowMany, .ref mthr, .ref mmays, .ref mtall, .ref mweights, .ref mrowOfWare, .ref mneededOf, .int m_goShelf, .int m_goStack, .int m_goLeft, .ref mtried, .ref mbestRow, .int m_bestCost, .int m_bestMany, .int m_bestShelf, .int m_bestSet, .ref mdigits])), (mtold, .inl (cyI, 240, .inl m_told)), (mstates, .inl (cyI, 2760, .inl m_states))]) C (c_X11_stackAt l D cyC cyI cyJ cyZ cyO 0 p0 p1 (by decide) (by omega) (by omega)) wd_773 wd_624 wd_774 wd_775 ⟨by decide, by decide, rfl⟩ rfl ⟨rfl, rfl, by decide, by decide⟩ ⟨by decide, by decide⟩ [] [0, 1, 2] rfl rfl ⟨by decide, by decide, by decide⟩ rfl (Nat.le_of_ble_eq_true rfl) dX11_at_41 (fun u_10 hw_11 => ?_)
        refine j_eq (ws2 := [(m0, .inr (11, [.int 0, .ref mtape, .int m_taped, .int m_size, .ref msort, .ref mplace, .ref mvalue, .int m_at, .int m_fault, .ref mwords, .ref mtold, .ref mop, .ref marg, .int m_codes, .ref mnames, .ref mhasHabit, .int m_isNew, .ref mfactWords, .ref mfacts, .ref mpile, .ref mstates, .ref misMarked, .int m_inShelf, .int m_inStack, .int m_inPlace, .ref mrow, .int m_rowMany, .ref mthr, .ref mmays, .ref mtall, .ref mweights, .ref mrowOfWare, .ref mneededOf, .int m_goShelf, .int m_goStack, .int m_goLeft, .ref mtried, .ref mbestRow, .int m_bestCost, .int m_bestMany, .int m_bestShelf, .int m_bestSet, .ref mdigits])), (mtold, .inl (cyI, 240, .inl m_told)), (mstates, .inl (cyI, 2760, .inl m_states))]) (pc2 := 44) (lv2 := [(0, .ref m0), (1, .int p0), (2, .int p1), (3, .int p2)]) (st2 := [.int (u_10.2.1 0), .ref mstates]) rfl rfl rfl rfl ?_
        obtain ⟨hw_11_0, hw_11_1⟩ := hw_11
        have el_0 : (0 : Int32).toInt = 0 := rfl
        have ad_12 : AD (u_10.2.1 0).toInt := ⟨0, (p0).toInt.toNat, (p1).toInt.toNat, by decide, by omega, by omega, by omega⟩
        refine j_iconst (pc := 44) (v := 1) C dX11_at_44 (by decide) ?_
        obtain ⟨v_13, ev_13⟩ : ∃ z : Int32, (u_10.2.1 0) + 1 = z := ⟨_, rfl⟩
        have el_1 : (1 : Int32).toInt = 1 := rfl
        have hv_13 : v_13.toInt = ((u_10.2.1 0)).toInt + (1 : Int32).toInt := by rw [← ev_13]; exact fb_addI (by omega) (by omega)
        refine j_iadd (pc := 45) (v := v_13) C dX11_at_45 ev_13 ?_
        refine j_iload_n (pc := 46) C dX11_at_46 rfl 3 rfl ?_
        obtain ⟨v_14, ev_14⟩ : ∃ z : Int32, v_13 + p2 = z := ⟨_, rfl⟩
        have hv_14 : v_14.toInt = v_13.toInt + p2.toInt := by rw [← ev_14]; exact fb_addI (by omega) (by omega)
        refine j_iadd (pc := 47) (v := v_14) C dX11_at_47 ev_14 ?_
        obtain ⟨v_15, ev_15⟩ : ∃ z, m_states (v_14).toInt.toNat = z := ⟨_, rfl⟩
        have env_15 : (m_states (v_14).toInt.toNat).toInt = v_15.toInt := by rw [ev_15]
        have hv_15 : 0 ≤ v_15.toInt ∧ v_15.toInt ≤ 11 := by rw [← ev_15]; exact SV.war h_m_states ad_12 (by omega) (by omega)
        refine j_iald (pc := 48) (v := v_15) (k := (v_14).toInt.toNat) C 2 1 rfl rfl (i_nn (by omega)) rfl (i_lt_n (by omega) (by omega)) ev_15 dX11_at_48 ?_
        refine j_goto (pc := 49) (tgt := 53) C dX11_at_49 (by decide) ?_
        exact j_iret (pc := 53) C hr hk (fun i => [].getD i 0, fun i => [v_15].getD i 0, fun i => [].getD i (fun _ => 0), fun i => [].getD i (fun _ => 0)) rfl (show (GRD (0 ≤ (p0).toInt ∧ (p0).toInt < (m_told 1).toInt ∧ 0 ≤ (p1).toInt ∧ (p1).toInt < (m_states (0 + 105 * (p0).toInt.toNat)).toInt) (-1) (fun x => x = atF p2 (fun p => m_states ((105 * (p0).toInt.toNat + 1 + 13 * (p1).toInt.toNat) + 1 + p)) (m_states (105 * (p0).toInt.toNat + 1 + 13 * (p1).toInt.toNat)).toInt) v_15.toInt) from ((Or.inr ⟨⟨by omega, by omega, by omega, by omega⟩, by have ea : (m_states (105 * (p0).toInt.toNat + 1 + 13 * (p1).toInt.toNat)).toInt = (v_8).toInt := (by rw [show (105 * (p0).toInt.toNat + 1 + 13 * (p1).toInt.toNat) = ((u_5.2.1 0)).toInt.toNat from (by omega), ev_8]); unfold atF; rw [if_pos (by omega)]; show _ = (m_states ((105 * (p0).toInt.toNat + 1 + 13 * (p1).toInt.toNat) + 1 + (p2).toInt.toNat)).toInt; rw [show (105 * (p0).toInt.toNat + 1 + 13 * (p1).toInt.toNat) + 1 + (p2).toInt.toNat = (v_14).toInt.toNat from (by omega), ev_15]⟩))) [0, 1, 2] (by decide) rfl (by decide) (by decide) dX11_at_53
set_option maxHeartbeats 4000000 in
set_option maxRecDepth 100000 in
theorem c_X11_stack (l : Launch) (D : DG) (cyC cyI cyJ cyZ cyO : ClassId) (m0 : Nat) (mtold : Nat) (mstates : Nat) (mrow : Nat) (mtape : Nat) (msort : Nat) (mplace : Nat) (mvalue : Nat) (mwords : Nat) (mop : Nat) (marg : Nat) (mnames : Nat) (mhasHabit : Nat) (mfactWords : Nat) (mfacts : Nat) (mpile : Nat) (misMarked : Nat) (mthr : Nat) (mmays : Nat) (mtall : Nat) (mweights : Nat) (mrowOfWare : Nat) (mneededOf : Nat) (mtried : Nat) (mbestRow : Nat) (mdigits : Nat) (p0 : Int32) (p1 : Int32) (p2 : Int32) (m_thrown : Int32) (m_taped : Int32) (m_size : Int32) (m_at : Int32) (m_fault : Int32) (m_codes : Int32) (m_isNew : Int32) (m_inShelf : Int32) (m_inStack : Int32) (m_inPlace : Int32) (m_rowMany : Int32) (m_goShelf : Int32) (m_goStack : Int32) (m_goLeft : Int32) (m_bestCost : Int32) (m_bestMany : Int32) (m_bestShelf : Int32) (m_bestSet : Int32) (m_told : Nat → Int32) (m_states : Nat → Int32) (m_row : Nat → Int32) (h_m_taped : 0 ≤ (m_taped).toInt ∧ (m_taped).toInt ≤ 1000) (h_m_size : 0 ≤ (m_size).toInt ∧ (m_size).toInt ≤ 1000) (h_m_at : 0 ≤ (m_at).toInt ∧ (m_at).toInt ≤ 1000) (h_m_fault : 0 ≤ (m_fault).toInt ∧ (m_fault).toInt ≤ 16005) (h_m_codes : 0 ≤ (m_codes).toInt ∧ (m_codes).toInt ≤ 1000) (h_m_isNew : 0 ≤ (m_isNew).toInt ∧ (m_isNew).toInt ≤ 1) (h_m_inShelf : 0 ≤ (m_inShelf).toInt ∧ (m_inShelf).toInt ≤ 3) (h_m_inStack : 0 ≤ (m_inStack).toInt ∧ (m_inStack).toInt ≤ 7) (h_m_inPlace : 0 ≤ (m_inPlace).toInt ∧ (m_inPlace).toInt ≤ 11) (h_m_rowMany : 0 ≤ (m_rowMany).toInt ∧ (m_rowMany).toInt ≤ 12) (h_m_goShelf : -1 ≤ (m_goShelf).toInt ∧ (m_goShelf).toInt ≤ 3) (h_m_bestMany : 0 ≤ (m_bestMany).toInt ∧ (m_bestMany).toInt ≤ 7) (h_m_bestShelf : 0 ≤ (m_bestShelf).toInt ∧ (m_bestShelf).toInt ≤ 3) (h_m_row : Iv 12 (0) (11) m_row) (h_m_told : TV m_told) (h_m_states : SV m_states) : KK l D (TY cyC cyI cyJ cyZ cyO) yX11_stack cX11_stack 6 (some .int) ({ frames := 4, cells := 0, slots := 0, locals := 90 } : Room) 0 0 [.ref m0, .int p0, .int p1, .int p2] [(m0, .inr (11, [.int m_thrown, .ref mtape, .int m_taped, .int m_size, .ref msort, .ref mplace, .ref mvalue, .int m_at, .int m_fault, .ref mwords, .ref mtold, .ref mop, .ref marg, .int m_codes, .ref mnames, .ref mhasHabit, .int m_isNew, .ref mfactWords, .ref mfacts, .ref mpile, .ref mstates, .ref misMarked, .int m_inShelf, .int m_inStack, .int m_inPlace, .ref mrow, .int m_rowMany, .ref mthr, .ref mmays, .ref mtall, .ref mweights, .ref mrowOfWare, .ref mneededOf, .int m_goShelf, .int m_goStack, .int m_goLeft, .ref mtried, .ref mbestRow, .int m_bestCost, .int m_bestMany, .int m_bestShelf, .int m_bestSet, .ref mdigits])), (mtold, .inl (cyI, 240, .inl m_told)), (mstates, .inl (cyI, 2760, .inl m_states)), (mrow, .inl (cyI, 12, .inl m_row))] (fun u => some (.int (u.2.1 0))) (fun u => (0 ≤ (u.2.1 1).toInt ∧ (u.2.1 1).toInt ≤ 12) ∧ (Iv 12 (0) (11) (u.2.2.1 0)) ∧ (GRD (0 ≤ (p0).toInt ∧ (p0).toInt < (m_told 1).toInt ∧ 0 ≤ (p1).toInt ∧ (p1).toInt < (m_states (0 + 105 * (p0).toInt.toNat)).toInt) (-1) (fun x => x = skF (p2).toInt (m_states (105 * (p0).toInt.toNat + 1 + 13 * (p1).toInt.toNat)).toInt (hiF (rsM m_told) (dpM m_told) (fun p => m_states ((105 * (p0).toInt.toNat + 1 + 13 * (p1).toInt.toNat) + 1 + p)) (m_states (105 * (p0).toInt.toNat + 1 + 13 * (p1).toInt.toNat)).toInt.toNat).toInt (wtF (wtM m_told) (fun p => m_states ((105 * (p0).toInt.toNat + 1 + 13 * (p1).toInt.toNat) + 1 + p)) 0 (m_states (105 * (p0).toInt.toNat + 1 + 13 * (p1).toInt.toNat)).toInt.toNat).toInt) (u.2.1 0).toInt)) (fun u => [(m0, .inr (11, [.int 0, .ref mtape, .int m_taped, .int m_size, .ref msort, .ref mplace, .ref mvalue, .int m_at, .int m_fault, .ref mwords, .ref mtold, .ref mop, .ref marg, .int m_codes, .ref mnames, .ref mhasHabit, .int m_isNew, .ref mfactWords, .ref mfacts, .ref mpile, .ref mstates, .ref misMarked, .int m_inShelf, .int m_inStack, .int m_inPlace, .ref mrow, .int (u.2.1 1), .ref mthr, .ref mmays, .ref mtall, .ref mweights, .ref mrowOfWare, .ref mneededOf, .int m_goShelf, .int m_goStack, .int m_goLeft, .ref mtried, .ref mbestRow, .int m_bestCost, .int m_bestMany, .int m_bestShelf, .int m_bestSet, .ref mdigits])), (mtold, .inl (cyI, 240, .inl m_told)), (mstates, .inl (cyI, 2760, .inl m_states)), (mrow, .inl (cyI, 12, .inl (u.2.2.1 0)))]) := by
  refine KK.of (lv0 := [(0, .ref m0), (1, .int p0), (2, .int p1), (3, .int p2)]) (by decide) rfl (Nat.le_of_ble_eq_true rfl) ?_
  intro p e s m args below meth c A C hr hk hin
  refine j_aload_n (pc := 0) C dX11_stack_0 rfl 0 rfl ?_
  refine j_iconst (pc := 1) (v := 0) C dX11_stack_1 (by decide) ?_
  refine j_put (pc := 2) (ci := 11) (v := .int 0) (ws' := [(m0, .inr (11, [.int 0, .ref mtape, .int m_taped, .int m_size, .ref msort, .ref mplace, .ref mvalue, .int m_at, .int m_fault, .ref mwords, .ref mtold, .ref mop, .ref marg, .int m_codes, .ref mnames, .ref mhasHabit, .int m_isNew, .ref mfactWords, .ref mfacts, .ref mpile, .ref mstates, .ref misMarked, .int m_inShelf, .int m_inStack, .int m_inPlace, .ref mrow, .int m_rowMany, .ref mthr, .ref mmays, .ref mtall, .ref mweights, .ref mrowOfWare, .ref mneededOf, .int m_goShelf, .int m_goStack, .int m_goLeft, .ref mtried, .ref mbestRow, .int m_bestCost, .int m_bestMany, .int m_bestShelf, .int m_bestSet, .ref mdigits])), (mtold, .inl (cyI, 240, .inl m_told)), (mstates, .inl (cyI, 2760, .inl m_states)), (mrow, .inl (cyI, 12, .inl m_row))]) C inw_11 0 rfl rfl 0 (by decide) wd_629 rfl tyX11_ok nmX11 rfl (tyX11_ok 0 (by decide)) rfl rfl (Nat.le_of_ble_eq_true rfl) dX11_stack_2 rfl ?_
  refine j_aload_n (pc := 5) C dX11_stack_5 rfl 0 rfl ?_
  refine j_iconst (pc := 6) (v := 0) C dX11_stack_6 (by decide) ?_
  refine j_iload_n (pc := 7) C dX11_stack_7 rfl 1 rfl ?_
  refine j_iload_n (pc := 8) C dX11_stack_8 rfl 2 rfl ?_
  refine j_callV (pc := 9) (As := [.int 0, .int p0, .int p1]) (rest := []) (wr := [(mrow, .inl (cyI, 12, .inl m_row))]) C (c_X11_isStack_0 l D cyC cyI cyJ cyZ cyO m0 mtold mstates mtape msort mplace mvalue mwords mop marg mnames mhasHabit mfactWords mfacts mpile misMarked mrow mthr mmays mtall mweights mrowOfWare mneededOf mtried mbestRow mdigits p0 p1 0 m_taped m_size m_at m_fault m_codes m_isNew m_inShelf m_inStack m_inPlace m_rowMany m_goShelf m_goStack m_goLeft m_bestCost m_bestMany m_bestShelf m_bestSet m_told m_states h_m_taped h_m_size h_m_at h_m_fault h_m_codes h_m_isNew h_m_inShelf h_m_inStack h_m_inPlace h_m_rowMany h_m_goShelf h_m_bestMany h_m_bestShelf h_m_told h_m_states) wd_821 wd_624 wd_822 wd_823 wd_824 ⟨by decide, by decide, rfl⟩ rfl ⟨rfl, rfl, by decide, by decide⟩ ⟨by decide, by decide⟩ [0, 1, 2] [3] rfl rfl ⟨by decide, by decide, by decide⟩ 0 rfl rfl rfl (Nat.le_of_ble_eq_true rfl) dX11_stack_9 (fun u_1 hw_2 => ?_)
  refine j_eq (ws2 := [(mrow, .inl (cyI, 12, .inl m_row)), (m0, .inr (11, [.int 0, .ref mtape, .int m_taped, .int m_size, .ref msort, .ref mplace, .ref mvalue, .int m_at, .int m_fault, .ref mwords, .ref mtold, .ref mop, .ref marg, .int m_codes, .ref mnames, .ref mhasHabit, .int m_isNew, .ref mfactWords, .ref mfacts, .ref mpile, .ref mstates, .ref misMarked, .int m_inShelf, .int m_inStack, .int m_inPlace, .ref mrow, .int m_rowMany, .ref mthr, .ref mmays, .ref mtall, .ref mweights, .ref mrowOfWare, .ref mneededOf, .int m_goShelf, .int m_goStack, .int m_goLeft, .ref mtried, .ref mbestRow, .int m_bestCost, .int m_bestMany, .int m_bestShelf, .int m_bestSet, .ref mdigits])), (mtold, .inl (cyI, 240, .inl m_told)), (mstates, .inl (cyI, 2760, .inl m_states))]) (pc2 := 12) (lv2 := [(0, .ref m0), (1, .int p0), (2, .int p1), (3, .int p2)]) (st2 := [.int (u_1.2.1 0)]) rfl rfl rfl rfl ?_
  obtain ⟨hw_2_0, hw_2_1, hw_2_2⟩ := hw_2
  refine j_if_eq (pc := 12) (tgt := 24) C dX11_stack_12 (by decide) (fun c_3 => ?_) (fun c_3 => ?_)
  · skip
    have el_0 : (0 : Int32).toInt = 0 := rfl
    rw [i_eq] at c_3
    refine j_iconst (pc := 24) (v := (-1)) C dX11_stack_24 (by decide) ?_
    have el_m1 : ((-1) : Int32).toInt = (-1) := rfl
    exact j_iret (pc := 25) C hr hk (fun i => [].getD i 0, fun i => [(-1), m_rowMany].getD i 0, fun i => [m_row].getD i (fun _ => 0), fun i => [].getD i (fun _ => 0)) rfl (show (0 ≤ (m_rowMany).toInt ∧ (m_rowMany).toInt ≤ 12) ∧ (Iv 12 (0) (11) m_row) ∧ (GRD (0 ≤ (p0).toInt ∧ (p0).toInt < (m_told 1).toInt ∧ 0 ≤ (p1).toInt ∧ (p1).toInt < (m_states (0 + 105 * (p0).toInt.toNat)).toInt) (-1) (fun x => x = skF (p2).toInt (m_states (105 * (p0).toInt.toNat + 1 + 13 * (p1).toInt.toNat)).toInt (hiF (rsM m_told) (dpM m_told) (fun p => m_states ((105 * (p0).toInt.toNat + 1 + 13 * (p1).toInt.toNat) + 1 + p)) (m_states (105 * (p0).toInt.toNat + 1 + 13 * (p1).toInt.toNat)).toInt.toNat).toInt (wtF (wtM m_told) (fun p => m_states ((105 * (p0).toInt.toNat + 1 + 13 * (p1).toInt.toNat) + 1 + p)) 0 (m_states (105 * (p0).toInt.toNat + 1 + 13 * (p1).toInt.toNat)).toInt.toNat).toInt) ((-1) : Int32).toInt) from ⟨h_m_rowMany, h_m_row, (Or.inl ⟨rfl, fun z => hw_2_2 (by omega) z⟩)⟩) [1, 2, 3, 0] (by decide) rfl (by decide) (by decide) dX11_stack_25
  · skip
    have el_0 : (0 : Int32).toInt = 0 := rfl
    rw [i_eq] at c_3
    have k0c_3 : ((u_1.2.1 0)).toInt = 1 := by omega
    refine j_iload_n (pc := 15) C dX11_stack_15 rfl 3 rfl ?_
    refine j_iconst (pc := 16) (v := 0) C dX11_stack_16 (by decide) ?_
    refine j_iconst (pc := 17) (v := 2) C dX11_stack_17 (by decide) ?_
    refine j_callS (pc := 18) (As := [.int p2, .int 0, .int 2]) (rest := []) (wr := [(mrow, .inl (cyI, 12, .inl m_row)), (m0, .inr (11, [.int 0, .ref mtape, .int m_taped, .int m_size, .ref msort, .ref mplace, .ref mvalue, .int m_at, .int m_fault, .ref mwords, .ref mtold, .ref mop, .ref marg, .int m_codes, .ref mnames, .ref mhasHabit, .int m_isNew, .ref mfactWords, .ref mfacts, .ref mpile, .ref mstates, .ref misMarked, .int m_inShelf, .int m_inStack, .int m_inPlace, .ref mrow, .int m_rowMany, .ref mthr, .ref mmays, .ref mtall, .ref mweights, .ref mrowOfWare, .ref mneededOf, .int m_goShelf, .int m_goStack, .int m_goLeft, .ref mtried, .ref mbestRow, .int m_bestCost, .int m_bestMany, .int m_bestShelf, .int m_bestSet, .ref mdigits])), (mtold, .inl (cyI, 240, .inl m_told)), (mstates, .inl (cyI, 2760, .inl m_states))]) C (c_X11_within_f l D cyC cyI cyJ cyZ cyO p2 0 2) wd_818 wd_624 wd_819 wd_820 ⟨by decide, by decide, rfl⟩ rfl ⟨rfl, rfl, by decide, by decide⟩ ⟨by decide, by decide⟩ [] [0, 1, 2, 3] rfl rfl ⟨by decide, by decide, by decide⟩ rfl (Nat.le_of_ble_eq_true rfl) dX11_stack_18 (fun u_4 hw_5 => ?_)
    refine j_eq (ws2 := [(mrow, .inl (cyI, 12, .inl m_row)), (m0, .inr (11, [.int 0, .ref mtape, .int m_taped, .int m_size, .ref msort, .ref mplace, .ref mvalue, .int m_at, .int m_fault, .ref mwords, .ref mtold, .ref mop, .ref marg, .int m_codes, .ref mnames, .ref mhasHabit, .int m_isNew, .ref mfactWords, .ref mfacts, .ref mpile, .ref mstates, .ref misMarked, .int m_inShelf, .int m_inStack, .int m_inPlace, .ref mrow, .int m_rowMany, .ref mthr, .ref mmays, .ref mtall, .ref mweights, .ref mrowOfWare, .ref mneededOf, .int m_goShelf, .int m_goStack, .int m_goLeft, .ref mtried, .ref mbestRow, .int m_bestCost, .int m_bestMany, .int m_bestShelf, .int m_bestSet, .ref mdigits])), (mtold, .inl (cyI, 240, .inl m_told)), (mstates, .inl (cyI, 2760, .inl m_states))]) (pc2 := 21) (lv2 := [(0, .ref m0), (1, .int p0), (2, .int p1), (3, .int p2)]) (st2 := [.int (u_4.2.1 0)]) rfl rfl rfl rfl ?_
    obtain ⟨hw_5_0, hw_5_1, hw_5_2⟩ := hw_5
    have el_0 : (0 : Int32).toInt = 0 := rfl
    have el_2 : (2 : Int32).toInt = 2 := rfl
    refine j_if_ne (pc := 21) (tgt := 26) C dX11_stack_21 (by decide) (fun c_6 => ?_) (fun c_6 => ?_)
    · skip
      have el_0 : (0 : Int32).toInt = 0 := rfl
      rw [i_eq] at c_6
      have k0c_6 : ((u_4.2.1 0)).toInt = 1 := by omega
      refine j_aload_n (pc := 26) C dX11_stack_26 rfl 0 rfl ?_
      refine j_iconst (pc := 27) (v := 0) C dX11_stack_27 (by decide) ?_
      refine j_iload_n (pc := 28) C dX11_stack_28 rfl 1 rfl ?_
      refine j_iload_n (pc := 29) C dX11_stack_29 rfl 2 rfl ?_
      refine j_callS (pc := 30) (As := [.int 0, .int p0, .int p1]) (rest := [.ref m0]) (wr := [(mrow, .inl (cyI, 12, .inl m_row)), (m0, .inr (11, [.int 0, .ref mtape, .int m_taped, .int m_size, .ref msort, .ref mplace, .ref mvalue, .int m_at, .int m_fault, .ref mwords, .ref mtold, .ref mop, .ref marg, .int m_codes, .ref mnames, .ref mhasHabit, .int m_isNew, .ref mfactWords, .ref mfacts, .ref mpile, .ref mstates, .ref misMarked, .int m_inShelf, .int m_inStack, .int m_inPlace, .ref mrow, .int m_rowMany, .ref mthr, .ref mmays, .ref mtall, .ref mweights, .ref mrowOfWare, .ref mneededOf, .int m_goShelf, .int m_goStack, .int m_goLeft, .ref mtried, .ref mbestRow, .int m_bestCost, .int m_bestMany, .int m_bestShelf, .int m_bestSet, .ref mdigits])), (mtold, .inl (cyI, 240, .inl m_told)), (mstates, .inl (cyI, 2760, .inl m_states))]) C (c_X11_stackAt l D cyC cyI cyJ cyZ cyO 0 p0 p1 (by decide) (by omega) (by omega)) wd_773 wd_624 wd_774 wd_775 ⟨by decide, by decide, rfl⟩ rfl ⟨rfl, rfl, by decide, by decide⟩ ⟨by decide, by decide⟩ [] [0, 1, 2, 3] rfl rfl ⟨by decide, by decide, by decide⟩ rfl (Nat.le_of_ble_eq_true rfl) dX11_stack_30 (fun u_7 hw_8 => ?_)
      refine j_eq (ws2 := [(mrow, .inl (cyI, 12, .inl m_row)), (m0, .inr (11, [.int 0, .ref mtape, .int m_taped, .int m_size, .ref msort, .ref mplace, .ref mvalue, .int m_at, .int m_fault, .ref mwords, .ref mtold, .ref mop, .ref marg, .int m_codes, .ref mnames, .ref mhasHabit, .int m_isNew, .ref mfactWords, .ref mfacts, .ref mpile, .ref mstates, .ref misMarked, .int m_inShelf, .int m_inStack, .int m_inPlace, .ref mrow, .int m_rowMany, .ref mthr, .ref mmays, .ref mtall, .ref mweights, .ref mrowOfWare, .ref mneededOf, .int m_goShelf, .int m_goStack, .int m_goLeft, .ref mtried, .ref mbestRow, .int m_bestCost, .int m_bestMany, .int m_bestShelf, .int m_bestSet, .ref mdigits])), (mtold, .inl (cyI, 240, .inl m_told)), (mstates, .inl (cyI, 2760, .inl m_states))]) (pc2 := 33) (lv2 := [(0, .ref m0), (1, .int p0), (2, .int p1), (3, .int p2)]) (st2 := [.int (u_7.2.1 0), .ref m0]) rfl rfl rfl rfl ?_
      obtain ⟨hw_8_0, hw_8_1⟩ := hw_8
      have el_0 : (0 : Int32).toInt = 0 := rfl
      have ad_9 : AD (u_7.2.1 0).toInt := ⟨0, (p0).toInt.toNat, (p1).toInt.toNat, by decide, by omega, by omega, by omega⟩
      refine j_callV (pc := 33) (As := [.int (u_7.2.1 0)]) (rest := []) (wr := [(mtold, .inl (cyI, 240, .inl m_told))]) C (c_X11_takesRow l D cyC cyI cyJ cyZ cyO m0 mstates mrow mtape msort mplace mvalue mwords mtold mop marg mnames mhasHabit mfactWords mfacts mpile misMarked mthr mmays mtall mweights mrowOfWare mneededOf mtried mbestRow mdigits (u_7.2.1 0) 0 m_taped m_size m_at m_fault m_codes m_isNew m_inShelf m_inStack m_inPlace m_rowMany m_goShelf m_goStack m_goLeft m_bestCost m_bestMany m_bestShelf m_bestSet m_states m_row h_m_taped h_m_size h_m_at h_m_fault h_m_codes h_m_isNew h_m_inShelf h_m_inStack h_m_inPlace h_m_rowMany h_m_goShelf h_m_bestMany h_m_bestShelf (by omega) h_m_row h_m_states ad_9) wd_781 wd_624 wd_782 wd_783 wd_784 ⟨by decide, by decide, rfl⟩ rfl ⟨rfl, rfl, by decide, by decide⟩ ⟨by decide, by decide⟩ [1, 3, 0] [2] rfl rfl ⟨by decide, by decide, by decide⟩ 1 rfl rfl rfl (Nat.le_of_ble_eq_true rfl) dX11_stack_33 (fun u_10 hw_11 => ?_)
      refine j_eq (ws2 := [(mtold, .inl (cyI, 240, .inl m_told)), (m0, .inr (11, [.int 0, .ref mtape, .int m_taped, .int m_size, .ref msort, .ref mplace, .ref mvalue, .int m_at, .int m_fault, .ref mwords, .ref mtold, .ref mop, .ref marg, .int m_codes, .ref mnames, .ref mhasHabit, .int m_isNew, .ref mfactWords, .ref mfacts, .ref mpile, .ref mstates, .ref misMarked, .int m_inShelf, .int m_inStack, .int m_inPlace, .ref mrow, .int (u_10.2.1 0), .ref mthr, .ref mmays, .ref mtall, .ref mweights, .ref mrowOfWare, .ref mneededOf, .int m_goShelf, .int m_goStack, .int m_goLeft, .ref mtried, .ref mbestRow, .int m_bestCost, .int m_bestMany, .int m_bestShelf, .int m_bestSet, .ref mdigits])), (mstates, .inl (cyI, 2760, .inl m_states)), (mrow, .inl (cyI, 12, .inl (u_10.2.2.1 0)))]) (pc2 := 36) (lv2 := [(0, .ref m0), (1, .int p0), (2, .int p1), (3, .int p2)]) (st2 := []) rfl rfl rfl rfl ?_
      obtain ⟨hw_11_0, hw_11_1, hw_11_2, hw_11_3⟩ := hw_11
      refine j_iconst (pc := 36) (v := 0) C dX11_stack_36 (by decide) ?_
      refine j_istore (pc := 37) (lv' := [(4, .int 0), (0, .ref m0), (1, .int p0), (2, .int p1), (3, .int p2)]) C dX11_stack_37 (by decide) rfl ?_
      refine j_iconst (pc := 39) (v := 0) C dX11_stack_39 (by decide) ?_
      refine j_istore (pc := 40) (lv' := [(5, .int 0), (4, .int 0), (0, .ref m0), (1, .int p0), (2, .int p1), (3, .int p2)]) C dX11_stack_40 (by decide) rfl ?_
      have loop_12 : ∀ (k_12 : Nat) (x12_5 : Int32) (x12_4 : Int32), (0 ≤ (x12_5).toInt ∧ (x12_5).toInt ≤ 12) → (x12_5.toInt ≤ ((u_10.2.1 0)).toInt) → (x12_4 = wtF (wtM m_told) (u_10.2.2.1 0) 0 (x12_5.toInt).toNat) → (12 - x12_5.toInt).toNat < k_12 → J p l e ({ frames := 4, cells := 0, slots := 0, locals := 90 } : Room) s m args below meth c D A 6 0 0 (QX below D (TY cyC cyI cyJ cyZ cyO) A (fun u => some (.int (u.2.1 0))) (fun u => (0 ≤ (u.2.1 1).toInt ∧ (u.2.1 1).toInt ≤ 12) ∧ (Iv 12 (0) (11) (u.2.2.1 0)) ∧ (GRD (0 ≤ (p0).toInt ∧ (p0).toInt < (m_told 1).toInt ∧ 0 ≤ (p1).toInt ∧ (p1).toInt < (m_states (0 + 105 * (p0).toInt.toNat)).toInt) (-1) (fun x => x = skF (p2).toInt (m_states (105 * (p0).toInt.toNat + 1 + 13 * (p1).toInt.toNat)).toInt (hiF (rsM m_told) (dpM m_told) (fun p => m_states ((105 * (p0).toInt.toNat + 1 + 13 * (p1).toInt.toNat) + 1 + p)) (m_states (105 * (p0).toInt.toNat + 1 + 13 * (p1).toInt.toNat)).toInt.toNat).toInt (wtF (wtM m_told) (fun p => m_states ((105 * (p0).toInt.toNat + 1 + 13 * (p1).toInt.toNat) + 1 + p)) 0 (m_states (105 * (p0).toInt.toNat + 1 + 13 * (p1).toInt.toNat)).toInt.toNat).toInt) (u.2.1 0).toInt)) (fun u => [(m0, .inr (11, [.int 0, .ref mtape, .int m_taped, .int m_size, .ref msort, .ref mplace, .ref mvalue, .int m_at, .int m_fault, .ref mwords, .ref mtold, .ref mop, .ref marg, .int m_codes, .ref mnames, .ref mhasHabit, .int m_isNew, .ref mfactWords, .ref mfacts, .ref mpile, .ref mstates, .ref misMarked, .int m_inShelf, .int m_inStack, .int m_inPlace, .ref mrow, .int (u.2.1 1), .ref mthr, .ref mmays, .ref mtall, .ref mweights, .ref mrowOfWare, .ref mneededOf, .int m_goShelf, .int m_goStack, .int m_goLeft, .ref mtried, .ref mbestRow, .int m_bestCost, .int m_bestMany, .int m_bestShelf, .int m_bestSet, .ref mdigits])), (mtold, .inl (cyI, 240, .inl m_told)), (mstates, .inl (cyI, 2760, .inl m_states)), (mrow, .inl (cyI, 12, .inl (u.2.2.1 0)))]) args s 0 0) [(mtold, .inl (cyI, 240, .inl m_told)), (m0, .inr (11, [.int 0, .ref mtape, .int m_taped, .int m_size, .ref msort, .ref mplace, .ref mvalue, .int m_at, .int m_fault, .ref mwords, .ref mtold, .ref mop, .ref marg, .int m_codes, .ref mnames, .ref mhasHabit, .int m_isNew, .ref mfactWords, .ref mfacts, .ref mpile, .ref mstates, .ref misMarked, .int m_inShelf, .int m_inStack, .int m_inPlace, .ref mrow, .int (u_10.2.1 0), .ref mthr, .ref mmays, .ref mtall, .ref mweights, .ref mrowOfWare, .ref mneededOf, .int m_goShelf, .int m_goStack, .int m_goLeft, .ref mtried, .ref mbestRow, .int m_bestCost, .int m_bestMany, .int m_bestShelf, .int m_bestSet, .ref mdigits])), (mstates, .inl (cyI, 2760, .inl m_states)), (mrow, .inl (cyI, 12, .inl (u_10.2.2.1 0)))] 42 [(5, .int x12_5), (4, .int x12_4), (0, .ref m0), (1, .int p0), (2, .int p1), (3, .int p2)] [] := by
        intro k_12
        induction k_12 with
        | zero =>
          intro x12_5 x12_4 hi_12_0 hr_12 hq_12_0 hm_12
          exact absurd hm_12 (Nat.not_lt_zero _)
        | succ k_12 ih_12 =>
          intro x12_5 x12_4 hi_12_0 hr_12 hq_12_0 hm_12
          refine j_iload (pc := 42) C dX11_stack_42 0 rfl ?_
          refine j_aload_n (pc := 44) C dX11_stack_44 rfl 2 rfl ?_
          refine j_get (pc := 45) (ci := 11) (v := .int (u_10.2.1 0)) C inw_11 1 rfl rfl 26 (by decide) wd_779 rfl rfl dX11_stack_45 ?_
          refine j_icmp_ge (pc := 48) (tgt := 74) C dX11_stack_48 (by decide) (fun c_13 => ?_) (fun c_13 => ?_)
          · skip
            rw [i_le] at c_13
            refine j_iload_n (pc := 74) C dX11_stack_74 rfl 5 rfl ?_
            refine j_if_ne (pc := 75) (tgt := 85) C dX11_stack_75 (by decide) (fun c_14 => ?_) (fun c_14 => ?_)
            · skip
              have el_0 : (0 : Int32).toInt = 0 := rfl
              rw [i_eq] at c_14
              refine j_iload_n (pc := 85) C dX11_stack_85 rfl 5 rfl ?_
              refine j_iconst (pc := 86) (v := 1) C dX11_stack_86 (by decide) ?_
              refine j_icmp_ne (pc := 87) (tgt := 97) C dX11_stack_87 (by decide) (fun c_15 => ?_) (fun c_15 => ?_)
              · skip
                have el_1 : (1 : Int32).toInt = 1 := rfl
                rw [i_eq] at c_15
                have k0c_15 : p2.toInt = 2 := by omega
                refine j_iload (pc := 97) C dX11_stack_97 1 rfl ?_
                have el_0 : (0 : Int32).toInt = 0 := rfl
                have el_1 : (1 : Int32).toInt = 1 := rfl
                exact j_iret (pc := 99) C hr hk (fun i => [].getD i 0, fun i => [x12_4, (u_10.2.1 0)].getD i 0, fun i => [(u_10.2.2.1 0)].getD i (fun _ => 0), fun i => [].getD i (fun _ => 0)) rfl (show (0 ≤ ((u_10.2.1 0)).toInt ∧ ((u_10.2.1 0)).toInt ≤ 12) ∧ (Iv 12 (0) (11) (u_10.2.2.1 0)) ∧ (GRD (0 ≤ (p0).toInt ∧ (p0).toInt < (m_told 1).toInt ∧ 0 ≤ (p1).toInt ∧ (p1).toInt < (m_states (0 + 105 * (p0).toInt.toNat)).toInt) (-1) (fun x => x = skF (p2).toInt (m_states (105 * (p0).toInt.toNat + 1 + 13 * (p1).toInt.toNat)).toInt (hiF (rsM m_told) (dpM m_told) (fun p => m_states ((105 * (p0).toInt.toNat + 1 + 13 * (p1).toInt.toNat) + 1 + p)) (m_states (105 * (p0).toInt.toNat + 1 + 13 * (p1).toInt.toNat)).toInt.toNat).toInt (wtF (wtM m_told) (fun p => m_states ((105 * (p0).toInt.toNat + 1 + 13 * (p1).toInt.toNat) + 1 + p)) 0 (m_states (105 * (p0).toInt.toNat + 1 + 13 * (p1).toInt.toNat)).toInt.toNat).toInt) x12_4.toInt) from ⟨hw_11_0, hw_11_1, (Or.inr ⟨⟨by omega, by omega, by omega, by omega⟩, by have ea : ((u_7.2.1 0)).toInt.toNat = (105 * (p0).toInt.toNat + 1 + 13 * (p1).toInt.toNat) := (by omega); have er := congrArg Int32.toInt hw_11_2; rw [ea] at er; unfold skF; rw [if_neg (by omega), if_neg (by omega), if_pos (by omega)]; have y3 := hq_12_0; rw [show (x12_5).toInt.toNat = (m_states (105 * (p0).toInt.toNat + 1 + 13 * (p1).toInt.toNat)).toInt.toNat from (by omega), wtF_cong (wt := wtM m_told) (wt' := wtM m_told) (r' := (fun p => m_states ((105 * (p0).toInt.toNat + 1 + 13 * (p1).toInt.toNat) + 1 + p))) _ (fun q _ hq => by rw [hw_11_3 q (by omega), ea])] at y3; rw [y3]⟩)⟩) [1, 0, 2, 3] (by decide) rfl (by decide) (by decide) dX11_stack_99
              · skip
                have el_1 : (1 : Int32).toInt = 1 := rfl
                rw [i_eq] at c_15
                refine j_aload_n (pc := 90) C dX11_stack_90 rfl 2 rfl ?_
                refine j_callV (pc := 91) (As := []) (rest := []) (wr := [(mstates, .inl (cyI, 2760, .inl m_states))]) C (c_X11_highest l D cyC cyI cyJ cyZ cyO m0 mtold mrow mtape msort mplace mvalue mwords mop marg mnames mhasHabit mfactWords mfacts mpile mstates misMarked mthr mmays mtall mweights mrowOfWare mneededOf mtried mbestRow mdigits 0 m_taped m_size m_at m_fault m_codes m_isNew m_inShelf m_inStack m_inPlace (u_10.2.1 0) m_goShelf m_goStack m_goLeft m_bestCost m_bestMany m_bestShelf m_bestSet m_told (u_10.2.2.1 0) h_m_taped h_m_size h_m_at h_m_fault h_m_codes h_m_isNew h_m_inShelf h_m_inStack h_m_inPlace hw_11_0 h_m_goShelf h_m_bestMany h_m_bestShelf hw_11_1 h_m_told) wd_806 wd_624 wd_807 wd_808 wd_809 ⟨by decide, by decide, rfl⟩ rfl ⟨rfl, rfl, by decide, by decide⟩ ⟨by decide, by decide⟩ [1, 0, 3] [2] rfl rfl ⟨by decide, by decide, by decide⟩ 1 rfl rfl rfl (Nat.le_of_ble_eq_true rfl) dX11_stack_91 (fun u_16 hw_17 => ?_)
                refine j_eq (ws2 := [(mstates, .inl (cyI, 2760, .inl m_states)), (m0, .inr (11, [.int 0, .ref mtape, .int m_taped, .int m_size, .ref msort, .ref mplace, .ref mvalue, .int m_at, .int m_fault, .ref mwords, .ref mtold, .ref mop, .ref marg, .int m_codes, .ref mnames, .ref mhasHabit, .int m_isNew, .ref mfactWords, .ref mfacts, .ref mpile, .ref mstates, .ref misMarked, .int m_inShelf, .int m_inStack, .int m_inPlace, .ref mrow, .int (u_10.2.1 0), .ref mthr, .ref mmays, .ref mtall, .ref mweights, .ref mrowOfWare, .ref mneededOf, .int m_goShelf, .int m_goStack, .int m_goLeft, .ref mtried, .ref mbestRow, .int m_bestCost, .int m_bestMany, .int m_bestShelf, .int m_bestSet, .ref mdigits])), (mtold, .inl (cyI, 240, .inl m_told)), (mrow, .inl (cyI, 12, .inl (u_10.2.2.1 0)))]) (pc2 := 94) (lv2 := [(5, .int x12_5), (4, .int x12_4), (0, .ref m0), (1, .int p0), (2, .int p1), (3, .int p2)]) (st2 := [.int (u_16.2.1 0)]) rfl rfl rfl rfl ?_
                have hw_17_0 : (u_16.2.1 0) = hiF (rsM m_told) (dpM m_told) (u_10.2.2.1 0) ((u_10.2.1 0)).toInt.toNat := hw_17
                refine j_goto (pc := 94) (tgt := 99) C dX11_stack_94 (by decide) ?_
                have el_0 : (0 : Int32).toInt = 0 := rfl
                have el_1 : (1 : Int32).toInt = 1 := rfl
                exact j_iret (pc := 99) C hr hk (fun i => [].getD i 0, fun i => [(u_16.2.1 0), (u_10.2.1 0)].getD i 0, fun i => [(u_10.2.2.1 0)].getD i (fun _ => 0), fun i => [].getD i (fun _ => 0)) rfl (show (0 ≤ ((u_10.2.1 0)).toInt ∧ ((u_10.2.1 0)).toInt ≤ 12) ∧ (Iv 12 (0) (11) (u_10.2.2.1 0)) ∧ (GRD (0 ≤ (p0).toInt ∧ (p0).toInt < (m_told 1).toInt ∧ 0 ≤ (p1).toInt ∧ (p1).toInt < (m_states (0 + 105 * (p0).toInt.toNat)).toInt) (-1) (fun x => x = skF (p2).toInt (m_states (105 * (p0).toInt.toNat + 1 + 13 * (p1).toInt.toNat)).toInt (hiF (rsM m_told) (dpM m_told) (fun p => m_states ((105 * (p0).toInt.toNat + 1 + 13 * (p1).toInt.toNat) + 1 + p)) (m_states (105 * (p0).toInt.toNat + 1 + 13 * (p1).toInt.toNat)).toInt.toNat).toInt (wtF (wtM m_told) (fun p => m_states ((105 * (p0).toInt.toNat + 1 + 13 * (p1).toInt.toNat) + 1 + p)) 0 (m_states (105 * (p0).toInt.toNat + 1 + 13 * (p1).toInt.toNat)).toInt.toNat).toInt) (u_16.2.1 0).toInt) from ⟨hw_11_0, hw_11_1, (Or.inr ⟨⟨by omega, by omega, by omega, by omega⟩, by have ea : ((u_7.2.1 0)).toInt.toNat = (105 * (p0).toInt.toNat + 1 + 13 * (p1).toInt.toNat) := (by omega); have er := congrArg Int32.toInt hw_11_2; rw [ea] at er; unfold skF; rw [if_neg (by omega), if_pos (by omega)]; have y3 := hw_17_0; rw [show ((u_10.2.1 0)).toInt.toNat = (m_states (105 * (p0).toInt.toNat + 1 + 13 * (p1).toInt.toNat)).toInt.toNat from (by omega), hiF_cong (rs := rsM m_told) (rs' := rsM m_told) (dp := dpM m_told) (dp' := dpM m_told) (r' := (fun p => m_states ((105 * (p0).toInt.toNat + 1 + 13 * (p1).toInt.toNat) + 1 + p))) _ (fun q hq => by rw [hw_11_3 q (by omega), hw_11_3 (q + 1) (by omega), ea]) (fun q hq => by rw [hw_11_3 q (by omega), ea])] at y3; rw [y3]⟩)⟩) [1, 2, 0, 3] (by decide) rfl (by decide) (by decide) dX11_stack_99
            · skip
              have el_0 : (0 : Int32).toInt = 0 := rfl
              rw [i_eq] at c_14
              refine j_aload_n (pc := 78) C dX11_stack_78 rfl 2 rfl ?_
              refine j_get (pc := 79) (ci := 11) (v := .int (u_10.2.1 0)) C inw_11 1 rfl rfl 26 (by decide) wd_779 rfl rfl dX11_stack_79 ?_
              refine j_goto (pc := 82) (tgt := 99) C dX11_stack_82 (by decide) ?_
              have el_0 : (0 : Int32).toInt = 0 := rfl
              have el_1 : (1 : Int32).toInt = 1 := rfl
              exact j_iret (pc := 99) C hr hk (fun i => [].getD i 0, fun i => [(u_10.2.1 0), (u_10.2.1 0)].getD i 0, fun i => [(u_10.2.2.1 0)].getD i (fun _ => 0), fun i => [].getD i (fun _ => 0)) rfl (show (0 ≤ ((u_10.2.1 0)).toInt ∧ ((u_10.2.1 0)).toInt ≤ 12) ∧ (Iv 12 (0) (11) (u_10.2.2.1 0)) ∧ (GRD (0 ≤ (p0).toInt ∧ (p0).toInt < (m_told 1).toInt ∧ 0 ≤ (p1).toInt ∧ (p1).toInt < (m_states (0 + 105 * (p0).toInt.toNat)).toInt) (-1) (fun x => x = skF (p2).toInt (m_states (105 * (p0).toInt.toNat + 1 + 13 * (p1).toInt.toNat)).toInt (hiF (rsM m_told) (dpM m_told) (fun p => m_states ((105 * (p0).toInt.toNat + 1 + 13 * (p1).toInt.toNat) + 1 + p)) (m_states (105 * (p0).toInt.toNat + 1 + 13 * (p1).toInt.toNat)).toInt.toNat).toInt (wtF (wtM m_told) (fun p => m_states ((105 * (p0).toInt.toNat + 1 + 13 * (p1).toInt.toNat) + 1 + p)) 0 (m_states (105 * (p0).toInt.toNat + 1 + 13 * (p1).toInt.toNat)).toInt.toNat).toInt) (u_10.2.1 0).toInt) from ⟨hw_11_0, hw_11_1, (Or.inr ⟨⟨by omega, by omega, by omega, by omega⟩, by have ea : ((u_7.2.1 0)).toInt.toNat = (105 * (p0).toInt.toNat + 1 + 13 * (p1).toInt.toNat) := (by omega); have er := congrArg Int32.toInt hw_11_2; rw [ea] at er; unfold skF; rw [if_pos (by omega)]; omega⟩)⟩) [1, 0, 2, 3] (by decide) rfl (by decide) (by decide) dX11_stack_99
          · skip
            rw [i_le] at c_13
            refine j_iload (pc := 51) C dX11_stack_51 1 rfl ?_
            refine j_aload_n (pc := 53) C dX11_stack_53 rfl 2 rfl ?_
            refine j_aload_n (pc := 54) C dX11_stack_54 rfl 2 rfl ?_
            refine j_get (pc := 55) (ci := 11) (v := .ref mrow) C inw_11 1 rfl rfl 25 (by decide) wd_780 rfl rfl dX11_stack_55 ?_
            refine j_iload (pc := 58) C dX11_stack_58 0 rfl ?_
            obtain ⟨v_18, ev_18⟩ : ∃ z, (u_10.2.2.1 0) (x12_5).toInt.toNat = z := ⟨_, rfl⟩
            have env_18 : ((u_10.2.2.1 0) (x12_5).toInt.toNat).toInt = v_18.toInt := by rw [ev_18]
            have hv_18 := hw_11_1 (x12_5).toInt.toNat (i_lt_n hi_12_0.1 (by omega)); rw [ev_18] at hv_18
            refine j_iald (pc := 60) (v := v_18) (k := (x12_5).toInt.toNat) C 3 1 rfl rfl (i_nn hi_12_0.1) rfl (i_lt_n hi_12_0.1 (by omega)) ev_18 dX11_stack_60 ?_
            refine j_iconst (pc := 61) (v := 2) C dX11_stack_61 (by decide) ?_
            refine j_callV (pc := 62) (As := [.int v_18, .int 2]) (rest := [.int x12_4]) (wr := [(mstates, .inl (cyI, 2760, .inl m_states)), (mrow, .inl (cyI, 12, .inl (u_10.2.2.1 0)))]) C (c_X11_wareOf l D cyC cyI cyJ cyZ cyO m0 mtold mtape msort mplace mvalue mwords mop marg mnames mhasHabit mfactWords mfacts mpile mstates misMarked mrow mthr mmays mtall mweights mrowOfWare mneededOf mtried mbestRow mdigits v_18 2 0 m_taped m_size m_at m_fault m_codes m_isNew m_inShelf m_inStack m_inPlace (u_10.2.1 0) m_goShelf m_goStack m_goLeft m_bestCost m_bestMany m_bestShelf m_bestSet m_told h_m_taped h_m_size h_m_at h_m_fault h_m_codes h_m_isNew h_m_inShelf h_m_inStack h_m_inPlace hw_11_0 h_m_goShelf h_m_bestMany h_m_bestShelf hv_18 (by decide) h_m_told) wd_756 wd_624 wd_757 wd_758 wd_759 ⟨by decide, by decide, rfl⟩ rfl ⟨rfl, rfl, by decide, by decide⟩ ⟨by decide, by decide⟩ [1, 0] [2, 3] rfl rfl ⟨by decide, by decide, by decide⟩ 1 rfl rfl rfl (Nat.le_of_ble_eq_true rfl) dX11_stack_62 (fun u_19 hw_20 => ?_)
            refine j_eq (ws2 := [(mstates, .inl (cyI, 2760, .inl m_states)), (mrow, .inl (cyI, 12, .inl (u_10.2.2.1 0))), (m0, .inr (11, [.int 0, .ref mtape, .int m_taped, .int m_size, .ref msort, .ref mplace, .ref mvalue, .int m_at, .int m_fault, .ref mwords, .ref mtold, .ref mop, .ref marg, .int m_codes, .ref mnames, .ref mhasHabit, .int m_isNew, .ref mfactWords, .ref mfacts, .ref mpile, .ref mstates, .ref misMarked, .int m_inShelf, .int m_inStack, .int m_inPlace, .ref mrow, .int (u_10.2.1 0), .ref mthr, .ref mmays, .ref mtall, .ref mweights, .ref mrowOfWare, .ref mneededOf, .int m_goShelf, .int m_goStack, .int m_goLeft, .ref mtried, .ref mbestRow, .int m_bestCost, .int m_bestMany, .int m_bestShelf, .int m_bestSet, .ref mdigits])), (mtold, .inl (cyI, 240, .inl m_told))]) (pc2 := 65) (lv2 := [(5, .int x12_5), (4, .int x12_4), (0, .ref m0), (1, .int p0), (2, .int p1), (3, .int p2)]) (st2 := [.int (u_19.2.1 0), .int x12_4]) rfl rfl rfl rfl ?_
            obtain ⟨hw_20_0, hw_20_1⟩ := hw_20
            obtain ⟨v_21, ev_21⟩ : ∃ z : Int32, x12_4 + (u_19.2.1 0) = z := ⟨_, rfl⟩
            refine j_iadd (pc := 65) (v := v_21) C dX11_stack_65 ev_21 ?_
            refine j_istore (pc := 66) (lv' := [(4, .int v_21), (5, .int x12_5), (0, .ref m0), (1, .int p0), (2, .int p1), (3, .int p2)]) C dX11_stack_66 (by decide) rfl ?_
            obtain ⟨v_22, ev_22⟩ : ∃ z : Int32, x12_5 + 1 = z := ⟨_, rfl⟩
            have el_1 : (1 : Int32).toInt = 1 := rfl
            have hv_22 : v_22.toInt = x12_5.toInt + (1 : Int32).toInt := by rw [← ev_22]; exact fb_addI (by omega) (by omega)
            refine j_iinc (pc := 68) (v := v_22) (lv' := [(5, .int v_22), (4, .int v_21), (0, .ref m0), (1, .int p0), (2, .int p1), (3, .int p2)]) C dX11_stack_68 1 rfl ev_22 (by decide) rfl ?_
            refine j_goto (pc := 71) (tgt := 42) C dX11_stack_71 (by decide) ?_
            refine j_subG (ws' := [(mtold, .inl (cyI, 240, .inl m_told)), (m0, .inr (11, [.int 0, .ref mtape, .int m_taped, .int m_size, .ref msort, .ref mplace, .ref mvalue, .int m_at, .int m_fault, .ref mwords, .ref mtold, .ref mop, .ref marg, .int m_codes, .ref mnames, .ref mhasHabit, .int m_isNew, .ref mfactWords, .ref mfacts, .ref mpile, .ref mstates, .ref misMarked, .int m_inShelf, .int m_inStack, .int m_inPlace, .ref mrow, .int (u_10.2.1 0), .ref mthr, .ref mmays, .ref mtall, .ref mweights, .ref mrowOfWare, .ref mneededOf, .int m_goShelf, .int m_goStack, .int m_goLeft, .ref mtried, .ref mbestRow, .int m_bestCost, .int m_bestMany, .int m_bestShelf, .int m_bestSet, .ref mdigits])), (mstates, .inl (cyI, 2760, .inl m_states)), (mrow, .inl (cyI, 12, .inl (u_10.2.2.1 0)))]) [3, 2, 0, 1] (by decide) rfl ?_
            exact j_lv [0, 1, 2, 3, 4, 5] rfl (ih_12 v_22 v_21 (by omega) (by omega) (by have y0 : (u_19.2.1 0) = wtM m_told (v_18).toInt.toNat := hw_20_1; rw [show (v_22.toInt).toNat = (x12_5).toInt.toNat + 1 from (by omega), wtF_top _ _ _ (by omega), ← hq_12_0, ev_18, ← y0]; exact ev_21.symm) (by omega))
      have el_0 : (0 : Int32).toInt = 0 := rfl
      have el_0 : (0 : Int32).toInt = 0 := rfl
      exact j_lv [0, 1, 2, 3, 4, 5] rfl (loop_12 4096 0 0 (by decide) (by omega) rfl (by omega))
    · skip
      have el_0 : (0 : Int32).toInt = 0 := rfl
      rw [i_eq] at c_6
      refine j_iconst (pc := 24) (v := (-1)) C dX11_stack_24 (by decide) ?_
      have el_m1 : ((-1) : Int32).toInt = (-1) := rfl
      exact j_iret (pc := 25) C hr hk (fun i => [].getD i 0, fun i => [(-1), m_rowMany].getD i 0, fun i => [m_row].getD i (fun _ => 0), fun i => [].getD i (fun _ => 0)) rfl (show (0 ≤ (m_rowMany).toInt ∧ (m_rowMany).toInt ≤ 12) ∧ (Iv 12 (0) (11) m_row) ∧ (GRD (0 ≤ (p0).toInt ∧ (p0).toInt < (m_told 1).toInt ∧ 0 ≤ (p1).toInt ∧ (p1).toInt < (m_states (0 + 105 * (p0).toInt.toNat)).toInt) (-1) (fun x => x = skF (p2).toInt (m_states (105 * (p0).toInt.toNat + 1 + 13 * (p1).toInt.toNat)).toInt (hiF (rsM m_told) (dpM m_told) (fun p => m_states ((105 * (p0).toInt.toNat + 1 + 13 * (p1).toInt.toNat) + 1 + p)) (m_states (105 * (p0).toInt.toNat + 1 + 13 * (p1).toInt.toNat)).toInt.toNat).toInt (wtF (wtM m_told) (fun p => m_states ((105 * (p0).toInt.toNat + 1 + 13 * (p1).toInt.toNat) + 1 + p)) 0 (m_states (105 * (p0).toInt.toNat + 1 + 13 * (p1).toInt.toNat)).toInt.toNat).toInt) ((-1) : Int32).toInt) from ⟨h_m_rowMany, h_m_row, (Or.inr ⟨⟨by omega, by omega, by omega, by omega⟩, by unfold skF; rw [if_neg (by omega), if_neg (by omega), if_neg (by omega)]; rfl⟩)⟩) [1, 2, 3, 0] (by decide) rfl (by decide) (by decide) dX11_stack_25
set_option maxHeartbeats 4000000 in
set_option maxRecDepth 100000 in
theorem c_X11_shelf (l : Launch) (D : DG) (cyC cyI cyJ cyZ cyO : ClassId) (m0 : Nat) (mtold : Nat) (mstates : Nat) (mtape : Nat) (msort : Nat) (mplace : Nat) (mvalue : Nat) (mwords : Nat) (mop : Nat) (marg : Nat) (mnames : Nat) (mhasHabit : Nat) (mfactWords : Nat) (mfacts : Nat) (mpile : Nat) (misMarked : Nat) (mrow : Nat) (mthr : Nat) (mmays : Nat) (mtall : Nat) (mweights : Nat) (mrowOfWare : Nat) (mneededOf : Nat) (mtried : Nat) (mbestRow : Nat) (mdigits : Nat) (p0 : Int32) (p1 : Int32) (m_thrown : Int32) (m_taped : Int32) (m_size : Int32) (m_at : Int32) (m_fault : Int32) (m_codes : Int32) (m_isNew : Int32) (m_inShelf : Int32) (m_inStack : Int32) (m_inPlace : Int32) (m_rowMany : Int32) (m_goShelf : Int32) (m_goStack : Int32) (m_goLeft : Int32) (m_bestCost : Int32) (m_bestMany : Int32) (m_bestShelf : Int32) (m_bestSet : Int32) (m_told : Nat → Int32) (m_states : Nat → Int32) (h_m_taped : 0 ≤ (m_taped).toInt ∧ (m_taped).toInt ≤ 1000) (h_m_size : 0 ≤ (m_size).toInt ∧ (m_size).toInt ≤ 1000) (h_m_at : 0 ≤ (m_at).toInt ∧ (m_at).toInt ≤ 1000) (h_m_fault : 0 ≤ (m_fault).toInt ∧ (m_fault).toInt ≤ 16005) (h_m_codes : 0 ≤ (m_codes).toInt ∧ (m_codes).toInt ≤ 1000) (h_m_isNew : 0 ≤ (m_isNew).toInt ∧ (m_isNew).toInt ≤ 1) (h_m_inShelf : 0 ≤ (m_inShelf).toInt ∧ (m_inShelf).toInt ≤ 3) (h_m_inStack : 0 ≤ (m_inStack).toInt ∧ (m_inStack).toInt ≤ 7) (h_m_inPlace : 0 ≤ (m_inPlace).toInt ∧ (m_inPlace).toInt ≤ 11) (h_m_rowMany : 0 ≤ (m_rowMany).toInt ∧ (m_rowMany).toInt ≤ 12) (h_m_goShelf : -1 ≤ (m_goShelf).toInt ∧ (m_goShelf).toInt ≤ 3) (h_m_bestMany : 0 ≤ (m_bestMany).toInt ∧ (m_bestMany).toInt ≤ 7) (h_m_bestShelf : 0 ≤ (m_bestShelf).toInt ∧ (m_bestShelf).toInt ≤ 3) (h_m_told : TV m_told) (h_m_states : SV m_states) : KK l D (TY cyC cyI cyJ cyZ cyO) yX11_shelf cX11_shelf 3 (some .int) ({ frames := 2, cells := 0, slots := 0, locals := 41 } : Room) 0 0 [.ref m0, .int p0, .int p1] [(m0, .inr (11, [.int m_thrown, .ref mtape, .int m_taped, .int m_size, .ref msort, .ref mplace, .ref mvalue, .int m_at, .int m_fault, .ref mwords, .ref mtold, .ref mop, .ref marg, .int m_codes, .ref mnames, .ref mhasHabit, .int m_isNew, .ref mfactWords, .ref mfacts, .ref mpile, .ref mstates, .ref misMarked, .int m_inShelf, .int m_inStack, .int m_inPlace, .ref mrow, .int m_rowMany, .ref mthr, .ref mmays, .ref mtall, .ref mweights, .ref mrowOfWare, .ref mneededOf, .int m_goShelf, .int m_goStack, .int m_goLeft, .ref mtried, .ref mbestRow, .int m_bestCost, .int m_bestMany, .int m_bestShelf, .int m_bestSet, .ref mdigits])), (mtold, .inl (cyI, 240, .inl m_told)), (mstates, .inl (cyI, 2760, .inl m_states))] (fun u => some (.int (u.2.1 0))) (fun u => (GRD (0 ≤ (p0).toInt ∧ (p0).toInt < (m_told 1).toInt) (-1) (fun x => x = shF (p1).toInt (m_told (99 + 3 * (p0).toInt.toNat)).toInt (m_told (99 + 3 * (p0).toInt.toNat + 1)).toInt (m_told (99 + 3 * (p0).toInt.toNat + 2)).toInt (m_states (0 + 105 * (p0).toInt.toNat)).toInt) (u.2.1 0).toInt)) (fun u => [(m0, .inr (11, [.int 0, .ref mtape, .int m_taped, .int m_size, .ref msort, .ref mplace, .ref mvalue, .int m_at, .int m_fault, .ref mwords, .ref mtold, .ref mop, .ref marg, .int m_codes, .ref mnames, .ref mhasHabit, .int m_isNew, .ref mfactWords, .ref mfacts, .ref mpile, .ref mstates, .ref misMarked, .int m_inShelf, .int m_inStack, .int m_inPlace, .ref mrow, .int m_rowMany, .ref mthr, .ref mmays, .ref mtall, .ref mweights, .ref mrowOfWare, .ref mneededOf, .int m_goShelf, .int m_goStack, .int m_goLeft, .ref mtried, .ref mbestRow, .int m_bestCost, .int m_bestMany, .int m_bestShelf, .int m_bestSet, .ref mdigits])), (mtold, .inl (cyI, 240, .inl m_told)), (mstates, .inl (cyI, 2760, .inl m_states))]) := by
  refine KK.of (lv0 := [(0, .ref m0), (1, .int p0), (2, .int p1)]) (by decide) rfl (Nat.le_of_ble_eq_true rfl) ?_
  intro p e s m args below meth c A C hr hk hin
  refine j_aload_n (pc := 0) C dX11_shelf_0 rfl 0 rfl ?_
  refine j_iconst (pc := 1) (v := 0) C dX11_shelf_1 (by decide) ?_
  refine j_put (pc := 2) (ci := 11) (v := .int 0) (ws' := [(m0, .inr (11, [.int 0, .ref mtape, .int m_taped, .int m_size, .ref msort, .ref mplace, .ref mvalue, .int m_at, .int m_fault, .ref mwords, .ref mtold, .ref mop, .ref marg, .int m_codes, .ref mnames, .ref mhasHabit, .int m_isNew, .ref mfactWords, .ref mfacts, .ref mpile, .ref mstates, .ref misMarked, .int m_inShelf, .int m_inStack, .int m_inPlace, .ref mrow, .int m_rowMany, .ref mthr, .ref mmays, .ref mtall, .ref mweights, .ref mrowOfWare, .ref mneededOf, .int m_goShelf, .int m_goStack, .int m_goLeft, .ref mtried, .ref mbestRow, .int m_bestCost, .int m_bestMany, .int m_bestShelf, .int m_bestSet, .ref mdigits])), (mtold, .inl (cyI, 240, .inl m_told)), (mstates, .inl (cyI, 2760, .inl m_states))]) C inw_11 0 rfl rfl 0 (by decide) wd_629 rfl tyX11_ok nmX11 rfl (tyX11_ok 0 (by decide)) rfl rfl (Nat.le_of_ble_eq_true rfl) dX11_shelf_2 rfl ?_
  refine j_aload_n (pc := 5) C dX11_shelf_5 rfl 0 rfl ?_
  refine j_iload_n (pc := 6) C dX11_shelf_6 rfl 1 rfl ?_
  refine j_callV (pc := 7) (As := [.int p0]) (rest := []) (wr := [(mstates, .inl (cyI, 2760, .inl m_states))]) C (c_X11_isShelf l D cyC cyI cyJ cyZ cyO m0 mtold mtape msort mplace mvalue mwords mop marg mnames mhasHabit mfactWords mfacts mpile mstates misMarked mrow mthr mmays mtall mweights mrowOfWare mneededOf mtried mbestRow mdigits p0 0 m_taped m_size m_at m_fault m_codes m_isNew m_inShelf m_inStack m_inPlace m_rowMany m_goShelf m_goStack m_goLeft m_bestCost m_bestMany m_bestShelf m_bestSet m_told h_m_taped h_m_size h_m_at h_m_fault h_m_codes h_m_isNew h_m_inShelf h_m_inStack h_m_inPlace h_m_rowMany h_m_goShelf h_m_bestMany h_m_bestShelf h_m_told) wd_765 wd_624 wd_766 wd_767 wd_768 ⟨by decide, by decide, rfl⟩ rfl ⟨rfl, rfl, by decide, by decide⟩ ⟨by decide, by decide⟩ [0, 1] [2] rfl rfl ⟨by decide, by decide, by decide⟩ 0 rfl rfl rfl (Nat.le_of_ble_eq_true rfl) dX11_shelf_7 (fun u_1 hw_2 => ?_)
  refine j_eq (ws2 := [(mstates, .inl (cyI, 2760, .inl m_states)), (m0, .inr (11, [.int 0, .ref mtape, .int m_taped, .int m_size, .ref msort, .ref mplace, .ref mvalue, .int m_at, .int m_fault, .ref mwords, .ref mtold, .ref mop, .ref marg, .int m_codes, .ref mnames, .ref mhasHabit, .int m_isNew, .ref mfactWords, .ref mfacts, .ref mpile, .ref mstates, .ref misMarked, .int m_inShelf, .int m_inStack, .int m_inPlace, .ref mrow, .int m_rowMany, .ref mthr, .ref mmays, .ref mtall, .ref mweights, .ref mrowOfWare, .ref mneededOf, .int m_goShelf, .int m_goStack, .int m_goLeft, .ref mtried, .ref mbestRow, .int m_bestCost, .int m_bestMany, .int m_bestShelf, .int m_bestSet, .ref mdigits])), (mtold, .inl (cyI, 240, .inl m_told))]) (pc2 := 10) (lv2 := [(0, .ref m0), (1, .int p0), (2, .int p1)]) (st2 := [.int (u_1.2.1 0)]) rfl rfl rfl rfl ?_
  obtain ⟨hw_2_0, hw_2_1, hw_2_2⟩ := hw_2
  refine j_if_eq (pc := 10) (tgt := 22) C dX11_shelf_10 (by decide) (fun c_3 => ?_) (fun c_3 => ?_)
  · skip
    have el_0 : (0 : Int32).toInt = 0 := rfl
    rw [i_eq] at c_3
    refine j_iconst (pc := 22) (v := (-1)) C dX11_shelf_22 (by decide) ?_
    have el_m1 : ((-1) : Int32).toInt = (-1) := rfl
    exact j_iret (pc := 23) C hr hk (fun i => [].getD i 0, fun i => [(-1)].getD i 0, fun i => [].getD i (fun _ => 0), fun i => [].getD i (fun _ => 0)) rfl (show (GRD (0 ≤ (p0).toInt ∧ (p0).toInt < (m_told 1).toInt) (-1) (fun x => x = shF (p1).toInt (m_told (99 + 3 * (p0).toInt.toNat)).toInt (m_told (99 + 3 * (p0).toInt.toNat + 1)).toInt (m_told (99 + 3 * (p0).toInt.toNat + 2)).toInt (m_states (0 + 105 * (p0).toInt.toNat)).toInt) ((-1) : Int32).toInt) from ((Or.inl ⟨rfl, fun z => by omega⟩))) [1, 2, 0] (by decide) rfl (by decide) (by decide) dX11_shelf_23
  · skip
    have el_0 : (0 : Int32).toInt = 0 := rfl
    rw [i_eq] at c_3
    have k0c_3 : ((u_1.2.1 0)).toInt = 1 := by omega
    refine j_iload_n (pc := 13) C dX11_shelf_13 rfl 2 rfl ?_
    refine j_iconst (pc := 14) (v := 0) C dX11_shelf_14 (by decide) ?_
    refine j_iconst (pc := 15) (v := 3) C dX11_shelf_15 (by decide) ?_
    refine j_callS (pc := 16) (As := [.int p1, .int 0, .int 3]) (rest := []) (wr := [(mstates, .inl (cyI, 2760, .inl m_states)), (m0, .inr (11, [.int 0, .ref mtape, .int m_taped, .int m_size, .ref msort, .ref mplace, .ref mvalue, .int m_at, .int m_fault, .ref mwords, .ref mtold, .ref mop, .ref marg, .int m_codes, .ref mnames, .ref mhasHabit, .int m_isNew, .ref mfactWords, .ref mfacts, .ref mpile, .ref mstates, .ref misMarked, .int m_inShelf, .int m_inStack, .int m_inPlace, .ref mrow, .int m_rowMany, .ref mthr, .ref mmays, .ref mtall, .ref mweights, .ref mrowOfWare, .ref mneededOf, .int m_goShelf, .int m_goStack, .int m_goLeft, .ref mtried, .ref mbestRow, .int m_bestCost, .int m_bestMany, .int m_bestShelf, .int m_bestSet, .ref mdigits])), (mtold, .inl (cyI, 240, .inl m_told))]) C (c_X11_within_f l D cyC cyI cyJ cyZ cyO p1 0 3) wd_818 wd_624 wd_819 wd_820 ⟨by decide, by decide, rfl⟩ rfl ⟨rfl, rfl, by decide, by decide⟩ ⟨by decide, by decide⟩ [] [0, 1, 2] rfl rfl ⟨by decide, by decide, by decide⟩ rfl (Nat.le_of_ble_eq_true rfl) dX11_shelf_16 (fun u_4 hw_5 => ?_)
    refine j_eq (ws2 := [(mstates, .inl (cyI, 2760, .inl m_states)), (m0, .inr (11, [.int 0, .ref mtape, .int m_taped, .int m_size, .ref msort, .ref mplace, .ref mvalue, .int m_at, .int m_fault, .ref mwords, .ref mtold, .ref mop, .ref marg, .int m_codes, .ref mnames, .ref mhasHabit, .int m_isNew, .ref mfactWords, .ref mfacts, .ref mpile, .ref mstates, .ref misMarked, .int m_inShelf, .int m_inStack, .int m_inPlace, .ref mrow, .int m_rowMany, .ref mthr, .ref mmays, .ref mtall, .ref mweights, .ref mrowOfWare, .ref mneededOf, .int m_goShelf, .int m_goStack, .int m_goLeft, .ref mtried, .ref mbestRow, .int m_bestCost, .int m_bestMany, .int m_bestShelf, .int m_bestSet, .ref mdigits])), (mtold, .inl (cyI, 240, .inl m_told))]) (pc2 := 19) (lv2 := [(0, .ref m0), (1, .int p0), (2, .int p1)]) (st2 := [.int (u_4.2.1 0)]) rfl rfl rfl rfl ?_
    obtain ⟨hw_5_0, hw_5_1, hw_5_2⟩ := hw_5
    have el_0 : (0 : Int32).toInt = 0 := rfl
    have el_3 : (3 : Int32).toInt = 3 := rfl
    refine j_if_ne (pc := 19) (tgt := 24) C dX11_shelf_19 (by decide) (fun c_6 => ?_) (fun c_6 => ?_)
    · skip
      have el_0 : (0 : Int32).toInt = 0 := rfl
      rw [i_eq] at c_6
      have k0c_6 : ((u_4.2.1 0)).toInt = 1 := by omega
      refine j_iload_n (pc := 24) C dX11_shelf_24 rfl 2 rfl ?_
      refine j_iconst (pc := 25) (v := 3) C dX11_shelf_25 (by decide) ?_
      refine j_icmp_ge (pc := 26) (tgt := 38) C dX11_shelf_26 (by decide) (fun c_7 => ?_) (fun c_7 => ?_)
      · skip
        have el_3 : (3 : Int32).toInt = 3 := rfl
        rw [i_le] at c_7
        have k0c_7 : p1.toInt = 3 := by omega
        refine j_aload_n (pc := 38) C dX11_shelf_38 rfl 0 rfl ?_
        refine j_iconst (pc := 39) (v := 0) C dX11_shelf_39 (by decide) ?_
        refine j_iload_n (pc := 40) C dX11_shelf_40 rfl 1 rfl ?_
        refine j_callV (pc := 41) (As := [.int 0, .int p0]) (rest := []) (wr := [(mtold, .inl (cyI, 240, .inl m_told))]) C (c_X11_stacks_0 l D cyC cyI cyJ cyZ cyO m0 mstates mtape msort mplace mvalue mwords mtold mop marg mnames mhasHabit mfactWords mfacts mpile misMarked mrow mthr mmays mtall mweights mrowOfWare mneededOf mtried mbestRow mdigits p0 0 m_taped m_size m_at m_fault m_codes m_isNew m_inShelf m_inStack m_inPlace m_rowMany m_goShelf m_goStack m_goLeft m_bestCost m_bestMany m_bestShelf m_bestSet m_states h_m_taped h_m_size h_m_at h_m_fault h_m_codes h_m_isNew h_m_inShelf h_m_inStack h_m_inPlace h_m_rowMany h_m_goShelf h_m_bestMany h_m_bestShelf (by omega) h_m_states) wd_769 wd_624 wd_770 wd_771 wd_772 ⟨by decide, by decide, rfl⟩ rfl ⟨rfl, rfl, by decide, by decide⟩ ⟨by decide, by decide⟩ [1, 0] [2] rfl rfl ⟨by decide, by decide, by decide⟩ 1 rfl rfl rfl (Nat.le_of_ble_eq_true rfl) dX11_shelf_41 (fun u_8 hw_9 => ?_)
        refine j_eq (ws2 := [(mtold, .inl (cyI, 240, .inl m_told)), (m0, .inr (11, [.int 0, .ref mtape, .int m_taped, .int m_size, .ref msort, .ref mplace, .ref mvalue, .int m_at, .int m_fault, .ref mwords, .ref mtold, .ref mop, .ref marg, .int m_codes, .ref mnames, .ref mhasHabit, .int m_isNew, .ref mfactWords, .ref mfacts, .ref mpile, .ref mstates, .ref misMarked, .int m_inShelf, .int m_inStack, .int m_inPlace, .ref mrow, .int m_rowMany, .ref mthr, .ref mmays, .ref mtall, .ref mweights, .ref mrowOfWare, .ref mneededOf, .int m_goShelf, .int m_goStack, .int m_goLeft, .ref mtried, .ref mbestRow, .int m_bestCost, .int m_bestMany, .int m_bestShelf, .int m_bestSet, .ref mdigits])), (mstates, .inl (cyI, 2760, .inl m_states))]) (pc2 := 44) (lv2 := [(0, .ref m0), (1, .int p0), (2, .int p1)]) (st2 := [.int (u_8.2.1 0)]) rfl rfl rfl rfl ?_
        obtain ⟨hw_9_0, hw_9_1⟩ := hw_9
        exact j_iret (pc := 44) C hr hk (fun i => [].getD i 0, fun i => [(u_8.2.1 0)].getD i 0, fun i => [].getD i (fun _ => 0), fun i => [].getD i (fun _ => 0)) rfl (show (GRD (0 ≤ (p0).toInt ∧ (p0).toInt < (m_told 1).toInt) (-1) (fun x => x = shF (p1).toInt (m_told (99 + 3 * (p0).toInt.toNat)).toInt (m_told (99 + 3 * (p0).toInt.toNat + 1)).toInt (m_told (99 + 3 * (p0).toInt.toNat + 2)).toInt (m_states (0 + 105 * (p0).toInt.toNat)).toInt) (u_8.2.1 0).toInt) from ((Or.inr ⟨⟨by omega, by omega⟩, by unfold shF; rw [if_neg (by omega), if_neg (by omega), if_neg (by omega), if_pos (by omega), hw_9_1]⟩))) [1, 0, 2] (by decide) rfl (by decide) (by decide) dX11_shelf_44
      · skip
        have el_3 : (3 : Int32).toInt = 3 := rfl
        rw [i_le] at c_7
        refine j_aload_n (pc := 29) C dX11_shelf_29 rfl 0 rfl ?_
        refine j_iload_n (pc := 30) C dX11_shelf_30 rfl 1 rfl ?_
        refine j_iload_n (pc := 31) C dX11_shelf_31 rfl 2 rfl ?_
        refine j_callV (pc := 32) (As := [.int p0, .int p1]) (rest := []) (wr := [(mstates, .inl (cyI, 2760, .inl m_states))]) C (c_X11_shelfOf l D cyC cyI cyJ cyZ cyO m0 mtold mtape msort mplace mvalue mwords mop marg mnames mhasHabit mfactWords mfacts mpile mstates misMarked mrow mthr mmays mtall mweights mrowOfWare mneededOf mtried mbestRow mdigits p0 p1 0 m_taped m_size m_at m_fault m_codes m_isNew m_inShelf m_inStack m_inPlace m_rowMany m_goShelf m_goStack m_goLeft m_bestCost m_bestMany m_bestShelf m_bestSet m_told h_m_taped h_m_size h_m_at h_m_fault h_m_codes h_m_isNew h_m_inShelf h_m_inStack h_m_inPlace h_m_rowMany h_m_goShelf h_m_bestMany h_m_bestShelf (by omega) (by omega) h_m_told) wd_760 wd_624 wd_761 wd_762 wd_763 ⟨by decide, by decide, rfl⟩ rfl ⟨rfl, rfl, by decide, by decide⟩ ⟨by decide, by decide⟩ [1, 2] [0] rfl rfl ⟨by decide, by decide, by decide⟩ 1 rfl rfl rfl (Nat.le_of_ble_eq_true rfl) dX11_shelf_32 (fun u_10 hw_11 => ?_)
        refine j_eq (ws2 := [(mstates, .inl (cyI, 2760, .inl m_states)), (m0, .inr (11, [.int 0, .ref mtape, .int m_taped, .int m_size, .ref msort, .ref mplace, .ref mvalue, .int m_at, .int m_fault, .ref mwords, .ref mtold, .ref mop, .ref marg, .int m_codes, .ref mnames, .ref mhasHabit, .int m_isNew, .ref mfactWords, .ref mfacts, .ref mpile, .ref mstates, .ref misMarked, .int m_inShelf, .int m_inStack, .int m_inPlace, .ref mrow, .int m_rowMany, .ref mthr, .ref mmays, .ref mtall, .ref mweights, .ref mrowOfWare, .ref mneededOf, .int m_goShelf, .int m_goStack, .int m_goLeft, .ref mtried, .ref mbestRow, .int m_bestCost, .int m_bestMany, .int m_bestShelf, .int m_bestSet, .ref mdigits])), (mtold, .inl (cyI, 240, .inl m_told))]) (pc2 := 35) (lv2 := [(0, .ref m0), (1, .int p0), (2, .int p1)]) (st2 := [.int (u_10.2.1 0)]) rfl rfl rfl rfl ?_
        obtain ⟨hw_11_0, hw_11_1⟩ := hw_11
        refine j_goto (pc := 35) (tgt := 44) C dX11_shelf_35 (by decide) ?_
        exact j_iret (pc := 44) C hr hk (fun i => [].getD i 0, fun i => [(u_10.2.1 0)].getD i 0, fun i => [].getD i (fun _ => 0), fun i => [].getD i (fun _ => 0)) rfl (show (GRD (0 ≤ (p0).toInt ∧ (p0).toInt < (m_told 1).toInt) (-1) (fun x => x = shF (p1).toInt (m_told (99 + 3 * (p0).toInt.toNat)).toInt (m_told (99 + 3 * (p0).toInt.toNat + 1)).toInt (m_told (99 + 3 * (p0).toInt.toNat + 2)).toInt (m_states (0 + 105 * (p0).toInt.toNat)).toInt) (u_10.2.1 0).toInt) from ((Or.inr ⟨⟨by omega, by omega⟩, by have y := congrArg Int32.toInt hw_11_1; rcases (by omega : (p1).toInt = 0 ∨ (p1).toInt = 1 ∨ (p1).toInt = 2) with q | q | q; (rw [show 99 + 3 * (p0).toInt.toNat + (p1).toInt.toNat = 99 + 3 * (p0).toInt.toNat from (by omega)] at y; unfold shF; rw [if_pos (by omega)]; exact y); (rw [show 99 + 3 * (p0).toInt.toNat + (p1).toInt.toNat = 99 + 3 * (p0).toInt.toNat + 1 from (by omega)] at y; unfold shF; rw [if_neg (by omega), if_pos (by omega)]; exact y); (rw [show 99 + 3 * (p0).toInt.toNat + (p1).toInt.toNat = 99 + 3 * (p0).toInt.toNat + 2 from (by omega)] at y; unfold shF; rw [if_neg (by omega), if_neg (by omega), if_pos (by omega)]; exact y)⟩))) [1, 2, 0] (by decide) rfl (by decide) (by decide) dX11_shelf_44
    · skip
      have el_0 : (0 : Int32).toInt = 0 := rfl
      rw [i_eq] at c_6
      refine j_iconst (pc := 22) (v := (-1)) C dX11_shelf_22 (by decide) ?_
      have el_m1 : ((-1) : Int32).toInt = (-1) := rfl
      exact j_iret (pc := 23) C hr hk (fun i => [].getD i 0, fun i => [(-1)].getD i 0, fun i => [].getD i (fun _ => 0), fun i => [].getD i (fun _ => 0)) rfl (show (GRD (0 ≤ (p0).toInt ∧ (p0).toInt < (m_told 1).toInt) (-1) (fun x => x = shF (p1).toInt (m_told (99 + 3 * (p0).toInt.toNat)).toInt (m_told (99 + 3 * (p0).toInt.toNat + 1)).toInt (m_told (99 + 3 * (p0).toInt.toNat + 2)).toInt (m_states (0 + 105 * (p0).toInt.toNat)).toInt) ((-1) : Int32).toInt) from ((Or.inr ⟨⟨by omega, by omega⟩, by unfold shF; rw [if_neg (by omega), if_neg (by omega), if_neg (by omega), if_neg (by omega)]; rfl⟩))) [1, 2, 0] (by decide) rfl (by decide) (by decide) dX11_shelf_23
set_option maxHeartbeats 4000000 in
set_option maxRecDepth 100000 in
theorem c_X11_cost (l : Launch) (D : DG) (cyC cyI cyJ cyZ cyO : ClassId) (m0 : Nat) (mstates : Nat) (mtape : Nat) (msort : Nat) (mplace : Nat) (mvalue : Nat) (mwords : Nat) (mtold : Nat) (mop : Nat) (marg : Nat) (mnames : Nat) (mhasHabit : Nat) (mfactWords : Nat) (mfacts : Nat) (mpile : Nat) (misMarked : Nat) (mrow : Nat) (mthr : Nat) (mmays : Nat) (mtall : Nat) (mweights : Nat) (mrowOfWare : Nat) (mneededOf : Nat) (mtried : Nat) (mbestRow : Nat) (mdigits : Nat) (m_thrown : Int32) (m_taped : Int32) (m_size : Int32) (m_at : Int32) (m_fault : Int32) (m_codes : Int32) (m_isNew : Int32) (m_inShelf : Int32) (m_inStack : Int32) (m_inPlace : Int32) (m_rowMany : Int32) (m_goShelf : Int32) (m_goStack : Int32) (m_goLeft : Int32) (m_bestCost : Int32) (m_bestMany : Int32) (m_bestShelf : Int32) (m_bestSet : Int32) (m_states : Nat → Int32) (h_m_taped : 0 ≤ (m_taped).toInt ∧ (m_taped).toInt ≤ 1000) (h_m_size : 0 ≤ (m_size).toInt ∧ (m_size).toInt ≤ 1000) (h_m_at : 0 ≤ (m_at).toInt ∧ (m_at).toInt ≤ 1000) (h_m_fault : 0 ≤ (m_fault).toInt ∧ (m_fault).toInt ≤ 16005) (h_m_codes : 0 ≤ (m_codes).toInt ∧ (m_codes).toInt ≤ 1000) (h_m_isNew : 0 ≤ (m_isNew).toInt ∧ (m_isNew).toInt ≤ 1) (h_m_inShelf : 0 ≤ (m_inShelf).toInt ∧ (m_inShelf).toInt ≤ 3) (h_m_inStack : 0 ≤ (m_inStack).toInt ∧ (m_inStack).toInt ≤ 7) (h_m_inPlace : 0 ≤ (m_inPlace).toInt ∧ (m_inPlace).toInt ≤ 11) (h_m_rowMany : 0 ≤ (m_rowMany).toInt ∧ (m_rowMany).toInt ≤ 12) (h_m_goShelf : -1 ≤ (m_goShelf).toInt ∧ (m_goShelf).toInt ≤ 3) (h_m_bestMany : 0 ≤ (m_bestMany).toInt ∧ (m_bestMany).toInt ≤ 7) (h_m_bestShelf : 0 ≤ (m_bestShelf).toInt ∧ (m_bestShelf).toInt ≤ 3) (h_m_states : SV m_states) : KK l D (TY cyC cyI cyJ cyZ cyO) yX11_cost cX11_cost 1 (some .int) ({ frames := 0, cells := 0, slots := 0, locals := 0 } : Room) 0 0 [.ref m0] [(m0, .inr (11, [.int m_thrown, .ref mtape, .int m_taped, .int m_size, .ref msort, .ref mplace, .ref mvalue, .int m_at, .int m_fault, .ref mwords, .ref mtold, .ref mop, .ref marg, .int m_codes, .ref mnames, .ref mhasHabit, .int m_isNew, .ref mfactWords, .ref mfacts, .ref mpile, .ref mstates, .ref misMarked, .int m_inShelf, .int m_inStack, .int m_inPlace, .ref mrow, .int m_rowMany, .ref mthr, .ref mmays, .ref mtall, .ref mweights, .ref mrowOfWare, .ref mneededOf, .int m_goShelf, .int m_goStack, .int m_goLeft, .ref mtried, .ref mbestRow, .int m_bestCost, .int m_bestMany, .int m_bestShelf, .int m_bestSet, .ref mdigits])), (mstates, .inl (cyI, 2760, .inl m_states))] (fun u => some (.int (u.2.1 0))) (fun u => True) (fun u => [(m0, .inr (11, [.int 0, .ref mtape, .int m_taped, .int m_size, .ref msort, .ref mplace, .ref mvalue, .int m_at, .int m_fault, .ref mwords, .ref mtold, .ref mop, .ref marg, .int m_codes, .ref mnames, .ref mhasHabit, .int m_isNew, .ref mfactWords, .ref mfacts, .ref mpile, .ref mstates, .ref misMarked, .int m_inShelf, .int m_inStack, .int m_inPlace, .ref mrow, .int m_rowMany, .ref mthr, .ref mmays, .ref mtall, .ref mweights, .ref mrowOfWare, .ref mneededOf, .int m_goShelf, .int m_goStack, .int m_goLeft, .ref mtried, .ref mbestRow, .int m_bestCost, .int m_bestMany, .int m_bestShelf, .int m_bestSet, .ref mdigits])), (mstates, .inl (cyI, 2760, .inl m_states))]) := by
  refine KK.of (lv0 := [(0, .ref m0)]) (by decide) rfl (Nat.le_of_ble_eq_true rfl) ?_
  intro p e s m args below meth c A C hr hk hin
  refine j_aload_n (pc := 0) C dX11_cost_0 rfl 0 rfl ?_
  refine j_iconst (pc := 1) (v := 0) C dX11_cost_1 (by decide) ?_
  refine j_put (pc := 2) (ci := 11) (v := .int 0) (ws' := [(m0, .inr (11, [.int 0, .ref mtape, .int m_taped, .int m_size, .ref msort, .ref mplace, .ref mvalue, .int m_at, .int m_fault, .ref mwords, .ref mtold, .ref mop, .ref marg, .int m_codes, .ref mnames, .ref mhasHabit, .int m_isNew, .ref mfactWords, .ref mfacts, .ref mpile, .ref mstates, .ref misMarked, .int m_inShelf, .int m_inStack, .int m_inPlace, .ref mrow, .int m_rowMany, .ref mthr, .ref mmays, .ref mtall, .ref mweights, .ref mrowOfWare, .ref mneededOf, .int m_goShelf, .int m_goStack, .int m_goLeft, .ref mtried, .ref mbestRow, .int m_bestCost, .int m_bestMany, .int m_bestShelf, .int m_bestSet, .ref mdigits])), (mstates, .inl (cyI, 2760, .inl m_states))]) C inw_11 0 rfl rfl 0 (by decide) wd_629 rfl tyX11_ok nmX11 rfl (tyX11_ok 0 (by decide)) rfl rfl (Nat.le_of_ble_eq_true rfl) dX11_cost_2 rfl ?_
  refine j_aload_n (pc := 5) C dX11_cost_5 rfl 0 rfl ?_
  refine j_get (pc := 6) (ci := 11) (v := .ref mstates) C inw_11 0 rfl rfl 20 (by decide) wd_764 rfl rfl dX11_cost_6 ?_
  refine j_sipush (pc := 9) (v := 420) C dX11_cost_9 (by decide) ?_
  obtain ⟨v_1, ev_1⟩ : ∃ z, m_states 420 = z := ⟨_, rfl⟩
  have env_1 : (m_states 420).toInt = v_1.toInt := by rw [ev_1]
  refine j_iald (pc := 12) (v := v_1) (k := 420) C 1 1 rfl rfl (by decide) (by decide) (by decide) ev_1 dX11_cost_12 ?_
  exact j_iret (pc := 13) C hr hk (fun i => [].getD i 0, fun i => [v_1].getD i 0, fun i => [].getD i (fun _ => 0), fun i => [].getD i (fun _ => 0)) rfl trivial [0, 1] (by decide) rfl (by decide) (by decide) dX11_cost_13
set_option maxHeartbeats 4000000 in
set_option maxRecDepth 100000 in
theorem c_X11_asks (l : Launch) (D : DG) (cyC cyI cyJ cyZ cyO : ClassId) (m0 : Nat) (mstates : Nat) (mtape : Nat) (msort : Nat) (mplace : Nat) (mvalue : Nat) (mwords : Nat) (mtold : Nat) (mop : Nat) (marg : Nat) (mnames : Nat) (mhasHabit : Nat) (mfactWords : Nat) (mfacts : Nat) (mpile : Nat) (misMarked : Nat) (mrow : Nat) (mthr : Nat) (mmays : Nat) (mtall : Nat) (mweights : Nat) (mrowOfWare : Nat) (mneededOf : Nat) (mtried : Nat) (mbestRow : Nat) (mdigits : Nat) (m_thrown : Int32) (m_taped : Int32) (m_size : Int32) (m_at : Int32) (m_fault : Int32) (m_codes : Int32) (m_isNew : Int32) (m_inShelf : Int32) (m_inStack : Int32) (m_inPlace : Int32) (m_rowMany : Int32) (m_goShelf : Int32) (m_goStack : Int32) (m_goLeft : Int32) (m_bestCost : Int32) (m_bestMany : Int32) (m_bestShelf : Int32) (m_bestSet : Int32) (m_states : Nat → Int32) (h_m_taped : 0 ≤ (m_taped).toInt ∧ (m_taped).toInt ≤ 1000) (h_m_size : 0 ≤ (m_size).toInt ∧ (m_size).toInt ≤ 1000) (h_m_at : 0 ≤ (m_at).toInt ∧ (m_at).toInt ≤ 1000) (h_m_fault : 0 ≤ (m_fault).toInt ∧ (m_fault).toInt ≤ 16005) (h_m_codes : 0 ≤ (m_codes).toInt ∧ (m_codes).toInt ≤ 1000) (h_m_isNew : 0 ≤ (m_isNew).toInt ∧ (m_isNew).toInt ≤ 1) (h_m_inShelf : 0 ≤ (m_inShelf).toInt ∧ (m_inShelf).toInt ≤ 3) (h_m_inStack : 0 ≤ (m_inStack).toInt ∧ (m_inStack).toInt ≤ 7) (h_m_inPlace : 0 ≤ (m_inPlace).toInt ∧ (m_inPlace).toInt ≤ 11) (h_m_rowMany : 0 ≤ (m_rowMany).toInt ∧ (m_rowMany).toInt ≤ 12) (h_m_goShelf : -1 ≤ (m_goShelf).toInt ∧ (m_goShelf).toInt ≤ 3) (h_m_bestMany : 0 ≤ (m_bestMany).toInt ∧ (m_bestMany).toInt ≤ 7) (h_m_bestShelf : 0 ≤ (m_bestShelf).toInt ∧ (m_bestShelf).toInt ≤ 3) (h_m_states : SV m_states) : KK l D (TY cyC cyI cyJ cyZ cyO) yX11_asks cX11_asks 1 (some .int) ({ frames := 0, cells := 0, slots := 0, locals := 0 } : Room) 0 0 [.ref m0] [(m0, .inr (11, [.int m_thrown, .ref mtape, .int m_taped, .int m_size, .ref msort, .ref mplace, .ref mvalue, .int m_at, .int m_fault, .ref mwords, .ref mtold, .ref mop, .ref marg, .int m_codes, .ref mnames, .ref mhasHabit, .int m_isNew, .ref mfactWords, .ref mfacts, .ref mpile, .ref mstates, .ref misMarked, .int m_inShelf, .int m_inStack, .int m_inPlace, .ref mrow, .int m_rowMany, .ref mthr, .ref mmays, .ref mtall, .ref mweights, .ref mrowOfWare, .ref mneededOf, .int m_goShelf, .int m_goStack, .int m_goLeft, .ref mtried, .ref mbestRow, .int m_bestCost, .int m_bestMany, .int m_bestShelf, .int m_bestSet, .ref mdigits])), (mstates, .inl (cyI, 2760, .inl m_states))] (fun u => some (.int (u.2.1 0))) (fun u => (0 ≤ (u.2.1 0).toInt ∧ (u.2.1 0).toInt ≤ 30) ∧ ((u.2.1 0) = m_states 421) ∧ ((u.2.1 0).toInt = (m_states 421).toInt)) (fun u => [(m0, .inr (11, [.int m_thrown, .ref mtape, .int m_taped, .int m_size, .ref msort, .ref mplace, .ref mvalue, .int m_at, .int m_fault, .ref mwords, .ref mtold, .ref mop, .ref marg, .int m_codes, .ref mnames, .ref mhasHabit, .int m_isNew, .ref mfactWords, .ref mfacts, .ref mpile, .ref mstates, .ref misMarked, .int m_inShelf, .int m_inStack, .int m_inPlace, .ref mrow, .int m_rowMany, .ref mthr, .ref mmays, .ref mtall, .ref mweights, .ref mrowOfWare, .ref mneededOf, .int m_goShelf, .int m_goStack, .int m_goLeft, .ref mtried, .ref mbestRow, .int m_bestCost, .int m_bestMany, .int m_bestShelf, .int m_bestSet, .ref mdigits])), (mstates, .inl (cyI, 2760, .inl m_states))]) := by
  refine KK.of (lv0 := [(0, .ref m0)]) (by decide) rfl (Nat.le_of_ble_eq_true rfl) ?_
  intro p e s m args below meth c A C hr hk hin
  refine j_aload_n (pc := 0) C dX11_asks_0 rfl 0 rfl ?_
  refine j_get (pc := 1) (ci := 11) (v := .ref mstates) C inw_11 0 rfl rfl 20 (by decide) wd_764 rfl rfl dX11_asks_1 ?_
  refine j_sipush (pc := 4) (v := 421) C dX11_asks_4 (by decide) ?_
  obtain ⟨v_1, ev_1⟩ : ∃ z, m_states 421 = z := ⟨_, rfl⟩
  have env_1 : (m_states 421).toInt = v_1.toInt := by rw [ev_1]
  have hv_1 : 0 ≤ v_1.toInt ∧ v_1.toInt ≤ 30 := by rw [← ev_1]; exact SV.asks (b := 0) h_m_states (by decide) (by omega)
  refine j_iald (pc := 7) (v := v_1) (k := 421) C 1 1 rfl rfl (by decide) (by decide) (by decide) ev_1 dX11_asks_7 ?_
  exact j_iret (pc := 8) C hr hk (fun i => [].getD i 0, fun i => [v_1].getD i 0, fun i => [].getD i (fun _ => 0), fun i => [].getD i (fun _ => 0)) rfl (show (0 ≤ (v_1).toInt ∧ (v_1).toInt ≤ 30) ∧ (v_1 = m_states 421) ∧ (v_1.toInt = (m_states 421).toInt) from ⟨by omega, ev_1.symm, by omega⟩) [0, 1] (by decide) rfl (by decide) (by decide) dX11_asks_8
set_option maxHeartbeats 4000000 in
set_option maxRecDepth 100000 in
theorem c_X11_lift (l : Launch) (D : DG) (cyC cyI cyJ cyZ cyO : ClassId) (m0 : Nat) (mtold : Nat) (mstates : Nat) (mtape : Nat) (msort : Nat) (mplace : Nat) (mvalue : Nat) (mwords : Nat) (mop : Nat) (marg : Nat) (mnames : Nat) (mhasHabit : Nat) (mfactWords : Nat) (mfacts : Nat) (mpile : Nat) (misMarked : Nat) (mrow : Nat) (mthr : Nat) (mmays : Nat) (mtall : Nat) (mweights : Nat) (mrowOfWare : Nat) (mneededOf : Nat) (mtried : Nat) (mbestRow : Nat) (mdigits : Nat) (p0 : Int32) (m_thrown : Int32) (m_taped : Int32) (m_size : Int32) (m_at : Int32) (m_fault : Int32) (m_codes : Int32) (m_isNew : Int32) (m_inShelf : Int32) (m_inStack : Int32) (m_inPlace : Int32) (m_rowMany : Int32) (m_goShelf : Int32) (m_goStack : Int32) (m_goLeft : Int32) (m_bestCost : Int32) (m_bestMany : Int32) (m_bestShelf : Int32) (m_bestSet : Int32) (m_told : Nat → Int32) (m_states : Nat → Int32) (h_m_taped : 0 ≤ (m_taped).toInt ∧ (m_taped).toInt ≤ 1000) (h_m_size : 0 ≤ (m_size).toInt ∧ (m_size).toInt ≤ 1000) (h_m_at : 0 ≤ (m_at).toInt ∧ (m_at).toInt ≤ 1000) (h_m_fault : 0 ≤ (m_fault).toInt ∧ (m_fault).toInt ≤ 16005) (h_m_codes : 0 ≤ (m_codes).toInt ∧ (m_codes).toInt ≤ 1000) (h_m_isNew : 0 ≤ (m_isNew).toInt ∧ (m_isNew).toInt ≤ 1) (h_m_inShelf : 0 ≤ (m_inShelf).toInt ∧ (m_inShelf).toInt ≤ 3) (h_m_inStack : 0 ≤ (m_inStack).toInt ∧ (m_inStack).toInt ≤ 7) (h_m_inPlace : 0 ≤ (m_inPlace).toInt ∧ (m_inPlace).toInt ≤ 11) (h_m_rowMany : 0 ≤ (m_rowMany).toInt ∧ (m_rowMany).toInt ≤ 12) (h_m_goShelf : -1 ≤ (m_goShelf).toInt ∧ (m_goShelf).toInt ≤ 3) (h_m_bestMany : 0 ≤ (m_bestMany).toInt ∧ (m_bestMany).toInt ≤ 7) (h_m_bestShelf : 0 ≤ (m_bestShelf).toInt ∧ (m_bestShelf).toInt ≤ 3) (h_m_told : TV m_told) (h_m_states : SV m_states) : KK l D (TY cyC cyI cyJ cyZ cyO) yX11_lift cX11_lift 2 (some .int) ({ frames := 3, cells := 0, slots := 0, locals := 68 } : Room) 0 0 [.ref m0, .int p0] [(m0, .inr (11, [.int m_thrown, .ref mtape, .int m_taped, .int m_size, .ref msort, .ref mplace, .ref mvalue, .int m_at, .int m_fault, .ref mwords, .ref mtold, .ref mop, .ref marg, .int m_codes, .ref mnames, .ref mhasHabit, .int m_isNew, .ref mfactWords, .ref mfacts, .ref mpile, .ref mstates, .ref misMarked, .int m_inShelf, .int m_inStack, .int m_inPlace, .ref mrow, .int m_rowMany, .ref mthr, .ref mmays, .ref mtall, .ref mweights, .ref mrowOfWare, .ref mneededOf, .int m_goShelf, .int m_goStack, .int m_goLeft, .ref mtried, .ref mbestRow, .int m_bestCost, .int m_bestMany, .int m_bestShelf, .int m_bestSet, .ref mdigits])), (mtold, .inl (cyI, 240, .inl m_told)), (mstates, .inl (cyI, 2760, .inl m_states))] (fun u => some (.int (u.2.1 0))) (fun u => (0 ≤ (u.2.1 1).toInt ∧ (u.2.1 1).toInt ≤ 3) ∧ (0 ≤ (u.2.1 2).toInt ∧ (u.2.1 2).toInt ≤ 7) ∧ (0 ≤ (u.2.1 3).toInt ∧ (u.2.1 3).toInt ≤ 11) ∧ (GRD ((0 ≤ (p0).toInt ∧ (p0).toInt < (m_told 0).toInt) ∧ ¬ NI m_states 0 p0 (m_told 1).toInt) (-1) (fun x => ∃ s k q : Nat, IN m_states 0 (m_told 1).toInt s k q (p0).toInt.toNat ∧ s < 4 ∧ k < 8 ∧ x = (lcF (wtM m_told) (fun p => m_states ((105 * s + 1 + 13 * k) + 1 + p)) (m_told (99 + 3 * s + 1)) q (m_states (105 * s + 1 + 13 * k)).toInt.toNat).toInt) (u.2.1 0).toInt)) (fun u => [(m0, .inr (11, [.int 0, .ref mtape, .int m_taped, .int m_size, .ref msort, .ref mplace, .ref mvalue, .int m_at, .int m_fault, .ref mwords, .ref mtold, .ref mop, .ref marg, .int m_codes, .ref mnames, .ref mhasHabit, .int m_isNew, .ref mfactWords, .ref mfacts, .ref mpile, .ref mstates, .ref misMarked, .int (u.2.1 1), .int (u.2.1 2), .int (u.2.1 3), .ref mrow, .int m_rowMany, .ref mthr, .ref mmays, .ref mtall, .ref mweights, .ref mrowOfWare, .ref mneededOf, .int m_goShelf, .int m_goStack, .int m_goLeft, .ref mtried, .ref mbestRow, .int m_bestCost, .int m_bestMany, .int m_bestShelf, .int m_bestSet, .ref mdigits])), (mtold, .inl (cyI, 240, .inl m_told)), (mstates, .inl (cyI, 2760, .inl m_states))]) := by
  refine KK.of (lv0 := [(0, .ref m0), (1, .int p0)]) (by decide) rfl (Nat.le_of_ble_eq_true rfl) ?_
  intro p e s m args below meth c A C hr hk hin
  refine j_aload_n (pc := 0) C dX11_lift_0 rfl 0 rfl ?_
  refine j_iconst (pc := 1) (v := 0) C dX11_lift_1 (by decide) ?_
  refine j_put (pc := 2) (ci := 11) (v := .int 0) (ws' := [(m0, .inr (11, [.int 0, .ref mtape, .int m_taped, .int m_size, .ref msort, .ref mplace, .ref mvalue, .int m_at, .int m_fault, .ref mwords, .ref mtold, .ref mop, .ref marg, .int m_codes, .ref mnames, .ref mhasHabit, .int m_isNew, .ref mfactWords, .ref mfacts, .ref mpile, .ref mstates, .ref misMarked, .int m_inShelf, .int m_inStack, .int m_inPlace, .ref mrow, .int m_rowMany, .ref mthr, .ref mmays, .ref mtall, .ref mweights, .ref mrowOfWare, .ref mneededOf, .int m_goShelf, .int m_goStack, .int m_goLeft, .ref mtried, .ref mbestRow, .int m_bestCost, .int m_bestMany, .int m_bestShelf, .int m_bestSet, .ref mdigits])), (mtold, .inl (cyI, 240, .inl m_told)), (mstates, .inl (cyI, 2760, .inl m_states))]) C inw_11 0 rfl rfl 0 (by decide) wd_629 rfl tyX11_ok nmX11 rfl (tyX11_ok 0 (by decide)) rfl rfl (Nat.le_of_ble_eq_true rfl) dX11_lift_2 rfl ?_
  refine j_aload_n (pc := 5) C dX11_lift_5 rfl 0 rfl ?_
  refine j_iload_n (pc := 6) C dX11_lift_6 rfl 1 rfl ?_
  refine j_callV (pc := 7) (As := [.int p0]) (rest := []) (wr := [(mstates, .inl (cyI, 2760, .inl m_states))]) C (c_X11_isWare l D cyC cyI cyJ cyZ cyO m0 mtold mtape msort mplace mvalue mwords mop marg mnames mhasHabit mfactWords mfacts mpile mstates misMarked mrow mthr mmays mtall mweights mrowOfWare mneededOf mtried mbestRow mdigits p0 0 m_taped m_size m_at m_fault m_codes m_isNew m_inShelf m_inStack m_inPlace m_rowMany m_goShelf m_goStack m_goLeft m_bestCost m_bestMany m_bestShelf m_bestSet m_told h_m_taped h_m_size h_m_at h_m_fault h_m_codes h_m_isNew h_m_inShelf h_m_inStack h_m_inPlace h_m_rowMany h_m_goShelf h_m_bestMany h_m_bestShelf h_m_told) wd_814 wd_624 wd_815 wd_816 wd_817 ⟨by decide, by decide, rfl⟩ rfl ⟨rfl, rfl, by decide, by decide⟩ ⟨by decide, by decide⟩ [0, 1] [2] rfl rfl ⟨by decide, by decide, by decide⟩ 0 rfl rfl rfl (Nat.le_of_ble_eq_true rfl) dX11_lift_7 (fun u_1 hw_2 => ?_)
  refine j_eq (ws2 := [(mstates, .inl (cyI, 2760, .inl m_states)), (m0, .inr (11, [.int 0, .ref mtape, .int m_taped, .int m_size, .ref msort, .ref mplace, .ref mvalue, .int m_at, .int m_fault, .ref mwords, .ref mtold, .ref mop, .ref marg, .int m_codes, .ref mnames, .ref mhasHabit, .int m_isNew, .ref mfactWords, .ref mfacts, .ref mpile, .ref mstates, .ref misMarked, .int m_inShelf, .int m_inStack, .int m_inPlace, .ref mrow, .int m_rowMany, .ref mthr, .ref mmays, .ref mtall, .ref mweights, .ref mrowOfWare, .ref mneededOf, .int m_goShelf, .int m_goStack, .int m_goLeft, .ref mtried, .ref mbestRow, .int m_bestCost, .int m_bestMany, .int m_bestShelf, .int m_bestSet, .ref mdigits])), (mtold, .inl (cyI, 240, .inl m_told))]) (pc2 := 10) (lv2 := [(0, .ref m0), (1, .int p0)]) (st2 := [.int (u_1.2.1 0)]) rfl rfl rfl rfl ?_
  obtain ⟨hw_2_0, hw_2_1, hw_2_2⟩ := hw_2
  refine j_if_eq (pc := 10) (tgt := 30) C dX11_lift_10 (by decide) (fun c_3 => ?_) (fun c_3 => ?_)
  · skip
    have el_0 : (0 : Int32).toInt = 0 := rfl
    rw [i_eq] at c_3
    refine j_iconst (pc := 30) (v := (-1)) C dX11_lift_30 (by decide) ?_
    have el_m1 : ((-1) : Int32).toInt = (-1) := rfl
    exact j_iret (pc := 31) C hr hk (fun i => [].getD i 0, fun i => [(-1), m_inShelf, m_inStack, m_inPlace].getD i 0, fun i => [].getD i (fun _ => 0), fun i => [].getD i (fun _ => 0)) rfl (show (0 ≤ (m_inShelf).toInt ∧ (m_inShelf).toInt ≤ 3) ∧ (0 ≤ (m_inStack).toInt ∧ (m_inStack).toInt ≤ 7) ∧ (0 ≤ (m_inPlace).toInt ∧ (m_inPlace).toInt ≤ 11) ∧ (GRD ((0 ≤ (p0).toInt ∧ (p0).toInt < (m_told 0).toInt) ∧ ¬ NI m_states 0 p0 (m_told 1).toInt) (-1) (fun x => ∃ s k q : Nat, IN m_states 0 (m_told 1).toInt s k q (p0).toInt.toNat ∧ s < 4 ∧ k < 8 ∧ x = (lcF (wtM m_told) (fun p => m_states ((105 * s + 1 + 13 * k) + 1 + p)) (m_told (99 + 3 * s + 1)) q (m_states (105 * s + 1 + 13 * k)).toInt.toNat).toInt) ((-1) : Int32).toInt) from ⟨h_m_inShelf, h_m_inStack, h_m_inPlace, (Or.inl ⟨rfl, fun z => by have z1 := z.1; omega⟩)⟩) [1, 2, 0] (by decide) rfl (by decide) (by decide) dX11_lift_31
  · skip
    have el_0 : (0 : Int32).toInt = 0 := rfl
    rw [i_eq] at c_3
    have k0c_3 : ((u_1.2.1 0)).toInt = 1 := by omega
    refine j_aload_n (pc := 13) C dX11_lift_13 rfl 0 rfl ?_
    refine j_iconst (pc := 14) (v := 0) C dX11_lift_14 (by decide) ?_
    refine j_iload_n (pc := 15) C dX11_lift_15 rfl 1 rfl ?_
    refine j_callV (pc := 16) (As := [.int 0, .int p0]) (rest := []) (wr := []) C (c_X11_isIn_0 l D cyC cyI cyJ cyZ cyO m0 mtold mstates mtape msort mplace mvalue mwords mop marg mnames mhasHabit mfactWords mfacts mpile misMarked mrow mthr mmays mtall mweights mrowOfWare mneededOf mtried mbestRow mdigits p0 0 m_taped m_size m_at m_fault m_codes m_isNew m_inShelf m_inStack m_inPlace m_rowMany m_goShelf m_goStack m_goLeft m_bestCost m_bestMany m_bestShelf m_bestSet m_told m_states h_m_taped h_m_size h_m_at h_m_fault h_m_codes h_m_isNew h_m_inShelf h_m_inStack h_m_inPlace h_m_rowMany h_m_goShelf h_m_bestMany h_m_bestShelf h_m_told h_m_states) wd_825 wd_624 wd_826 wd_827 wd_828 ⟨by decide, by decide, rfl⟩ rfl ⟨rfl, rfl, by decide, by decide⟩ ⟨by decide, by decide⟩ [1, 2, 0] [] rfl rfl ⟨by decide, by decide, by decide⟩ 1 rfl rfl rfl (Nat.le_of_ble_eq_true rfl) dX11_lift_16 (fun u_4 hw_5 => ?_)
    refine j_eq (ws2 := [(m0, .inr (11, [.int 0, .ref mtape, .int m_taped, .int m_size, .ref msort, .ref mplace, .ref mvalue, .int m_at, .int m_fault, .ref mwords, .ref mtold, .ref mop, .ref marg, .int m_codes, .ref mnames, .ref mhasHabit, .int m_isNew, .ref mfactWords, .ref mfacts, .ref mpile, .ref mstates, .ref misMarked, .int (u_4.2.1 1), .int (u_4.2.1 2), .int (u_4.2.1 3), .ref mrow, .int m_rowMany, .ref mthr, .ref mmays, .ref mtall, .ref mweights, .ref mrowOfWare, .ref mneededOf, .int m_goShelf, .int m_goStack, .int m_goLeft, .ref mtried, .ref mbestRow, .int m_bestCost, .int m_bestMany, .int m_bestShelf, .int m_bestSet, .ref mdigits])), (mtold, .inl (cyI, 240, .inl m_told)), (mstates, .inl (cyI, 2760, .inl m_states))]) (pc2 := 19) (lv2 := [(0, .ref m0), (1, .int p0)]) (st2 := [.int (u_4.2.1 0)]) rfl rfl rfl rfl ?_
    obtain ⟨hw_5_0, hw_5_1, hw_5_2, hw_5_3, hw_5_4, hw_5_5⟩ := hw_5
    refine j_if_eq (pc := 19) (tgt := 30) C dX11_lift_19 (by decide) (fun c_6 => ?_) (fun c_6 => ?_)
    · skip
      have el_0 : (0 : Int32).toInt = 0 := rfl
      rw [i_eq] at c_6
      refine j_iconst (pc := 30) (v := (-1)) C dX11_lift_30 (by decide) ?_
      have el_m1 : ((-1) : Int32).toInt = (-1) := rfl
      exact j_iret (pc := 31) C hr hk (fun i => [].getD i 0, fun i => [(-1), (u_4.2.1 1), (u_4.2.1 2), (u_4.2.1 3)].getD i 0, fun i => [].getD i (fun _ => 0), fun i => [].getD i (fun _ => 0)) rfl (show (0 ≤ ((u_4.2.1 1)).toInt ∧ ((u_4.2.1 1)).toInt ≤ 3) ∧ (0 ≤ ((u_4.2.1 2)).toInt ∧ ((u_4.2.1 2)).toInt ≤ 7) ∧ (0 ≤ ((u_4.2.1 3)).toInt ∧ ((u_4.2.1 3)).toInt ≤ 11) ∧ (GRD ((0 ≤ (p0).toInt ∧ (p0).toInt < (m_told 0).toInt) ∧ ¬ NI m_states 0 p0 (m_told 1).toInt) (-1) (fun x => ∃ s k q : Nat, IN m_states 0 (m_told 1).toInt s k q (p0).toInt.toNat ∧ s < 4 ∧ k < 8 ∧ x = (lcF (wtM m_told) (fun p => m_states ((105 * s + 1 + 13 * k) + 1 + p)) (m_told (99 + 3 * s + 1)) q (m_states (105 * s + 1 + 13 * k)).toInt.toNat).toInt) ((-1) : Int32).toInt) from ⟨hw_5_1, hw_5_2, hw_5_3, (Or.inl ⟨rfl, fun z => z.2 (hw_5_4 (by omega))⟩)⟩) [0, 1, 2] (by decide) rfl (by decide) (by decide) dX11_lift_31
    · skip
      have el_0 : (0 : Int32).toInt = 0 := rfl
      rw [i_eq] at c_6
      have k0c_6 : ((u_4.2.1 0)).toInt = 1 := by omega
      obtain ⟨hi1, hi2, hi3, hi4⟩ := hw_5_5 (by omega)
      refine j_aload_n (pc := 22) C dX11_lift_22 rfl 0 rfl ?_
      refine j_iconst (pc := 23) (v := 0) C dX11_lift_23 (by decide) ?_
      refine j_callV (pc := 24) (As := [.int 0]) (rest := []) (wr := []) C (c_X11_liftCost_0 l D cyC cyI cyJ cyZ cyO m0 mtold mstates mtape msort mplace mvalue mwords mop marg mnames mhasHabit mfactWords mfacts mpile misMarked mrow mthr mmays mtall mweights mrowOfWare mneededOf mtried mbestRow mdigits 0 m_taped m_size m_at m_fault m_codes m_isNew (u_4.2.1 1) (u_4.2.1 2) (u_4.2.1 3) m_rowMany m_goShelf m_goStack m_goLeft m_bestCost m_bestMany m_bestShelf m_bestSet m_told m_states h_m_taped h_m_size h_m_at h_m_fault h_m_codes h_m_isNew hw_5_1 hw_5_2 hw_5_3 h_m_rowMany h_m_goShelf h_m_bestMany h_m_bestShelf h_m_told h_m_states) wd_829 wd_624 wd_830 wd_831 wd_832 ⟨by decide, by decide, rfl⟩ rfl ⟨rfl, rfl, by decide, by decide⟩ ⟨by decide, by decide⟩ [0, 1, 2] [] rfl rfl ⟨by decide, by decide, by decide⟩ 0 rfl rfl rfl (Nat.le_of_ble_eq_true rfl) dX11_lift_24 (fun u_7 hw_8 => ?_)
      refine j_eq (ws2 := [(m0, .inr (11, [.int 0, .ref mtape, .int m_taped, .int m_size, .ref msort, .ref mplace, .ref mvalue, .int m_at, .int m_fault, .ref mwords, .ref mtold, .ref mop, .ref marg, .int m_codes, .ref mnames, .ref mhasHabit, .int m_isNew, .ref mfactWords, .ref mfacts, .ref mpile, .ref mstates, .ref misMarked, .int (u_4.2.1 1), .int (u_4.2.1 2), .int (u_4.2.1 3), .ref mrow, .int m_rowMany, .ref mthr, .ref mmays, .ref mtall, .ref mweights, .ref mrowOfWare, .ref mneededOf, .int m_goShelf, .int m_goStack, .int m_goLeft, .ref mtried, .ref mbestRow, .int m_bestCost, .int m_bestMany, .int m_bestShelf, .int m_bestSet, .ref mdigits])), (mtold, .inl (cyI, 240, .inl m_told)), (mstates, .inl (cyI, 2760, .inl m_states))]) (pc2 := 27) (lv2 := [(0, .ref m0), (1, .int p0)]) (st2 := [.int (u_7.2.1 0)]) rfl rfl rfl rfl ?_
      obtain ⟨hw_8_0, hw_8_1⟩ := hw_8
      refine j_goto (pc := 27) (tgt := 31) C dX11_lift_27 (by decide) ?_
      exact j_iret (pc := 31) C hr hk (fun i => [].getD i 0, fun i => [(u_7.2.1 0), (u_4.2.1 1), (u_4.2.1 2), (u_4.2.1 3)].getD i 0, fun i => [].getD i (fun _ => 0), fun i => [].getD i (fun _ => 0)) rfl (show (0 ≤ ((u_4.2.1 1)).toInt ∧ ((u_4.2.1 1)).toInt ≤ 3) ∧ (0 ≤ ((u_4.2.1 2)).toInt ∧ ((u_4.2.1 2)).toInt ≤ 7) ∧ (0 ≤ ((u_4.2.1 3)).toInt ∧ ((u_4.2.1 3)).toInt ≤ 11) ∧ (GRD ((0 ≤ (p0).toInt ∧ (p0).toInt < (m_told 0).toInt) ∧ ¬ NI m_states 0 p0 (m_told 1).toInt) (-1) (fun x => ∃ s k q : Nat, IN m_states 0 (m_told 1).toInt s k q (p0).toInt.toNat ∧ s < 4 ∧ k < 8 ∧ x = (lcF (wtM m_told) (fun p => m_states ((105 * s + 1 + 13 * k) + 1 + p)) (m_told (99 + 3 * s + 1)) q (m_states (105 * s + 1 + 13 * k)).toInt.toNat).toInt) (u_7.2.1 0).toInt) from ⟨hw_5_1, hw_5_2, hw_5_3, (Or.inr ⟨⟨⟨by omega, by omega⟩, (fun z => by have y := z ((u_4.2.1 1)).toInt.toNat (by omega) ((u_4.2.1 2)).toInt.toNat ((u_4.2.1 3)).toInt.toNat (by omega); rw [show 460 * 0 + 105 * ((u_4.2.1 1)).toInt.toNat = 0 + 105 * ((u_4.2.1 1)).toInt.toNat from (by omega)] at y; exact y (by omega) (by omega) hi2)⟩, ((u_4.2.1 1)).toInt.toNat, ((u_4.2.1 2)).toInt.toNat, ((u_4.2.1 3)).toInt.toNat, (show IN m_states 0 (m_told 1).toInt ((u_4.2.1 1)).toInt.toNat ((u_4.2.1 2)).toInt.toNat ((u_4.2.1 3)).toInt.toNat (p0).toInt.toNat from ⟨by omega, by rw [show 460 * 0 + 105 * ((u_4.2.1 1)).toInt.toNat = 0 + 105 * ((u_4.2.1 1)).toInt.toNat from (by omega)]; omega, by rw [show 460 * 0 + 105 * ((u_4.2.1 1)).toInt.toNat = 0 + 105 * ((u_4.2.1 1)).toInt.toNat from (by omega)]; omega, by rw [show 460 * 0 + 105 * ((u_4.2.1 1)).toInt.toNat = 0 + 105 * ((u_4.2.1 1)).toInt.toNat from (by omega), hi2]; omega⟩), by omega, by omega, by have y := hw_8_1; rw [show (0 + 105 * ((u_4.2.1 1)).toInt.toNat + 1 + 13 * ((u_4.2.1 2)).toInt.toNat) = (105 * ((u_4.2.1 1)).toInt.toNat + 1 + 13 * ((u_4.2.1 2)).toInt.toNat) from (by omega)] at y; rw [y]⟩)⟩) [0, 1, 2] (by decide) rfl (by decide) (by decide) dX11_lift_31
set_option maxHeartbeats 4000000 in
set_option maxRecDepth 100000 in
theorem c_X11_where (l : Launch) (D : DG) (cyC cyI cyJ cyZ cyO : ClassId) (m0 : Nat) (mtold : Nat) (mstates : Nat) (mrow : Nat) (mtape : Nat) (msort : Nat) (mplace : Nat) (mvalue : Nat) (mwords : Nat) (mop : Nat) (marg : Nat) (mnames : Nat) (mhasHabit : Nat) (mfactWords : Nat) (mfacts : Nat) (mpile : Nat) (misMarked : Nat) (mthr : Nat) (mmays : Nat) (mtall : Nat) (mweights : Nat) (mrowOfWare : Nat) (mneededOf : Nat) (mtried : Nat) (mbestRow : Nat) (mdigits : Nat) (p0 : Int32) (p1 : Int32) (m_thrown : Int32) (m_taped : Int32) (m_size : Int32) (m_at : Int32) (m_fault : Int32) (m_codes : Int32) (m_isNew : Int32) (m_inShelf : Int32) (m_inStack : Int32) (m_inPlace : Int32) (m_rowMany : Int32) (m_goShelf : Int32) (m_goStack : Int32) (m_goLeft : Int32) (m_bestCost : Int32) (m_bestMany : Int32) (m_bestShelf : Int32) (m_bestSet : Int32) (m_told : Nat → Int32) (m_states : Nat → Int32) (m_row : Nat → Int32) (h_m_taped : 0 ≤ (m_taped).toInt ∧ (m_taped).toInt ≤ 1000) (h_m_size : 0 ≤ (m_size).toInt ∧ (m_size).toInt ≤ 1000) (h_m_at : 0 ≤ (m_at).toInt ∧ (m_at).toInt ≤ 1000) (h_m_fault : 0 ≤ (m_fault).toInt ∧ (m_fault).toInt ≤ 16005) (h_m_codes : 0 ≤ (m_codes).toInt ∧ (m_codes).toInt ≤ 1000) (h_m_isNew : 0 ≤ (m_isNew).toInt ∧ (m_isNew).toInt ≤ 1) (h_m_inShelf : 0 ≤ (m_inShelf).toInt ∧ (m_inShelf).toInt ≤ 3) (h_m_inStack : 0 ≤ (m_inStack).toInt ∧ (m_inStack).toInt ≤ 7) (h_m_inPlace : 0 ≤ (m_inPlace).toInt ∧ (m_inPlace).toInt ≤ 11) (h_m_rowMany : 0 ≤ (m_rowMany).toInt ∧ (m_rowMany).toInt ≤ 12) (h_m_goShelf : -1 ≤ (m_goShelf).toInt ∧ (m_goShelf).toInt ≤ 3) (h_m_bestMany : 0 ≤ (m_bestMany).toInt ∧ (m_bestMany).toInt ≤ 7) (h_m_bestShelf : 0 ≤ (m_bestShelf).toInt ∧ (m_bestShelf).toInt ≤ 3) (h_m_row : Iv 12 (0) (11) m_row) (h_m_told : TV m_told) (h_m_states : SV m_states) : KK l D (TY cyC cyI cyJ cyZ cyO) yX11_where cX11_where 3 (some .int) ({ frames := 3, cells := 0, slots := 0, locals := 67 } : Room) 0 0 [.ref m0, .int p0, .int p1] [(m0, .inr (11, [.int m_thrown, .ref mtape, .int m_taped, .int m_size, .ref msort, .ref mplace, .ref mvalue, .int m_at, .int m_fault, .ref mwords, .ref mtold, .ref mop, .ref marg, .int m_codes, .ref mnames, .ref mhasHabit, .int m_isNew, .ref mfactWords, .ref mfacts, .ref mpile, .ref mstates, .ref misMarked, .int m_inShelf, .int m_inStack, .int m_inPlace, .ref mrow, .int m_rowMany, .ref mthr, .ref mmays, .ref mtall, .ref mweights, .ref mrowOfWare, .ref mneededOf, .int m_goShelf, .int m_goStack, .int m_goLeft, .ref mtried, .ref mbestRow, .int m_bestCost, .int m_bestMany, .int m_bestShelf, .int m_bestSet, .ref mdigits])), (mtold, .inl (cyI, 240, .inl m_told)), (mstates, .inl (cyI, 2760, .inl m_states)), (mrow, .inl (cyI, 12, .inl m_row))] (fun u => some (.int (u.2.1 0))) (fun u => (0 ≤ (u.2.1 1).toInt ∧ (u.2.1 1).toInt ≤ 3) ∧ (0 ≤ (u.2.1 2).toInt ∧ (u.2.1 2).toInt ≤ 7) ∧ (0 ≤ (u.2.1 3).toInt ∧ (u.2.1 3).toInt ≤ 11) ∧ (0 ≤ (u.2.1 4).toInt ∧ (u.2.1 4).toInt ≤ 12) ∧ (Iv 12 (0) (11) (u.2.2.1 0)) ∧ (GRD ((0 ≤ (p0).toInt ∧ (p0).toInt < (m_told 0).toInt) ∧ ¬ NI m_states 0 p0 (m_told 1).toInt) (-1) (fun x => ∃ s k q : Nat, IN m_states 0 (m_told 1).toInt s k q (p0).toInt.toNat ∧ s < 4 ∧ k < 8 ∧ x = whF (p1).toInt (s : Int) (k : Int) (q : Int) ((m_states (105 * s + 1 + 13 * k)).toInt - 1 - (q : Int)) (ftF (rsM m_told) (fun p => m_states ((105 * s + 1 + 13 * k) + 1 + p)) q).toInt) (u.2.1 0).toInt)) (fun u => [(m0, .inr (11, [.int 0, .ref mtape, .int m_taped, .int m_size, .ref msort, .ref mplace, .ref mvalue, .int m_at, .int m_fault, .ref mwords, .ref mtold, .ref mop, .ref marg, .int m_codes, .ref mnames, .ref mhasHabit, .int m_isNew, .ref mfactWords, .ref mfacts, .ref mpile, .ref mstates, .ref misMarked, .int (u.2.1 1), .int (u.2.1 2), .int (u.2.1 3), .ref mrow, .int (u.2.1 4), .ref mthr, .ref mmays, .ref mtall, .ref mweights, .ref mrowOfWare, .ref mneededOf, .int m_goShelf, .int m_goStack, .int m_goLeft, .ref mtried, .ref mbestRow, .int m_bestCost, .int m_bestMany, .int m_bestShelf, .int m_bestSet, .ref mdigits])), (mtold, .inl (cyI, 240, .inl m_told)), (mstates, .inl (cyI, 2760, .inl m_states)), (mrow, .inl (cyI, 12, .inl (u.2.2.1 0)))]) := by
  refine KK.of (lv0 := [(0, .ref m0), (1, .int p0), (2, .int p1)]) (by decide) rfl (Nat.le_of_ble_eq_true rfl) ?_
  intro p e s m args below meth c A C hr hk hin
  refine j_aload_n (pc := 0) C dX11_where_0 rfl 0 rfl ?_
  refine j_iconst (pc := 1) (v := 0) C dX11_where_1 (by decide) ?_
  refine j_put (pc := 2) (ci := 11) (v := .int 0) (ws' := [(m0, .inr (11, [.int 0, .ref mtape, .int m_taped, .int m_size, .ref msort, .ref mplace, .ref mvalue, .int m_at, .int m_fault, .ref mwords, .ref mtold, .ref mop, .ref marg, .int m_codes, .ref mnames, .ref mhasHabit, .int m_isNew, .ref mfactWords, .ref mfacts, .ref mpile, .ref mstates, .ref misMarked, .int m_inShelf, .int m_inStack, .int m_inPlace, .ref mrow, .int m_rowMany, .ref mthr, .ref mmays, .ref mtall, .ref mweights, .ref mrowOfWare, .ref mneededOf, .int m_goShelf, .int m_goStack, .int m_goLeft, .ref mtried, .ref mbestRow, .int m_bestCost, .int m_bestMany, .int m_bestShelf, .int m_bestSet, .ref mdigits])), (mtold, .inl (cyI, 240, .inl m_told)), (mstates, .inl (cyI, 2760, .inl m_states)), (mrow, .inl (cyI, 12, .inl m_row))]) C inw_11 0 rfl rfl 0 (by decide) wd_629 rfl tyX11_ok nmX11 rfl (tyX11_ok 0 (by decide)) rfl rfl (Nat.le_of_ble_eq_true rfl) dX11_where_2 rfl ?_
  refine j_aload_n (pc := 5) C dX11_where_5 rfl 0 rfl ?_
  refine j_iload_n (pc := 6) C dX11_where_6 rfl 1 rfl ?_
  refine j_callV (pc := 7) (As := [.int p0]) (rest := []) (wr := [(mstates, .inl (cyI, 2760, .inl m_states)), (mrow, .inl (cyI, 12, .inl m_row))]) C (c_X11_isWare l D cyC cyI cyJ cyZ cyO m0 mtold mtape msort mplace mvalue mwords mop marg mnames mhasHabit mfactWords mfacts mpile mstates misMarked mrow mthr mmays mtall mweights mrowOfWare mneededOf mtried mbestRow mdigits p0 0 m_taped m_size m_at m_fault m_codes m_isNew m_inShelf m_inStack m_inPlace m_rowMany m_goShelf m_goStack m_goLeft m_bestCost m_bestMany m_bestShelf m_bestSet m_told h_m_taped h_m_size h_m_at h_m_fault h_m_codes h_m_isNew h_m_inShelf h_m_inStack h_m_inPlace h_m_rowMany h_m_goShelf h_m_bestMany h_m_bestShelf h_m_told) wd_814 wd_624 wd_815 wd_816 wd_817 ⟨by decide, by decide, rfl⟩ rfl ⟨rfl, rfl, by decide, by decide⟩ ⟨by decide, by decide⟩ [0, 1] [2, 3] rfl rfl ⟨by decide, by decide, by decide⟩ 0 rfl rfl rfl (Nat.le_of_ble_eq_true rfl) dX11_where_7 (fun u_1 hw_2 => ?_)
  refine j_eq (ws2 := [(mstates, .inl (cyI, 2760, .inl m_states)), (mrow, .inl (cyI, 12, .inl m_row)), (m0, .inr (11, [.int 0, .ref mtape, .int m_taped, .int m_size, .ref msort, .ref mplace, .ref mvalue, .int m_at, .int m_fault, .ref mwords, .ref mtold, .ref mop, .ref marg, .int m_codes, .ref mnames, .ref mhasHabit, .int m_isNew, .ref mfactWords, .ref mfacts, .ref mpile, .ref mstates, .ref misMarked, .int m_inShelf, .int m_inStack, .int m_inPlace, .ref mrow, .int m_rowMany, .ref mthr, .ref mmays, .ref mtall, .ref mweights, .ref mrowOfWare, .ref mneededOf, .int m_goShelf, .int m_goStack, .int m_goLeft, .ref mtried, .ref mbestRow, .int m_bestCost, .int m_bestMany, .int m_bestShelf, .int m_bestSet, .ref mdigits])), (mtold, .inl (cyI, 240, .inl m_told))]) (pc2 := 10) (lv2 := [(0, .ref m0), (1, .int p0), (2, .int p1)]) (st2 := [.int (u_1.2.1 0)]) rfl rfl rfl rfl ?_
  obtain ⟨hw_2_0, hw_2_1, hw_2_2⟩ := hw_2
  refine j_if_eq (pc := 10) (tgt := 31) C dX11_where_10 (by decide) (fun c_3 => ?_) (fun c_3 => ?_)
  · skip
    have el_0 : (0 : Int32).toInt = 0 := rfl
    rw [i_eq] at c_3
    refine j_iconst (pc := 31) (v := (-1)) C dX11_where_31 (by decide) ?_
    have el_m1 : ((-1) : Int32).toInt = (-1) := rfl
    exact j_iret (pc := 32) C hr hk (fun i => [].getD i 0, fun i => [(-1), m_inShelf, m_inStack, m_inPlace, m_rowMany].getD i 0, fun i => [m_row].getD i (fun _ => 0), fun i => [].getD i (fun _ => 0)) rfl (show (0 ≤ (m_inShelf).toInt ∧ (m_inShelf).toInt ≤ 3) ∧ (0 ≤ (m_inStack).toInt ∧ (m_inStack).toInt ≤ 7) ∧ (0 ≤ (m_inPlace).toInt ∧ (m_inPlace).toInt ≤ 11) ∧ (0 ≤ (m_rowMany).toInt ∧ (m_rowMany).toInt ≤ 12) ∧ (Iv 12 (0) (11) m_row) ∧ (GRD ((0 ≤ (p0).toInt ∧ (p0).toInt < (m_told 0).toInt) ∧ ¬ NI m_states 0 p0 (m_told 1).toInt) (-1) (fun x => ∃ s k q : Nat, IN m_states 0 (m_told 1).toInt s k q (p0).toInt.toNat ∧ s < 4 ∧ k < 8 ∧ x = whF (p1).toInt (s : Int) (k : Int) (q : Int) ((m_states (105 * s + 1 + 13 * k)).toInt - 1 - (q : Int)) (ftF (rsM m_told) (fun p => m_states ((105 * s + 1 + 13 * k) + 1 + p)) q).toInt) ((-1) : Int32).toInt) from ⟨h_m_inShelf, h_m_inStack, h_m_inPlace, h_m_rowMany, h_m_row, (Or.inl ⟨rfl, fun z => by have z1 := z.1; omega⟩)⟩) [2, 3, 0, 1] (by decide) rfl (by decide) (by decide) dX11_where_32
  · skip
    have el_0 : (0 : Int32).toInt = 0 := rfl
    rw [i_eq] at c_3
    have k0c_3 : ((u_1.2.1 0)).toInt = 1 := by omega
    refine j_iload_n (pc := 13) C dX11_where_13 rfl 2 rfl ?_
    refine j_iconst (pc := 14) (v := 0) C dX11_where_14 (by decide) ?_
    refine j_iconst (pc := 15) (v := 4) C dX11_where_15 (by decide) ?_
    refine j_callS (pc := 16) (As := [.int p1, .int 0, .int 4]) (rest := []) (wr := [(mstates, .inl (cyI, 2760, .inl m_states)), (mrow, .inl (cyI, 12, .inl m_row)), (m0, .inr (11, [.int 0, .ref mtape, .int m_taped, .int m_size, .ref msort, .ref mplace, .ref mvalue, .int m_at, .int m_fault, .ref mwords, .ref mtold, .ref mop, .ref marg, .int m_codes, .ref mnames, .ref mhasHabit, .int m_isNew, .ref mfactWords, .ref mfacts, .ref mpile, .ref mstates, .ref misMarked, .int m_inShelf, .int m_inStack, .int m_inPlace, .ref mrow, .int m_rowMany, .ref mthr, .ref mmays, .ref mtall, .ref mweights, .ref mrowOfWare, .ref mneededOf, .int m_goShelf, .int m_goStack, .int m_goLeft, .ref mtried, .ref mbestRow, .int m_bestCost, .int m_bestMany, .int m_bestShelf, .int m_bestSet, .ref mdigits])), (mtold, .inl (cyI, 240, .inl m_told))]) C (c_X11_within_f l D cyC cyI cyJ cyZ cyO p1 0 4) wd_818 wd_624 wd_819 wd_820 ⟨by decide, by decide, rfl⟩ rfl ⟨rfl, rfl, by decide, by decide⟩ ⟨by decide, by decide⟩ [] [0, 1, 2, 3] rfl rfl ⟨by decide, by decide, by decide⟩ rfl (Nat.le_of_ble_eq_true rfl) dX11_where_16 (fun u_4 hw_5 => ?_)
    refine j_eq (ws2 := [(mstates, .inl (cyI, 2760, .inl m_states)), (mrow, .inl (cyI, 12, .inl m_row)), (m0, .inr (11, [.int 0, .ref mtape, .int m_taped, .int m_size, .ref msort, .ref mplace, .ref mvalue, .int m_at, .int m_fault, .ref mwords, .ref mtold, .ref mop, .ref marg, .int m_codes, .ref mnames, .ref mhasHabit, .int m_isNew, .ref mfactWords, .ref mfacts, .ref mpile, .ref mstates, .ref misMarked, .int m_inShelf, .int m_inStack, .int m_inPlace, .ref mrow, .int m_rowMany, .ref mthr, .ref mmays, .ref mtall, .ref mweights, .ref mrowOfWare, .ref mneededOf, .int m_goShelf, .int m_goStack, .int m_goLeft, .ref mtried, .ref mbestRow, .int m_bestCost, .int m_bestMany, .int m_bestShelf, .int m_bestSet, .ref mdigits])), (mtold, .inl (cyI, 240, .inl m_told))]) (pc2 := 19) (lv2 := [(0, .ref m0), (1, .int p0), (2, .int p1)]) (st2 := [.int (u_4.2.1 0)]) rfl rfl rfl rfl ?_
    obtain ⟨hw_5_0, hw_5_1, hw_5_2⟩ := hw_5
    have el_0 : (0 : Int32).toInt = 0 := rfl
    have el_4 : (4 : Int32).toInt = 4 := rfl
    refine j_if_eq (pc := 19) (tgt := 31) C dX11_where_19 (by decide) (fun c_6 => ?_) (fun c_6 => ?_)
    · skip
      have el_0 : (0 : Int32).toInt = 0 := rfl
      rw [i_eq] at c_6
      refine j_iconst (pc := 31) (v := (-1)) C dX11_where_31 (by decide) ?_
      have el_m1 : ((-1) : Int32).toInt = (-1) := rfl
      exact j_iret (pc := 32) C hr hk (fun i => [].getD i 0, fun i => [(-1), m_inShelf, m_inStack, m_inPlace, m_rowMany].getD i 0, fun i => [m_row].getD i (fun _ => 0), fun i => [].getD i (fun _ => 0)) rfl (show (0 ≤ (m_inShelf).toInt ∧ (m_inShelf).toInt ≤ 3) ∧ (0 ≤ (m_inStack).toInt ∧ (m_inStack).toInt ≤ 7) ∧ (0 ≤ (m_inPlace).toInt ∧ (m_inPlace).toInt ≤ 11) ∧ (0 ≤ (m_rowMany).toInt ∧ (m_rowMany).toInt ≤ 12) ∧ (Iv 12 (0) (11) m_row) ∧ (GRD ((0 ≤ (p0).toInt ∧ (p0).toInt < (m_told 0).toInt) ∧ ¬ NI m_states 0 p0 (m_told 1).toInt) (-1) (fun x => ∃ s k q : Nat, IN m_states 0 (m_told 1).toInt s k q (p0).toInt.toNat ∧ s < 4 ∧ k < 8 ∧ x = whF (p1).toInt (s : Int) (k : Int) (q : Int) ((m_states (105 * s + 1 + 13 * k)).toInt - 1 - (q : Int)) (ftF (rsM m_told) (fun p => m_states ((105 * s + 1 + 13 * k) + 1 + p)) q).toInt) ((-1) : Int32).toInt) from ⟨h_m_inShelf, h_m_inStack, h_m_inPlace, h_m_rowMany, h_m_row, (by by_cases z : NI m_states 0 p0 (m_told 1).toInt; (exact Or.inl ⟨rfl, fun y => y.2 z⟩); (obtain ⟨s9, k9, q9, i9, a9, b9⟩ := NI.ex (h_m_told 1 (by decide)).2 (by omega) z; exact Or.inr ⟨⟨⟨by omega, by omega⟩, z⟩, s9, k9, q9, i9, a9, b9, by unfold whF; rw [if_neg (by omega), if_neg (by omega), if_neg (by omega), if_neg (by omega), if_neg (by omega)]; rfl⟩))⟩) [2, 3, 0, 1] (by decide) rfl (by decide) (by decide) dX11_where_32
    · skip
      have el_0 : (0 : Int32).toInt = 0 := rfl
      rw [i_eq] at c_6
      have k0c_6 : ((u_4.2.1 0)).toInt = 1 := by omega
      refine j_aload_n (pc := 22) C dX11_where_22 rfl 0 rfl ?_
      refine j_iconst (pc := 23) (v := 0) C dX11_where_23 (by decide) ?_
      refine j_iload_n (pc := 24) C dX11_where_24 rfl 1 rfl ?_
      refine j_callV (pc := 25) (As := [.int 0, .int p0]) (rest := []) (wr := [(mrow, .inl (cyI, 12, .inl m_row))]) C (c_X11_isIn_0 l D cyC cyI cyJ cyZ cyO m0 mtold mstates mtape msort mplace mvalue mwords mop marg mnames mhasHabit mfactWords mfacts mpile misMarked mrow mthr mmays mtall mweights mrowOfWare mneededOf mtried mbestRow mdigits p0 0 m_taped m_size m_at m_fault m_codes m_isNew m_inShelf m_inStack m_inPlace m_rowMany m_goShelf m_goStack m_goLeft m_bestCost m_bestMany m_bestShelf m_bestSet m_told m_states h_m_taped h_m_size h_m_at h_m_fault h_m_codes h_m_isNew h_m_inShelf h_m_inStack h_m_inPlace h_m_rowMany h_m_goShelf h_m_bestMany h_m_bestShelf h_m_told h_m_states) wd_825 wd_624 wd_826 wd_827 wd_828 ⟨by decide, by decide, rfl⟩ rfl ⟨rfl, rfl, by decide, by decide⟩ ⟨by decide, by decide⟩ [2, 3, 0] [1] rfl rfl ⟨by decide, by decide, by decide⟩ 2 rfl rfl rfl (Nat.le_of_ble_eq_true rfl) dX11_where_25 (fun u_7 hw_8 => ?_)
      refine j_eq (ws2 := [(mrow, .inl (cyI, 12, .inl m_row)), (m0, .inr (11, [.int 0, .ref mtape, .int m_taped, .int m_size, .ref msort, .ref mplace, .ref mvalue, .int m_at, .int m_fault, .ref mwords, .ref mtold, .ref mop, .ref marg, .int m_codes, .ref mnames, .ref mhasHabit, .int m_isNew, .ref mfactWords, .ref mfacts, .ref mpile, .ref mstates, .ref misMarked, .int (u_7.2.1 1), .int (u_7.2.1 2), .int (u_7.2.1 3), .ref mrow, .int m_rowMany, .ref mthr, .ref mmays, .ref mtall, .ref mweights, .ref mrowOfWare, .ref mneededOf, .int m_goShelf, .int m_goStack, .int m_goLeft, .ref mtried, .ref mbestRow, .int m_bestCost, .int m_bestMany, .int m_bestShelf, .int m_bestSet, .ref mdigits])), (mtold, .inl (cyI, 240, .inl m_told)), (mstates, .inl (cyI, 2760, .inl m_states))]) (pc2 := 28) (lv2 := [(0, .ref m0), (1, .int p0), (2, .int p1)]) (st2 := [.int (u_7.2.1 0)]) rfl rfl rfl rfl ?_
      obtain ⟨hw_8_0, hw_8_1, hw_8_2, hw_8_3, hw_8_4, hw_8_5⟩ := hw_8
      refine j_if_ne (pc := 28) (tgt := 33) C dX11_where_28 (by decide) (fun c_9 => ?_) (fun c_9 => ?_)
      · skip
        have el_0 : (0 : Int32).toInt = 0 := rfl
        rw [i_eq] at c_9
        have k0c_9 : ((u_7.2.1 0)).toInt = 1 := by omega
        obtain ⟨hi1, hi2, hi3, hi4⟩ := hw_8_5 (by omega)
        refine j_aload_n (pc := 33) C dX11_where_33 rfl 0 rfl ?_
        refine j_iconst (pc := 34) (v := 0) C dX11_where_34 (by decide) ?_
        refine j_aload_n (pc := 35) C dX11_where_35 rfl 0 rfl ?_
        refine j_get (pc := 36) (ci := 11) (v := .int (u_7.2.1 1)) C inw_11 1 rfl rfl 22 (by decide) wd_776 rfl rfl dX11_where_36 ?_
        refine j_aload_n (pc := 39) C dX11_where_39 rfl 0 rfl ?_
        refine j_get (pc := 40) (ci := 11) (v := .int (u_7.2.1 2)) C inw_11 1 rfl rfl 23 (by decide) wd_777 rfl rfl dX11_where_40 ?_
        refine j_callS (pc := 43) (As := [.int 0, .int (u_7.2.1 1), .int (u_7.2.1 2)]) (rest := [.ref m0]) (wr := [(mrow, .inl (cyI, 12, .inl m_row)), (m0, .inr (11, [.int 0, .ref mtape, .int m_taped, .int m_size, .ref msort, .ref mplace, .ref mvalue, .int m_at, .int m_fault, .ref mwords, .ref mtold, .ref mop, .ref marg, .int m_codes, .ref mnames, .ref mhasHabit, .int m_isNew, .ref mfactWords, .ref mfacts, .ref mpile, .ref mstates, .ref misMarked, .int (u_7.2.1 1), .int (u_7.2.1 2), .int (u_7.2.1 3), .ref mrow, .int m_rowMany, .ref mthr, .ref mmays, .ref mtall, .ref mweights, .ref mrowOfWare, .ref mneededOf, .int m_goShelf, .int m_goStack, .int m_goLeft, .ref mtried, .ref mbestRow, .int m_bestCost, .int m_bestMany, .int m_bestShelf, .int m_bestSet, .ref mdigits])), (mtold, .inl (cyI, 240, .inl m_told)), (mstates, .inl (cyI, 2760, .inl m_states))]) C (c_X11_stackAt l D cyC cyI cyJ cyZ cyO 0 (u_7.2.1 1) (u_7.2.1 2) (by decide) hw_8_1 (by omega)) wd_773 wd_624 wd_774 wd_775 ⟨by decide, by decide, rfl⟩ rfl ⟨rfl, rfl, by decide, by decide⟩ ⟨by decide, by decide⟩ [] [0, 1, 2, 3] rfl rfl ⟨by decide, by decide, by decide⟩ rfl (Nat.le_of_ble_eq_true rfl) dX11_where_43 (fun u_10 hw_11 => ?_)
        refine j_eq (ws2 := [(mrow, .inl (cyI, 12, .inl m_row)), (m0, .inr (11, [.int 0, .ref mtape, .int m_taped, .int m_size, .ref msort, .ref mplace, .ref mvalue, .int m_at, .int m_fault, .ref mwords, .ref mtold, .ref mop, .ref marg, .int m_codes, .ref mnames, .ref mhasHabit, .int m_isNew, .ref mfactWords, .ref mfacts, .ref mpile, .ref mstates, .ref misMarked, .int (u_7.2.1 1), .int (u_7.2.1 2), .int (u_7.2.1 3), .ref mrow, .int m_rowMany, .ref mthr, .ref mmays, .ref mtall, .ref mweights, .ref mrowOfWare, .ref mneededOf, .int m_goShelf, .int m_goStack, .int m_goLeft, .ref mtried, .ref mbestRow, .int m_bestCost, .int m_bestMany, .int m_bestShelf, .int m_bestSet, .ref mdigits])), (mtold, .inl (cyI, 240, .inl m_told)), (mstates, .inl (cyI, 2760, .inl m_states))]) (pc2 := 46) (lv2 := [(0, .ref m0), (1, .int p0), (2, .int p1)]) (st2 := [.int (u_10.2.1 0), .ref m0]) rfl rfl rfl rfl ?_
        obtain ⟨hw_11_0, hw_11_1⟩ := hw_11
        have el_0 : (0 : Int32).toInt = 0 := rfl
        have ad_12 : AD (u_10.2.1 0).toInt := ⟨0, ((u_7.2.1 1)).toInt.toNat, ((u_7.2.1 2)).toInt.toNat, by decide, by omega, by omega, by omega⟩
        refine j_callV (pc := 46) (As := [.int (u_10.2.1 0)]) (rest := []) (wr := [(mtold, .inl (cyI, 240, .inl m_told))]) C (c_X11_takesRow l D cyC cyI cyJ cyZ cyO m0 mstates mrow mtape msort mplace mvalue mwords mtold mop marg mnames mhasHabit mfactWords mfacts mpile misMarked mthr mmays mtall mweights mrowOfWare mneededOf mtried mbestRow mdigits (u_10.2.1 0) 0 m_taped m_size m_at m_fault m_codes m_isNew (u_7.2.1 1) (u_7.2.1 2) (u_7.2.1 3) m_rowMany m_goShelf m_goStack m_goLeft m_bestCost m_bestMany m_bestShelf m_bestSet m_states m_row h_m_taped h_m_size h_m_at h_m_fault h_m_codes h_m_isNew hw_8_1 hw_8_2 hw_8_3 h_m_rowMany h_m_goShelf h_m_bestMany h_m_bestShelf (by omega) h_m_row h_m_states ad_12) wd_781 wd_624 wd_782 wd_783 wd_784 ⟨by decide, by decide, rfl⟩ rfl ⟨rfl, rfl, by decide, by decide⟩ ⟨by decide, by decide⟩ [1, 3, 0] [2] rfl rfl ⟨by decide, by decide, by decide⟩ 1 rfl rfl rfl (Nat.le_of_ble_eq_true rfl) dX11_where_46 (fun u_13 hw_14 => ?_)
        refine j_eq (ws2 := [(mtold, .inl (cyI, 240, .inl m_told)), (m0, .inr (11, [.int 0, .ref mtape, .int m_taped, .int m_size, .ref msort, .ref mplace, .ref mvalue, .int m_at, .int m_fault, .ref mwords, .ref mtold, .ref mop, .ref marg, .int m_codes, .ref mnames, .ref mhasHabit, .int m_isNew, .ref mfactWords, .ref mfacts, .ref mpile, .ref mstates, .ref misMarked, .int (u_7.2.1 1), .int (u_7.2.1 2), .int (u_7.2.1 3), .ref mrow, .int (u_13.2.1 0), .ref mthr, .ref mmays, .ref mtall, .ref mweights, .ref mrowOfWare, .ref mneededOf, .int m_goShelf, .int m_goStack, .int m_goLeft, .ref mtried, .ref mbestRow, .int m_bestCost, .int m_bestMany, .int m_bestShelf, .int m_bestSet, .ref mdigits])), (mstates, .inl (cyI, 2760, .inl m_states)), (mrow, .inl (cyI, 12, .inl (u_13.2.2.1 0)))]) (pc2 := 49) (lv2 := [(0, .ref m0), (1, .int p0), (2, .int p1)]) (st2 := []) rfl rfl rfl rfl ?_
        obtain ⟨hw_14_0, hw_14_1, hw_14_2, hw_14_3⟩ := hw_14
        refine j_iload_n (pc := 49) C dX11_where_49 rfl 2 rfl ?_
        rcases (by omega : p1.toInt = 0 ∨ p1.toInt = 1 ∨ p1.toInt = 2 ∨ p1.toInt = 3 ∨ (¬ p1.toInt = 0 ∧ ¬ p1.toInt = 1 ∧ ¬ p1.toInt = 2 ∧ ¬ p1.toInt = 3)) with sw_15 | sw_15 | sw_15 | sw_15 | sw_15
        · skip
          refine j_tin (pc := 50) (off := 30) (tgt := 80) C dX11_where_50 (by omega) (by omega) (by rw [sw_15]; decide) (by decide) ?_
          refine j_aload_n (pc := 80) C dX11_where_80 rfl 0 rfl ?_
          refine j_get (pc := 81) (ci := 11) (v := .int (u_7.2.1 1)) C inw_11 1 rfl rfl 22 (by decide) wd_776 rfl rfl dX11_where_81 ?_
          exact j_iret (pc := 84) C hr hk (fun i => [].getD i 0, fun i => [(u_7.2.1 1), (u_7.2.1 1), (u_7.2.1 2), (u_7.2.1 3), (u_13.2.1 0)].getD i 0, fun i => [(u_13.2.2.1 0)].getD i (fun _ => 0), fun i => [].getD i (fun _ => 0)) rfl (show (0 ≤ ((u_7.2.1 1)).toInt ∧ ((u_7.2.1 1)).toInt ≤ 3) ∧ (0 ≤ ((u_7.2.1 2)).toInt ∧ ((u_7.2.1 2)).toInt ≤ 7) ∧ (0 ≤ ((u_7.2.1 3)).toInt ∧ ((u_7.2.1 3)).toInt ≤ 11) ∧ (0 ≤ ((u_13.2.1 0)).toInt ∧ ((u_13.2.1 0)).toInt ≤ 12) ∧ (Iv 12 (0) (11) (u_13.2.2.1 0)) ∧ (GRD ((0 ≤ (p0).toInt ∧ (p0).toInt < (m_told 0).toInt) ∧ ¬ NI m_states 0 p0 (m_told 1).toInt) (-1) (fun x => ∃ s k q : Nat, IN m_states 0 (m_told 1).toInt s k q (p0).toInt.toNat ∧ s < 4 ∧ k < 8 ∧ x = whF (p1).toInt (s : Int) (k : Int) (q : Int) ((m_states (105 * s + 1 + 13 * k)).toInt - 1 - (q : Int)) (ftF (rsM m_told) (fun p => m_states ((105 * s + 1 + 13 * k) + 1 + p)) q).toInt) (u_7.2.1 1).toInt) from ⟨hw_8_1, hw_8_2, hw_8_3, hw_14_0, hw_14_1, (Or.inr ⟨⟨⟨by omega, by omega⟩, (fun z => by have y := z ((u_7.2.1 1)).toInt.toNat (by omega) ((u_7.2.1 2)).toInt.toNat ((u_7.2.1 3)).toInt.toNat (by omega); rw [show 460 * 0 + 105 * ((u_7.2.1 1)).toInt.toNat = 0 + 105 * ((u_7.2.1 1)).toInt.toNat from (by omega)] at y; exact y (by omega) (by omega) hi2)⟩, ((u_7.2.1 1)).toInt.toNat, ((u_7.2.1 2)).toInt.toNat, ((u_7.2.1 3)).toInt.toNat, (show IN m_states 0 (m_told 1).toInt ((u_7.2.1 1)).toInt.toNat ((u_7.2.1 2)).toInt.toNat ((u_7.2.1 3)).toInt.toNat (p0).toInt.toNat from ⟨by omega, by rw [show 460 * 0 + 105 * ((u_7.2.1 1)).toInt.toNat = 0 + 105 * ((u_7.2.1 1)).toInt.toNat from (by omega)]; omega, by rw [show 460 * 0 + 105 * ((u_7.2.1 1)).toInt.toNat = 0 + 105 * ((u_7.2.1 1)).toInt.toNat from (by omega)]; omega, by rw [show 460 * 0 + 105 * ((u_7.2.1 1)).toInt.toNat = 0 + 105 * ((u_7.2.1 1)).toInt.toNat from (by omega), hi2]; omega⟩), by omega, by omega, by have ea : ((u_10.2.1 0)).toInt.toNat = (105 * ((u_7.2.1 1)).toInt.toNat + 1 + 13 * ((u_7.2.1 2)).toInt.toNat) := (by omega); have er := congrArg Int32.toInt hw_14_2; rw [ea] at er; unfold whF; rw [if_pos (by omega)]; omega⟩)⟩) [1, 0, 2, 3] (by decide) rfl (by decide) (by decide) dX11_where_84
        · skip
          refine j_tin (pc := 50) (off := 35) (tgt := 85) C dX11_where_50 (by omega) (by omega) (by rw [sw_15]; decide) (by decide) ?_
          refine j_aload_n (pc := 85) C dX11_where_85 rfl 0 rfl ?_
          refine j_get (pc := 86) (ci := 11) (v := .int (u_7.2.1 2)) C inw_11 1 rfl rfl 23 (by decide) wd_777 rfl rfl dX11_where_86 ?_
          exact j_iret (pc := 89) C hr hk (fun i => [].getD i 0, fun i => [(u_7.2.1 2), (u_7.2.1 1), (u_7.2.1 2), (u_7.2.1 3), (u_13.2.1 0)].getD i 0, fun i => [(u_13.2.2.1 0)].getD i (fun _ => 0), fun i => [].getD i (fun _ => 0)) rfl (show (0 ≤ ((u_7.2.1 1)).toInt ∧ ((u_7.2.1 1)).toInt ≤ 3) ∧ (0 ≤ ((u_7.2.1 2)).toInt ∧ ((u_7.2.1 2)).toInt ≤ 7) ∧ (0 ≤ ((u_7.2.1 3)).toInt ∧ ((u_7.2.1 3)).toInt ≤ 11) ∧ (0 ≤ ((u_13.2.1 0)).toInt ∧ ((u_13.2.1 0)).toInt ≤ 12) ∧ (Iv 12 (0) (11) (u_13.2.2.1 0)) ∧ (GRD ((0 ≤ (p0).toInt ∧ (p0).toInt < (m_told 0).toInt) ∧ ¬ NI m_states 0 p0 (m_told 1).toInt) (-1) (fun x => ∃ s k q : Nat, IN m_states 0 (m_told 1).toInt s k q (p0).toInt.toNat ∧ s < 4 ∧ k < 8 ∧ x = whF (p1).toInt (s : Int) (k : Int) (q : Int) ((m_states (105 * s + 1 + 13 * k)).toInt - 1 - (q : Int)) (ftF (rsM m_told) (fun p => m_states ((105 * s + 1 + 13 * k) + 1 + p)) q).toInt) (u_7.2.1 2).toInt) from ⟨hw_8_1, hw_8_2, hw_8_3, hw_14_0, hw_14_1, (Or.inr ⟨⟨⟨by omega, by omega⟩, (fun z => by have y := z ((u_7.2.1 1)).toInt.toNat (by omega) ((u_7.2.1 2)).toInt.toNat ((u_7.2.1 3)).toInt.toNat (by omega); rw [show 460 * 0 + 105 * ((u_7.2.1 1)).toInt.toNat = 0 + 105 * ((u_7.2.1 1)).toInt.toNat from (by omega)] at y; exact y (by omega) (by omega) hi2)⟩, ((u_7.2.1 1)).toInt.toNat, ((u_7.2.1 2)).toInt.toNat, ((u_7.2.1 3)).toInt.toNat, (show IN m_states 0 (m_told 1).toInt ((u_7.2.1 1)).toInt.toNat ((u_7.2.1 2)).toInt.toNat ((u_7.2.1 3)).toInt.toNat (p0).toInt.toNat from ⟨by omega, by rw [show 460 * 0 + 105 * ((u_7.2.1 1)).toInt.toNat = 0 + 105 * ((u_7.2.1 1)).toInt.toNat from (by omega)]; omega, by rw [show 460 * 0 + 105 * ((u_7.2.1 1)).toInt.toNat = 0 + 105 * ((u_7.2.1 1)).toInt.toNat from (by omega)]; omega, by rw [show 460 * 0 + 105 * ((u_7.2.1 1)).toInt.toNat = 0 + 105 * ((u_7.2.1 1)).toInt.toNat from (by omega), hi2]; omega⟩), by omega, by omega, by have ea : ((u_10.2.1 0)).toInt.toNat = (105 * ((u_7.2.1 1)).toInt.toNat + 1 + 13 * ((u_7.2.1 2)).toInt.toNat) := (by omega); have er := congrArg Int32.toInt hw_14_2; rw [ea] at er; unfold whF; rw [if_neg (by omega), if_pos (by omega)]; omega⟩)⟩) [1, 0, 2, 3] (by decide) rfl (by decide) (by decide) dX11_where_89
        · skip
          refine j_tin (pc := 50) (off := 40) (tgt := 90) C dX11_where_50 (by omega) (by omega) (by rw [sw_15]; decide) (by decide) ?_
          refine j_aload_n (pc := 90) C dX11_where_90 rfl 0 rfl ?_
          refine j_get (pc := 91) (ci := 11) (v := .int (u_7.2.1 3)) C inw_11 1 rfl rfl 24 (by decide) wd_778 rfl rfl dX11_where_91 ?_
          exact j_iret (pc := 94) C hr hk (fun i => [].getD i 0, fun i => [(u_7.2.1 3), (u_7.2.1 1), (u_7.2.1 2), (u_7.2.1 3), (u_13.2.1 0)].getD i 0, fun i => [(u_13.2.2.1 0)].getD i (fun _ => 0), fun i => [].getD i (fun _ => 0)) rfl (show (0 ≤ ((u_7.2.1 1)).toInt ∧ ((u_7.2.1 1)).toInt ≤ 3) ∧ (0 ≤ ((u_7.2.1 2)).toInt ∧ ((u_7.2.1 2)).toInt ≤ 7) ∧ (0 ≤ ((u_7.2.1 3)).toInt ∧ ((u_7.2.1 3)).toInt ≤ 11) ∧ (0 ≤ ((u_13.2.1 0)).toInt ∧ ((u_13.2.1 0)).toInt ≤ 12) ∧ (Iv 12 (0) (11) (u_13.2.2.1 0)) ∧ (GRD ((0 ≤ (p0).toInt ∧ (p0).toInt < (m_told 0).toInt) ∧ ¬ NI m_states 0 p0 (m_told 1).toInt) (-1) (fun x => ∃ s k q : Nat, IN m_states 0 (m_told 1).toInt s k q (p0).toInt.toNat ∧ s < 4 ∧ k < 8 ∧ x = whF (p1).toInt (s : Int) (k : Int) (q : Int) ((m_states (105 * s + 1 + 13 * k)).toInt - 1 - (q : Int)) (ftF (rsM m_told) (fun p => m_states ((105 * s + 1 + 13 * k) + 1 + p)) q).toInt) (u_7.2.1 3).toInt) from ⟨hw_8_1, hw_8_2, hw_8_3, hw_14_0, hw_14_1, (Or.inr ⟨⟨⟨by omega, by omega⟩, (fun z => by have y := z ((u_7.2.1 1)).toInt.toNat (by omega) ((u_7.2.1 2)).toInt.toNat ((u_7.2.1 3)).toInt.toNat (by omega); rw [show 460 * 0 + 105 * ((u_7.2.1 1)).toInt.toNat = 0 + 105 * ((u_7.2.1 1)).toInt.toNat from (by omega)] at y; exact y (by omega) (by omega) hi2)⟩, ((u_7.2.1 1)).toInt.toNat, ((u_7.2.1 2)).toInt.toNat, ((u_7.2.1 3)).toInt.toNat, (show IN m_states 0 (m_told 1).toInt ((u_7.2.1 1)).toInt.toNat ((u_7.2.1 2)).toInt.toNat ((u_7.2.1 3)).toInt.toNat (p0).toInt.toNat from ⟨by omega, by rw [show 460 * 0 + 105 * ((u_7.2.1 1)).toInt.toNat = 0 + 105 * ((u_7.2.1 1)).toInt.toNat from (by omega)]; omega, by rw [show 460 * 0 + 105 * ((u_7.2.1 1)).toInt.toNat = 0 + 105 * ((u_7.2.1 1)).toInt.toNat from (by omega)]; omega, by rw [show 460 * 0 + 105 * ((u_7.2.1 1)).toInt.toNat = 0 + 105 * ((u_7.2.1 1)).toInt.toNat from (by omega), hi2]; omega⟩), by omega, by omega, by have ea : ((u_10.2.1 0)).toInt.toNat = (105 * ((u_7.2.1 1)).toInt.toNat + 1 + 13 * ((u_7.2.1 2)).toInt.toNat) := (by omega); have er := congrArg Int32.toInt hw_14_2; rw [ea] at er; unfold whF; rw [if_neg (by omega), if_neg (by omega), if_pos (by omega)]; omega⟩)⟩) [1, 0, 2, 3] (by decide) rfl (by decide) (by decide) dX11_where_94
        · skip
          refine j_tin (pc := 50) (off := 45) (tgt := 95) C dX11_where_50 (by omega) (by omega) (by rw [sw_15]; decide) (by decide) ?_
          refine j_aload_n (pc := 95) C dX11_where_95 rfl 0 rfl ?_
          refine j_get (pc := 96) (ci := 11) (v := .int (u_13.2.1 0)) C inw_11 1 rfl rfl 26 (by decide) wd_779 rfl rfl dX11_where_96 ?_
          refine j_iconst (pc := 99) (v := 1) C dX11_where_99 (by decide) ?_
          obtain ⟨v_16, ev_16⟩ : ∃ z : Int32, (u_13.2.1 0) - 1 = z := ⟨_, rfl⟩
          have el_1 : (1 : Int32).toInt = 1 := rfl
          have hv_16 : v_16.toInt = ((u_13.2.1 0)).toInt - (1 : Int32).toInt := by rw [← ev_16]; exact fb_subI (by omega) (by omega)
          refine j_isub (pc := 100) (v := v_16) C dX11_where_100 ev_16 ?_
          refine j_aload_n (pc := 101) C dX11_where_101 rfl 0 rfl ?_
          refine j_get (pc := 102) (ci := 11) (v := .int (u_7.2.1 3)) C inw_11 1 rfl rfl 24 (by decide) wd_778 rfl rfl dX11_where_102 ?_
          obtain ⟨v_17, ev_17⟩ : ∃ z : Int32, v_16 - (u_7.2.1 3) = z := ⟨_, rfl⟩
          have hv_17 : v_17.toInt = v_16.toInt - ((u_7.2.1 3)).toInt := by rw [← ev_17]; exact fb_subI (by omega) (by omega)
          refine j_isub (pc := 105) (v := v_17) C dX11_where_105 ev_17 ?_
          exact j_iret (pc := 106) C hr hk (fun i => [].getD i 0, fun i => [v_17, (u_7.2.1 1), (u_7.2.1 2), (u_7.2.1 3), (u_13.2.1 0)].getD i 0, fun i => [(u_13.2.2.1 0)].getD i (fun _ => 0), fun i => [].getD i (fun _ => 0)) rfl (show (0 ≤ ((u_7.2.1 1)).toInt ∧ ((u_7.2.1 1)).toInt ≤ 3) ∧ (0 ≤ ((u_7.2.1 2)).toInt ∧ ((u_7.2.1 2)).toInt ≤ 7) ∧ (0 ≤ ((u_7.2.1 3)).toInt ∧ ((u_7.2.1 3)).toInt ≤ 11) ∧ (0 ≤ ((u_13.2.1 0)).toInt ∧ ((u_13.2.1 0)).toInt ≤ 12) ∧ (Iv 12 (0) (11) (u_13.2.2.1 0)) ∧ (GRD ((0 ≤ (p0).toInt ∧ (p0).toInt < (m_told 0).toInt) ∧ ¬ NI m_states 0 p0 (m_told 1).toInt) (-1) (fun x => ∃ s k q : Nat, IN m_states 0 (m_told 1).toInt s k q (p0).toInt.toNat ∧ s < 4 ∧ k < 8 ∧ x = whF (p1).toInt (s : Int) (k : Int) (q : Int) ((m_states (105 * s + 1 + 13 * k)).toInt - 1 - (q : Int)) (ftF (rsM m_told) (fun p => m_states ((105 * s + 1 + 13 * k) + 1 + p)) q).toInt) v_17.toInt) from ⟨hw_8_1, hw_8_2, hw_8_3, hw_14_0, hw_14_1, (Or.inr ⟨⟨⟨by omega, by omega⟩, (fun z => by have y := z ((u_7.2.1 1)).toInt.toNat (by omega) ((u_7.2.1 2)).toInt.toNat ((u_7.2.1 3)).toInt.toNat (by omega); rw [show 460 * 0 + 105 * ((u_7.2.1 1)).toInt.toNat = 0 + 105 * ((u_7.2.1 1)).toInt.toNat from (by omega)] at y; exact y (by omega) (by omega) hi2)⟩, ((u_7.2.1 1)).toInt.toNat, ((u_7.2.1 2)).toInt.toNat, ((u_7.2.1 3)).toInt.toNat, (show IN m_states 0 (m_told 1).toInt ((u_7.2.1 1)).toInt.toNat ((u_7.2.1 2)).toInt.toNat ((u_7.2.1 3)).toInt.toNat (p0).toInt.toNat from ⟨by omega, by rw [show 460 * 0 + 105 * ((u_7.2.1 1)).toInt.toNat = 0 + 105 * ((u_7.2.1 1)).toInt.toNat from (by omega)]; omega, by rw [show 460 * 0 + 105 * ((u_7.2.1 1)).toInt.toNat = 0 + 105 * ((u_7.2.1 1)).toInt.toNat from (by omega)]; omega, by rw [show 460 * 0 + 105 * ((u_7.2.1 1)).toInt.toNat = 0 + 105 * ((u_7.2.1 1)).toInt.toNat from (by omega), hi2]; omega⟩), by omega, by omega, by have ea : ((u_10.2.1 0)).toInt.toNat = (105 * ((u_7.2.1 1)).toInt.toNat + 1 + 13 * ((u_7.2.1 2)).toInt.toNat) := (by omega); have er := congrArg Int32.toInt hw_14_2; rw [ea] at er; unfold whF; rw [if_neg (by omega), if_neg (by omega), if_neg (by omega), if_pos (by omega)]; omega⟩)⟩) [1, 0, 2, 3] (by decide) rfl (by decide) (by decide) dX11_where_106
        · skip
          refine j_tout (pc := 50) (tgt := 107) C dX11_where_50 (by omega) (by decide) ?_
          refine j_aload_n (pc := 107) C dX11_where_107 rfl 0 rfl ?_
          refine j_aload_n (pc := 108) C dX11_where_108 rfl 0 rfl ?_
          refine j_get (pc := 109) (ci := 11) (v := .int (u_7.2.1 3)) C inw_11 1 rfl rfl 24 (by decide) wd_778 rfl rfl dX11_where_109 ?_
          refine j_callV (pc := 112) (As := [.int (u_7.2.1 3)]) (rest := []) (wr := [(mstates, .inl (cyI, 2760, .inl m_states))]) C (c_X11_footAt l D cyC cyI cyJ cyZ cyO m0 mtold mrow mtape msort mplace mvalue mwords mop marg mnames mhasHabit mfactWords mfacts mpile mstates misMarked mthr mmays mtall mweights mrowOfWare mneededOf mtried mbestRow mdigits (u_7.2.1 3) 0 m_taped m_size m_at m_fault m_codes m_isNew (u_7.2.1 1) (u_7.2.1 2) (u_7.2.1 3) (u_13.2.1 0) m_goShelf m_goStack m_goLeft m_bestCost m_bestMany m_bestShelf m_bestSet m_told (u_13.2.2.1 0) h_m_taped h_m_size h_m_at h_m_fault h_m_codes h_m_isNew hw_8_1 hw_8_2 hw_8_3 hw_14_0 h_m_goShelf h_m_bestMany h_m_bestShelf (by omega) hw_14_1 h_m_told) wd_793 wd_624 wd_794 wd_795 wd_796 ⟨by decide, by decide, rfl⟩ rfl ⟨rfl, rfl, by decide, by decide⟩ ⟨by decide, by decide⟩ [1, 0, 3] [2] rfl rfl ⟨by decide, by decide, by decide⟩ 1 rfl rfl rfl (Nat.le_of_ble_eq_true rfl) dX11_where_112 (fun u_18 hw_19 => ?_)
          refine j_eq (ws2 := [(mstates, .inl (cyI, 2760, .inl m_states)), (m0, .inr (11, [.int 0, .ref mtape, .int m_taped, .int m_size, .ref msort, .ref mplace, .ref mvalue, .int m_at, .int m_fault, .ref mwords, .ref mtold, .ref mop, .ref marg, .int m_codes, .ref mnames, .ref mhasHabit, .int m_isNew, .ref mfactWords, .ref mfacts, .ref mpile, .ref mstates, .ref misMarked, .int (u_7.2.1 1), .int (u_7.2.1 2), .int (u_7.2.1 3), .ref mrow, .int (u_13.2.1 0), .ref mthr, .ref mmays, .ref mtall, .ref mweights, .ref mrowOfWare, .ref mneededOf, .int m_goShelf, .int m_goStack, .int m_goLeft, .ref mtried, .ref mbestRow, .int m_bestCost, .int m_bestMany, .int m_bestShelf, .int m_bestSet, .ref mdigits])), (mtold, .inl (cyI, 240, .inl m_told)), (mrow, .inl (cyI, 12, .inl (u_13.2.2.1 0)))]) (pc2 := 115) (lv2 := [(0, .ref m0), (1, .int p0), (2, .int p1)]) (st2 := [.int (u_18.2.1 0)]) rfl rfl rfl rfl ?_
          have hw_19_0 : (u_18.2.1 0) = ftF (rsM m_told) (u_13.2.2.1 0) ((u_7.2.1 3)).toInt.toNat := hw_19
          exact j_iret (pc := 115) C hr hk (fun i => [].getD i 0, fun i => [(u_18.2.1 0), (u_7.2.1 1), (u_7.2.1 2), (u_7.2.1 3), (u_13.2.1 0)].getD i 0, fun i => [(u_13.2.2.1 0)].getD i (fun _ => 0), fun i => [].getD i (fun _ => 0)) rfl (show (0 ≤ ((u_7.2.1 1)).toInt ∧ ((u_7.2.1 1)).toInt ≤ 3) ∧ (0 ≤ ((u_7.2.1 2)).toInt ∧ ((u_7.2.1 2)).toInt ≤ 7) ∧ (0 ≤ ((u_7.2.1 3)).toInt ∧ ((u_7.2.1 3)).toInt ≤ 11) ∧ (0 ≤ ((u_13.2.1 0)).toInt ∧ ((u_13.2.1 0)).toInt ≤ 12) ∧ (Iv 12 (0) (11) (u_13.2.2.1 0)) ∧ (GRD ((0 ≤ (p0).toInt ∧ (p0).toInt < (m_told 0).toInt) ∧ ¬ NI m_states 0 p0 (m_told 1).toInt) (-1) (fun x => ∃ s k q : Nat, IN m_states 0 (m_told 1).toInt s k q (p0).toInt.toNat ∧ s < 4 ∧ k < 8 ∧ x = whF (p1).toInt (s : Int) (k : Int) (q : Int) ((m_states (105 * s + 1 + 13 * k)).toInt - 1 - (q : Int)) (ftF (rsM m_told) (fun p => m_states ((105 * s + 1 + 13 * k) + 1 + p)) q).toInt) (u_18.2.1 0).toInt) from ⟨hw_8_1, hw_8_2, hw_8_3, hw_14_0, hw_14_1, (Or.inr ⟨⟨⟨by omega, by omega⟩, (fun z => by have y := z ((u_7.2.1 1)).toInt.toNat (by omega) ((u_7.2.1 2)).toInt.toNat ((u_7.2.1 3)).toInt.toNat (by omega); rw [show 460 * 0 + 105 * ((u_7.2.1 1)).toInt.toNat = 0 + 105 * ((u_7.2.1 1)).toInt.toNat from (by omega)] at y; exact y (by omega) (by omega) hi2)⟩, ((u_7.2.1 1)).toInt.toNat, ((u_7.2.1 2)).toInt.toNat, ((u_7.2.1 3)).toInt.toNat, (show IN m_states 0 (m_told 1).toInt ((u_7.2.1 1)).toInt.toNat ((u_7.2.1 2)).toInt.toNat ((u_7.2.1 3)).toInt.toNat (p0).toInt.toNat from ⟨by omega, by rw [show 460 * 0 + 105 * ((u_7.2.1 1)).toInt.toNat = 0 + 105 * ((u_7.2.1 1)).toInt.toNat from (by omega)]; omega, by rw [show 460 * 0 + 105 * ((u_7.2.1 1)).toInt.toNat = 0 + 105 * ((u_7.2.1 1)).toInt.toNat from (by omega)]; omega, by rw [show 460 * 0 + 105 * ((u_7.2.1 1)).toInt.toNat = 0 + 105 * ((u_7.2.1 1)).toInt.toNat from (by omega), hi2]; omega⟩), by omega, by omega, by have ea : ((u_10.2.1 0)).toInt.toNat = (105 * ((u_7.2.1 1)).toInt.toNat + 1 + 13 * ((u_7.2.1 2)).toInt.toNat) := (by omega); have er := congrArg Int32.toInt hw_14_2; rw [ea] at er; unfold whF; rw [if_neg (by omega), if_neg (by omega), if_neg (by omega), if_neg (by omega), if_pos (by omega)]; have hi9 := hi1; rw [show (0 + 105 * ((u_7.2.1 1)).toInt.toNat + 1 + 13 * ((u_7.2.1 2)).toInt.toNat) = (105 * ((u_7.2.1 1)).toInt.toNat + 1 + 13 * ((u_7.2.1 2)).toInt.toNat) from (by omega)] at hi9; have y3 := hw_19_0; rw [ftF_cong (rs := rsM m_told) (rs' := rsM m_told) (r' := fun p => m_states ((105 * ((u_7.2.1 1)).toInt.toNat + 1 + 13 * ((u_7.2.1 2)).toInt.toNat) + 1 + p)) _ (fun q hq => by rw [hw_14_3 q (by omega), hw_14_3 (q + 1) (by omega), ea])] at y3; rw [y3]⟩)⟩) [1, 2, 0, 3] (by decide) rfl (by decide) (by decide) dX11_where_115
      · skip
        have el_0 : (0 : Int32).toInt = 0 := rfl
        rw [i_eq] at c_9
        refine j_iconst (pc := 31) (v := (-1)) C dX11_where_31 (by decide) ?_
        have el_m1 : ((-1) : Int32).toInt = (-1) := rfl
        exact j_iret (pc := 32) C hr hk (fun i => [].getD i 0, fun i => [(-1), (u_7.2.1 1), (u_7.2.1 2), (u_7.2.1 3), m_rowMany].getD i 0, fun i => [m_row].getD i (fun _ => 0), fun i => [].getD i (fun _ => 0)) rfl (show (0 ≤ ((u_7.2.1 1)).toInt ∧ ((u_7.2.1 1)).toInt ≤ 3) ∧ (0 ≤ ((u_7.2.1 2)).toInt ∧ ((u_7.2.1 2)).toInt ≤ 7) ∧ (0 ≤ ((u_7.2.1 3)).toInt ∧ ((u_7.2.1 3)).toInt ≤ 11) ∧ (0 ≤ (m_rowMany).toInt ∧ (m_rowMany).toInt ≤ 12) ∧ (Iv 12 (0) (11) m_row) ∧ (GRD ((0 ≤ (p0).toInt ∧ (p0).toInt < (m_told 0).toInt) ∧ ¬ NI m_states 0 p0 (m_told 1).toInt) (-1) (fun x => ∃ s k q : Nat, IN m_states 0 (m_told 1).toInt s k q (p0).toInt.toNat ∧ s < 4 ∧ k < 8 ∧ x = whF (p1).toInt (s : Int) (k : Int) (q : Int) ((m_states (105 * s + 1 + 13 * k)).toInt - 1 - (q : Int)) (ftF (rsM m_told) (fun p => m_states ((105 * s + 1 + 13 * k) + 1 + p)) q).toInt) ((-1) : Int32).toInt) from ⟨hw_8_1, hw_8_2, hw_8_3, h_m_rowMany, h_m_row, (Or.inl ⟨rfl, fun z => z.2 (hw_8_4 (by omega))⟩)⟩) [1, 2, 3, 0] (by decide) rfl (by decide) (by decide) dX11_where_32

/-- whether a ware is nowhere, as a Bool -/
noncomputable def niB (f : Nat → Int32) (b : Nat) (ns : Int) (w : Nat) : Bool := @decide (NI f b (nI w) ns) (Classical.propDecidable _)
theorem niB_iff {f : Nat → Int32} {b : Nat} {ns : Int} {w : Nat} : niB f b ns w = true ↔ NI f b (nI w) ns := by
  unfold niB
  exact @decide_eq_true_iff _ (Classical.propDecidable _)
theorem nI_id {x : Int32} (h : 0 ≤ x.toInt) : nI x.toInt.toNat = x := (i_eq _ _).mpr (by have := i_bd x; rw [nI_toInt (by omega)]; omega)

set_option maxHeartbeats 4000000 in
set_option maxRecDepth 100000 in
theorem c_X11_count (l : Launch) (D : DG) (cyC cyI cyJ cyZ cyO : ClassId) (m0 : Nat) (mtold : Nat) (mstates : Nat) (mtape : Nat) (msort : Nat) (mplace : Nat) (mvalue : Nat) (mwords : Nat) (mop : Nat) (marg : Nat) (mnames : Nat) (mhasHabit : Nat) (mfactWords : Nat) (mfacts : Nat) (mpile : Nat) (misMarked : Nat) (mrow : Nat) (mthr : Nat) (mmays : Nat) (mtall : Nat) (mweights : Nat) (mrowOfWare : Nat) (mneededOf : Nat) (mtried : Nat) (mbestRow : Nat) (mdigits : Nat) (p0 : Int32) (m_thrown : Int32) (m_taped : Int32) (m_size : Int32) (m_at : Int32) (m_fault : Int32) (m_codes : Int32) (m_isNew : Int32) (m_inShelf : Int32) (m_inStack : Int32) (m_inPlace : Int32) (m_rowMany : Int32) (m_goShelf : Int32) (m_goStack : Int32) (m_goLeft : Int32) (m_bestCost : Int32) (m_bestMany : Int32) (m_bestShelf : Int32) (m_bestSet : Int32) (m_told : Nat → Int32) (m_states : Nat → Int32) (h_m_taped : 0 ≤ (m_taped).toInt ∧ (m_taped).toInt ≤ 1000) (h_m_size : 0 ≤ (m_size).toInt ∧ (m_size).toInt ≤ 1000) (h_m_at : 0 ≤ (m_at).toInt ∧ (m_at).toInt ≤ 1000) (h_m_fault : 0 ≤ (m_fault).toInt ∧ (m_fault).toInt ≤ 16005) (h_m_codes : 0 ≤ (m_codes).toInt ∧ (m_codes).toInt ≤ 1000) (h_m_isNew : 0 ≤ (m_isNew).toInt ∧ (m_isNew).toInt ≤ 1) (h_m_inShelf : 0 ≤ (m_inShelf).toInt ∧ (m_inShelf).toInt ≤ 3) (h_m_inStack : 0 ≤ (m_inStack).toInt ∧ (m_inStack).toInt ≤ 7) (h_m_inPlace : 0 ≤ (m_inPlace).toInt ∧ (m_inPlace).toInt ≤ 11) (h_m_rowMany : 0 ≤ (m_rowMany).toInt ∧ (m_rowMany).toInt ≤ 12) (h_m_goShelf : -1 ≤ (m_goShelf).toInt ∧ (m_goShelf).toInt ≤ 3) (h_m_bestMany : 0 ≤ (m_bestMany).toInt ∧ (m_bestMany).toInt ≤ 7) (h_m_bestShelf : 0 ≤ (m_bestShelf).toInt ∧ (m_bestShelf).toInt ≤ 3) (h_m_told : TV m_told) (h_m_states : SV m_states) : KK l D (TY cyC cyI cyJ cyZ cyO) yX11_count cX11_count 4 (some .int) ({ frames := 2, cells := 0, slots := 0, locals := 48 } : Room) 0 0 [.ref m0, .int p0] [(m0, .inr (11, [.int m_thrown, .ref mtape, .int m_taped, .int m_size, .ref msort, .ref mplace, .ref mvalue, .int m_at, .int m_fault, .ref mwords, .ref mtold, .ref mop, .ref marg, .int m_codes, .ref mnames, .ref mhasHabit, .int m_isNew, .ref mfactWords, .ref mfacts, .ref mpile, .ref mstates, .ref misMarked, .int m_inShelf, .int m_inStack, .int m_inPlace, .ref mrow, .int m_rowMany, .ref mthr, .ref mmays, .ref mtall, .ref mweights, .ref mrowOfWare, .ref mneededOf, .int m_goShelf, .int m_goStack, .int m_goLeft, .ref mtried, .ref mbestRow, .int m_bestCost, .int m_bestMany, .int m_bestShelf, .int m_bestSet, .ref mdigits])), (mtold, .inl (cyI, 240, .inl m_told)), (mstates, .inl (cyI, 2760, .inl m_states))] (fun u => some (.int (u.2.1 0))) (fun u => (0 ≤ (u.2.1 1).toInt ∧ (u.2.1 1).toInt ≤ 3) ∧ (0 ≤ (u.2.1 2).toInt ∧ (u.2.1 2).toInt ≤ 7) ∧ (0 ≤ (u.2.1 3).toInt ∧ (u.2.1 3).toInt ≤ 11) ∧ ((u.2.1 0).toInt = coF (p0).toInt (m_told 0).toInt (m_told 1).toInt (m_told 2).toInt ((cnB (niB m_states 0 (m_told 1).toInt) (m_told 0).toInt.toNat : Nat) : Int) (m_states 421).toInt (m_taped).toInt)) (fun u => [(m0, .inr (11, [.int 0, .ref mtape, .int m_taped, .int m_size, .ref msort, .ref mplace, .ref mvalue, .int m_at, .int m_fault, .ref mwords, .ref mtold, .ref mop, .ref marg, .int m_codes, .ref mnames, .ref mhasHabit, .int m_isNew, .ref mfactWords, .ref mfacts, .ref mpile, .ref mstates, .ref misMarked, .int (u.2.1 1), .int (u.2.1 2), .int (u.2.1 3), .ref mrow, .int m_rowMany, .ref mthr, .ref mmays, .ref mtall, .ref mweights, .ref mrowOfWare, .ref mneededOf, .int m_goShelf, .int m_goStack, .int m_goLeft, .ref mtried, .ref mbestRow, .int m_bestCost, .int m_bestMany, .int m_bestShelf, .int m_bestSet, .ref mdigits])), (mtold, .inl (cyI, 240, .inl m_told)), (mstates, .inl (cyI, 2760, .inl m_states))]) := by
  refine KK.of (lv0 := [(0, .ref m0), (1, .int p0)]) (by decide) rfl (Nat.le_of_ble_eq_true rfl) ?_
  intro p e s m args below meth c A C hr hk hin
  refine j_aload_n (pc := 0) C dX11_count_0 rfl 0 rfl ?_
  refine j_iconst (pc := 1) (v := 0) C dX11_count_1 (by decide) ?_
  refine j_put (pc := 2) (ci := 11) (v := .int 0) (ws' := [(m0, .inr (11, [.int 0, .ref mtape, .int m_taped, .int m_size, .ref msort, .ref mplace, .ref mvalue, .int m_at, .int m_fault, .ref mwords, .ref mtold, .ref mop, .ref marg, .int m_codes, .ref mnames, .ref mhasHabit, .int m_isNew, .ref mfactWords, .ref mfacts, .ref mpile, .ref mstates, .ref misMarked, .int m_inShelf, .int m_inStack, .int m_inPlace, .ref mrow, .int m_rowMany, .ref mthr, .ref mmays, .ref mtall, .ref mweights, .ref mrowOfWare, .ref mneededOf, .int m_goShelf, .int m_goStack, .int m_goLeft, .ref mtried, .ref mbestRow, .int m_bestCost, .int m_bestMany, .int m_bestShelf, .int m_bestSet, .ref mdigits])), (mtold, .inl (cyI, 240, .inl m_told)), (mstates, .inl (cyI, 2760, .inl m_states))]) C inw_11 0 rfl rfl 0 (by decide) wd_629 rfl tyX11_ok nmX11 rfl (tyX11_ok 0 (by decide)) rfl rfl (Nat.le_of_ble_eq_true rfl) dX11_count_2 rfl ?_
  refine j_iconst (pc := 5) (v := 0) C dX11_count_5 (by decide) ?_
  refine j_istore_n (pc := 6) (lv' := [(2, .int 0), (0, .ref m0), (1, .int p0)]) C dX11_count_6 rfl (by decide) rfl ?_
  refine j_iload_n (pc := 7) C dX11_count_7 rfl 2 rfl ?_
  rcases (by omega : p0.toInt = 0 ∨ p0.toInt = 1 ∨ p0.toInt = 2 ∨ p0.toInt = 3 ∨ p0.toInt = 4 ∨ p0.toInt = 5 ∨ (¬ p0.toInt = 0 ∧ ¬ p0.toInt = 1 ∧ ¬ p0.toInt = 2 ∧ ¬ p0.toInt = 3 ∧ ¬ p0.toInt = 4 ∧ ¬ p0.toInt = 5)) with sw_1 | sw_1 | sw_1 | sw_1 | sw_1 | sw_1 | sw_1
  · skip
    refine j_tin (pc := 8) (off := 40) (tgt := 48) C dX11_count_8 (by omega) (by omega) (by rw [sw_1]; decide) (by decide) ?_
    refine j_aload_n (pc := 48) C dX11_count_48 rfl 1 rfl ?_
    refine j_callV (pc := 49) (As := []) (rest := []) (wr := [(mstates, .inl (cyI, 2760, .inl m_states))]) C (c_X11_wares l D cyC cyI cyJ cyZ cyO m0 mtold mtape msort mplace mvalue mwords mop marg mnames mhasHabit mfactWords mfacts mpile mstates misMarked mrow mthr mmays mtall mweights mrowOfWare mneededOf mtried mbestRow mdigits 0 m_taped m_size m_at m_fault m_codes m_isNew m_inShelf m_inStack m_inPlace m_rowMany m_goShelf m_goStack m_goLeft m_bestCost m_bestMany m_bestShelf m_bestSet m_told h_m_taped h_m_size h_m_at h_m_fault h_m_codes h_m_isNew h_m_inShelf h_m_inStack h_m_inPlace h_m_rowMany h_m_goShelf h_m_bestMany h_m_bestShelf h_m_told) wd_748 wd_624 wd_749 wd_750 wd_751 ⟨by decide, by decide, rfl⟩ rfl ⟨rfl, rfl, by decide, by decide⟩ ⟨by decide, by decide⟩ [0, 1] [2] rfl rfl ⟨by decide, by decide, by decide⟩ 0 rfl rfl rfl (Nat.le_of_ble_eq_true rfl) dX11_count_49 (fun u_2 hw_3 => ?_)
    refine j_eq (ws2 := [(mstates, .inl (cyI, 2760, .inl m_states)), (m0, .inr (11, [.int 0, .ref mtape, .int m_taped, .int m_size, .ref msort, .ref mplace, .ref mvalue, .int m_at, .int m_fault, .ref mwords, .ref mtold, .ref mop, .ref marg, .int m_codes, .ref mnames, .ref mhasHabit, .int m_isNew, .ref mfactWords, .ref mfacts, .ref mpile, .ref mstates, .ref misMarked, .int m_inShelf, .int m_inStack, .int m_inPlace, .ref mrow, .int m_rowMany, .ref mthr, .ref mmays, .ref mtall, .ref mweights, .ref mrowOfWare, .ref mneededOf, .int m_goShelf, .int m_goStack, .int m_goLeft, .ref mtried, .ref mbestRow, .int m_bestCost, .int m_bestMany, .int m_bestShelf, .int m_bestSet, .ref mdigits])), (mtold, .inl (cyI, 240, .inl m_told))]) (pc2 := 52) (lv2 := [(2, .int 0), (0, .ref m0), (1, .int p0)]) (st2 := [.int (u_2.2.1 0)]) rfl rfl rfl rfl ?_
    obtain ⟨hw_3_0, hw_3_1⟩ := hw_3
    exact j_iret (pc := 52) C hr hk (fun i => [].getD i 0, fun i => [(u_2.2.1 0), m_inShelf, m_inStack, m_inPlace].getD i 0, fun i => [].getD i (fun _ => 0), fun i => [].getD i (fun _ => 0)) rfl (show (0 ≤ (m_inShelf).toInt ∧ (m_inShelf).toInt ≤ 3) ∧ (0 ≤ (m_inStack).toInt ∧ (m_inStack).toInt ≤ 7) ∧ (0 ≤ (m_inPlace).toInt ∧ (m_inPlace).toInt ≤ 11) ∧ ((u_2.2.1 0).toInt = coF (p0).toInt (m_told 0).toInt (m_told 1).toInt (m_told 2).toInt ((cnB (niB m_states 0 (m_told 1).toInt) (m_told 0).toInt.toNat : Nat) : Int) (m_states 421).toInt (m_taped).toInt) from ⟨h_m_inShelf, h_m_inStack, h_m_inPlace, (by unfold coF; rw [if_pos (by omega)]; rw [hw_3_1])⟩) [1, 2, 0] (by decide) rfl (by decide) (by decide) dX11_count_52
  · skip
    refine j_tin (pc := 8) (off := 45) (tgt := 53) C dX11_count_8 (by omega) (by omega) (by rw [sw_1]; decide) (by decide) ?_
    refine j_aload_n (pc := 53) C dX11_count_53 rfl 1 rfl ?_
    refine j_callV (pc := 54) (As := []) (rest := []) (wr := [(mstates, .inl (cyI, 2760, .inl m_states))]) C (c_X11_shelves l D cyC cyI cyJ cyZ cyO m0 mtold mtape msort mplace mvalue mwords mop marg mnames mhasHabit mfactWords mfacts mpile mstates misMarked mrow mthr mmays mtall mweights mrowOfWare mneededOf mtried mbestRow mdigits 0 m_taped m_size m_at m_fault m_codes m_isNew m_inShelf m_inStack m_inPlace m_rowMany m_goShelf m_goStack m_goLeft m_bestCost m_bestMany m_bestShelf m_bestSet m_told h_m_taped h_m_size h_m_at h_m_fault h_m_codes h_m_isNew h_m_inShelf h_m_inStack h_m_inPlace h_m_rowMany h_m_goShelf h_m_bestMany h_m_bestShelf h_m_told) wd_752 wd_624 wd_753 wd_754 wd_755 ⟨by decide, by decide, rfl⟩ rfl ⟨rfl, rfl, by decide, by decide⟩ ⟨by decide, by decide⟩ [0, 1] [2] rfl rfl ⟨by decide, by decide, by decide⟩ 0 rfl rfl rfl (Nat.le_of_ble_eq_true rfl) dX11_count_54 (fun u_4 hw_5 => ?_)
    refine j_eq (ws2 := [(mstates, .inl (cyI, 2760, .inl m_states)), (m0, .inr (11, [.int 0, .ref mtape, .int m_taped, .int m_size, .ref msort, .ref mplace, .ref mvalue, .int m_at, .int m_fault, .ref mwords, .ref mtold, .ref mop, .ref marg, .int m_codes, .ref mnames, .ref mhasHabit, .int m_isNew, .ref mfactWords, .ref mfacts, .ref mpile, .ref mstates, .ref misMarked, .int m_inShelf, .int m_inStack, .int m_inPlace, .ref mrow, .int m_rowMany, .ref mthr, .ref mmays, .ref mtall, .ref mweights, .ref mrowOfWare, .ref mneededOf, .int m_goShelf, .int m_goStack, .int m_goLeft, .ref mtried, .ref mbestRow, .int m_bestCost, .int m_bestMany, .int m_bestShelf, .int m_bestSet, .ref mdigits])), (mtold, .inl (cyI, 240, .inl m_told))]) (pc2 := 57) (lv2 := [(2, .int 0), (0, .ref m0), (1, .int p0)]) (st2 := [.int (u_4.2.1 0)]) rfl rfl rfl rfl ?_
    obtain ⟨hw_5_0, hw_5_1⟩ := hw_5
    exact j_iret (pc := 57) C hr hk (fun i => [].getD i 0, fun i => [(u_4.2.1 0), m_inShelf, m_inStack, m_inPlace].getD i 0, fun i => [].getD i (fun _ => 0), fun i => [].getD i (fun _ => 0)) rfl (show (0 ≤ (m_inShelf).toInt ∧ (m_inShelf).toInt ≤ 3) ∧ (0 ≤ (m_inStack).toInt ∧ (m_inStack).toInt ≤ 7) ∧ (0 ≤ (m_inPlace).toInt ∧ (m_inPlace).toInt ≤ 11) ∧ ((u_4.2.1 0).toInt = coF (p0).toInt (m_told 0).toInt (m_told 1).toInt (m_told 2).toInt ((cnB (niB m_states 0 (m_told 1).toInt) (m_told 0).toInt.toNat : Nat) : Int) (m_states 421).toInt (m_taped).toInt) from ⟨h_m_inShelf, h_m_inStack, h_m_inPlace, (by unfold coF; rw [if_neg (by omega), if_pos (by omega)]; rw [hw_5_1])⟩) [1, 2, 0] (by decide) rfl (by decide) (by decide) dX11_count_57
  · skip
    refine j_tin (pc := 8) (off := 50) (tgt := 58) C dX11_count_8 (by omega) (by omega) (by rw [sw_1]; decide) (by decide) ?_
    refine j_aload_n (pc := 58) C dX11_count_58 rfl 1 rfl ?_
    refine j_get (pc := 59) (ci := 11) (v := .ref mtold) C inw_11 0 rfl rfl 10 (by decide) wd_669 rfl rfl dX11_count_59 ?_
    refine j_iconst (pc := 62) (v := 2) C dX11_count_62 (by decide) ?_
    obtain ⟨v_6, ev_6⟩ : ∃ z, m_told 2 = z := ⟨_, rfl⟩
    have env_6 : (m_told 2).toInt = v_6.toInt := by rw [ev_6]
    have hv_6 : 0 ≤ v_6.toInt ∧ v_6.toInt ≤ 4 := by have z := h_m_told 2 (by decide); rw [ev_6] at z; exact z
    refine j_iald (pc := 63) (v := v_6) (k := 2) C 1 1 rfl rfl (by decide) (by decide) (by decide) ev_6 dX11_count_63 ?_
    exact j_iret (pc := 64) C hr hk (fun i => [].getD i 0, fun i => [v_6, m_inShelf, m_inStack, m_inPlace].getD i 0, fun i => [].getD i (fun _ => 0), fun i => [].getD i (fun _ => 0)) rfl (show (0 ≤ (m_inShelf).toInt ∧ (m_inShelf).toInt ≤ 3) ∧ (0 ≤ (m_inStack).toInt ∧ (m_inStack).toInt ≤ 7) ∧ (0 ≤ (m_inPlace).toInt ∧ (m_inPlace).toInt ≤ 11) ∧ (v_6.toInt = coF (p0).toInt (m_told 0).toInt (m_told 1).toInt (m_told 2).toInt ((cnB (niB m_states 0 (m_told 1).toInt) (m_told 0).toInt.toNat : Nat) : Int) (m_states 421).toInt (m_taped).toInt) from ⟨h_m_inShelf, h_m_inStack, h_m_inPlace, (by unfold coF; rw [if_neg (by omega), if_neg (by omega), if_pos (by omega)]; rw [ev_6])⟩) [0, 1, 2] (by decide) rfl (by decide) (by decide) dX11_count_64
  · skip
    refine j_tin (pc := 8) (off := 57) (tgt := 65) C dX11_count_8 (by omega) (by omega) (by rw [sw_1]; decide) (by decide) ?_
    refine j_iconst (pc := 65) (v := 0) C dX11_count_65 (by decide) ?_
    refine j_istore_n (pc := 66) (lv' := [(3, .int 0), (2, .int 0), (0, .ref m0), (1, .int p0)]) C dX11_count_66 rfl (by decide) rfl ?_
    have loop_7 : ∀ (k_7 : Nat) (x7_3 : Int32) (x7_2 : Int32) (y7_m0_22 : Int32) (y7_m0_23 : Int32) (y7_m0_24 : Int32), (0 ≤ (x7_3).toInt ∧ (x7_3).toInt ≤ 12) → (0 ≤ (x7_2).toInt ∧ (x7_2).toInt ≤ 12) → (0 ≤ (y7_m0_22).toInt ∧ (y7_m0_22).toInt ≤ 3) → (0 ≤ (y7_m0_23).toInt ∧ (y7_m0_23).toInt ≤ 7) → (0 ≤ (y7_m0_24).toInt ∧ (y7_m0_24).toInt ≤ 11) → (x7_2.toInt ≤ x7_3.toInt ∧ (x7_3.toInt ≤ (m_told 0).toInt ∨ x7_3.toInt = 0)) → (x7_2.toInt = ((cnB (niB m_states 0 (m_told 1).toInt) (x7_3.toInt).toNat : Nat) : Int)) → (12 - x7_3.toInt).toNat < k_7 → J p l e ({ frames := 2, cells := 0, slots := 0, locals := 48 } : Room) s m args below meth c D A 4 0 0 (QX below D (TY cyC cyI cyJ cyZ cyO) A (fun u => some (.int (u.2.1 0))) (fun u => (0 ≤ (u.2.1 1).toInt ∧ (u.2.1 1).toInt ≤ 3) ∧ (0 ≤ (u.2.1 2).toInt ∧ (u.2.1 2).toInt ≤ 7) ∧ (0 ≤ (u.2.1 3).toInt ∧ (u.2.1 3).toInt ≤ 11) ∧ ((u.2.1 0).toInt = coF (p0).toInt (m_told 0).toInt (m_told 1).toInt (m_told 2).toInt ((cnB (niB m_states 0 (m_told 1).toInt) (m_told 0).toInt.toNat : Nat) : Int) (m_states 421).toInt (m_taped).toInt)) (fun u => [(m0, .inr (11, [.int 0, .ref mtape, .int m_taped, .int m_size, .ref msort, .ref mplace, .ref mvalue, .int m_at, .int m_fault, .ref mwords, .ref mtold, .ref mop, .ref marg, .int m_codes, .ref mnames, .ref mhasHabit, .int m_isNew, .ref mfactWords, .ref mfacts, .ref mpile, .ref mstates, .ref misMarked, .int (u.2.1 1), .int (u.2.1 2), .int (u.2.1 3), .ref mrow, .int m_rowMany, .ref mthr, .ref mmays, .ref mtall, .ref mweights, .ref mrowOfWare, .ref mneededOf, .int m_goShelf, .int m_goStack, .int m_goLeft, .ref mtried, .ref mbestRow, .int m_bestCost, .int m_bestMany, .int m_bestShelf, .int m_bestSet, .ref mdigits])), (mtold, .inl (cyI, 240, .inl m_told)), (mstates, .inl (cyI, 2760, .inl m_states))]) args s 0 0) [(m0, .inr (11, [.int 0, .ref mtape, .int m_taped, .int m_size, .ref msort, .ref mplace, .ref mvalue, .int m_at, .int m_fault, .ref mwords, .ref mtold, .ref mop, .ref marg, .int m_codes, .ref mnames, .ref mhasHabit, .int m_isNew, .ref mfactWords, .ref mfacts, .ref mpile, .ref mstates, .ref misMarked, .int y7_m0_22, .int y7_m0_23, .int y7_m0_24, .ref mrow, .int m_rowMany, .ref mthr, .ref mmays, .ref mtall, .ref mweights, .ref mrowOfWare, .ref mneededOf, .int m_goShelf, .int m_goStack, .int m_goLeft, .ref mtried, .ref mbestRow, .int m_bestCost, .int m_bestMany, .int m_bestShelf, .int m_bestSet, .ref mdigits])), (mtold, .inl (cyI, 240, .inl m_told)), (mstates, .inl (cyI, 2760, .inl m_states))] 67 [(3, .int x7_3), (2, .int x7_2), (0, .ref m0), (1, .int p0)] [] := by
      intro k_7
      induction k_7 with
      | zero =>
        intro x7_3 x7_2 y7_m0_22 y7_m0_23 y7_m0_24 hi_7_0 hi_7_1 hi_7_2 hi_7_3 hi_7_4 hr_7 hq_7_0 hm_7
        exact absurd hm_7 (Nat.not_lt_zero _)
      | succ k_7 ih_7 =>
        intro x7_3 x7_2 y7_m0_22 y7_m0_23 y7_m0_24 hi_7_0 hi_7_1 hi_7_2 hi_7_3 hi_7_4 hr_7 hq_7_0 hm_7
        refine j_iload_n (pc := 67) C dX11_count_67 rfl 0 rfl ?_
        refine j_aload_n (pc := 68) C dX11_count_68 rfl 2 rfl ?_
        refine j_callV (pc := 69) (As := []) (rest := [.int x7_3]) (wr := [(mstates, .inl (cyI, 2760, .inl m_states))]) C (c_X11_wares l D cyC cyI cyJ cyZ cyO m0 mtold mtape msort mplace mvalue mwords mop marg mnames mhasHabit mfactWords mfacts mpile mstates misMarked mrow mthr mmays mtall mweights mrowOfWare mneededOf mtried mbestRow mdigits 0 m_taped m_size m_at m_fault m_codes m_isNew y7_m0_22 y7_m0_23 y7_m0_24 m_rowMany m_goShelf m_goStack m_goLeft m_bestCost m_bestMany m_bestShelf m_bestSet m_told h_m_taped h_m_size h_m_at h_m_fault h_m_codes h_m_isNew hi_7_2 hi_7_3 hi_7_4 h_m_rowMany h_m_goShelf h_m_bestMany h_m_bestShelf h_m_told) wd_748 wd_624 wd_749 wd_750 wd_751 ⟨by decide, by decide, rfl⟩ rfl ⟨rfl, rfl, by decide, by decide⟩ ⟨by decide, by decide⟩ [0, 1] [2] rfl rfl ⟨by decide, by decide, by decide⟩ 0 rfl rfl rfl (Nat.le_of_ble_eq_true rfl) dX11_count_69 (fun u_8 hw_9 => ?_)
        refine j_eq (ws2 := [(mstates, .inl (cyI, 2760, .inl m_states)), (m0, .inr (11, [.int 0, .ref mtape, .int m_taped, .int m_size, .ref msort, .ref mplace, .ref mvalue, .int m_at, .int m_fault, .ref mwords, .ref mtold, .ref mop, .ref marg, .int m_codes, .ref mnames, .ref mhasHabit, .int m_isNew, .ref mfactWords, .ref mfacts, .ref mpile, .ref mstates, .ref misMarked, .int y7_m0_22, .int y7_m0_23, .int y7_m0_24, .ref mrow, .int m_rowMany, .ref mthr, .ref mmays, .ref mtall, .ref mweights, .ref mrowOfWare, .ref mneededOf, .int m_goShelf, .int m_goStack, .int m_goLeft, .ref mtried, .ref mbestRow, .int m_bestCost, .int m_bestMany, .int m_bestShelf, .int m_bestSet, .ref mdigits])), (mtold, .inl (cyI, 240, .inl m_told))]) (pc2 := 72) (lv2 := [(3, .int x7_3), (2, .int x7_2), (0, .ref m0), (1, .int p0)]) (st2 := [.int (u_8.2.1 0), .int x7_3]) rfl rfl rfl rfl ?_
        obtain ⟨hw_9_0, hw_9_1⟩ := hw_9
        have hw9 := congrArg Int32.toInt hw_9_1
        refine j_icmp_ge (pc := 72) (tgt := 98) C dX11_count_72 (by decide) (fun c_10 => ?_) (fun c_10 => ?_)
        · skip
          rw [i_le] at c_10
          refine j_iload_n (pc := 98) C dX11_count_98 rfl 1 rfl ?_
          exact j_iret (pc := 99) C hr hk (fun i => [].getD i 0, fun i => [x7_2, y7_m0_22, y7_m0_23, y7_m0_24].getD i 0, fun i => [].getD i (fun _ => 0), fun i => [].getD i (fun _ => 0)) rfl (show (0 ≤ (y7_m0_22).toInt ∧ (y7_m0_22).toInt ≤ 3) ∧ (0 ≤ (y7_m0_23).toInt ∧ (y7_m0_23).toInt ≤ 7) ∧ (0 ≤ (y7_m0_24).toInt ∧ (y7_m0_24).toInt ≤ 11) ∧ (x7_2.toInt = coF (p0).toInt (m_told 0).toInt (m_told 1).toInt (m_told 2).toInt ((cnB (niB m_states 0 (m_told 1).toInt) (m_told 0).toInt.toNat : Nat) : Int) (m_states 421).toInt (m_taped).toInt) from ⟨hi_7_2, hi_7_3, hi_7_4, (by unfold coF; rw [if_neg (by omega), if_neg (by omega), if_neg (by omega), if_pos (by omega)]; have y9 := congrArg Int32.toInt hw_9_1; rw [show (m_told 0).toInt.toNat = (x7_3).toInt.toNat from (by omega)]; exact hq_7_0)⟩) [1, 2, 0] (by decide) rfl (by decide) (by decide) dX11_count_99
        · skip
          rw [i_le] at c_10
          refine j_iload_n (pc := 75) C dX11_count_75 rfl 1 rfl ?_
          refine j_aload_n (pc := 76) C dX11_count_76 rfl 2 rfl ?_
          refine j_iconst (pc := 77) (v := 0) C dX11_count_77 (by decide) ?_
          refine j_iload_n (pc := 78) C dX11_count_78 rfl 0 rfl ?_
          refine j_callV (pc := 79) (As := [.int 0, .int x7_3]) (rest := [.int x7_2]) (wr := []) C (c_X11_isIn_0 l D cyC cyI cyJ cyZ cyO m0 mtold mstates mtape msort mplace mvalue mwords mop marg mnames mhasHabit mfactWords mfacts mpile misMarked mrow mthr mmays mtall mweights mrowOfWare mneededOf mtried mbestRow mdigits x7_3 0 m_taped m_size m_at m_fault m_codes m_isNew y7_m0_22 y7_m0_23 y7_m0_24 m_rowMany m_goShelf m_goStack m_goLeft m_bestCost m_bestMany m_bestShelf m_bestSet m_told m_states h_m_taped h_m_size h_m_at h_m_fault h_m_codes h_m_isNew hi_7_2 hi_7_3 hi_7_4 h_m_rowMany h_m_goShelf h_m_bestMany h_m_bestShelf h_m_told h_m_states) wd_825 wd_624 wd_826 wd_827 wd_828 ⟨by decide, by decide, rfl⟩ rfl ⟨rfl, rfl, by decide, by decide⟩ ⟨by decide, by decide⟩ [1, 2, 0] [] rfl rfl ⟨by decide, by decide, by decide⟩ 1 rfl rfl rfl (Nat.le_of_ble_eq_true rfl) dX11_count_79 (fun u_11 hw_12 => ?_)
          refine j_eq (ws2 := [(m0, .inr (11, [.int 0, .ref mtape, .int m_taped, .int m_size, .ref msort, .ref mplace, .ref mvalue, .int m_at, .int m_fault, .ref mwords, .ref mtold, .ref mop, .ref marg, .int m_codes, .ref mnames, .ref mhasHabit, .int m_isNew, .ref mfactWords, .ref mfacts, .ref mpile, .ref mstates, .ref misMarked, .int (u_11.2.1 1), .int (u_11.2.1 2), .int (u_11.2.1 3), .ref mrow, .int m_rowMany, .ref mthr, .ref mmays, .ref mtall, .ref mweights, .ref mrowOfWare, .ref mneededOf, .int m_goShelf, .int m_goStack, .int m_goLeft, .ref mtried, .ref mbestRow, .int m_bestCost, .int m_bestMany, .int m_bestShelf, .int m_bestSet, .ref mdigits])), (mtold, .inl (cyI, 240, .inl m_told)), (mstates, .inl (cyI, 2760, .inl m_states))]) (pc2 := 82) (lv2 := [(3, .int x7_3), (2, .int x7_2), (0, .ref m0), (1, .int p0)]) (st2 := [.int (u_11.2.1 0), .int x7_2]) rfl rfl rfl rfl ?_
          obtain ⟨hw_12_0, hw_12_1, hw_12_2, hw_12_3, hw_12_4, hw_12_5⟩ := hw_12
          refine j_if_eq (pc := 82) (tgt := 89) C dX11_count_82 (by decide) (fun c_13 => ?_) (fun c_13 => ?_)
          · skip
            have el_0 : (0 : Int32).toInt = 0 := rfl
            rw [i_eq] at c_13
            refine j_iconst (pc := 89) (v := 1) C dX11_count_89 (by decide) ?_
            obtain ⟨v_14, ev_14⟩ : ∃ z : Int32, x7_2 + 1 = z := ⟨_, rfl⟩
            have el_1 : (1 : Int32).toInt = 1 := rfl
            have hv_14 : v_14.toInt = x7_2.toInt + (1 : Int32).toInt := by rw [← ev_14]; exact fb_addI (by omega) (by omega)
            refine j_iadd (pc := 90) (v := v_14) C dX11_count_90 ev_14 ?_
            refine j_istore_n (pc := 91) (lv' := [(2, .int v_14), (3, .int x7_3), (0, .ref m0), (1, .int p0)]) C dX11_count_91 rfl (by decide) rfl ?_
            obtain ⟨v_15, ev_15⟩ : ∃ z : Int32, x7_3 + 1 = z := ⟨_, rfl⟩
            have el_1 : (1 : Int32).toInt = 1 := rfl
            have hv_15 : v_15.toInt = x7_3.toInt + (1 : Int32).toInt := by rw [← ev_15]; exact fb_addI (by omega) (by omega)
            refine j_iinc (pc := 92) (v := v_15) (lv' := [(3, .int v_15), (2, .int v_14), (0, .ref m0), (1, .int p0)]) C dX11_count_92 1 rfl ev_15 (by decide) rfl ?_
            refine j_goto (pc := 95) (tgt := 67) C dX11_count_95 (by decide) ?_
            exact j_lv [0, 1, 2, 3] rfl (ih_7 v_15 v_14 (u_11.2.1 1) (u_11.2.1 2) (u_11.2.1 3) (by omega) (by omega) hw_12_1 hw_12_2 hw_12_3 (by omega) (by rw [show (v_15.toInt).toNat = (x7_3).toInt.toNat + 1 from (by omega), cnB_y (P := (niB m_states 0 (m_told 1).toInt)) (j := (x7_3).toInt.toNat) (niB_iff.mpr (by rw [nI_id (by omega)]; exact hw_12_4 (by omega)))]; omega) (by omega))
          · skip
            have el_0 : (0 : Int32).toInt = 0 := rfl
            rw [i_eq] at c_13
            have k0c_13 : ((u_11.2.1 0)).toInt = 1 := by omega
            refine j_iconst (pc := 85) (v := 0) C dX11_count_85 (by decide) ?_
            refine j_goto (pc := 86) (tgt := 90) C dX11_count_86 (by decide) ?_
            obtain ⟨v_16, ev_16⟩ : ∃ z : Int32, x7_2 + 0 = z := ⟨_, rfl⟩
            have el_0 : (0 : Int32).toInt = 0 := rfl
            have hv_16 : v_16.toInt = x7_2.toInt + (0 : Int32).toInt := by rw [← ev_16]; exact fb_addI (by omega) (by omega)
            refine j_iadd (pc := 90) (v := v_16) C dX11_count_90 ev_16 ?_
            refine j_istore_n (pc := 91) (lv' := [(2, .int v_16), (3, .int x7_3), (0, .ref m0), (1, .int p0)]) C dX11_count_91 rfl (by decide) rfl ?_
            obtain ⟨v_17, ev_17⟩ : ∃ z : Int32, x7_3 + 1 = z := ⟨_, rfl⟩
            have el_1 : (1 : Int32).toInt = 1 := rfl
            have hv_17 : v_17.toInt = x7_3.toInt + (1 : Int32).toInt := by rw [← ev_17]; exact fb_addI (by omega) (by omega)
            refine j_iinc (pc := 92) (v := v_17) (lv' := [(3, .int v_17), (2, .int v_16), (0, .ref m0), (1, .int p0)]) C dX11_count_92 1 rfl ev_17 (by decide) rfl ?_
            refine j_goto (pc := 95) (tgt := 67) C dX11_count_95 (by decide) ?_
            exact j_lv [0, 1, 2, 3] rfl (ih_7 v_17 v_16 (u_11.2.1 1) (u_11.2.1 2) (u_11.2.1 3) (by omega) (by omega) hw_12_1 hw_12_2 hw_12_3 (by omega) (by rw [show (v_17.toInt).toNat = (x7_3).toInt.toNat + 1 from (by omega), cnB_n (P := (niB m_states 0 (m_told 1).toInt)) (j := (x7_3).toInt.toNat) (fun z => by have z9 := niB_iff.mp z; rw [nI_id (by omega)] at z9; obtain ⟨hi1, hi2, hi3, hi4⟩ := hw_12_5 (by omega); have y := z9 ((u_11.2.1 1)).toInt.toNat (by omega) ((u_11.2.1 2)).toInt.toNat ((u_11.2.1 3)).toInt.toNat (by omega); rw [show 460 * 0 + 105 * ((u_11.2.1 1)).toInt.toNat = 0 + 105 * ((u_11.2.1 1)).toInt.toNat from (by omega)] at y; exact y (by omega) (by omega) hi2)]; omega) (by omega))
    have el_0 : (0 : Int32).toInt = 0 := rfl
    have el_0 : (0 : Int32).toInt = 0 := rfl
    exact j_lv [0, 1, 2, 3] rfl (loop_7 4096 0 0 m_inShelf m_inStack m_inPlace (by decide) (by decide) h_m_inShelf h_m_inStack h_m_inPlace (by omega) rfl (by omega))
  · skip
    refine j_tin (pc := 8) (off := 92) (tgt := 100) C dX11_count_8 (by omega) (by omega) (by rw [sw_1]; decide) (by decide) ?_
    refine j_aload_n (pc := 100) C dX11_count_100 rfl 1 rfl ?_
    refine j_callV (pc := 101) (As := []) (rest := []) (wr := [(mtold, .inl (cyI, 240, .inl m_told))]) C (c_X11_asks l D cyC cyI cyJ cyZ cyO m0 mstates mtape msort mplace mvalue mwords mtold mop marg mnames mhasHabit mfactWords mfacts mpile misMarked mrow mthr mmays mtall mweights mrowOfWare mneededOf mtried mbestRow mdigits 0 m_taped m_size m_at m_fault m_codes m_isNew m_inShelf m_inStack m_inPlace m_rowMany m_goShelf m_goStack m_goLeft m_bestCost m_bestMany m_bestShelf m_bestSet m_states h_m_taped h_m_size h_m_at h_m_fault h_m_codes h_m_isNew h_m_inShelf h_m_inStack h_m_inPlace h_m_rowMany h_m_goShelf h_m_bestMany h_m_bestShelf h_m_states) wd_833 wd_624 wd_834 wd_835 wd_836 ⟨by decide, by decide, rfl⟩ rfl ⟨rfl, rfl, by decide, by decide⟩ ⟨by decide, by decide⟩ [0, 2] [1] rfl rfl ⟨by decide, by decide, by decide⟩ 0 rfl rfl rfl (Nat.le_of_ble_eq_true rfl) dX11_count_101 (fun u_18 hw_19 => ?_)
    refine j_eq (ws2 := [(mtold, .inl (cyI, 240, .inl m_told)), (m0, .inr (11, [.int 0, .ref mtape, .int m_taped, .int m_size, .ref msort, .ref mplace, .ref mvalue, .int m_at, .int m_fault, .ref mwords, .ref mtold, .ref mop, .ref marg, .int m_codes, .ref mnames, .ref mhasHabit, .int m_isNew, .ref mfactWords, .ref mfacts, .ref mpile, .ref mstates, .ref misMarked, .int m_inShelf, .int m_inStack, .int m_inPlace, .ref mrow, .int m_rowMany, .ref mthr, .ref mmays, .ref mtall, .ref mweights, .ref mrowOfWare, .ref mneededOf, .int m_goShelf, .int m_goStack, .int m_goLeft, .ref mtried, .ref mbestRow, .int m_bestCost, .int m_bestMany, .int m_bestShelf, .int m_bestSet, .ref mdigits])), (mstates, .inl (cyI, 2760, .inl m_states))]) (pc2 := 104) (lv2 := [(2, .int 0), (0, .ref m0), (1, .int p0)]) (st2 := [.int (u_18.2.1 0)]) rfl rfl rfl rfl ?_
    obtain ⟨hw_19_0, hw_19_1, hw_19_2⟩ := hw_19
    exact j_iret (pc := 104) C hr hk (fun i => [].getD i 0, fun i => [(u_18.2.1 0), m_inShelf, m_inStack, m_inPlace].getD i 0, fun i => [].getD i (fun _ => 0), fun i => [].getD i (fun _ => 0)) rfl (show (0 ≤ (m_inShelf).toInt ∧ (m_inShelf).toInt ≤ 3) ∧ (0 ≤ (m_inStack).toInt ∧ (m_inStack).toInt ≤ 7) ∧ (0 ≤ (m_inPlace).toInt ∧ (m_inPlace).toInt ≤ 11) ∧ ((u_18.2.1 0).toInt = coF (p0).toInt (m_told 0).toInt (m_told 1).toInt (m_told 2).toInt ((cnB (niB m_states 0 (m_told 1).toInt) (m_told 0).toInt.toNat : Nat) : Int) (m_states 421).toInt (m_taped).toInt) from ⟨h_m_inShelf, h_m_inStack, h_m_inPlace, (by unfold coF; rw [if_neg (by omega), if_neg (by omega), if_neg (by omega), if_neg (by omega), if_pos (by omega)]; rw [hw_19_1])⟩) [1, 0, 2] (by decide) rfl (by decide) (by decide) dX11_count_104
  · skip
    refine j_tin (pc := 8) (off := 97) (tgt := 105) C dX11_count_8 (by omega) (by omega) (by rw [sw_1]; decide) (by decide) ?_
    refine j_aload_n (pc := 105) C dX11_count_105 rfl 1 rfl ?_
    refine j_get (pc := 106) (ci := 11) (v := .int m_taped) C inw_11 0 rfl rfl 2 (by decide) wd_627 rfl rfl dX11_count_106 ?_
    exact j_iret (pc := 109) C hr hk (fun i => [].getD i 0, fun i => [m_taped, m_inShelf, m_inStack, m_inPlace].getD i 0, fun i => [].getD i (fun _ => 0), fun i => [].getD i (fun _ => 0)) rfl (show (0 ≤ (m_inShelf).toInt ∧ (m_inShelf).toInt ≤ 3) ∧ (0 ≤ (m_inStack).toInt ∧ (m_inStack).toInt ≤ 7) ∧ (0 ≤ (m_inPlace).toInt ∧ (m_inPlace).toInt ≤ 11) ∧ (m_taped.toInt = coF (p0).toInt (m_told 0).toInt (m_told 1).toInt (m_told 2).toInt ((cnB (niB m_states 0 (m_told 1).toInt) (m_told 0).toInt.toNat : Nat) : Int) (m_states 421).toInt (m_taped).toInt) from ⟨h_m_inShelf, h_m_inStack, h_m_inPlace, (by unfold coF; rw [if_neg (by omega), if_neg (by omega), if_neg (by omega), if_neg (by omega), if_neg (by omega), if_pos (by omega)])⟩) [0, 1, 2] (by decide) rfl (by decide) (by decide) dX11_count_109
  · skip
    refine j_tout (pc := 8) (tgt := 110) C dX11_count_8 (by omega) (by decide) ?_
    refine j_iconst (pc := 110) (v := (-1)) C dX11_count_110 (by decide) ?_
    have el_m1 : ((-1) : Int32).toInt = (-1) := rfl
    exact j_iret (pc := 111) C hr hk (fun i => [].getD i 0, fun i => [(-1), m_inShelf, m_inStack, m_inPlace].getD i 0, fun i => [].getD i (fun _ => 0), fun i => [].getD i (fun _ => 0)) rfl (show (0 ≤ (m_inShelf).toInt ∧ (m_inShelf).toInt ≤ 3) ∧ (0 ≤ (m_inStack).toInt ∧ (m_inStack).toInt ≤ 7) ∧ (0 ≤ (m_inPlace).toInt ∧ (m_inPlace).toInt ≤ 11) ∧ (((-1) : Int32).toInt = coF (p0).toInt (m_told 0).toInt (m_told 1).toInt (m_told 2).toInt ((cnB (niB m_states 0 (m_told 1).toInt) (m_told 0).toInt.toNat : Nat) : Int) (m_states 421).toInt (m_taped).toInt) from ⟨h_m_inShelf, h_m_inStack, h_m_inPlace, (by unfold coF; rw [if_neg (by omega), if_neg (by omega), if_neg (by omega), if_neg (by omega), if_neg (by omega), if_neg (by omega)]; rfl)⟩) [0, 1, 2] (by decide) rfl (by decide) (by decide) dX11_count_111
set_option maxHeartbeats 4000000 in
set_option maxRecDepth 100000 in
theorem c_X11_asked (l : Launch) (D : DG) (cyC cyI cyJ cyZ cyO : ClassId) (m0 : Nat) (mtold : Nat) (mstates : Nat) (mtape : Nat) (msort : Nat) (mplace : Nat) (mvalue : Nat) (mwords : Nat) (mop : Nat) (marg : Nat) (mnames : Nat) (mhasHabit : Nat) (mfactWords : Nat) (mfacts : Nat) (mpile : Nat) (misMarked : Nat) (mrow : Nat) (mthr : Nat) (mmays : Nat) (mtall : Nat) (mweights : Nat) (mrowOfWare : Nat) (mneededOf : Nat) (mtried : Nat) (mbestRow : Nat) (mdigits : Nat) (m_thrown : Int32) (m_taped : Int32) (m_size : Int32) (m_at : Int32) (m_fault : Int32) (m_codes : Int32) (m_isNew : Int32) (m_inShelf : Int32) (m_inStack : Int32) (m_inPlace : Int32) (m_rowMany : Int32) (m_goShelf : Int32) (m_goStack : Int32) (m_goLeft : Int32) (m_bestCost : Int32) (m_bestMany : Int32) (m_bestShelf : Int32) (m_bestSet : Int32) (m_told : Nat → Int32) (m_states : Nat → Int32) (h_m_taped : 0 ≤ (m_taped).toInt ∧ (m_taped).toInt ≤ 1000) (h_m_size : 0 ≤ (m_size).toInt ∧ (m_size).toInt ≤ 1000) (h_m_at : 0 ≤ (m_at).toInt ∧ (m_at).toInt ≤ 1000) (h_m_fault : 0 ≤ (m_fault).toInt ∧ (m_fault).toInt ≤ 16005) (h_m_codes : 0 ≤ (m_codes).toInt ∧ (m_codes).toInt ≤ 1000) (h_m_isNew : 0 ≤ (m_isNew).toInt ∧ (m_isNew).toInt ≤ 1) (h_m_inShelf : 0 ≤ (m_inShelf).toInt ∧ (m_inShelf).toInt ≤ 3) (h_m_inStack : 0 ≤ (m_inStack).toInt ∧ (m_inStack).toInt ≤ 7) (h_m_inPlace : 0 ≤ (m_inPlace).toInt ∧ (m_inPlace).toInt ≤ 11) (h_m_rowMany : 0 ≤ (m_rowMany).toInt ∧ (m_rowMany).toInt ≤ 12) (h_m_goShelf : -1 ≤ (m_goShelf).toInt ∧ (m_goShelf).toInt ≤ 3) (h_m_bestMany : 0 ≤ (m_bestMany).toInt ∧ (m_bestMany).toInt ≤ 7) (h_m_bestShelf : 0 ≤ (m_bestShelf).toInt ∧ (m_bestShelf).toInt ≤ 3) (h_m_told : TV m_told) (h_m_states : SV m_states) : KK l D (TY cyC cyI cyJ cyZ cyO) yX11_asked cX11_asked 3 (some .int) ({ frames := 3, cells := 0, slots := 0, locals := 68 } : Room) 0 0 [.ref m0] [(m0, .inr (11, [.int m_thrown, .ref mtape, .int m_taped, .int m_size, .ref msort, .ref mplace, .ref mvalue, .int m_at, .int m_fault, .ref mwords, .ref mtold, .ref mop, .ref marg, .int m_codes, .ref mnames, .ref mhasHabit, .int m_isNew, .ref mfactWords, .ref mfacts, .ref mpile, .ref mstates, .ref misMarked, .int m_inShelf, .int m_inStack, .int m_inPlace, .ref mrow, .int m_rowMany, .ref mthr, .ref mmays, .ref mtall, .ref mweights, .ref mrowOfWare, .ref mneededOf, .int m_goShelf, .int m_goStack, .int m_goLeft, .ref mtried, .ref mbestRow, .int m_bestCost, .int m_bestMany, .int m_bestShelf, .int m_bestSet, .ref mdigits])), (mtold, .inl (cyI, 240, .inl m_told)), (mstates, .inl (cyI, 2760, .inl m_states))] (fun u => some (.int (u.2.1 0))) (fun u => (0 ≤ (u.2.1 1).toInt ∧ (u.2.1 1).toInt ≤ 3) ∧ (0 ≤ (u.2.1 2).toInt ∧ (u.2.1 2).toInt ≤ 7) ∧ (0 ≤ (u.2.1 3).toInt ∧ (u.2.1 3).toInt ≤ 11) ∧ (SR (pAMA m_told m_states (m_told 1).toInt) (m_states 421).toInt.toNat (u.2.1 0))) (fun u => [(m0, .inr (11, [.int 0, .ref mtape, .int m_taped, .int m_size, .ref msort, .ref mplace, .ref mvalue, .int m_at, .int m_fault, .ref mwords, .ref mtold, .ref mop, .ref marg, .int m_codes, .ref mnames, .ref mhasHabit, .int m_isNew, .ref mfactWords, .ref mfacts, .ref mpile, .ref mstates, .ref misMarked, .int (u.2.1 1), .int (u.2.1 2), .int (u.2.1 3), .ref mrow, .int m_rowMany, .ref mthr, .ref mmays, .ref mtall, .ref mweights, .ref mrowOfWare, .ref mneededOf, .int m_goShelf, .int m_goStack, .int m_goLeft, .ref mtried, .ref mbestRow, .int m_bestCost, .int m_bestMany, .int m_bestShelf, .int m_bestSet, .ref mdigits])), (mtold, .inl (cyI, 240, .inl m_told)), (mstates, .inl (cyI, 2760, .inl m_states))]) := by
  refine KK.of (lv0 := [(0, .ref m0)]) (by decide) rfl (Nat.le_of_ble_eq_true rfl) ?_
  intro p e s m args below meth c A C hr hk hin
  refine j_aload_n (pc := 0) C dX11_asked_0 rfl 0 rfl ?_
  refine j_iconst (pc := 1) (v := 0) C dX11_asked_1 (by decide) ?_
  refine j_put (pc := 2) (ci := 11) (v := .int 0) (ws' := [(m0, .inr (11, [.int 0, .ref mtape, .int m_taped, .int m_size, .ref msort, .ref mplace, .ref mvalue, .int m_at, .int m_fault, .ref mwords, .ref mtold, .ref mop, .ref marg, .int m_codes, .ref mnames, .ref mhasHabit, .int m_isNew, .ref mfactWords, .ref mfacts, .ref mpile, .ref mstates, .ref misMarked, .int m_inShelf, .int m_inStack, .int m_inPlace, .ref mrow, .int m_rowMany, .ref mthr, .ref mmays, .ref mtall, .ref mweights, .ref mrowOfWare, .ref mneededOf, .int m_goShelf, .int m_goStack, .int m_goLeft, .ref mtried, .ref mbestRow, .int m_bestCost, .int m_bestMany, .int m_bestShelf, .int m_bestSet, .ref mdigits])), (mtold, .inl (cyI, 240, .inl m_told)), (mstates, .inl (cyI, 2760, .inl m_states))]) C inw_11 0 rfl rfl 0 (by decide) wd_629 rfl tyX11_ok nmX11 rfl (tyX11_ok 0 (by decide)) rfl rfl (Nat.le_of_ble_eq_true rfl) dX11_asked_2 rfl ?_
  refine j_iconst (pc := 5) (v := 0) C dX11_asked_5 (by decide) ?_
  refine j_istore_n (pc := 6) (lv' := [(1, .int 0), (0, .ref m0)]) C dX11_asked_6 rfl (by decide) rfl ?_
  refine j_iconst (pc := 7) (v := 0) C dX11_asked_7 (by decide) ?_
  refine j_istore_n (pc := 8) (lv' := [(2, .int 0), (1, .int 0), (0, .ref m0)]) C dX11_asked_8 rfl (by decide) rfl ?_
  have loop_1 : ∀ (k_1 : Nat) (x1_2 : Int32) (x1_1 : Int32) (y1_m0_22 : Int32) (y1_m0_23 : Int32) (y1_m0_24 : Int32), (0 ≤ (x1_2).toInt ∧ (x1_2).toInt ≤ 30) → (0 ≤ (y1_m0_22).toInt ∧ (y1_m0_22).toInt ≤ 3) → (0 ≤ (y1_m0_23).toInt ∧ (y1_m0_23).toInt ≤ 7) → (0 ≤ (y1_m0_24).toInt ∧ (y1_m0_24).toInt ≤ 11) → (x1_2.toInt ≤ (m_states 421).toInt ∨ x1_2.toInt = 0) → (SR (pAMA m_told m_states (m_told 1).toInt) (x1_2.toInt).toNat x1_1) → (30 - x1_2.toInt).toNat < k_1 → J p l e ({ frames := 3, cells := 0, slots := 0, locals := 68 } : Room) s m args below meth c D A 3 0 0 (QX below D (TY cyC cyI cyJ cyZ cyO) A (fun u => some (.int (u.2.1 0))) (fun u => (0 ≤ (u.2.1 1).toInt ∧ (u.2.1 1).toInt ≤ 3) ∧ (0 ≤ (u.2.1 2).toInt ∧ (u.2.1 2).toInt ≤ 7) ∧ (0 ≤ (u.2.1 3).toInt ∧ (u.2.1 3).toInt ≤ 11) ∧ (SR (pAMA m_told m_states (m_told 1).toInt) (m_states 421).toInt.toNat (u.2.1 0))) (fun u => [(m0, .inr (11, [.int 0, .ref mtape, .int m_taped, .int m_size, .ref msort, .ref mplace, .ref mvalue, .int m_at, .int m_fault, .ref mwords, .ref mtold, .ref mop, .ref marg, .int m_codes, .ref mnames, .ref mhasHabit, .int m_isNew, .ref mfactWords, .ref mfacts, .ref mpile, .ref mstates, .ref misMarked, .int (u.2.1 1), .int (u.2.1 2), .int (u.2.1 3), .ref mrow, .int m_rowMany, .ref mthr, .ref mmays, .ref mtall, .ref mweights, .ref mrowOfWare, .ref mneededOf, .int m_goShelf, .int m_goStack, .int m_goLeft, .ref mtried, .ref mbestRow, .int m_bestCost, .int m_bestMany, .int m_bestShelf, .int m_bestSet, .ref mdigits])), (mtold, .inl (cyI, 240, .inl m_told)), (mstates, .inl (cyI, 2760, .inl m_states))]) args s 0 0) [(m0, .inr (11, [.int 0, .ref mtape, .int m_taped, .int m_size, .ref msort, .ref mplace, .ref mvalue, .int m_at, .int m_fault, .ref mwords, .ref mtold, .ref mop, .ref marg, .int m_codes, .ref mnames, .ref mhasHabit, .int m_isNew, .ref mfactWords, .ref mfacts, .ref mpile, .ref mstates, .ref misMarked, .int y1_m0_22, .int y1_m0_23, .int y1_m0_24, .ref mrow, .int m_rowMany, .ref mthr, .ref mmays, .ref mtall, .ref mweights, .ref mrowOfWare, .ref mneededOf, .int m_goShelf, .int m_goStack, .int m_goLeft, .ref mtried, .ref mbestRow, .int m_bestCost, .int m_bestMany, .int m_bestShelf, .int m_bestSet, .ref mdigits])), (mtold, .inl (cyI, 240, .inl m_told)), (mstates, .inl (cyI, 2760, .inl m_states))] 9 [(2, .int x1_2), (1, .int x1_1), (0, .ref m0)] [] := by
    intro k_1
    induction k_1 with
    | zero =>
      intro x1_2 x1_1 y1_m0_22 y1_m0_23 y1_m0_24 hi_1_0 hi_1_2 hi_1_3 hi_1_4 hr_1 hq_1_0 hm_1
      exact absurd hm_1 (Nat.not_lt_zero _)
    | succ k_1 ih_1 =>
      intro x1_2 x1_1 y1_m0_22 y1_m0_23 y1_m0_24 hi_1_0 hi_1_2 hi_1_3 hi_1_4 hr_1 hq_1_0 hm_1
      refine j_iload_n (pc := 9) C dX11_asked_9 rfl 0 rfl ?_
      refine j_aload_n (pc := 10) C dX11_asked_10 rfl 2 rfl ?_
      refine j_callV (pc := 11) (As := []) (rest := [.int x1_2]) (wr := [(mtold, .inl (cyI, 240, .inl m_told))]) C (c_X11_asks l D cyC cyI cyJ cyZ cyO m0 mstates mtape msort mplace mvalue mwords mtold mop marg mnames mhasHabit mfactWords mfacts mpile misMarked mrow mthr mmays mtall mweights mrowOfWare mneededOf mtried mbestRow mdigits 0 m_taped m_size m_at m_fault m_codes m_isNew y1_m0_22 y1_m0_23 y1_m0_24 m_rowMany m_goShelf m_goStack m_goLeft m_bestCost m_bestMany m_bestShelf m_bestSet m_states h_m_taped h_m_size h_m_at h_m_fault h_m_codes h_m_isNew hi_1_2 hi_1_3 hi_1_4 h_m_rowMany h_m_goShelf h_m_bestMany h_m_bestShelf h_m_states) wd_833 wd_624 wd_834 wd_835 wd_836 ⟨by decide, by decide, rfl⟩ rfl ⟨rfl, rfl, by decide, by decide⟩ ⟨by decide, by decide⟩ [0, 2] [1] rfl rfl ⟨by decide, by decide, by decide⟩ 0 rfl rfl rfl (Nat.le_of_ble_eq_true rfl) dX11_asked_11 (fun u_2 hw_3 => ?_)
      refine j_eq (ws2 := [(mtold, .inl (cyI, 240, .inl m_told)), (m0, .inr (11, [.int 0, .ref mtape, .int m_taped, .int m_size, .ref msort, .ref mplace, .ref mvalue, .int m_at, .int m_fault, .ref mwords, .ref mtold, .ref mop, .ref marg, .int m_codes, .ref mnames, .ref mhasHabit, .int m_isNew, .ref mfactWords, .ref mfacts, .ref mpile, .ref mstates, .ref misMarked, .int y1_m0_22, .int y1_m0_23, .int y1_m0_24, .ref mrow, .int m_rowMany, .ref mthr, .ref mmays, .ref mtall, .ref mweights, .ref mrowOfWare, .ref mneededOf, .int m_goShelf, .int m_goStack, .int m_goLeft, .ref mtried, .ref mbestRow, .int m_bestCost, .int m_bestMany, .int m_bestShelf, .int m_bestSet, .ref mdigits])), (mstates, .inl (cyI, 2760, .inl m_states))]) (pc2 := 14) (lv2 := [(2, .int x1_2), (1, .int x1_1), (0, .ref m0)]) (st2 := [.int (u_2.2.1 0), .int x1_2]) rfl rfl rfl rfl ?_
      obtain ⟨hw_3_0, hw_3_1, hw_3_2⟩ := hw_3
      refine j_icmp_ge (pc := 14) (tgt := 53) C dX11_asked_14 (by decide) (fun c_4 => ?_) (fun c_4 => ?_)
      · skip
        rw [i_le] at c_4
        refine j_iload_n (pc := 53) C dX11_asked_53 rfl 1 rfl ?_
        exact j_iret (pc := 54) C hr hk (fun i => [].getD i 0, fun i => [x1_1, y1_m0_22, y1_m0_23, y1_m0_24].getD i 0, fun i => [].getD i (fun _ => 0), fun i => [].getD i (fun _ => 0)) rfl (show (0 ≤ (y1_m0_22).toInt ∧ (y1_m0_22).toInt ≤ 3) ∧ (0 ≤ (y1_m0_23).toInt ∧ (y1_m0_23).toInt ≤ 7) ∧ (0 ≤ (y1_m0_24).toInt ∧ (y1_m0_24).toInt ≤ 11) ∧ (SR (pAMA m_told m_states (m_told 1).toInt) (m_states 421).toInt.toNat x1_1) from ⟨hi_1_2, hi_1_3, hi_1_4, (by rw [show (m_states 421).toInt.toNat = (x1_2).toInt.toNat from (by omega)]; exact hq_1_0)⟩) [1, 0, 2] (by decide) rfl (by decide) (by decide) dX11_asked_54
      · skip
        rw [i_le] at c_4
        refine j_iload_n (pc := 17) C dX11_asked_17 rfl 1 rfl ?_
        refine j_aload_n (pc := 18) C dX11_asked_18 rfl 2 rfl ?_
        refine j_iconst (pc := 19) (v := 0) C dX11_asked_19 (by decide) ?_
        refine j_aload_n (pc := 20) C dX11_asked_20 rfl 2 rfl ?_
        refine j_get (pc := 21) (ci := 11) (v := .ref mstates) C inw_11 1 rfl rfl 20 (by decide) wd_764 rfl rfl dX11_asked_21 ?_
        refine j_sipush (pc := 24) (v := 422) C dX11_asked_24 (by decide) ?_
        refine j_iload_n (pc := 27) C dX11_asked_27 rfl 0 rfl ?_
        obtain ⟨v_5, ev_5⟩ : ∃ z : Int32, 422 + x1_2 = z := ⟨_, rfl⟩
        have el_422 : (422 : Int32).toInt = 422 := rfl
        have hv_5 : v_5.toInt = (422 : Int32).toInt + x1_2.toInt := by rw [← ev_5]; exact fb_addI (by omega) (by omega)
        refine j_iadd (pc := 28) (v := v_5) C dX11_asked_28 ev_5 ?_
        obtain ⟨v_6, ev_6⟩ : ∃ z, m_states (v_5).toInt.toNat = z := ⟨_, rfl⟩
        have env_6 : (m_states (v_5).toInt.toNat).toInt = v_6.toInt := by rw [ev_6]
        have hv_6 : 0 ≤ v_6.toInt ∧ v_6.toInt ≤ 11 := by rw [← ev_6]; exact SV.ask (b := 0) h_m_states (by decide) (by omega) (by omega)
        refine j_iald (pc := 29) (v := v_6) (k := (v_5).toInt.toNat) C 2 1 rfl rfl (i_nn (by omega)) rfl (i_lt_n (by omega) (by omega)) ev_6 dX11_asked_29 ?_
        refine j_callV (pc := 30) (As := [.int 0, .int v_6]) (rest := [.int x1_1]) (wr := []) C (c_X11_isIn_0 l D cyC cyI cyJ cyZ cyO m0 mtold mstates mtape msort mplace mvalue mwords mop marg mnames mhasHabit mfactWords mfacts mpile misMarked mrow mthr mmays mtall mweights mrowOfWare mneededOf mtried mbestRow mdigits v_6 0 m_taped m_size m_at m_fault m_codes m_isNew y1_m0_22 y1_m0_23 y1_m0_24 m_rowMany m_goShelf m_goStack m_goLeft m_bestCost m_bestMany m_bestShelf m_bestSet m_told m_states h_m_taped h_m_size h_m_at h_m_fault h_m_codes h_m_isNew hi_1_2 hi_1_3 hi_1_4 h_m_rowMany h_m_goShelf h_m_bestMany h_m_bestShelf h_m_told h_m_states) wd_825 wd_624 wd_826 wd_827 wd_828 ⟨by decide, by decide, rfl⟩ rfl ⟨rfl, rfl, by decide, by decide⟩ ⟨by decide, by decide⟩ [1, 0, 2] [] rfl rfl ⟨by decide, by decide, by decide⟩ 1 rfl rfl rfl (Nat.le_of_ble_eq_true rfl) dX11_asked_30 (fun u_7 hw_8 => ?_)
        refine j_eq (ws2 := [(m0, .inr (11, [.int 0, .ref mtape, .int m_taped, .int m_size, .ref msort, .ref mplace, .ref mvalue, .int m_at, .int m_fault, .ref mwords, .ref mtold, .ref mop, .ref marg, .int m_codes, .ref mnames, .ref mhasHabit, .int m_isNew, .ref mfactWords, .ref mfacts, .ref mpile, .ref mstates, .ref misMarked, .int (u_7.2.1 1), .int (u_7.2.1 2), .int (u_7.2.1 3), .ref mrow, .int m_rowMany, .ref mthr, .ref mmays, .ref mtall, .ref mweights, .ref mrowOfWare, .ref mneededOf, .int m_goShelf, .int m_goStack, .int m_goLeft, .ref mtried, .ref mbestRow, .int m_bestCost, .int m_bestMany, .int m_bestShelf, .int m_bestSet, .ref mdigits])), (mtold, .inl (cyI, 240, .inl m_told)), (mstates, .inl (cyI, 2760, .inl m_states))]) (pc2 := 33) (lv2 := [(2, .int x1_2), (1, .int x1_1), (0, .ref m0)]) (st2 := [.int (u_7.2.1 0), .int x1_1]) rfl rfl rfl rfl ?_
        obtain ⟨hw_8_0, hw_8_1, hw_8_2, hw_8_3, hw_8_4, hw_8_5⟩ := hw_8
        refine j_if_eq (pc := 33) (tgt := 44) C dX11_asked_33 (by decide) (fun c_9 => ?_) (fun c_9 => ?_)
        · skip
          have el_0 : (0 : Int32).toInt = 0 := rfl
          rw [i_eq] at c_9
          refine j_iconst (pc := 44) (v := 0) C dX11_asked_44 (by decide) ?_
          obtain ⟨v_10, ev_10⟩ : ∃ z : Int32, x1_1 + 0 = z := ⟨_, rfl⟩
          have el_0 : (0 : Int32).toInt = 0 := rfl
          refine j_iadd (pc := 45) (v := v_10) C dX11_asked_45 ev_10 ?_
          refine j_istore_n (pc := 46) (lv' := [(1, .int v_10), (2, .int x1_2), (0, .ref m0)]) C dX11_asked_46 rfl (by decide) rfl ?_
          obtain ⟨v_11, ev_11⟩ : ∃ z : Int32, x1_2 + 1 = z := ⟨_, rfl⟩
          have el_1 : (1 : Int32).toInt = 1 := rfl
          have hv_11 : v_11.toInt = x1_2.toInt + (1 : Int32).toInt := by rw [← ev_11]; exact fb_addI (by omega) (by omega)
          refine j_iinc (pc := 47) (v := v_11) (lv' := [(2, .int v_11), (1, .int v_10), (0, .ref m0)]) C dX11_asked_47 1 rfl ev_11 (by decide) rfl ?_
          refine j_goto (pc := 50) (tgt := 9) C dX11_asked_50 (by decide) ?_
          exact j_lv [0, 1, 2] rfl (ih_1 v_11 v_10 (u_7.2.1 1) (u_7.2.1 2) (u_7.2.1 3) (by omega) hw_8_1 hw_8_2 hw_8_3 (by omega) (SR.step (z := 0) hq_1_0 (by omega) (by show pAM m_told m_states 0 (m_told 1).toInt (m_states (422 + (x1_2).toInt.toNat)) _; rw [show 422 + (x1_2).toInt.toNat = (v_5).toInt.toNat from (by omega), ev_6]; exact Or.inl ⟨hw_8_4 (by omega), rfl⟩) ev_10.symm) (by omega))
        · skip
          have el_0 : (0 : Int32).toInt = 0 := rfl
          rw [i_eq] at c_9
          have k0c_9 : ((u_7.2.1 0)).toInt = 1 := by omega
          obtain ⟨hi1, hi2, hi3, hi4⟩ := hw_8_5 (by omega)
          refine j_aload_n (pc := 36) C dX11_asked_36 rfl 2 rfl ?_
          refine j_iconst (pc := 37) (v := 0) C dX11_asked_37 (by decide) ?_
          refine j_callV (pc := 38) (As := [.int 0]) (rest := [.int x1_1]) (wr := []) C (c_X11_liftCost_0 l D cyC cyI cyJ cyZ cyO m0 mtold mstates mtape msort mplace mvalue mwords mop marg mnames mhasHabit mfactWords mfacts mpile misMarked mrow mthr mmays mtall mweights mrowOfWare mneededOf mtried mbestRow mdigits 0 m_taped m_size m_at m_fault m_codes m_isNew (u_7.2.1 1) (u_7.2.1 2) (u_7.2.1 3) m_rowMany m_goShelf m_goStack m_goLeft m_bestCost m_bestMany m_bestShelf m_bestSet m_told m_states h_m_taped h_m_size h_m_at h_m_fault h_m_codes h_m_isNew hw_8_1 hw_8_2 hw_8_3 h_m_rowMany h_m_goShelf h_m_bestMany h_m_bestShelf h_m_told h_m_states) wd_829 wd_624 wd_830 wd_831 wd_832 ⟨by decide, by decide, rfl⟩ rfl ⟨rfl, rfl, by decide, by decide⟩ ⟨by decide, by decide⟩ [0, 1, 2] [] rfl rfl ⟨by decide, by decide, by decide⟩ 0 rfl rfl rfl (Nat.le_of_ble_eq_true rfl) dX11_asked_38 (fun u_12 hw_13 => ?_)
          refine j_eq (ws2 := [(m0, .inr (11, [.int 0, .ref mtape, .int m_taped, .int m_size, .ref msort, .ref mplace, .ref mvalue, .int m_at, .int m_fault, .ref mwords, .ref mtold, .ref mop, .ref marg, .int m_codes, .ref mnames, .ref mhasHabit, .int m_isNew, .ref mfactWords, .ref mfacts, .ref mpile, .ref mstates, .ref misMarked, .int (u_7.2.1 1), .int (u_7.2.1 2), .int (u_7.2.1 3), .ref mrow, .int m_rowMany, .ref mthr, .ref mmays, .ref mtall, .ref mweights, .ref mrowOfWare, .ref mneededOf, .int m_goShelf, .int m_goStack, .int m_goLeft, .ref mtried, .ref mbestRow, .int m_bestCost, .int m_bestMany, .int m_bestShelf, .int m_bestSet, .ref mdigits])), (mtold, .inl (cyI, 240, .inl m_told)), (mstates, .inl (cyI, 2760, .inl m_states))]) (pc2 := 41) (lv2 := [(2, .int x1_2), (1, .int x1_1), (0, .ref m0)]) (st2 := [.int (u_12.2.1 0), .int x1_1]) rfl rfl rfl rfl ?_
          obtain ⟨hw_13_0, hw_13_1⟩ := hw_13
          refine j_goto (pc := 41) (tgt := 45) C dX11_asked_41 (by decide) ?_
          obtain ⟨v_14, ev_14⟩ : ∃ z : Int32, x1_1 + (u_12.2.1 0) = z := ⟨_, rfl⟩
          refine j_iadd (pc := 45) (v := v_14) C dX11_asked_45 ev_14 ?_
          refine j_istore_n (pc := 46) (lv' := [(1, .int v_14), (2, .int x1_2), (0, .ref m0)]) C dX11_asked_46 rfl (by decide) rfl ?_
          obtain ⟨v_15, ev_15⟩ : ∃ z : Int32, x1_2 + 1 = z := ⟨_, rfl⟩
          have el_1 : (1 : Int32).toInt = 1 := rfl
          have hv_15 : v_15.toInt = x1_2.toInt + (1 : Int32).toInt := by rw [← ev_15]; exact fb_addI (by omega) (by omega)
          refine j_iinc (pc := 47) (v := v_15) (lv' := [(2, .int v_15), (1, .int v_14), (0, .ref m0)]) C dX11_asked_47 1 rfl ev_15 (by decide) rfl ?_
          refine j_goto (pc := 50) (tgt := 9) C dX11_asked_50 (by decide) ?_
          exact j_lv [0, 1, 2] rfl (ih_1 v_15 v_14 (u_7.2.1 1) (u_7.2.1 2) (u_7.2.1 3) (by omega) hw_8_1 hw_8_2 hw_8_3 (by omega) (SR.step (z := (u_12.2.1 0)) hq_1_0 (by omega) (by show pAM m_told m_states 0 (m_told 1).toInt (m_states (422 + (x1_2).toInt.toNat)) _; rw [show 422 + (x1_2).toInt.toNat = (v_5).toInt.toNat from (by omega), ev_6]; exact (Or.inr ⟨(fun z => by have y := z ((u_7.2.1 1)).toInt.toNat (by omega) ((u_7.2.1 2)).toInt.toNat ((u_7.2.1 3)).toInt.toNat (by omega); rw [show 460 * 0 + 105 * ((u_7.2.1 1)).toInt.toNat = 0 + 105 * ((u_7.2.1 1)).toInt.toNat from (by omega)] at y; exact y (by omega) (by omega) hi2), ((u_7.2.1 1)).toInt.toNat, ((u_7.2.1 2)).toInt.toNat, ((u_7.2.1 3)).toInt.toNat, (show IN m_states 0 (m_told 1).toInt ((u_7.2.1 1)).toInt.toNat ((u_7.2.1 2)).toInt.toNat ((u_7.2.1 3)).toInt.toNat (v_6).toInt.toNat from ⟨by omega, by rw [show 460 * 0 + 105 * ((u_7.2.1 1)).toInt.toNat = 0 + 105 * ((u_7.2.1 1)).toInt.toNat from (by omega)]; omega, by rw [show 460 * 0 + 105 * ((u_7.2.1 1)).toInt.toNat = 0 + 105 * ((u_7.2.1 1)).toInt.toNat from (by omega)]; omega, by rw [show 460 * 0 + 105 * ((u_7.2.1 1)).toInt.toNat = 0 + 105 * ((u_7.2.1 1)).toInt.toNat from (by omega), hi2]; omega⟩), by omega, by omega, (by have y := hw_13_1; rw [show (0 + 105 * ((u_7.2.1 1)).toInt.toNat + 1 + 13 * ((u_7.2.1 2)).toInt.toNat) = 460 * 0 + 105 * ((u_7.2.1 1)).toInt.toNat + 1 + 13 * ((u_7.2.1 2)).toInt.toNat from (by omega)] at y; exact y)⟩)) ev_14.symm) (by omega))
  have el_0 : (0 : Int32).toInt = 0 := rfl
  have el_0 : (0 : Int32).toInt = 0 := rfl
  exact j_lv [0, 1, 2] rfl (loop_1 4096 0 0 m_inShelf m_inStack m_inPlace (by decide) h_m_inShelf h_m_inStack h_m_inPlace (by omega) (SR.zero rfl rfl) (by omega))
set_option maxHeartbeats 4000000 in
set_option maxRecDepth 100000 in
theorem c_X11_lifted (l : Launch) (D : DG) (cyC cyI cyJ cyZ cyO : ClassId) (m0 : Nat) (mtold : Nat) (mstates : Nat) (mrow : Nat) (mtape : Nat) (msort : Nat) (mplace : Nat) (mvalue : Nat) (mwords : Nat) (mop : Nat) (marg : Nat) (mnames : Nat) (mhasHabit : Nat) (mfactWords : Nat) (mfacts : Nat) (mpile : Nat) (misMarked : Nat) (mthr : Nat) (mmays : Nat) (mtall : Nat) (mweights : Nat) (mrowOfWare : Nat) (mneededOf : Nat) (mtried : Nat) (mbestRow : Nat) (mdigits : Nat) (p0 : Int32) (m_thrown : Int32) (m_taped : Int32) (m_size : Int32) (m_at : Int32) (m_fault : Int32) (m_codes : Int32) (m_isNew : Int32) (m_inShelf : Int32) (m_inStack : Int32) (m_inPlace : Int32) (m_rowMany : Int32) (m_goShelf : Int32) (m_goStack : Int32) (m_goLeft : Int32) (m_bestCost : Int32) (m_bestMany : Int32) (m_bestShelf : Int32) (m_bestSet : Int32) (m_told : Nat → Int32) (m_states : Nat → Int32) (m_row : Nat → Int32) (h_m_taped : 0 ≤ (m_taped).toInt ∧ (m_taped).toInt ≤ 1000) (h_m_size : 0 ≤ (m_size).toInt ∧ (m_size).toInt ≤ 1000) (h_m_at : 0 ≤ (m_at).toInt ∧ (m_at).toInt ≤ 1000) (h_m_fault : 0 ≤ (m_fault).toInt ∧ (m_fault).toInt ≤ 16005) (h_m_codes : 0 ≤ (m_codes).toInt ∧ (m_codes).toInt ≤ 1000) (h_m_isNew : 0 ≤ (m_isNew).toInt ∧ (m_isNew).toInt ≤ 1) (h_m_inShelf : 0 ≤ (m_inShelf).toInt ∧ (m_inShelf).toInt ≤ 3) (h_m_inStack : 0 ≤ (m_inStack).toInt ∧ (m_inStack).toInt ≤ 7) (h_m_inPlace : 0 ≤ (m_inPlace).toInt ∧ (m_inPlace).toInt ≤ 11) (h_m_rowMany : 0 ≤ (m_rowMany).toInt ∧ (m_rowMany).toInt ≤ 12) (h_m_goShelf : -1 ≤ (m_goShelf).toInt ∧ (m_goShelf).toInt ≤ 3) (h_m_bestMany : 0 ≤ (m_bestMany).toInt ∧ (m_bestMany).toInt ≤ 7) (h_m_bestShelf : 0 ≤ (m_bestShelf).toInt ∧ (m_bestShelf).toInt ≤ 3) (h_m_row : Iv 12 (0) (11) m_row) (h_m_told : TV m_told) (h_m_states : SV m_states) : KK l D (TY cyC cyI cyJ cyZ cyO) yX11_lifted cX11_lifted 6 (some .int) ({ frames := 2, cells := 0, slots := 0, locals := 48 } : Room) 0 0 [.ref m0, .int p0] [(m0, .inr (11, [.int m_thrown, .ref mtape, .int m_taped, .int m_size, .ref msort, .ref mplace, .ref mvalue, .int m_at, .int m_fault, .ref mwords, .ref mtold, .ref mop, .ref marg, .int m_codes, .ref mnames, .ref mhasHabit, .int m_isNew, .ref mfactWords, .ref mfacts, .ref mpile, .ref mstates, .ref misMarked, .int m_inShelf, .int m_inStack, .int m_inPlace, .ref mrow, .int m_rowMany, .ref mthr, .ref mmays, .ref mtall, .ref mweights, .ref mrowOfWare, .ref mneededOf, .int m_goShelf, .int m_goStack, .int m_goLeft, .ref mtried, .ref mbestRow, .int m_bestCost, .int m_bestMany, .int m_bestShelf, .int m_bestSet, .ref mdigits])), (mtold, .inl (cyI, 240, .inl m_told)), (mstates, .inl (cyI, 2760, .inl m_states)), (mrow, .inl (cyI, 12, .inl m_row))] (fun u => some (.int (u.2.1 0))) (fun u => (0 ≤ (u.2.1 0).toInt ∧ (u.2.1 0).toInt ≤ 750) ∧ (0 ≤ (u.2.1 1).toInt ∧ (u.2.1 1).toInt ≤ 3) ∧ (0 ≤ (u.2.1 2).toInt ∧ (u.2.1 2).toInt ≤ 7) ∧ (0 ≤ (u.2.1 3).toInt ∧ (u.2.1 3).toInt ≤ 11) ∧ (0 ≤ (u.2.1 4).toInt ∧ (u.2.1 4).toInt ≤ 12) ∧ (Iv 12 (0) (11) (u.2.2.1 0))) (fun u => [(m0, .inr (11, [.int m_thrown, .ref mtape, .int m_taped, .int m_size, .ref msort, .ref mplace, .ref mvalue, .int m_at, .int m_fault, .ref mwords, .ref mtold, .ref mop, .ref marg, .int m_codes, .ref mnames, .ref mhasHabit, .int m_isNew, .ref mfactWords, .ref mfacts, .ref mpile, .ref mstates, .ref misMarked, .int (u.2.1 1), .int (u.2.1 2), .int (u.2.1 3), .ref mrow, .int (u.2.1 4), .ref mthr, .ref mmays, .ref mtall, .ref mweights, .ref mrowOfWare, .ref mneededOf, .int m_goShelf, .int m_goStack, .int m_goLeft, .ref mtried, .ref mbestRow, .int m_bestCost, .int m_bestMany, .int m_bestShelf, .int m_bestSet, .ref mdigits])), (mtold, .inl (cyI, 240, .inl m_told)), (mstates, .inl (cyI, 2760, .inl m_states)), (mrow, .inl (cyI, 12, .inl (u.2.2.1 0)))]) := by
  refine KK.of (lv0 := [(0, .ref m0), (1, .int p0)]) (by decide) rfl (Nat.le_of_ble_eq_true rfl) ?_
  intro p e s m args below meth c A C hr hk hin
  refine j_iconst (pc := 0) (v := 0) C dX11_lifted_0 (by decide) ?_
  refine j_istore_n (pc := 1) (lv' := [(2, .int 0), (0, .ref m0), (1, .int p0)]) C dX11_lifted_1 rfl (by decide) rfl ?_
  refine j_iconst (pc := 2) (v := 0) C dX11_lifted_2 (by decide) ?_
  refine j_istore_n (pc := 3) (lv' := [(3, .int 0), (2, .int 0), (0, .ref m0), (1, .int p0)]) C dX11_lifted_3 rfl (by decide) rfl ?_
  have loop_1 : ∀ (k_1 : Nat) (x1_3 : Int32) (x1_2 : Int32) (y1_m0_22 : Int32) (y1_m0_23 : Int32) (y1_m0_24 : Int32) (y1_m0_26 : Int32) (g1_mrow : Nat → Int32), (0 ≤ (x1_3).toInt ∧ (x1_3).toInt ≤ 30) → (0 ≤ (x1_2).toInt ∧ (x1_2).toInt ≤ 750) → (0 ≤ (y1_m0_22).toInt ∧ (y1_m0_22).toInt ≤ 3) → (0 ≤ (y1_m0_23).toInt ∧ (y1_m0_23).toInt ≤ 7) → (0 ≤ (y1_m0_24).toInt ∧ (y1_m0_24).toInt ≤ 11) → (0 ≤ (y1_m0_26).toInt ∧ (y1_m0_26).toInt ≤ 12) → (Iv 12 (0) (11) g1_mrow) → (x1_2.toInt ≤ 25 * x1_3.toInt) → (30 - x1_3.toInt).toNat < k_1 → J p l e ({ frames := 2, cells := 0, slots := 0, locals := 48 } : Room) s m args below meth c D A 6 0 0 (QX below D (TY cyC cyI cyJ cyZ cyO) A (fun u => some (.int (u.2.1 0))) (fun u => (0 ≤ (u.2.1 0).toInt ∧ (u.2.1 0).toInt ≤ 750) ∧ (0 ≤ (u.2.1 1).toInt ∧ (u.2.1 1).toInt ≤ 3) ∧ (0 ≤ (u.2.1 2).toInt ∧ (u.2.1 2).toInt ≤ 7) ∧ (0 ≤ (u.2.1 3).toInt ∧ (u.2.1 3).toInt ≤ 11) ∧ (0 ≤ (u.2.1 4).toInt ∧ (u.2.1 4).toInt ≤ 12) ∧ (Iv 12 (0) (11) (u.2.2.1 0))) (fun u => [(m0, .inr (11, [.int m_thrown, .ref mtape, .int m_taped, .int m_size, .ref msort, .ref mplace, .ref mvalue, .int m_at, .int m_fault, .ref mwords, .ref mtold, .ref mop, .ref marg, .int m_codes, .ref mnames, .ref mhasHabit, .int m_isNew, .ref mfactWords, .ref mfacts, .ref mpile, .ref mstates, .ref misMarked, .int (u.2.1 1), .int (u.2.1 2), .int (u.2.1 3), .ref mrow, .int (u.2.1 4), .ref mthr, .ref mmays, .ref mtall, .ref mweights, .ref mrowOfWare, .ref mneededOf, .int m_goShelf, .int m_goStack, .int m_goLeft, .ref mtried, .ref mbestRow, .int m_bestCost, .int m_bestMany, .int m_bestShelf, .int m_bestSet, .ref mdigits])), (mtold, .inl (cyI, 240, .inl m_told)), (mstates, .inl (cyI, 2760, .inl m_states)), (mrow, .inl (cyI, 12, .inl (u.2.2.1 0)))]) args s 0 0) [(m0, .inr (11, [.int m_thrown, .ref mtape, .int m_taped, .int m_size, .ref msort, .ref mplace, .ref mvalue, .int m_at, .int m_fault, .ref mwords, .ref mtold, .ref mop, .ref marg, .int m_codes, .ref mnames, .ref mhasHabit, .int m_isNew, .ref mfactWords, .ref mfacts, .ref mpile, .ref mstates, .ref misMarked, .int y1_m0_22, .int y1_m0_23, .int y1_m0_24, .ref mrow, .int y1_m0_26, .ref mthr, .ref mmays, .ref mtall, .ref mweights, .ref mrowOfWare, .ref mneededOf, .int m_goShelf, .int m_goStack, .int m_goLeft, .ref mtried, .ref mbestRow, .int m_bestCost, .int m_bestMany, .int m_bestShelf, .int m_bestSet, .ref mdigits])), (mtold, .inl (cyI, 240, .inl m_told)), (mstates, .inl (cyI, 2760, .inl m_states)), (mrow, .inl (cyI, 12, .inl g1_mrow))] 4 [(3, .int x1_3), (2, .int x1_2), (0, .ref m0), (1, .int p0)] [] := by
    intro k_1
    induction k_1 with
    | zero =>
      intro x1_3 x1_2 y1_m0_22 y1_m0_23 y1_m0_24 y1_m0_26 g1_mrow hi_1_0 hi_1_1 hi_1_2 hi_1_3 hi_1_4 hi_1_5 hi_1_6 hr_1 hm_1
      exact absurd hm_1 (Nat.not_lt_zero _)
    | succ k_1 ih_1 =>
      intro x1_3 x1_2 y1_m0_22 y1_m0_23 y1_m0_24 y1_m0_26 g1_mrow hi_1_0 hi_1_1 hi_1_2 hi_1_3 hi_1_4 hi_1_5 hi_1_6 hr_1 hm_1
      refine j_iload_n (pc := 4) C dX11_lifted_4 rfl 0 rfl ?_
      refine j_aload_n (pc := 5) C dX11_lifted_5 rfl 2 rfl ?_
      refine j_callV (pc := 6) (As := []) (rest := [.int x1_3]) (wr := [(mtold, .inl (cyI, 240, .inl m_told)), (mrow, .inl (cyI, 12, .inl g1_mrow))]) C (c_X11_asks l D cyC cyI cyJ cyZ cyO m0 mstates mtape msort mplace mvalue mwords mtold mop marg mnames mhasHabit mfactWords mfacts mpile misMarked mrow mthr mmays mtall mweights mrowOfWare mneededOf mtried mbestRow mdigits m_thrown m_taped m_size m_at m_fault m_codes m_isNew y1_m0_22 y1_m0_23 y1_m0_24 y1_m0_26 m_goShelf m_goStack m_goLeft m_bestCost m_bestMany m_bestShelf m_bestSet m_states h_m_taped h_m_size h_m_at h_m_fault h_m_codes h_m_isNew hi_1_2 hi_1_3 hi_1_4 hi_1_5 h_m_goShelf h_m_bestMany h_m_bestShelf h_m_states) wd_833 wd_624 wd_834 wd_835 wd_836 ⟨by decide, by decide, rfl⟩ rfl ⟨rfl, rfl, by decide, by decide⟩ ⟨by decide, by decide⟩ [0, 2] [1, 3] rfl rfl ⟨by decide, by decide, by decide⟩ 0 rfl rfl rfl (Nat.le_of_ble_eq_true rfl) dX11_lifted_6 (fun u_2 hw_3 => ?_)
      refine j_eq (ws2 := [(mtold, .inl (cyI, 240, .inl m_told)), (mrow, .inl (cyI, 12, .inl g1_mrow)), (m0, .inr (11, [.int m_thrown, .ref mtape, .int m_taped, .int m_size, .ref msort, .ref mplace, .ref mvalue, .int m_at, .int m_fault, .ref mwords, .ref mtold, .ref mop, .ref marg, .int m_codes, .ref mnames, .ref mhasHabit, .int m_isNew, .ref mfactWords, .ref mfacts, .ref mpile, .ref mstates, .ref misMarked, .int y1_m0_22, .int y1_m0_23, .int y1_m0_24, .ref mrow, .int y1_m0_26, .ref mthr, .ref mmays, .ref mtall, .ref mweights, .ref mrowOfWare, .ref mneededOf, .int m_goShelf, .int m_goStack, .int m_goLeft, .ref mtried, .ref mbestRow, .int m_bestCost, .int m_bestMany, .int m_bestShelf, .int m_bestSet, .ref mdigits])), (mstates, .inl (cyI, 2760, .inl m_states))]) (pc2 := 9) (lv2 := [(3, .int x1_3), (2, .int x1_2), (0, .ref m0), (1, .int p0)]) (st2 := [.int (u_2.2.1 0), .int x1_3]) rfl rfl rfl rfl ?_
      obtain ⟨hw_3_0, hw_3_1, hw_3_2⟩ := hw_3
      refine j_icmp_ge (pc := 9) (tgt := 112) C dX11_lifted_9 (by decide) (fun c_4 => ?_) (fun c_4 => ?_)
      · skip
        rw [i_le] at c_4
        refine j_iload_n (pc := 112) C dX11_lifted_112 rfl 1 rfl ?_
        exact j_iret (pc := 113) C hr hk (fun i => [].getD i 0, fun i => [x1_2, y1_m0_22, y1_m0_23, y1_m0_24, y1_m0_26].getD i 0, fun i => [g1_mrow].getD i (fun _ => 0), fun i => [].getD i (fun _ => 0)) rfl (show (0 ≤ (x1_2).toInt ∧ (x1_2).toInt ≤ 750) ∧ (0 ≤ (y1_m0_22).toInt ∧ (y1_m0_22).toInt ≤ 3) ∧ (0 ≤ (y1_m0_23).toInt ∧ (y1_m0_23).toInt ≤ 7) ∧ (0 ≤ (y1_m0_24).toInt ∧ (y1_m0_24).toInt ≤ 11) ∧ (0 ≤ (y1_m0_26).toInt ∧ (y1_m0_26).toInt ≤ 12) ∧ (Iv 12 (0) (11) g1_mrow) from ⟨hi_1_1, hi_1_2, hi_1_3, hi_1_4, hi_1_5, hi_1_6⟩) [2, 0, 3, 1] (by decide) rfl (by decide) (by decide) dX11_lifted_113
      · skip
        rw [i_le] at c_4
        refine j_aload_n (pc := 12) C dX11_lifted_12 rfl 2 rfl ?_
        refine j_get (pc := 13) (ci := 11) (v := .ref mstates) C inw_11 2 rfl rfl 20 (by decide) wd_764 rfl rfl dX11_lifted_13 ?_
        refine j_sipush (pc := 16) (v := 422) C dX11_lifted_16 (by decide) ?_
        refine j_iload_n (pc := 19) C dX11_lifted_19 rfl 0 rfl ?_
        obtain ⟨v_5, ev_5⟩ : ∃ z : Int32, 422 + x1_3 = z := ⟨_, rfl⟩
        have el_422 : (422 : Int32).toInt = 422 := rfl
        have hv_5 : v_5.toInt = (422 : Int32).toInt + x1_3.toInt := by rw [← ev_5]; exact fb_addI (by omega) (by omega)
        refine j_iadd (pc := 20) (v := v_5) C dX11_lifted_20 ev_5 ?_
        obtain ⟨v_6, ev_6⟩ : ∃ z, m_states (v_5).toInt.toNat = z := ⟨_, rfl⟩
        have env_6 : (m_states (v_5).toInt.toNat).toInt = v_6.toInt := by rw [ev_6]
        have hv_6 : 0 ≤ v_6.toInt ∧ v_6.toInt ≤ 11 := by rw [← ev_6]; exact SV.ask (b := 0) h_m_states (by decide) (by omega) (by omega)
        refine j_iald (pc := 21) (v := v_6) (k := (v_5).toInt.toNat) C 3 1 rfl rfl (i_nn (by omega)) rfl (i_lt_n (by omega) (by omega)) ev_6 dX11_lifted_21 ?_
        refine j_istore (pc := 22) (lv' := [(4, .int v_6), (3, .int x1_3), (2, .int x1_2), (0, .ref m0), (1, .int p0)]) C dX11_lifted_22 (by decide) rfl ?_
        refine j_aload_n (pc := 24) C dX11_lifted_24 rfl 3 rfl ?_
        refine j_iconst (pc := 25) (v := 0) C dX11_lifted_25 (by decide) ?_
        refine j_iload (pc := 26) C dX11_lifted_26 0 rfl ?_
        refine j_callV (pc := 28) (As := [.int 0, .int v_6]) (rest := []) (wr := [(mrow, .inl (cyI, 12, .inl g1_mrow))]) C (c_X11_isIn_0 l D cyC cyI cyJ cyZ cyO m0 mtold mstates mtape msort mplace mvalue mwords mop marg mnames mhasHabit mfactWords mfacts mpile misMarked mrow mthr mmays mtall mweights mrowOfWare mneededOf mtried mbestRow mdigits v_6 m_thrown m_taped m_size m_at m_fault m_codes m_isNew y1_m0_22 y1_m0_23 y1_m0_24 y1_m0_26 m_goShelf m_goStack m_goLeft m_bestCost m_bestMany m_bestShelf m_bestSet m_told m_states h_m_taped h_m_size h_m_at h_m_fault h_m_codes h_m_isNew hi_1_2 hi_1_3 hi_1_4 hi_1_5 h_m_goShelf h_m_bestMany h_m_bestShelf h_m_told h_m_states) wd_825 wd_624 wd_826 wd_827 wd_828 ⟨by decide, by decide, rfl⟩ rfl ⟨rfl, rfl, by decide, by decide⟩ ⟨by decide, by decide⟩ [2, 0, 3] [1] rfl rfl ⟨by decide, by decide, by decide⟩ 2 rfl rfl rfl (Nat.le_of_ble_eq_true rfl) dX11_lifted_28 (fun u_7 hw_8 => ?_)
        refine j_eq (ws2 := [(mrow, .inl (cyI, 12, .inl g1_mrow)), (m0, .inr (11, [.int m_thrown, .ref mtape, .int m_taped, .int m_size, .ref msort, .ref mplace, .ref mvalue, .int m_at, .int m_fault, .ref mwords, .ref mtold, .ref mop, .ref marg, .int m_codes, .ref mnames, .ref mhasHabit, .int m_isNew, .ref mfactWords, .ref mfacts, .ref mpile, .ref mstates, .ref misMarked, .int (u_7.2.1 1), .int (u_7.2.1 2), .int (u_7.2.1 3), .ref mrow, .int y1_m0_26, .ref mthr, .ref mmays, .ref mtall, .ref mweights, .ref mrowOfWare, .ref mneededOf, .int m_goShelf, .int m_goStack, .int m_goLeft, .ref mtried, .ref mbestRow, .int m_bestCost, .int m_bestMany, .int m_bestShelf, .int m_bestSet, .ref mdigits])), (mtold, .inl (cyI, 240, .inl m_told)), (mstates, .inl (cyI, 2760, .inl m_states))]) (pc2 := 31) (lv2 := [(4, .int v_6), (3, .int x1_3), (2, .int x1_2), (0, .ref m0), (1, .int p0)]) (st2 := [.int (u_7.2.1 0)]) rfl rfl rfl rfl ?_
        obtain ⟨hw_8_0, hw_8_1, hw_8_2, hw_8_3, hw_8_4, hw_8_5⟩ := hw_8
        refine j_if_eq (pc := 31) (tgt := 106) C dX11_lifted_31 (by decide) (fun c_9 => ?_) (fun c_9 => ?_)
        · skip
          have el_0 : (0 : Int32).toInt = 0 := rfl
          rw [i_eq] at c_9
          obtain ⟨v_10, ev_10⟩ : ∃ z : Int32, x1_3 + 1 = z := ⟨_, rfl⟩
          have el_1 : (1 : Int32).toInt = 1 := rfl
          have hv_10 : v_10.toInt = x1_3.toInt + (1 : Int32).toInt := by rw [← ev_10]; exact fb_addI (by omega) (by omega)
          refine j_iinc (pc := 106) (v := v_10) (lv' := [(3, .int v_10), (4, .int v_6), (2, .int x1_2), (0, .ref m0), (1, .int p0)]) C dX11_lifted_106 1 rfl ev_10 (by decide) rfl ?_
          refine j_goto (pc := 109) (tgt := 4) C dX11_lifted_109 (by decide) ?_
          refine j_subG (ws' := [(m0, .inr (11, [.int m_thrown, .ref mtape, .int m_taped, .int m_size, .ref msort, .ref mplace, .ref mvalue, .int m_at, .int m_fault, .ref mwords, .ref mtold, .ref mop, .ref marg, .int m_codes, .ref mnames, .ref mhasHabit, .int m_isNew, .ref mfactWords, .ref mfacts, .ref mpile, .ref mstates, .ref misMarked, .int (u_7.2.1 1), .int (u_7.2.1 2), .int (u_7.2.1 3), .ref mrow, .int y1_m0_26, .ref mthr, .ref mmays, .ref mtall, .ref mweights, .ref mrowOfWare, .ref mneededOf, .int m_goShelf, .int m_goStack, .int m_goLeft, .ref mtried, .ref mbestRow, .int m_bestCost, .int m_bestMany, .int m_bestShelf, .int m_bestSet, .ref mdigits])), (mtold, .inl (cyI, 240, .inl m_told)), (mstates, .inl (cyI, 2760, .inl m_states)), (mrow, .inl (cyI, 12, .inl g1_mrow))]) [1, 2, 3, 0] (by decide) rfl ?_
          exact j_lv [0, 2, 3, 4] rfl (ih_1 v_10 x1_2 (u_7.2.1 1) (u_7.2.1 2) (u_7.2.1 3) y1_m0_26 g1_mrow (by omega) hi_1_1 hw_8_1 hw_8_2 hw_8_3 hi_1_5 hi_1_6 (by omega) (by omega))
        · skip
          have el_0 : (0 : Int32).toInt = 0 := rfl
          rw [i_eq] at c_9
          have k0c_9 : ((u_7.2.1 0)).toInt = 1 := by omega
          refine j_aload_n (pc := 34) C dX11_lifted_34 rfl 3 rfl ?_
          refine j_iconst (pc := 35) (v := 0) C dX11_lifted_35 (by decide) ?_
          refine j_aload_n (pc := 36) C dX11_lifted_36 rfl 3 rfl ?_
          refine j_get (pc := 37) (ci := 11) (v := .int (u_7.2.1 1)) C inw_11 1 rfl rfl 22 (by decide) wd_776 rfl rfl dX11_lifted_37 ?_
          refine j_aload_n (pc := 40) C dX11_lifted_40 rfl 3 rfl ?_
          refine j_get (pc := 41) (ci := 11) (v := .int (u_7.2.1 2)) C inw_11 1 rfl rfl 23 (by decide) wd_777 rfl rfl dX11_lifted_41 ?_
          refine j_callS (pc := 44) (As := [.int 0, .int (u_7.2.1 1), .int (u_7.2.1 2)]) (rest := [.ref m0]) (wr := [(mrow, .inl (cyI, 12, .inl g1_mrow)), (m0, .inr (11, [.int m_thrown, .ref mtape, .int m_taped, .int m_size, .ref msort, .ref mplace, .ref mvalue, .int m_at, .int m_fault, .ref mwords, .ref mtold, .ref mop, .ref marg, .int m_codes, .ref mnames, .ref mhasHabit, .int m_isNew, .ref mfactWords, .ref mfacts, .ref mpile, .ref mstates, .ref misMarked, .int (u_7.2.1 1), .int (u_7.2.1 2), .int (u_7.2.1 3), .ref mrow, .int y1_m0_26, .ref mthr, .ref mmays, .ref mtall, .ref mweights, .ref mrowOfWare, .ref mneededOf, .int m_goShelf, .int m_goStack, .int m_goLeft, .ref mtried, .ref mbestRow, .int m_bestCost, .int m_bestMany, .int m_bestShelf, .int m_bestSet, .ref mdigits])), (mtold, .inl (cyI, 240, .inl m_told)), (mstates, .inl (cyI, 2760, .inl m_states))]) C (c_X11_stackAt l D cyC cyI cyJ cyZ cyO 0 (u_7.2.1 1) (u_7.2.1 2) (by decide) hw_8_1 (by omega)) wd_773 wd_624 wd_774 wd_775 ⟨by decide, by decide, rfl⟩ rfl ⟨rfl, rfl, by decide, by decide⟩ ⟨by decide, by decide⟩ [] [0, 1, 2, 3] rfl rfl ⟨by decide, by decide, by decide⟩ rfl (Nat.le_of_ble_eq_true rfl) dX11_lifted_44 (fun u_11 hw_12 => ?_)
          refine j_eq (ws2 := [(mrow, .inl (cyI, 12, .inl g1_mrow)), (m0, .inr (11, [.int m_thrown, .ref mtape, .int m_taped, .int m_size, .ref msort, .ref mplace, .ref mvalue, .int m_at, .int m_fault, .ref mwords, .ref mtold, .ref mop, .ref marg, .int m_codes, .ref mnames, .ref mhasHabit, .int m_isNew, .ref mfactWords, .ref mfacts, .ref mpile, .ref mstates, .ref misMarked, .int (u_7.2.1 1), .int (u_7.2.1 2), .int (u_7.2.1 3), .ref mrow, .int y1_m0_26, .ref mthr, .ref mmays, .ref mtall, .ref mweights, .ref mrowOfWare, .ref mneededOf, .int m_goShelf, .int m_goStack, .int m_goLeft, .ref mtried, .ref mbestRow, .int m_bestCost, .int m_bestMany, .int m_bestShelf, .int m_bestSet, .ref mdigits])), (mtold, .inl (cyI, 240, .inl m_told)), (mstates, .inl (cyI, 2760, .inl m_states))]) (pc2 := 47) (lv2 := [(4, .int v_6), (3, .int x1_3), (2, .int x1_2), (0, .ref m0), (1, .int p0)]) (st2 := [.int (u_11.2.1 0), .ref m0]) rfl rfl rfl rfl ?_
          obtain ⟨hw_12_0, hw_12_1⟩ := hw_12
          have el_0 : (0 : Int32).toInt = 0 := rfl
          have ad_13 : AD (u_11.2.1 0).toInt := ⟨0, ((u_7.2.1 1)).toInt.toNat, ((u_7.2.1 2)).toInt.toNat, by decide, by omega, by omega, by omega⟩
          refine j_callV (pc := 47) (As := [.int (u_11.2.1 0)]) (rest := []) (wr := [(mtold, .inl (cyI, 240, .inl m_told))]) C (c_X11_takesRow l D cyC cyI cyJ cyZ cyO m0 mstates mrow mtape msort mplace mvalue mwords mtold mop marg mnames mhasHabit mfactWords mfacts mpile misMarked mthr mmays mtall mweights mrowOfWare mneededOf mtried mbestRow mdigits (u_11.2.1 0) m_thrown m_taped m_size m_at m_fault m_codes m_isNew (u_7.2.1 1) (u_7.2.1 2) (u_7.2.1 3) y1_m0_26 m_goShelf m_goStack m_goLeft m_bestCost m_bestMany m_bestShelf m_bestSet m_states g1_mrow h_m_taped h_m_size h_m_at h_m_fault h_m_codes h_m_isNew hw_8_1 hw_8_2 hw_8_3 hi_1_5 h_m_goShelf h_m_bestMany h_m_bestShelf (by omega) hi_1_6 h_m_states ad_13) wd_781 wd_624 wd_782 wd_783 wd_784 ⟨by decide, by decide, rfl⟩ rfl ⟨rfl, rfl, by decide, by decide⟩ ⟨by decide, by decide⟩ [1, 3, 0] [2] rfl rfl ⟨by decide, by decide, by decide⟩ 1 rfl rfl rfl (Nat.le_of_ble_eq_true rfl) dX11_lifted_47 (fun u_14 hw_15 => ?_)
          refine j_eq (ws2 := [(mtold, .inl (cyI, 240, .inl m_told)), (m0, .inr (11, [.int m_thrown, .ref mtape, .int m_taped, .int m_size, .ref msort, .ref mplace, .ref mvalue, .int m_at, .int m_fault, .ref mwords, .ref mtold, .ref mop, .ref marg, .int m_codes, .ref mnames, .ref mhasHabit, .int m_isNew, .ref mfactWords, .ref mfacts, .ref mpile, .ref mstates, .ref misMarked, .int (u_7.2.1 1), .int (u_7.2.1 2), .int (u_7.2.1 3), .ref mrow, .int (u_14.2.1 0), .ref mthr, .ref mmays, .ref mtall, .ref mweights, .ref mrowOfWare, .ref mneededOf, .int m_goShelf, .int m_goStack, .int m_goLeft, .ref mtried, .ref mbestRow, .int m_bestCost, .int m_bestMany, .int m_bestShelf, .int m_bestSet, .ref mdigits])), (mstates, .inl (cyI, 2760, .inl m_states)), (mrow, .inl (cyI, 12, .inl (u_14.2.2.1 0)))]) (pc2 := 50) (lv2 := [(4, .int v_6), (3, .int x1_3), (2, .int x1_2), (0, .ref m0), (1, .int p0)]) (st2 := []) rfl rfl rfl rfl ?_
          obtain ⟨hw_15_0, hw_15_1, hw_15_2, hw_15_3⟩ := hw_15
          refine j_iload_n (pc := 50) C dX11_lifted_50 rfl 2 rfl ?_
          refine j_iload (pc := 51) C dX11_lifted_51 0 rfl ?_
          refine j_iload_n (pc := 53) C dX11_lifted_53 rfl 4 rfl ?_
          refine j_icmp_ne (pc := 54) (tgt := 61) C dX11_lifted_54 (by decide) (fun c_16 => ?_) (fun c_16 => ?_)
          · skip
            rw [i_eq] at c_16
            refine j_iconst (pc := 61) (v := 0) C dX11_lifted_61 (by decide) ?_
            obtain ⟨v_17, ev_17⟩ : ∃ z : Int32, x1_2 + 0 = z := ⟨_, rfl⟩
            have el_0 : (0 : Int32).toInt = 0 := rfl
            have hv_17 : v_17.toInt = x1_2.toInt + (0 : Int32).toInt := by rw [← ev_17]; exact fb_addI (by omega) (by omega)
            refine j_iadd (pc := 62) (v := v_17) C dX11_lifted_62 ev_17 ?_
            refine j_istore_n (pc := 63) (lv' := [(2, .int v_17), (4, .int v_6), (3, .int x1_3), (0, .ref m0), (1, .int p0)]) C dX11_lifted_63 rfl (by decide) rfl ?_
            refine j_aload_n (pc := 64) C dX11_lifted_64 rfl 3 rfl ?_
            refine j_get (pc := 65) (ci := 11) (v := .int (u_7.2.1 3)) C inw_11 1 rfl rfl 24 (by decide) wd_778 rfl rfl dX11_lifted_65 ?_
            refine j_iconst (pc := 68) (v := 1) C dX11_lifted_68 (by decide) ?_
            obtain ⟨v_18, ev_18⟩ : ∃ z : Int32, (u_7.2.1 3) + 1 = z := ⟨_, rfl⟩
            have el_1 : (1 : Int32).toInt = 1 := rfl
            have hv_18 : v_18.toInt = ((u_7.2.1 3)).toInt + (1 : Int32).toInt := by rw [← ev_18]; exact fb_addI (by omega) (by omega)
            refine j_iadd (pc := 69) (v := v_18) C dX11_lifted_69 ev_18 ?_
            refine j_istore (pc := 70) (lv' := [(5, .int v_18), (2, .int v_17), (4, .int v_6), (3, .int x1_3), (0, .ref m0), (1, .int p0)]) C dX11_lifted_70 (by decide) rfl ?_
            have loop_19 : ∀ (k_19 : Nat) (x19_5 : Int32) (x19_2 : Int32), (0 ≤ (x19_5).toInt ∧ (x19_5).toInt ≤ 12) → (0 ≤ (x19_2).toInt ∧ (x19_2).toInt ≤ 800) → (x19_2.toInt ≤ 25 * x1_3.toInt + 2 * x19_5.toInt) → (12 - x19_5.toInt).toNat < k_19 → J p l e ({ frames := 2, cells := 0, slots := 0, locals := 48 } : Room) s m args below meth c D A 6 0 0 (QX below D (TY cyC cyI cyJ cyZ cyO) A (fun u => some (.int (u.2.1 0))) (fun u => (0 ≤ (u.2.1 0).toInt ∧ (u.2.1 0).toInt ≤ 750) ∧ (0 ≤ (u.2.1 1).toInt ∧ (u.2.1 1).toInt ≤ 3) ∧ (0 ≤ (u.2.1 2).toInt ∧ (u.2.1 2).toInt ≤ 7) ∧ (0 ≤ (u.2.1 3).toInt ∧ (u.2.1 3).toInt ≤ 11) ∧ (0 ≤ (u.2.1 4).toInt ∧ (u.2.1 4).toInt ≤ 12) ∧ (Iv 12 (0) (11) (u.2.2.1 0))) (fun u => [(m0, .inr (11, [.int m_thrown, .ref mtape, .int m_taped, .int m_size, .ref msort, .ref mplace, .ref mvalue, .int m_at, .int m_fault, .ref mwords, .ref mtold, .ref mop, .ref marg, .int m_codes, .ref mnames, .ref mhasHabit, .int m_isNew, .ref mfactWords, .ref mfacts, .ref mpile, .ref mstates, .ref misMarked, .int (u.2.1 1), .int (u.2.1 2), .int (u.2.1 3), .ref mrow, .int (u.2.1 4), .ref mthr, .ref mmays, .ref mtall, .ref mweights, .ref mrowOfWare, .ref mneededOf, .int m_goShelf, .int m_goStack, .int m_goLeft, .ref mtried, .ref mbestRow, .int m_bestCost, .int m_bestMany, .int m_bestShelf, .int m_bestSet, .ref mdigits])), (mtold, .inl (cyI, 240, .inl m_told)), (mstates, .inl (cyI, 2760, .inl m_states)), (mrow, .inl (cyI, 12, .inl (u.2.2.1 0)))]) args s 0 0) [(mtold, .inl (cyI, 240, .inl m_told)), (m0, .inr (11, [.int m_thrown, .ref mtape, .int m_taped, .int m_size, .ref msort, .ref mplace, .ref mvalue, .int m_at, .int m_fault, .ref mwords, .ref mtold, .ref mop, .ref marg, .int m_codes, .ref mnames, .ref mhasHabit, .int m_isNew, .ref mfactWords, .ref mfacts, .ref mpile, .ref mstates, .ref misMarked, .int (u_7.2.1 1), .int (u_7.2.1 2), .int (u_7.2.1 3), .ref mrow, .int (u_14.2.1 0), .ref mthr, .ref mmays, .ref mtall, .ref mweights, .ref mrowOfWare, .ref mneededOf, .int m_goShelf, .int m_goStack, .int m_goLeft, .ref mtried, .ref mbestRow, .int m_bestCost, .int m_bestMany, .int m_bestShelf, .int m_bestSet, .ref mdigits])), (mstates, .inl (cyI, 2760, .inl m_states)), (mrow, .inl (cyI, 12, .inl (u_14.2.2.1 0)))] 72 [(5, .int x19_5), (2, .int x19_2), (4, .int v_6), (3, .int x1_3), (0, .ref m0), (1, .int p0)] [] := by
              intro k_19
              induction k_19 with
              | zero =>
                intro x19_5 x19_2 hi_19_0 hi_19_1 hr_19 hm_19
                exact absurd hm_19 (Nat.not_lt_zero _)
              | succ k_19 ih_19 =>
                intro x19_5 x19_2 hi_19_0 hi_19_1 hr_19 hm_19
                refine j_iload (pc := 72) C dX11_lifted_72 0 rfl ?_
                refine j_aload_n (pc := 74) C dX11_lifted_74 rfl 4 rfl ?_
                refine j_get (pc := 75) (ci := 11) (v := .int (u_14.2.1 0)) C inw_11 1 rfl rfl 26 (by decide) wd_779 rfl rfl dX11_lifted_75 ?_
                refine j_icmp_ge (pc := 78) (tgt := 106) C dX11_lifted_78 (by decide) (fun c_20 => ?_) (fun c_20 => ?_)
                · skip
                  rw [i_le] at c_20
                  obtain ⟨v_21, ev_21⟩ : ∃ z : Int32, x1_3 + 1 = z := ⟨_, rfl⟩
                  have el_1 : (1 : Int32).toInt = 1 := rfl
                  have hv_21 : v_21.toInt = x1_3.toInt + (1 : Int32).toInt := by rw [← ev_21]; exact fb_addI (by omega) (by omega)
                  refine j_iinc (pc := 106) (v := v_21) (lv' := [(3, .int v_21), (5, .int x19_5), (2, .int x19_2), (4, .int v_6), (0, .ref m0), (1, .int p0)]) C dX11_lifted_106 3 rfl ev_21 (by decide) rfl ?_
                  refine j_goto (pc := 109) (tgt := 4) C dX11_lifted_109 (by decide) ?_
                  refine j_subG (ws' := [(m0, .inr (11, [.int m_thrown, .ref mtape, .int m_taped, .int m_size, .ref msort, .ref mplace, .ref mvalue, .int m_at, .int m_fault, .ref mwords, .ref mtold, .ref mop, .ref marg, .int m_codes, .ref mnames, .ref mhasHabit, .int m_isNew, .ref mfactWords, .ref mfacts, .ref mpile, .ref mstates, .ref misMarked, .int (u_7.2.1 1), .int (u_7.2.1 2), .int (u_7.2.1 3), .ref mrow, .int (u_14.2.1 0), .ref mthr, .ref mmays, .ref mtall, .ref mweights, .ref mrowOfWare, .ref mneededOf, .int m_goShelf, .int m_goStack, .int m_goLeft, .ref mtried, .ref mbestRow, .int m_bestCost, .int m_bestMany, .int m_bestShelf, .int m_bestSet, .ref mdigits])), (mtold, .inl (cyI, 240, .inl m_told)), (mstates, .inl (cyI, 2760, .inl m_states)), (mrow, .inl (cyI, 12, .inl (u_14.2.2.1 0)))]) [1, 0, 2, 3] (by decide) rfl ?_
                  exact j_lv [0, 2, 4, 5] rfl (ih_1 v_21 x19_2 (u_7.2.1 1) (u_7.2.1 2) (u_7.2.1 3) (u_14.2.1 0) (u_14.2.2.1 0) (by omega) (by omega) hw_8_1 hw_8_2 hw_8_3 hw_15_0 hw_15_1 (by omega) (by omega))
                · skip
                  rw [i_le] at c_20
                  refine j_iload_n (pc := 81) C dX11_lifted_81 rfl 1 rfl ?_
                  refine j_aload_n (pc := 82) C dX11_lifted_82 rfl 4 rfl ?_
                  refine j_get (pc := 83) (ci := 11) (v := .ref mrow) C inw_11 1 rfl rfl 25 (by decide) wd_780 rfl rfl dX11_lifted_83 ?_
                  refine j_iload (pc := 86) C dX11_lifted_86 0 rfl ?_
                  obtain ⟨v_22, ev_22⟩ : ∃ z, (u_14.2.2.1 0) (x19_5).toInt.toNat = z := ⟨_, rfl⟩
                  have env_22 : ((u_14.2.2.1 0) (x19_5).toInt.toNat).toInt = v_22.toInt := by rw [ev_22]
                  have hv_22 := hw_15_1 (x19_5).toInt.toNat (i_lt_n hi_19_0.1 (by omega)); rw [ev_22] at hv_22
                  refine j_iald (pc := 88) (v := v_22) (k := (x19_5).toInt.toNat) C 3 1 rfl rfl (i_nn hi_19_0.1) rfl (i_lt_n hi_19_0.1 (by omega)) ev_22 dX11_lifted_88 ?_
                  refine j_iload_n (pc := 89) C dX11_lifted_89 rfl 5 rfl ?_
                  refine j_icmp_ne (pc := 90) (tgt := 97) C dX11_lifted_90 (by decide) (fun c_23 => ?_) (fun c_23 => ?_)
                  · skip
                    rw [i_eq] at c_23
                    refine j_iconst (pc := 97) (v := 0) C dX11_lifted_97 (by decide) ?_
                    obtain ⟨v_24, ev_24⟩ : ∃ z : Int32, x19_2 + 0 = z := ⟨_, rfl⟩
                    have el_0 : (0 : Int32).toInt = 0 := rfl
                    have hv_24 : v_24.toInt = x19_2.toInt + (0 : Int32).toInt := by rw [← ev_24]; exact fb_addI (by omega) (by omega)
                    refine j_iadd (pc := 98) (v := v_24) C dX11_lifted_98 ev_24 ?_
                    refine j_istore_n (pc := 99) (lv' := [(2, .int v_24), (5, .int x19_5), (4, .int v_6), (3, .int x1_3), (0, .ref m0), (1, .int p0)]) C dX11_lifted_99 rfl (by decide) rfl ?_
                    obtain ⟨v_25, ev_25⟩ : ∃ z : Int32, x19_5 + 1 = z := ⟨_, rfl⟩
                    have el_1 : (1 : Int32).toInt = 1 := rfl
                    have hv_25 : v_25.toInt = x19_5.toInt + (1 : Int32).toInt := by rw [← ev_25]; exact fb_addI (by omega) (by omega)
                    refine j_iinc (pc := 100) (v := v_25) (lv' := [(5, .int v_25), (2, .int v_24), (4, .int v_6), (3, .int x1_3), (0, .ref m0), (1, .int p0)]) C dX11_lifted_100 1 rfl ev_25 (by decide) rfl ?_
                    refine j_goto (pc := 103) (tgt := 72) C dX11_lifted_103 (by decide) ?_
                    exact j_lv [0, 1, 2, 3, 4, 5] rfl (ih_19 v_25 v_24 (by omega) (by omega) (by omega) (by omega))
                  · skip
                    rw [i_eq] at c_23
                    refine j_iconst (pc := 93) (v := 2) C dX11_lifted_93 (by decide) ?_
                    refine j_goto (pc := 94) (tgt := 98) C dX11_lifted_94 (by decide) ?_
                    obtain ⟨v_26, ev_26⟩ : ∃ z : Int32, x19_2 + 2 = z := ⟨_, rfl⟩
                    have el_2 : (2 : Int32).toInt = 2 := rfl
                    have hv_26 : v_26.toInt = x19_2.toInt + (2 : Int32).toInt := by rw [← ev_26]; exact fb_addI (by omega) (by omega)
                    refine j_iadd (pc := 98) (v := v_26) C dX11_lifted_98 ev_26 ?_
                    refine j_istore_n (pc := 99) (lv' := [(2, .int v_26), (5, .int x19_5), (4, .int v_6), (3, .int x1_3), (0, .ref m0), (1, .int p0)]) C dX11_lifted_99 rfl (by decide) rfl ?_
                    obtain ⟨v_27, ev_27⟩ : ∃ z : Int32, x19_5 + 1 = z := ⟨_, rfl⟩
                    have el_1 : (1 : Int32).toInt = 1 := rfl
                    have hv_27 : v_27.toInt = x19_5.toInt + (1 : Int32).toInt := by rw [← ev_27]; exact fb_addI (by omega) (by omega)
                    refine j_iinc (pc := 100) (v := v_27) (lv' := [(5, .int v_27), (2, .int v_26), (4, .int v_6), (3, .int x1_3), (0, .ref m0), (1, .int p0)]) C dX11_lifted_100 1 rfl ev_27 (by decide) rfl ?_
                    refine j_goto (pc := 103) (tgt := 72) C dX11_lifted_103 (by decide) ?_
                    exact j_lv [0, 1, 2, 3, 4, 5] rfl (ih_19 v_27 v_26 (by omega) (by omega) (by omega) (by omega))
            exact j_lv [0, 1, 2, 3, 4, 5] rfl (loop_19 4096 v_18 v_17 (by omega) (by omega) (by omega) (by omega))
          · skip
            rw [i_eq] at c_16
            refine j_iconst (pc := 57) (v := 1) C dX11_lifted_57 (by decide) ?_
            refine j_goto (pc := 58) (tgt := 62) C dX11_lifted_58 (by decide) ?_
            obtain ⟨v_28, ev_28⟩ : ∃ z : Int32, x1_2 + 1 = z := ⟨_, rfl⟩
            have el_1 : (1 : Int32).toInt = 1 := rfl
            have hv_28 : v_28.toInt = x1_2.toInt + (1 : Int32).toInt := by rw [← ev_28]; exact fb_addI (by omega) (by omega)
            refine j_iadd (pc := 62) (v := v_28) C dX11_lifted_62 ev_28 ?_
            refine j_istore_n (pc := 63) (lv' := [(2, .int v_28), (4, .int v_6), (3, .int x1_3), (0, .ref m0), (1, .int p0)]) C dX11_lifted_63 rfl (by decide) rfl ?_
            refine j_aload_n (pc := 64) C dX11_lifted_64 rfl 3 rfl ?_
            refine j_get (pc := 65) (ci := 11) (v := .int (u_7.2.1 3)) C inw_11 1 rfl rfl 24 (by decide) wd_778 rfl rfl dX11_lifted_65 ?_
            refine j_iconst (pc := 68) (v := 1) C dX11_lifted_68 (by decide) ?_
            obtain ⟨v_29, ev_29⟩ : ∃ z : Int32, (u_7.2.1 3) + 1 = z := ⟨_, rfl⟩
            have el_1 : (1 : Int32).toInt = 1 := rfl
            have hv_29 : v_29.toInt = ((u_7.2.1 3)).toInt + (1 : Int32).toInt := by rw [← ev_29]; exact fb_addI (by omega) (by omega)
            refine j_iadd (pc := 69) (v := v_29) C dX11_lifted_69 ev_29 ?_
            refine j_istore (pc := 70) (lv' := [(5, .int v_29), (2, .int v_28), (4, .int v_6), (3, .int x1_3), (0, .ref m0), (1, .int p0)]) C dX11_lifted_70 (by decide) rfl ?_
            have loop_30 : ∀ (k_30 : Nat) (x30_5 : Int32) (x30_2 : Int32), (0 ≤ (x30_5).toInt ∧ (x30_5).toInt ≤ 12) → (0 ≤ (x30_2).toInt ∧ (x30_2).toInt ≤ 800) → (x30_2.toInt ≤ 25 * x1_3.toInt + 2 * x30_5.toInt) → (12 - x30_5.toInt).toNat < k_30 → J p l e ({ frames := 2, cells := 0, slots := 0, locals := 48 } : Room) s m args below meth c D A 6 0 0 (QX below D (TY cyC cyI cyJ cyZ cyO) A (fun u => some (.int (u.2.1 0))) (fun u => (0 ≤ (u.2.1 0).toInt ∧ (u.2.1 0).toInt ≤ 750) ∧ (0 ≤ (u.2.1 1).toInt ∧ (u.2.1 1).toInt ≤ 3) ∧ (0 ≤ (u.2.1 2).toInt ∧ (u.2.1 2).toInt ≤ 7) ∧ (0 ≤ (u.2.1 3).toInt ∧ (u.2.1 3).toInt ≤ 11) ∧ (0 ≤ (u.2.1 4).toInt ∧ (u.2.1 4).toInt ≤ 12) ∧ (Iv 12 (0) (11) (u.2.2.1 0))) (fun u => [(m0, .inr (11, [.int m_thrown, .ref mtape, .int m_taped, .int m_size, .ref msort, .ref mplace, .ref mvalue, .int m_at, .int m_fault, .ref mwords, .ref mtold, .ref mop, .ref marg, .int m_codes, .ref mnames, .ref mhasHabit, .int m_isNew, .ref mfactWords, .ref mfacts, .ref mpile, .ref mstates, .ref misMarked, .int (u.2.1 1), .int (u.2.1 2), .int (u.2.1 3), .ref mrow, .int (u.2.1 4), .ref mthr, .ref mmays, .ref mtall, .ref mweights, .ref mrowOfWare, .ref mneededOf, .int m_goShelf, .int m_goStack, .int m_goLeft, .ref mtried, .ref mbestRow, .int m_bestCost, .int m_bestMany, .int m_bestShelf, .int m_bestSet, .ref mdigits])), (mtold, .inl (cyI, 240, .inl m_told)), (mstates, .inl (cyI, 2760, .inl m_states)), (mrow, .inl (cyI, 12, .inl (u.2.2.1 0)))]) args s 0 0) [(mtold, .inl (cyI, 240, .inl m_told)), (m0, .inr (11, [.int m_thrown, .ref mtape, .int m_taped, .int m_size, .ref msort, .ref mplace, .ref mvalue, .int m_at, .int m_fault, .ref mwords, .ref mtold, .ref mop, .ref marg, .int m_codes, .ref mnames, .ref mhasHabit, .int m_isNew, .ref mfactWords, .ref mfacts, .ref mpile, .ref mstates, .ref misMarked, .int (u_7.2.1 1), .int (u_7.2.1 2), .int (u_7.2.1 3), .ref mrow, .int (u_14.2.1 0), .ref mthr, .ref mmays, .ref mtall, .ref mweights, .ref mrowOfWare, .ref mneededOf, .int m_goShelf, .int m_goStack, .int m_goLeft, .ref mtried, .ref mbestRow, .int m_bestCost, .int m_bestMany, .int m_bestShelf, .int m_bestSet, .ref mdigits])), (mstates, .inl (cyI, 2760, .inl m_states)), (mrow, .inl (cyI, 12, .inl (u_14.2.2.1 0)))] 72 [(5, .int x30_5), (2, .int x30_2), (4, .int v_6), (3, .int x1_3), (0, .ref m0), (1, .int p0)] [] := by
              intro k_30
              induction k_30 with
              | zero =>
                intro x30_5 x30_2 hi_30_0 hi_30_1 hr_30 hm_30
                exact absurd hm_30 (Nat.not_lt_zero _)
              | succ k_30 ih_30 =>
                intro x30_5 x30_2 hi_30_0 hi_30_1 hr_30 hm_30
                refine j_iload (pc := 72) C dX11_lifted_72 0 rfl ?_
                refine j_aload_n (pc := 74) C dX11_lifted_74 rfl 4 rfl ?_
                refine j_get (pc := 75) (ci := 11) (v := .int (u_14.2.1 0)) C inw_11 1 rfl rfl 26 (by decide) wd_779 rfl rfl dX11_lifted_75 ?_
                refine j_icmp_ge (pc := 78) (tgt := 106) C dX11_lifted_78 (by decide) (fun c_31 => ?_) (fun c_31 => ?_)
                · skip
                  rw [i_le] at c_31
                  obtain ⟨v_32, ev_32⟩ : ∃ z : Int32, x1_3 + 1 = z := ⟨_, rfl⟩
                  have el_1 : (1 : Int32).toInt = 1 := rfl
                  have hv_32 : v_32.toInt = x1_3.toInt + (1 : Int32).toInt := by rw [← ev_32]; exact fb_addI (by omega) (by omega)
                  refine j_iinc (pc := 106) (v := v_32) (lv' := [(3, .int v_32), (5, .int x30_5), (2, .int x30_2), (4, .int v_6), (0, .ref m0), (1, .int p0)]) C dX11_lifted_106 3 rfl ev_32 (by decide) rfl ?_
                  refine j_goto (pc := 109) (tgt := 4) C dX11_lifted_109 (by decide) ?_
                  refine j_subG (ws' := [(m0, .inr (11, [.int m_thrown, .ref mtape, .int m_taped, .int m_size, .ref msort, .ref mplace, .ref mvalue, .int m_at, .int m_fault, .ref mwords, .ref mtold, .ref mop, .ref marg, .int m_codes, .ref mnames, .ref mhasHabit, .int m_isNew, .ref mfactWords, .ref mfacts, .ref mpile, .ref mstates, .ref misMarked, .int (u_7.2.1 1), .int (u_7.2.1 2), .int (u_7.2.1 3), .ref mrow, .int (u_14.2.1 0), .ref mthr, .ref mmays, .ref mtall, .ref mweights, .ref mrowOfWare, .ref mneededOf, .int m_goShelf, .int m_goStack, .int m_goLeft, .ref mtried, .ref mbestRow, .int m_bestCost, .int m_bestMany, .int m_bestShelf, .int m_bestSet, .ref mdigits])), (mtold, .inl (cyI, 240, .inl m_told)), (mstates, .inl (cyI, 2760, .inl m_states)), (mrow, .inl (cyI, 12, .inl (u_14.2.2.1 0)))]) [1, 0, 2, 3] (by decide) rfl ?_
                  exact j_lv [0, 2, 4, 5] rfl (ih_1 v_32 x30_2 (u_7.2.1 1) (u_7.2.1 2) (u_7.2.1 3) (u_14.2.1 0) (u_14.2.2.1 0) (by omega) (by omega) hw_8_1 hw_8_2 hw_8_3 hw_15_0 hw_15_1 (by omega) (by omega))
                · skip
                  rw [i_le] at c_31
                  refine j_iload_n (pc := 81) C dX11_lifted_81 rfl 1 rfl ?_
                  refine j_aload_n (pc := 82) C dX11_lifted_82 rfl 4 rfl ?_
                  refine j_get (pc := 83) (ci := 11) (v := .ref mrow) C inw_11 1 rfl rfl 25 (by decide) wd_780 rfl rfl dX11_lifted_83 ?_
                  refine j_iload (pc := 86) C dX11_lifted_86 0 rfl ?_
                  obtain ⟨v_33, ev_33⟩ : ∃ z, (u_14.2.2.1 0) (x30_5).toInt.toNat = z := ⟨_, rfl⟩
                  have env_33 : ((u_14.2.2.1 0) (x30_5).toInt.toNat).toInt = v_33.toInt := by rw [ev_33]
                  have hv_33 := hw_15_1 (x30_5).toInt.toNat (i_lt_n hi_30_0.1 (by omega)); rw [ev_33] at hv_33
                  refine j_iald (pc := 88) (v := v_33) (k := (x30_5).toInt.toNat) C 3 1 rfl rfl (i_nn hi_30_0.1) rfl (i_lt_n hi_30_0.1 (by omega)) ev_33 dX11_lifted_88 ?_
                  refine j_iload_n (pc := 89) C dX11_lifted_89 rfl 5 rfl ?_
                  refine j_icmp_ne (pc := 90) (tgt := 97) C dX11_lifted_90 (by decide) (fun c_34 => ?_) (fun c_34 => ?_)
                  · skip
                    rw [i_eq] at c_34
                    refine j_iconst (pc := 97) (v := 0) C dX11_lifted_97 (by decide) ?_
                    obtain ⟨v_35, ev_35⟩ : ∃ z : Int32, x30_2 + 0 = z := ⟨_, rfl⟩
                    have el_0 : (0 : Int32).toInt = 0 := rfl
                    have hv_35 : v_35.toInt = x30_2.toInt + (0 : Int32).toInt := by rw [← ev_35]; exact fb_addI (by omega) (by omega)
                    refine j_iadd (pc := 98) (v := v_35) C dX11_lifted_98 ev_35 ?_
                    refine j_istore_n (pc := 99) (lv' := [(2, .int v_35), (5, .int x30_5), (4, .int v_6), (3, .int x1_3), (0, .ref m0), (1, .int p0)]) C dX11_lifted_99 rfl (by decide) rfl ?_
                    obtain ⟨v_36, ev_36⟩ : ∃ z : Int32, x30_5 + 1 = z := ⟨_, rfl⟩
                    have el_1 : (1 : Int32).toInt = 1 := rfl
                    have hv_36 : v_36.toInt = x30_5.toInt + (1 : Int32).toInt := by rw [← ev_36]; exact fb_addI (by omega) (by omega)
                    refine j_iinc (pc := 100) (v := v_36) (lv' := [(5, .int v_36), (2, .int v_35), (4, .int v_6), (3, .int x1_3), (0, .ref m0), (1, .int p0)]) C dX11_lifted_100 1 rfl ev_36 (by decide) rfl ?_
                    refine j_goto (pc := 103) (tgt := 72) C dX11_lifted_103 (by decide) ?_
                    exact j_lv [0, 1, 2, 3, 4, 5] rfl (ih_30 v_36 v_35 (by omega) (by omega) (by omega) (by omega))
                  · skip
                    rw [i_eq] at c_34
                    refine j_iconst (pc := 93) (v := 2) C dX11_lifted_93 (by decide) ?_
                    refine j_goto (pc := 94) (tgt := 98) C dX11_lifted_94 (by decide) ?_
                    obtain ⟨v_37, ev_37⟩ : ∃ z : Int32, x30_2 + 2 = z := ⟨_, rfl⟩
                    have el_2 : (2 : Int32).toInt = 2 := rfl
                    have hv_37 : v_37.toInt = x30_2.toInt + (2 : Int32).toInt := by rw [← ev_37]; exact fb_addI (by omega) (by omega)
                    refine j_iadd (pc := 98) (v := v_37) C dX11_lifted_98 ev_37 ?_
                    refine j_istore_n (pc := 99) (lv' := [(2, .int v_37), (5, .int x30_5), (4, .int v_6), (3, .int x1_3), (0, .ref m0), (1, .int p0)]) C dX11_lifted_99 rfl (by decide) rfl ?_
                    obtain ⟨v_38, ev_38⟩ : ∃ z : Int32, x30_5 + 1 = z := ⟨_, rfl⟩
                    have el_1 : (1 : Int32).toInt = 1 := rfl
                    have hv_38 : v_38.toInt = x30_5.toInt + (1 : Int32).toInt := by rw [← ev_38]; exact fb_addI (by omega) (by omega)
                    refine j_iinc (pc := 100) (v := v_38) (lv' := [(5, .int v_38), (2, .int v_37), (4, .int v_6), (3, .int x1_3), (0, .ref m0), (1, .int p0)]) C dX11_lifted_100 1 rfl ev_38 (by decide) rfl ?_
                    refine j_goto (pc := 103) (tgt := 72) C dX11_lifted_103 (by decide) ?_
                    exact j_lv [0, 1, 2, 3, 4, 5] rfl (ih_30 v_38 v_37 (by omega) (by omega) (by omega) (by omega))
            exact j_lv [0, 1, 2, 3, 4, 5] rfl (loop_30 4096 v_29 v_28 (by omega) (by omega) (by omega) (by omega))
  have el_0 : (0 : Int32).toInt = 0 := rfl
  have el_0 : (0 : Int32).toInt = 0 := rfl
  exact j_lv [0, 1, 2, 3] rfl (loop_1 4096 0 0 m_inShelf m_inStack m_inPlace m_rowMany m_row (by decide) (by decide) h_m_inShelf h_m_inStack h_m_inPlace h_m_rowMany h_m_row (by omega) (by omega))
