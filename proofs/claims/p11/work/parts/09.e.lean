theorem wd_50 : Cond.code yJ7_fill_53178 cJ7_fill_53178 4 none ∈ WALL := wl_in (by decide +kernel) (by decide +kernel)
theorem wd_51 : Cond.initialized RJ7 ∈ WALL := wl_in (by decide +kernel) (by decide +kernel)
theorem wd_52 : Cond.methodLink RX7 24 yJ7_fill_53178 ∈ WALL := wl_in (by decide +kernel) (by decide +kernel)
theorem wd_53 : Cond.static yJ7_fill_53178 ∈ WALL := wl_in (by decide +kernel) (by decide +kernel)
theorem wd_54 : Cond.code yX7_size cX7_size 5 (some .int) ∈ WALL := wl_in (by decide +kernel) (by decide +kernel)
theorem wd_55 : Cond.methodLink RX7 57 yX7_size ∈ WALL := wl_in (by decide +kernel) (by decide +kernel)
theorem wd_56 : Cond.instanceMethod yX7_size ∈ WALL := wl_in (by decide +kernel) (by decide +kernel)
theorem wd_57 : Cond.selects RX7 yX7_size yX7_size ∈ WALL := wl_in (by decide +kernel) (by decide +kernel)
theorem wd_58 : Cond.code yX7_sinkAbove cX7_sinkAbove 3 none ∈ WALL := wl_in (by decide +kernel) (by decide +kernel)
theorem wd_59 : Cond.methodLink RX7 60 yX7_sinkAbove ∈ WALL := wl_in (by decide +kernel) (by decide +kernel)
theorem wd_60 : Cond.instanceMethod yX7_sinkAbove ∈ WALL := wl_in (by decide +kernel) (by decide +kernel)
theorem wd_61 : Cond.selects RX7 yX7_sinkAbove yX7_sinkAbove ∈ WALL := wl_in (by decide +kernel) (by decide +kernel)
theorem wd_62 : Cond.code yX7_closeGap cX7_closeGap 4 none ∈ WALL := wl_in (by decide +kernel) (by decide +kernel)
theorem wd_63 : Cond.methodLink RX7 64 yX7_closeGap ∈ WALL := wl_in (by decide +kernel) (by decide +kernel)
theorem wd_64 : Cond.instanceMethod yX7_closeGap ∈ WALL := wl_in (by decide +kernel) (by decide +kernel)
theorem wd_65 : Cond.selects RX7 yX7_closeGap yX7_closeGap ∈ WALL := wl_in (by decide +kernel) (by decide +kernel)
theorem wd_66 : Cond.code yX7_stacks cX7_stacks 4 (some .int) ∈ WALL := wl_in (by decide +kernel) (by decide +kernel)
theorem wd_67 : Cond.methodLink RX7 68 yX7_stacks ∈ WALL := wl_in (by decide +kernel) (by decide +kernel)
theorem wd_68 : Cond.instanceMethod yX7_stacks ∈ WALL := wl_in (by decide +kernel) (by decide +kernel)
theorem wd_69 : Cond.selects RX7 yX7_stacks yX7_stacks ∈ WALL := wl_in (by decide +kernel) (by decide +kernel)
theorem wd_70 : Cond.methodLink RX4 19 yX7_stands ∈ WALL := wl_in (by decide +kernel) (by decide +kernel)
theorem wd_71 : Cond.fieldLink RX4 25 "BowlShelf$Standing" "level" "[I" ∈ WALL := wl_in (by decide +kernel) (by decide +kernel)
theorem dJ7_fill_53178_0 : decode cJ7_fill_53178 0 = .ok (.iconst 0, 1) := by decide +kernel
theorem dJ7_fill_53178_1 : decode cJ7_fill_53178 1 = .ok (.istore_n 2, 1) := by decide +kernel
theorem dJ7_fill_53178_2 : decode cJ7_fill_53178 2 = .ok (.aload_n 0, 1) := by decide +kernel
theorem dJ7_fill_53178_3 : decode cJ7_fill_53178 3 = .ok (.arraylength, 1) := by decide +kernel
theorem dJ7_fill_53178_4 : decode cJ7_fill_53178 4 = .ok (.istore_n 3, 1) := by decide +kernel
theorem dJ7_fill_53178_5 : decode cJ7_fill_53178 5 = .ok (.iload_n 2, 1) := by decide +kernel
theorem dJ7_fill_53178_6 : decode cJ7_fill_53178 6 = .ok (.iload_n 3, 1) := by decide +kernel
theorem dJ7_fill_53178_7 : decode cJ7_fill_53178 7 = .ok (.if_icmp .ge 13, 3) := by decide +kernel
theorem dJ7_fill_53178_10 : decode cJ7_fill_53178 10 = .ok (.aload_n 0, 1) := by decide +kernel
theorem dJ7_fill_53178_11 : decode cJ7_fill_53178 11 = .ok (.iload_n 2, 1) := by decide +kernel
theorem dJ7_fill_53178_12 : decode cJ7_fill_53178 12 = .ok (.iload_n 1, 1) := by decide +kernel
theorem dJ7_fill_53178_13 : decode cJ7_fill_53178 13 = .ok (.iastore, 1) := by decide +kernel
theorem dJ7_fill_53178_14 : decode cJ7_fill_53178 14 = .ok (.iinc 2 1, 3) := by decide +kernel
theorem dJ7_fill_53178_17 : decode cJ7_fill_53178 17 = .ok (.goto (-12), 3) := by decide +kernel
theorem dJ7_fill_53178_20 : decode cJ7_fill_53178 20 = .ok (.return_, 1) := by decide +kernel
theorem dX7_empty_0 : decode cX7_empty 0 = .ok (.aload_n 0, 1) := by decide +kernel
theorem dX7_empty_1 : decode cX7_empty 1 = .ok (.getfield 9, 3) := by decide +kernel
theorem dX7_empty_4 : decode cX7_empty 4 = .ok (.iconst (-1), 1) := by decide +kernel
theorem dX7_empty_5 : decode cX7_empty 5 = .ok (.invokestatic 24, 3) := by decide +kernel
theorem dX7_empty_8 : decode cX7_empty 8 = .ok (.aload_n 0, 1) := by decide +kernel
theorem dX7_empty_9 : decode cX7_empty 9 = .ok (.iconst 0, 1) := by decide +kernel
theorem dX7_empty_10 : decode cX7_empty 10 = .ok (.putfield 30, 3) := by decide +kernel
theorem dX7_empty_13 : decode cX7_empty 13 = .ok (.return_, 1) := by decide +kernel
theorem dX7_add_0 : decode cX7_add 0 = .ok (.aload_n 0, 1) := by decide +kernel
theorem dX7_add_1 : decode cX7_add 1 = .ok (.getfield 18, 3) := by decide +kernel
theorem dX7_add_4 : decode cX7_add 4 = .ok (.iload_n 1, 1) := by decide +kernel
theorem dX7_add_5 : decode cX7_add 5 = .ok (.aload_n 0, 1) := by decide +kernel
theorem dX7_add_6 : decode cX7_add 6 = .ok (.iload_n 2, 1) := by decide +kernel
theorem dX7_add_7 : decode cX7_add 7 = .ok (.iload_n 3, 1) := by decide +kernel
theorem dX7_add_8 : decode cX7_add 8 = .ok (.invokevirtual 57, 3) := by decide +kernel
theorem dX7_add_11 : decode cX7_add 11 = .ok (.iastore, 1) := by decide +kernel
theorem dX7_add_12 : decode cX7_add 12 = .ok (.aload_n 0, 1) := by decide +kernel
theorem dX7_add_13 : decode cX7_add 13 = .ok (.getfield 9, 3) := by decide +kernel
theorem dX7_add_16 : decode cX7_add 16 = .ok (.iload_n 1, 1) := by decide +kernel
theorem dX7_add_17 : decode cX7_add 17 = .ok (.iload_n 2, 1) := by decide +kernel
theorem dX7_add_18 : decode cX7_add 18 = .ok (.iastore, 1) := by decide +kernel
theorem dX7_add_19 : decode cX7_add 19 = .ok (.aload_n 0, 1) := by decide +kernel
theorem dX7_add_20 : decode cX7_add 20 = .ok (.getfield 15, 3) := by decide +kernel
theorem dX7_add_23 : decode cX7_add 23 = .ok (.iload_n 1, 1) := by decide +kernel
theorem dX7_add_24 : decode cX7_add 24 = .ok (.iload_n 3, 1) := by decide +kernel
theorem dX7_add_25 : decode cX7_add 25 = .ok (.iastore, 1) := by decide +kernel
theorem dX7_add_26 : decode cX7_add 26 = .ok (.return_, 1) := by decide +kernel
theorem dX7_remove_0 : decode cX7_remove 0 = .ok (.aload_n 0, 1) := by decide +kernel
theorem dX7_remove_1 : decode cX7_remove 1 = .ok (.getfield 9, 3) := by decide +kernel
theorem dX7_remove_4 : decode cX7_remove 4 = .ok (.iload_n 1, 1) := by decide +kernel
theorem dX7_remove_5 : decode cX7_remove 5 = .ok (.iaload, 1) := by decide +kernel
theorem dX7_remove_6 : decode cX7_remove 6 = .ok (.istore_n 2, 1) := by decide +kernel
theorem dX7_remove_7 : decode cX7_remove 7 = .ok (.aload_n 0, 1) := by decide +kernel
theorem dX7_remove_8 : decode cX7_remove 8 = .ok (.iload_n 1, 1) := by decide +kernel
theorem dX7_remove_9 : decode cX7_remove 9 = .ok (.invokevirtual 60, 3) := by decide +kernel
theorem dX7_remove_12 : decode cX7_remove 12 = .ok (.aload_n 0, 1) := by decide +kernel
theorem dX7_remove_13 : decode cX7_remove 13 = .ok (.getfield 9, 3) := by decide +kernel
theorem dX7_remove_16 : decode cX7_remove 16 = .ok (.iload_n 1, 1) := by decide +kernel
theorem dX7_remove_17 : decode cX7_remove 17 = .ok (.iconst (-1), 1) := by decide +kernel
theorem dX7_remove_18 : decode cX7_remove 18 = .ok (.iastore, 1) := by decide +kernel
theorem dX7_remove_19 : decode cX7_remove 19 = .ok (.aload_n 0, 1) := by decide +kernel
theorem dX7_remove_20 : decode cX7_remove 20 = .ok (.iload_n 2, 1) := by decide +kernel
theorem dX7_remove_21 : decode cX7_remove 21 = .ok (.aload_n 0, 1) := by decide +kernel
theorem dX7_remove_22 : decode cX7_remove 22 = .ok (.getfield 15, 3) := by decide +kernel
theorem dX7_remove_25 : decode cX7_remove 25 = .ok (.iload_n 1, 1) := by decide +kernel
theorem dX7_remove_26 : decode cX7_remove 26 = .ok (.iaload, 1) := by decide +kernel
theorem dX7_remove_27 : decode cX7_remove 27 = .ok (.invokevirtual 57, 3) := by decide +kernel
theorem dX7_remove_30 : decode cX7_remove 30 = .ok (.ifCond .ne 14, 3) := by decide +kernel
theorem dX7_remove_33 : decode cX7_remove 33 = .ok (.aload_n 0, 1) := by decide +kernel
theorem dX7_remove_34 : decode cX7_remove 34 = .ok (.iload_n 2, 1) := by decide +kernel
theorem dX7_remove_35 : decode cX7_remove 35 = .ok (.aload_n 0, 1) := by decide +kernel
theorem dX7_remove_36 : decode cX7_remove 36 = .ok (.getfield 15, 3) := by decide +kernel
theorem dX7_remove_39 : decode cX7_remove 39 = .ok (.iload_n 1, 1) := by decide +kernel
theorem dX7_remove_40 : decode cX7_remove 40 = .ok (.iaload, 1) := by decide +kernel
theorem dX7_remove_41 : decode cX7_remove 41 = .ok (.invokevirtual 64, 3) := by decide +kernel
theorem dX7_remove_44 : decode cX7_remove 44 = .ok (.return_, 1) := by decide +kernel
theorem dX7_raise_0 : decode cX7_raise 0 = .ok (.aload_n 0, 1) := by decide +kernel
theorem dX7_raise_1 : decode cX7_raise 1 = .ok (.iload_n 1, 1) := by decide +kernel
theorem dX7_raise_2 : decode cX7_raise 2 = .ok (.invokevirtual 60, 3) := by decide +kernel
theorem dX7_raise_5 : decode cX7_raise 5 = .ok (.aload_n 0, 1) := by decide +kernel
theorem dX7_raise_6 : decode cX7_raise 6 = .ok (.getfield 18, 3) := by decide +kernel
theorem dX7_raise_9 : decode cX7_raise 9 = .ok (.iload_n 1, 1) := by decide +kernel
theorem dX7_raise_10 : decode cX7_raise 10 = .ok (.aload_n 0, 1) := by decide +kernel
theorem dX7_raise_11 : decode cX7_raise 11 = .ok (.aload_n 0, 1) := by decide +kernel
theorem dX7_raise_12 : decode cX7_raise 12 = .ok (.getfield 9, 3) := by decide +kernel
theorem dX7_raise_15 : decode cX7_raise 15 = .ok (.iload_n 1, 1) := by decide +kernel
theorem dX7_raise_16 : decode cX7_raise 16 = .ok (.iaload, 1) := by decide +kernel
theorem dX7_raise_17 : decode cX7_raise 17 = .ok (.aload_n 0, 1) := by decide +kernel
theorem dX7_raise_18 : decode cX7_raise 18 = .ok (.getfield 15, 3) := by decide +kernel
theorem dX7_raise_21 : decode cX7_raise 21 = .ok (.iload_n 1, 1) := by decide +kernel
theorem dX7_raise_22 : decode cX7_raise 22 = .ok (.iaload, 1) := by decide +kernel
theorem dX7_raise_23 : decode cX7_raise 23 = .ok (.invokevirtual 57, 3) := by decide +kernel
theorem dX7_raise_26 : decode cX7_raise 26 = .ok (.iconst 1, 1) := by decide +kernel
theorem dX7_raise_27 : decode cX7_raise 27 = .ok (.isub, 1) := by decide +kernel
theorem dX7_raise_28 : decode cX7_raise 28 = .ok (.iastore, 1) := by decide +kernel
theorem dX7_raise_29 : decode cX7_raise 29 = .ok (.return_, 1) := by decide +kernel
theorem dX7_move_0 : decode cX7_move 0 = .ok (.aload_n 0, 1) := by decide +kernel
theorem dX7_move_1 : decode cX7_move 1 = .ok (.iload_n 3, 1) := by decide +kernel
theorem dX7_move_2 : decode cX7_move 2 = .ok (.invokevirtual 68, 3) := by decide +kernel
theorem dX7_move_5 : decode cX7_move 5 = .ok (.istore 4, 2) := by decide +kernel
theorem dX7_move_7 : decode cX7_move 7 = .ok (.iconst 0, 1) := by decide +kernel
theorem dX7_move_8 : decode cX7_move 8 = .ok (.istore 5, 2) := by decide +kernel
theorem dX7_move_10 : decode cX7_move 10 = .ok (.iload 5, 2) := by decide +kernel
theorem dX7_move_12 : decode cX7_move 12 = .ok (.bipush 12, 2) := by decide +kernel
theorem dX7_move_14 : decode cX7_move 14 = .ok (.if_icmp .ge 37, 3) := by decide +kernel
theorem dX7_move_17 : decode cX7_move 17 = .ok (.aload_n 0, 1) := by decide +kernel
theorem dX7_move_18 : decode cX7_move 18 = .ok (.iload 5, 2) := by decide +kernel
theorem dX7_move_20 : decode cX7_move 20 = .ok (.iload_n 1, 1) := by decide +kernel
theorem dX7_move_21 : decode cX7_move 21 = .ok (.iload_n 2, 1) := by decide +kernel
theorem dX7_move_22 : decode cX7_move 22 = .ok (.invokevirtual 53, 3) := by decide +kernel
theorem dX7_move_25 : decode cX7_move 25 = .ok (.ifCond .eq 20, 3) := by decide +kernel
theorem dX7_move_28 : decode cX7_move 28 = .ok (.aload_n 0, 1) := by decide +kernel
theorem dX7_move_29 : decode cX7_move 29 = .ok (.getfield 9, 3) := by decide +kernel
theorem dX7_move_32 : decode cX7_move 32 = .ok (.iload 5, 2) := by decide +kernel
theorem dX7_move_34 : decode cX7_move 34 = .ok (.iload_n 3, 1) := by decide +kernel
theorem dX7_move_35 : decode cX7_move 35 = .ok (.iastore, 1) := by decide +kernel
theorem dX7_move_36 : decode cX7_move 36 = .ok (.aload_n 0, 1) := by decide +kernel
theorem dX7_move_37 : decode cX7_move 37 = .ok (.getfield 15, 3) := by decide +kernel
theorem dX7_move_40 : decode cX7_move 40 = .ok (.iload 5, 2) := by decide +kernel
theorem dX7_move_42 : decode cX7_move 42 = .ok (.iload 4, 2) := by decide +kernel
theorem dX7_move_44 : decode cX7_move 44 = .ok (.iastore, 1) := by decide +kernel
theorem dX7_move_45 : decode cX7_move 45 = .ok (.iinc 5 1, 3) := by decide +kernel
theorem dX7_move_48 : decode cX7_move 48 = .ok (.goto (-38), 3) := by decide +kernel
theorem dX7_move_51 : decode cX7_move 51 = .ok (.aload_n 0, 1) := by decide +kernel
theorem dX7_move_52 : decode cX7_move 52 = .ok (.iload_n 1, 1) := by decide +kernel
theorem dX7_move_53 : decode cX7_move 53 = .ok (.iload_n 2, 1) := by decide +kernel
theorem dX7_move_54 : decode cX7_move 54 = .ok (.invokevirtual 64, 3) := by decide +kernel
theorem dX7_move_57 : decode cX7_move 57 = .ok (.return_, 1) := by decide +kernel
theorem dX4_take_0 : decode cX4_take 0 = .ok (.aload_n 0, 1) := by decide +kernel
theorem dX4_take_1 : decode cX4_take 1 = .ok (.iconst 0, 1) := by decide +kernel
theorem dX4_take_2 : decode cX4_take 2 = .ok (.putfield 15, 3) := by decide +kernel
theorem dX4_take_5 : decode cX4_take 5 = .ok (.iconst 0, 1) := by decide +kernel
theorem dX4_take_6 : decode cX4_take 6 = .ok (.istore 4, 2) := by decide +kernel
theorem dX4_take_8 : decode cX4_take 8 = .ok (.iload 4, 2) := by decide +kernel
theorem dX4_take_10 : decode cX4_take 10 = .ok (.bipush 12, 2) := by decide +kernel
theorem dX4_take_12 : decode cX4_take 12 = .ok (.if_icmp .ge 44, 3) := by decide +kernel
theorem dX4_take_15 : decode cX4_take 15 = .ok (.aload_n 1, 1) := by decide +kernel
theorem dX4_take_16 : decode cX4_take 16 = .ok (.iload 4, 2) := by decide +kernel
theorem dX4_take_18 : decode cX4_take 18 = .ok (.iload_n 2, 1) := by decide +kernel
theorem dX4_take_19 : decode cX4_take 19 = .ok (.iload_n 3, 1) := by decide +kernel
theorem dX4_take_20 : decode cX4_take 20 = .ok (.invokevirtual 19, 3) := by decide +kernel
theorem dX4_take_23 : decode cX4_take 23 = .ok (.ifCond .eq 27, 3) := by decide +kernel
theorem dX4_take_26 : decode cX4_take 26 = .ok (.aload_n 0, 1) := by decide +kernel
theorem dX4_take_27 : decode cX4_take 27 = .ok (.getfield 9, 3) := by decide +kernel
theorem dX4_take_30 : decode cX4_take 30 = .ok (.aload_n 1, 1) := by decide +kernel
theorem dX4_take_31 : decode cX4_take 31 = .ok (.getfield 25, 3) := by decide +kernel
theorem dX4_take_34 : decode cX4_take 34 = .ok (.iload 4, 2) := by decide +kernel
theorem dX4_take_36 : decode cX4_take 36 = .ok (.iaload, 1) := by decide +kernel
theorem dX4_take_37 : decode cX4_take 37 = .ok (.iload 4, 2) := by decide +kernel
theorem dX4_take_39 : decode cX4_take 39 = .ok (.iastore, 1) := by decide +kernel
theorem dX4_take_40 : decode cX4_take 40 = .ok (.aload_n 0, 1) := by decide +kernel
theorem dX4_take_41 : decode cX4_take 41 = .ok (.dup, 1) := by decide +kernel
theorem dX4_take_42 : decode cX4_take 42 = .ok (.getfield 15, 3) := by decide +kernel
theorem dX4_take_45 : decode cX4_take 45 = .ok (.iconst 1, 1) := by decide +kernel
theorem dX4_take_46 : decode cX4_take 46 = .ok (.iadd, 1) := by decide +kernel
theorem dX4_take_47 : decode cX4_take 47 = .ok (.putfield 15, 3) := by decide +kernel
theorem dX4_take_50 : decode cX4_take 50 = .ok (.iinc 4 1, 3) := by decide +kernel
theorem dX4_take_53 : decode cX4_take 53 = .ok (.goto (-45), 3) := by decide +kernel
theorem dX4_take_56 : decode cX4_take 56 = .ok (.return_, 1) := by decide +kernel
theorem dX4_remove_0 : decode cX4_remove 0 = .ok (.iload_n 1, 1) := by decide +kernel
theorem dX4_remove_1 : decode cX4_remove 1 = .ok (.istore_n 2, 1) := by decide +kernel
theorem dX4_remove_2 : decode cX4_remove 2 = .ok (.iload_n 2, 1) := by decide +kernel
theorem dX4_remove_3 : decode cX4_remove 3 = .ok (.aload_n 0, 1) := by decide +kernel
theorem dX4_remove_4 : decode cX4_remove 4 = .ok (.getfield 15, 3) := by decide +kernel
theorem dX4_remove_7 : decode cX4_remove 7 = .ok (.iconst 1, 1) := by decide +kernel
theorem dX4_remove_8 : decode cX4_remove 8 = .ok (.isub, 1) := by decide +kernel
theorem dX4_remove_9 : decode cX4_remove 9 = .ok (.if_icmp .ge 23, 3) := by decide +kernel
theorem dX4_remove_12 : decode cX4_remove 12 = .ok (.aload_n 0, 1) := by decide +kernel
theorem dX4_remove_13 : decode cX4_remove 13 = .ok (.getfield 9, 3) := by decide +kernel
theorem dX4_remove_16 : decode cX4_remove 16 = .ok (.iload_n 2, 1) := by decide +kernel
theorem dX4_remove_17 : decode cX4_remove 17 = .ok (.aload_n 0, 1) := by decide +kernel
theorem dX4_remove_18 : decode cX4_remove 18 = .ok (.getfield 9, 3) := by decide +kernel
theorem dX4_remove_21 : decode cX4_remove 21 = .ok (.iload_n 2, 1) := by decide +kernel
theorem dX4_remove_22 : decode cX4_remove 22 = .ok (.iconst 1, 1) := by decide +kernel
theorem dX4_remove_23 : decode cX4_remove 23 = .ok (.iadd, 1) := by decide +kernel
theorem dX4_remove_24 : decode cX4_remove 24 = .ok (.iaload, 1) := by decide +kernel
theorem dX4_remove_25 : decode cX4_remove 25 = .ok (.iastore, 1) := by decide +kernel
theorem dX4_remove_26 : decode cX4_remove 26 = .ok (.iinc 2 1, 3) := by decide +kernel
theorem dX4_remove_29 : decode cX4_remove 29 = .ok (.goto (-27), 3) := by decide +kernel
theorem dX4_remove_32 : decode cX4_remove 32 = .ok (.aload_n 0, 1) := by decide +kernel
theorem dX4_remove_33 : decode cX4_remove 33 = .ok (.dup, 1) := by decide +kernel
theorem dX4_remove_34 : decode cX4_remove 34 = .ok (.getfield 15, 3) := by decide +kernel
theorem dX4_remove_37 : decode cX4_remove 37 = .ok (.iconst 1, 1) := by decide +kernel
theorem dX4_remove_38 : decode cX4_remove 38 = .ok (.isub, 1) := by decide +kernel
theorem dX4_remove_39 : decode cX4_remove 39 = .ok (.putfield 15, 3) := by decide +kernel
theorem dX4_remove_42 : decode cX4_remove 42 = .ok (.return_, 1) := by decide +kernel
set_option maxHeartbeats 4000000 in
set_option maxRecDepth 100000 in
theorem c_fill (l : Launch) (D : DG) (cyC cyI cyJ cyZ cyO : ClassId) (a : Nat) (v : Int32) (f : Nat → Int32) : KK l D (TY cyC cyI cyJ cyZ cyO) yJ7_fill_53178 cJ7_fill_53178 4 none ({ frames := 0, cells := 0, slots := 0, locals := 0 } : Room) 0 0 [.ref a, .int v] [(a, .inl (cyI, 12, .inl f))] (fun u => none) (fun u => True) (fun u => [(a, .inl (cyI, 12, .inl (fun _ => v)))]) := by
  refine KK.of (lv0 := [(0, .ref a), (1, .int v)]) (by decide) rfl (Nat.le_of_ble_eq_true rfl) ?_
  intro p e s m args below meth c A C hr hk hin
  refine j_iconst (pc := 0) (v := 0) C dJ7_fill_53178_0 (by decide) ?_
  refine j_istore_n (pc := 1) (lv' := [(2, .int 0), (0, .ref a), (1, .int v)]) C dJ7_fill_53178_1 rfl (by decide) rfl ?_
  refine j_aload_n (pc := 2) C dJ7_fill_53178_2 rfl 1 rfl ?_
  refine j_alen (pc := 3) (v := 12) C 0 1 rfl rfl rfl dJ7_fill_53178_3 ?_
  refine j_istore_n (pc := 4) (lv' := [(3, .int 12), (2, .int 0), (0, .ref a), (1, .int v)]) C dJ7_fill_53178_4 rfl (by decide) rfl ?_
  have loop : ∀ (k i : Nat) (g : Nat → Int32), i + k = 12 → (∀ j, j < i → g j = v) → J p l e ({ frames := 0, cells := 0, slots := 0, locals := 0 } : Room) s m args below meth c D A 4 0 0 (QX below D (TY cyC cyI cyJ cyZ cyO) A (fun u => none) (fun u => True) (fun u => [(a, .inl (cyI, 12, .inl (fun _ => v)))]) args s 0 0) [(a, .inl (cyI, 12, .inl g))] 5 [(2, .int (nI i)), (3, .int 12), (0, .ref a), (1, .int v)] [] := by
    intro k
    induction k with
    | zero =>
      intro i g hi hg
      obtain rfl : i = 12 := by omega
      refine j_iload_n (pc := 5) C dJ7_fill_53178_5 rfl 0 rfl ?_
      refine j_iload_n (pc := 6) C dJ7_fill_53178_6 rfl 1 rfl ?_
      refine j_icmp_ge_t (pc := 7) (tgt := 20) C dJ7_fill_53178_7 (by decide) (by decide) ?_
      refine j_arrc (q0 := 0) (g := fun _ => v) (ws' := [(a, .inl (cyI, 12, .inl (fun _ => v)))]) rfl hg rfl ?_
      exact j_vret (pc := 20) C hr hk (fun i => [].getD i 0, fun _ => 0, fun _ _ => 0, fun _ _ => 0) rfl trivial [0] (by decide) rfl (by decide) (by decide) dJ7_fill_53178_20
    | succ k ih =>
      intro i g hi hg
      refine j_iload_n (pc := 5) C dJ7_fill_53178_5 rfl 0 rfl ?_
      refine j_iload_n (pc := 6) C dJ7_fill_53178_6 rfl 1 rfl ?_
      refine j_icmp_ge_f (pc := 7) (tgt := 20) C dJ7_fill_53178_7 (by decide) (nI12 12 (by omega) (by decide)) ?_
      refine j_aload_n (pc := 10) C dJ7_fill_53178_10 rfl 2 rfl ?_
      refine j_iload_n (pc := 11) C dJ7_fill_53178_11 rfl 0 rfl ?_
      refine j_iload_n (pc := 12) C dJ7_fill_53178_12 rfl 3 rfl ?_
      refine j_iast (pc := 13) (k := i) (ws' := [(a, .inl (cyI, 12, .inl (upd g i v)))]) C 0 1 rfl rfl (nI_pos (by omega)) (nI_clamp (by omega)) (by omega) dJ7_fill_53178_13 rfl ?_
      refine j_iinc (pc := 14) (v := (nI (i + 1))) (lv' := [(2, .int (nI (i + 1))), (3, .int 12), (0, .ref a), (1, .int v)]) C dJ7_fill_53178_14 0 rfl (nI_1 i) (by decide) rfl ?_
      refine j_goto (pc := 17) (tgt := 5) C dJ7_fill_53178_17 (by decide) ?_
      exact j_lv [0, 1, 2, 3] rfl (ih (i + 1) _ (by omega) (upd_all (P := fun _ x => x = v) hg rfl))
  exact j_lv [1, 0, 2, 3] rfl (loop 12 0 f rfl (fun j hj => absurd hj (Nat.not_lt_zero j)))
set_option maxHeartbeats 4000000 in
set_option maxRecDepth 100000 in
theorem c_X7_empty (l : Launch) (D : DG) (cyC cyI cyJ cyZ cyO : ClassId) (n0 : Nat) (n1 : Nat) (n2 : Nat) (n3 : Nat) (n4 : Nat) (n_askings : Int32) (n_cost : Int32) (n_laid : Int32) (n_shelf : Nat → Int32) (h_n_askings : 0 ≤ (n_askings).toInt ∧ (n_askings).toInt ≤ 30) (h_n_laid : 0 ≤ (n_laid).toInt ∧ (n_laid).toInt ≤ 1) (h_n_shelf : Iv 12 (-1) (3) n_shelf) : KK l D (TY cyC cyI cyJ cyZ cyO) yX7_empty cX7_empty 1 none ({ frames := 1, cells := 0, slots := 0, locals := 23 } : Room) 0 0 [.ref n0] [(n0, .inr (7, [.ref n1, .ref n2, .ref n3, .ref n4, .int n_askings, .int n_cost, .int n_laid])), (n1, .inl (cyI, 12, .inl n_shelf))] (fun u => none) (fun u => True) (fun u => [(n0, .inr (7, [.ref n1, .ref n2, .ref n3, .ref n4, .int 0, .int n_cost, .int n_laid])), (n1, .inl (cyI, 12, .inl (fun _ => (-1))))]) := by
  refine KK.of (lv0 := [(0, .ref n0)]) (by decide) rfl (Nat.le_of_ble_eq_true rfl) ?_
  intro p e s m args below meth c A C hr hk hin
  refine j_aload_n (pc := 0) C dX7_empty_0 rfl 0 rfl ?_
  refine j_get (pc := 1) (ci := 7) (v := .ref n1) C inw_7 0 rfl rfl 0 (by decide) wd_2 rfl rfl dX7_empty_1 ?_
  refine j_iconst (pc := 4) (v := (-1)) C dX7_empty_4 (by decide) ?_
  refine j_callS (pc := 5) (As := [.ref n1, .int (-1)]) (rest := []) (wr := [(n0, .inr (7, [.ref n1, .ref n2, .ref n3, .ref n4, .int n_askings, .int n_cost, .int n_laid]))]) C (c_fill l D cyC cyI cyJ cyZ cyO n1 (-1) n_shelf) wd_50 wd_51 wd_52 wd_53 ⟨by decide, by decide, rfl⟩ rfl ⟨rfl, rfl, by decide, by decide⟩ ⟨by decide, by decide⟩ [1] [0] rfl rfl ⟨by decide, by decide, by decide⟩ rfl (Nat.le_of_ble_eq_true rfl) dX7_empty_5 (fun u_1 hw_2 => ?_)
  refine j_eq (ws2 := [(n0, .inr (7, [.ref n1, .ref n2, .ref n3, .ref n4, .int n_askings, .int n_cost, .int n_laid])), (n1, .inl (cyI, 12, .inl (fun _ => (-1))))]) (pc2 := 8) (lv2 := [(0, .ref n0)]) (st2 := []) rfl rfl rfl rfl ?_
  refine j_aload_n (pc := 8) C dX7_empty_8 rfl 0 rfl ?_
  refine j_iconst (pc := 9) (v := 0) C dX7_empty_9 (by decide) ?_
  refine j_put (pc := 10) (ci := 7) (v := .int 0) (ws' := [(n0, .inr (7, [.ref n1, .ref n2, .ref n3, .ref n4, .int 0, .int n_cost, .int n_laid])), (n1, .inl (cyI, 12, .inl (fun _ => (-1))))]) C inw_7 0 rfl rfl 4 (by decide) wd_22 rfl tyX7_ok nmX7 rfl (tyX7_ok 4 (by decide)) rfl rfl (Nat.le_of_ble_eq_true rfl) dX7_empty_10 rfl ?_
  exact j_vret (pc := 13) C hr hk (fun i => [].getD i 0, fun i => [].getD i 0, fun i => [].getD i (fun _ => 0), fun i => [].getD i (fun _ => 0)) rfl trivial [0, 1] (by decide) rfl (by decide) (by decide) dX7_empty_13
theorem cnB_lt {P : Nat → Bool} {w : Nat} (h : ¬ P w = true) : ∀ m, w < m → cnB P m ≤ m - 1 := by
  intro m
  induction m with
  | zero => intro h; exact absurd h (Nat.not_lt_zero w)
  | succ m ih =>
    intro hw
    by_cases e : w = m
    · rw [← e, cnB_n h]; have := cnB_le P w; omega
    · have i := ih (by omega)
      by_cases q : P m = true
      · rw [cnB_y q]; omega
      · rw [cnB_n q]; omega
theorem cnB_ge {P : Nat → Bool} {w : Nat} (h : P w = true) : ∀ m, w < m → 1 ≤ cnB P m := by
  intro m
  induction m with
  | zero => intro h; exact absurd h (Nat.not_lt_zero w)
  | succ m ih =>
    intro hw
    by_cases e : w = m
    · rw [← e, cnB_y h]; omega
    · have i := ih (by omega)
      by_cases q : P m = true
      · rw [cnB_y q]; omega
      · rw [cnB_n q]; omega
set_option maxHeartbeats 4000000 in
set_option maxRecDepth 100000 in
theorem c_X7_add (l : Launch) (D : DG) (cyC cyI cyJ cyZ cyO : ClassId) (n0 : Nat) (n1 : Nat) (n2 : Nat) (n3 : Nat) (n4 : Nat) (p0 : Int32) (p1 : Int32) (p2 : Int32) (n_askings : Int32) (n_cost : Int32) (n_laid : Int32) (n_shelf : Nat → Int32) (n_stack : Nat → Int32) (n_level : Nat → Int32) (h_n_askings : 0 ≤ (n_askings).toInt ∧ (n_askings).toInt ≤ 30) (h_n_laid : 0 ≤ (n_laid).toInt ∧ (n_laid).toInt ≤ 1) (h_p0 : 0 ≤ (p0).toInt ∧ (p0).toInt ≤ 11) (h_p1 : 0 ≤ (p1).toInt ∧ (p1).toInt ≤ 3) (h_p2 : 0 ≤ (p2).toInt ∧ (p2).toInt ≤ 7) (h_n_shelf : Iv 12 (-1) (3) n_shelf) (h_n_stack : Iv 12 (0) (7) n_stack) (h_n_level : Iv 12 (0) (11) n_level) (hout : n_shelf (p0).toInt.toNat = -1) : KK l D (TY cyC cyI cyJ cyZ cyO) yX7_add cX7_add 4 none ({ frames := 2, cells := 0, slots := 0, locals := 47 } : Room) 0 0 [.ref n0, .int p0, .int p1, .int p2] [(n0, .inr (7, [.ref n1, .ref n2, .ref n3, .ref n4, .int n_askings, .int n_cost, .int n_laid])), (n1, .inl (cyI, 12, .inl n_shelf)), (n2, .inl (cyI, 12, .inl n_stack)), (n3, .inl (cyI, 12, .inl n_level))] (fun u => none) (fun u => (Iv 12 (-1) (3) (u.2.2.1 0)) ∧ (Iv 12 (0) (7) (u.2.2.1 1)) ∧ (Iv 12 (0) (11) (u.2.2.1 2)) ∧ ((u.2.2.1 0) = upd n_shelf (p0).toInt.toNat p1) ∧ ((u.2.2.1 1) = upd n_stack (p0).toInt.toNat p2) ∧ (∀ j : Nat, ¬ j = (p0).toInt.toNat → (u.2.2.1 2) j = n_level j) ∧ (((u.2.2.1 2) (p0).toInt.toNat).toInt = ((cnB (std n_shelf n_stack p1 p2) 12 : Nat) : Int))) (fun u => [(n0, .inr (7, [.ref n1, .ref n2, .ref n3, .ref n4, .int n_askings, .int n_cost, .int n_laid])), (n1, .inl (cyI, 12, .inl (u.2.2.1 0))), (n2, .inl (cyI, 12, .inl (u.2.2.1 1))), (n3, .inl (cyI, 12, .inl (u.2.2.1 2)))]) := by
  refine KK.of (lv0 := [(0, .ref n0), (1, .int p0), (2, .int p1), (3, .int p2)]) (by decide) rfl (Nat.le_of_ble_eq_true rfl) ?_
  intro p e s m args below meth c A C hr hk hin
  refine j_aload_n (pc := 0) C dX7_add_0 rfl 0 rfl ?_
  refine j_get (pc := 1) (ci := 7) (v := .ref n3) C inw_7 0 rfl rfl 2 (by decide) wd_21 rfl rfl dX7_add_1 ?_
  refine j_iload_n (pc := 4) C dX7_add_4 rfl 1 rfl ?_
  refine j_aload_n (pc := 5) C dX7_add_5 rfl 0 rfl ?_
  refine j_iload_n (pc := 6) C dX7_add_6 rfl 2 rfl ?_
  refine j_iload_n (pc := 7) C dX7_add_7 rfl 3 rfl ?_
  refine j_callV (pc := 8) (As := [.int p1, .int p2]) (rest := [.int p0, .ref n3]) (wr := [(n3, .inl (cyI, 12, .inl n_level))]) C (c_X7_size l D cyC cyI cyJ cyZ cyO n0 n1 n2 n3 n4 p1 p2 n_askings n_cost n_laid n_shelf n_stack h_n_askings h_n_laid h_n_shelf h_n_stack) wd_54 wd_9 wd_55 wd_56 wd_57 ⟨by decide, by decide, rfl⟩ rfl ⟨rfl, rfl, by decide, by decide⟩ ⟨by decide, by decide⟩ [0, 1, 2] [3] rfl rfl ⟨by decide, by decide, by decide⟩ 0 rfl rfl rfl (Nat.le_of_ble_eq_true rfl) dX7_add_8 (fun u_1 hw_2 => ?_)
  refine j_eq (ws2 := [(n3, .inl (cyI, 12, .inl n_level)), (n0, .inr (7, [.ref n1, .ref n2, .ref n3, .ref n4, .int n_askings, .int n_cost, .int n_laid])), (n1, .inl (cyI, 12, .inl n_shelf)), (n2, .inl (cyI, 12, .inl n_stack))]) (pc2 := 11) (lv2 := [(0, .ref n0), (1, .int p0), (2, .int p1), (3, .int p2)]) (st2 := [.int (u_1.2.1 0), .int p0, .ref n3]) rfl rfl rfl rfl ?_
  obtain ⟨hw_2_0, hw_2_1⟩ := hw_2
  have hz9 := cnB_lt (P := std n_shelf n_stack p1 p2) (w := (p0.toInt).toNat) (fun z => by have h9 := congrArg Int32.toInt (hout.symm.trans (std_iff.mp z).1); have h8 : (-1 : Int32).toInt = -1 := rfl; omega) 12 (by omega)
  have hz8 := hw_2_1
  obtain ⟨f_3, ef_3⟩ : ∃ z, z = upd n_level (p0).toInt.toNat (u_1.2.1 0) := ⟨_, rfl⟩
  have hf_3 : Iv 12 (0) (11) f_3 := by rw [ef_3]; exact Iv.upd h_n_level (by omega) (by omega)
  refine j_iast (pc := 11) (k := (p0).toInt.toNat) (ws' := [(n3, .inl (cyI, 12, .inl f_3)), (n0, .inr (7, [.ref n1, .ref n2, .ref n3, .ref n4, .int n_askings, .int n_cost, .int n_laid])), (n1, .inl (cyI, 12, .inl n_shelf)), (n2, .inl (cyI, 12, .inl n_stack))]) C 0 1 rfl rfl (i_nn h_p0.1) rfl (i_lt_n h_p0.1 (Int.lt_of_le_of_lt h_p0.2 (by decide))) dX7_add_11 (by rw [ef_3]; rfl) ?_
  refine j_aload_n (pc := 12) C dX7_add_12 rfl 0 rfl ?_
  refine j_get (pc := 13) (ci := 7) (v := .ref n1) C inw_7 1 rfl rfl 0 (by decide) wd_2 rfl rfl dX7_add_13 ?_
  refine j_iload_n (pc := 16) C dX7_add_16 rfl 1 rfl ?_
  refine j_iload_n (pc := 17) C dX7_add_17 rfl 2 rfl ?_
  obtain ⟨f_4, ef_4⟩ : ∃ z, z = upd n_shelf (p0).toInt.toNat p1 := ⟨_, rfl⟩
  have hf_4 : Iv 12 (-1) (3) f_4 := by rw [ef_4]; exact Iv.upd h_n_shelf (by omega) (by omega)
  refine j_iast (pc := 18) (k := (p0).toInt.toNat) (ws' := [(n3, .inl (cyI, 12, .inl f_3)), (n0, .inr (7, [.ref n1, .ref n2, .ref n3, .ref n4, .int n_askings, .int n_cost, .int n_laid])), (n1, .inl (cyI, 12, .inl f_4)), (n2, .inl (cyI, 12, .inl n_stack))]) C 2 1 rfl rfl (i_nn h_p0.1) rfl (i_lt_n h_p0.1 (Int.lt_of_le_of_lt h_p0.2 (by decide))) dX7_add_18 (by rw [ef_4]; rfl) ?_
  refine j_aload_n (pc := 19) C dX7_add_19 rfl 0 rfl ?_
  refine j_get (pc := 20) (ci := 7) (v := .ref n2) C inw_7 1 rfl rfl 1 (by decide) wd_3 rfl rfl dX7_add_20 ?_
  refine j_iload_n (pc := 23) C dX7_add_23 rfl 1 rfl ?_
  refine j_iload_n (pc := 24) C dX7_add_24 rfl 3 rfl ?_
  obtain ⟨f_5, ef_5⟩ : ∃ z, z = upd n_stack (p0).toInt.toNat p2 := ⟨_, rfl⟩
  have hf_5 : Iv 12 (0) (7) f_5 := by rw [ef_5]; exact Iv.upd h_n_stack (by omega) (by omega)
  refine j_iast (pc := 25) (k := (p0).toInt.toNat) (ws' := [(n3, .inl (cyI, 12, .inl f_3)), (n0, .inr (7, [.ref n1, .ref n2, .ref n3, .ref n4, .int n_askings, .int n_cost, .int n_laid])), (n1, .inl (cyI, 12, .inl f_4)), (n2, .inl (cyI, 12, .inl f_5))]) C 3 1 rfl rfl (i_nn h_p0.1) rfl (i_lt_n h_p0.1 (Int.lt_of_le_of_lt h_p0.2 (by decide))) dX7_add_25 (by rw [ef_5]; rfl) ?_
  exact j_vret (pc := 26) C hr hk (fun i => [].getD i 0, fun i => [].getD i 0, fun i => [f_4, f_5, f_3].getD i (fun _ => 0), fun i => [].getD i (fun _ => 0)) rfl (show (Iv 12 (-1) (3) f_4) ∧ (Iv 12 (0) (7) f_5) ∧ (Iv 12 (0) (11) f_3) ∧ (f_4 = upd n_shelf (p0).toInt.toNat p1) ∧ (f_5 = upd n_stack (p0).toInt.toNat p2) ∧ (∀ j : Nat, ¬ j = (p0).toInt.toNat → f_3 j = n_level j) ∧ ((f_3 (p0).toInt.toNat).toInt = ((cnB (std n_shelf n_stack p1 p2) 12 : Nat) : Int)) from ⟨hf_4, hf_5, hf_3, ef_4, ef_5, (fun j hj => by rw [ef_3]; exact pk_un hj), (by rw [ef_3, pk_us]; exact hw_2_1)⟩) [1, 2, 3, 0] (by decide) rfl (by decide) (by decide) dX7_add_26
set_option maxHeartbeats 4000000 in
set_option maxRecDepth 100000 in
theorem c_X7_remove (l : Launch) (D : DG) (cyC cyI cyJ cyZ cyO : ClassId) (n0 : Nat) (n1 : Nat) (n2 : Nat) (n3 : Nat) (n4 : Nat) (p0 : Int32) (n_askings : Int32) (n_cost : Int32) (n_laid : Int32) (n_shelf : Nat → Int32) (n_stack : Nat → Int32) (n_level : Nat → Int32) (h_n_askings : 0 ≤ (n_askings).toInt ∧ (n_askings).toInt ≤ 30) (h_n_laid : 0 ≤ (n_laid).toInt ∧ (n_laid).toInt ≤ 1) (h_p0 : 0 ≤ (p0).toInt ∧ (p0).toInt ≤ 11) (h_n_shelf : Iv 12 (-1) (3) n_shelf) (h_n_stack : Iv 12 (0) (7) n_stack) (h_n_level : Iv 12 (0) (11) n_level) : KK l D (TY cyC cyI cyJ cyZ cyO) yX7_remove cX7_remove 3 none ({ frames := 2, cells := 0, slots := 0, locals := 47 } : Room) 0 0 [.ref n0, .int p0] [(n0, .inr (7, [.ref n1, .ref n2, .ref n3, .ref n4, .int n_askings, .int n_cost, .int n_laid])), (n1, .inl (cyI, 12, .inl n_shelf)), (n2, .inl (cyI, 12, .inl n_stack)), (n3, .inl (cyI, 12, .inl n_level))] (fun u => none) (fun u => (Iv 12 (-1) (3) (u.2.2.1 0)) ∧ (Iv 12 (0) (7) (u.2.2.1 1)) ∧ (Iv 12 (0) (11) (u.2.2.1 2)) ∧ ((u.2.2.1 0) = upd n_shelf (p0).toInt.toNat (-1)) ∧ (∀ j : Nat, j < 12 → ((u.2.2.1 2) j).toInt = (snk n_shelf n_stack n_level (p0).toInt.toNat) j) ∧ (∀ j : Nat, j < 12 → ((u.2.2.1 1) j).toInt = rmS (u.2.2.1 0) n_stack (n_shelf (p0).toInt.toNat) (n_stack (p0).toInt.toNat) j)) (fun u => [(n0, .inr (7, [.ref n1, .ref n2, .ref n3, .ref n4, .int n_askings, .int n_cost, .int n_laid])), (n1, .inl (cyI, 12, .inl (u.2.2.1 0))), (n2, .inl (cyI, 12, .inl (u.2.2.1 1))), (n3, .inl (cyI, 12, .inl (u.2.2.1 2)))]) := by
  refine KK.of (lv0 := [(0, .ref n0), (1, .int p0)]) (by decide) rfl (Nat.le_of_ble_eq_true rfl) ?_
  intro p e s m args below meth c A C hr hk hin
  refine j_aload_n (pc := 0) C dX7_remove_0 rfl 0 rfl ?_
  refine j_get (pc := 1) (ci := 7) (v := .ref n1) C inw_7 0 rfl rfl 0 (by decide) wd_2 rfl rfl dX7_remove_1 ?_
  refine j_iload_n (pc := 4) C dX7_remove_4 rfl 1 rfl ?_
  obtain ⟨v_1, ev_1⟩ : ∃ z, n_shelf (p0).toInt.toNat = z := ⟨_, rfl⟩
  have env_1 : (n_shelf (p0).toInt.toNat).toInt = v_1.toInt := by rw [ev_1]
  have hv_1 := h_n_shelf (p0).toInt.toNat (i_lt_n h_p0.1 (Int.lt_of_le_of_lt h_p0.2 (by decide))); rw [ev_1] at hv_1
  refine j_iald (pc := 5) (v := v_1) (k := (p0).toInt.toNat) C 1 1 rfl rfl (i_nn h_p0.1) rfl (i_lt_n h_p0.1 (Int.lt_of_le_of_lt h_p0.2 (by decide))) ev_1 dX7_remove_5 ?_
  refine j_istore_n (pc := 6) (lv' := [(2, .int v_1), (0, .ref n0), (1, .int p0)]) C dX7_remove_6 rfl (by decide) rfl ?_
  refine j_aload_n (pc := 7) C dX7_remove_7 rfl 1 rfl ?_
  refine j_iload_n (pc := 8) C dX7_remove_8 rfl 2 rfl ?_
  refine j_callV (pc := 9) (As := [.int p0]) (rest := []) (wr := []) C (c_X7_sinkAbove l D cyC cyI cyJ cyZ cyO n0 n1 n2 n3 n4 p0 n_askings n_cost n_laid n_shelf n_stack n_level h_n_askings h_n_laid h_p0 h_n_shelf h_n_stack h_n_level) wd_58 wd_9 wd_59 wd_60 wd_61 ⟨by decide, by decide, rfl⟩ rfl ⟨rfl, rfl, by decide, by decide⟩ ⟨by decide, by decide⟩ [0, 1, 2, 3] [] rfl rfl ⟨by decide, by decide, by decide⟩ 0 rfl rfl rfl (Nat.le_of_ble_eq_true rfl) dX7_remove_9 (fun u_2 hw_3 => ?_)
  refine j_eq (ws2 := [(n0, .inr (7, [.ref n1, .ref n2, .ref n3, .ref n4, .int n_askings, .int n_cost, .int n_laid])), (n1, .inl (cyI, 12, .inl n_shelf)), (n2, .inl (cyI, 12, .inl n_stack)), (n3, .inl (cyI, 12, .inl (u_2.2.2.1 0)))]) (pc2 := 12) (lv2 := [(2, .int v_1), (0, .ref n0), (1, .int p0)]) (st2 := []) rfl rfl rfl rfl ?_
  obtain ⟨hw_3_0, hw_3_1⟩ := hw_3
  refine j_aload_n (pc := 12) C dX7_remove_12 rfl 1 rfl ?_
  refine j_get (pc := 13) (ci := 7) (v := .ref n1) C inw_7 0 rfl rfl 0 (by decide) wd_2 rfl rfl dX7_remove_13 ?_
  refine j_iload_n (pc := 16) C dX7_remove_16 rfl 2 rfl ?_
  refine j_iconst (pc := 17) (v := (-1)) C dX7_remove_17 (by decide) ?_
  obtain ⟨f_4, ef_4⟩ : ∃ z, z = upd n_shelf (p0).toInt.toNat (-1) := ⟨_, rfl⟩
  have el_m1 : ((-1) : Int32).toInt = (-1) := rfl
  have hf_4 : Iv 12 (-1) (3) f_4 := by rw [ef_4]; exact Iv.upd h_n_shelf (by omega) (by omega)
  refine j_iast (pc := 18) (k := (p0).toInt.toNat) (ws' := [(n0, .inr (7, [.ref n1, .ref n2, .ref n3, .ref n4, .int n_askings, .int n_cost, .int n_laid])), (n1, .inl (cyI, 12, .inl f_4)), (n2, .inl (cyI, 12, .inl n_stack)), (n3, .inl (cyI, 12, .inl (u_2.2.2.1 0)))]) C 1 1 rfl rfl (i_nn h_p0.1) rfl (i_lt_n h_p0.1 (Int.lt_of_le_of_lt h_p0.2 (by decide))) dX7_remove_18 (by rw [ef_4]; rfl) ?_
  refine j_aload_n (pc := 19) C dX7_remove_19 rfl 1 rfl ?_
  refine j_iload_n (pc := 20) C dX7_remove_20 rfl 0 rfl ?_
  refine j_aload_n (pc := 21) C dX7_remove_21 rfl 1 rfl ?_
  refine j_get (pc := 22) (ci := 7) (v := .ref n2) C inw_7 0 rfl rfl 1 (by decide) wd_3 rfl rfl dX7_remove_22 ?_
  refine j_iload_n (pc := 25) C dX7_remove_25 rfl 2 rfl ?_
  obtain ⟨v_5, ev_5⟩ : ∃ z, n_stack (p0).toInt.toNat = z := ⟨_, rfl⟩
  have env_5 : (n_stack (p0).toInt.toNat).toInt = v_5.toInt := by rw [ev_5]
  have hv_5 := h_n_stack (p0).toInt.toNat (i_lt_n h_p0.1 (Int.lt_of_le_of_lt h_p0.2 (by decide))); rw [ev_5] at hv_5
  refine j_iald (pc := 26) (v := v_5) (k := (p0).toInt.toNat) C 2 1 rfl rfl (i_nn h_p0.1) rfl (i_lt_n h_p0.1 (Int.lt_of_le_of_lt h_p0.2 (by decide))) ev_5 dX7_remove_26 ?_
  refine j_callV (pc := 27) (As := [.int v_1, .int v_5]) (rest := []) (wr := [(n3, .inl (cyI, 12, .inl (u_2.2.2.1 0)))]) C (c_X7_size l D cyC cyI cyJ cyZ cyO n0 n1 n2 n3 n4 v_1 v_5 n_askings n_cost n_laid f_4 n_stack h_n_askings h_n_laid hf_4 h_n_stack) wd_54 wd_9 wd_55 wd_56 wd_57 ⟨by decide, by decide, rfl⟩ rfl ⟨rfl, rfl, by decide, by decide⟩ ⟨by decide, by decide⟩ [0, 1, 2] [3] rfl rfl ⟨by decide, by decide, by decide⟩ 0 rfl rfl rfl (Nat.le_of_ble_eq_true rfl) dX7_remove_27 (fun u_6 hw_7 => ?_)
  refine j_eq (ws2 := [(n3, .inl (cyI, 12, .inl (u_2.2.2.1 0))), (n0, .inr (7, [.ref n1, .ref n2, .ref n3, .ref n4, .int n_askings, .int n_cost, .int n_laid])), (n1, .inl (cyI, 12, .inl f_4)), (n2, .inl (cyI, 12, .inl n_stack))]) (pc2 := 30) (lv2 := [(2, .int v_1), (0, .ref n0), (1, .int p0)]) (st2 := [.int (u_6.2.1 0)]) rfl rfl rfl rfl ?_
  obtain ⟨hw_7_0, hw_7_1⟩ := hw_7
  refine j_if_ne (pc := 30) (tgt := 44) C dX7_remove_30 (by decide) (fun c_8 => ?_) (fun c_8 => ?_)
  · skip
    have el_0 : (0 : Int32).toInt = 0 := rfl
    rw [i_eq] at c_8
    exact j_vret (pc := 44) C hr hk (fun i => [].getD i 0, fun i => [].getD i 0, fun i => [f_4, n_stack, (u_2.2.2.1 0)].getD i (fun _ => 0), fun i => [].getD i (fun _ => 0)) rfl (show (Iv 12 (-1) (3) f_4) ∧ (Iv 12 (0) (7) n_stack) ∧ (Iv 12 (0) (11) (u_2.2.2.1 0)) ∧ (f_4 = upd n_shelf (p0).toInt.toNat (-1)) ∧ (∀ j : Nat, j < 12 → ((u_2.2.2.1 0) j).toInt = (snk n_shelf n_stack n_level (p0).toInt.toNat) j) ∧ (∀ j : Nat, j < 12 → (n_stack j).toInt = rmS f_4 n_stack (n_shelf (p0).toInt.toNat) (n_stack (p0).toInt.toNat) j) from ⟨hf_4, h_n_stack, hw_3_0, ef_4, hw_3_1, (fun j hj => by rw [ev_1, ev_5]; exact (if_neg (by have y9 := hw_7_1; omega)).symm)⟩) [1, 2, 3, 0] (by decide) rfl (by decide) (by decide) dX7_remove_44
  · skip
    have el_0 : (0 : Int32).toInt = 0 := rfl
    rw [i_eq] at c_8
    refine j_aload_n (pc := 33) C dX7_remove_33 rfl 1 rfl ?_
    refine j_iload_n (pc := 34) C dX7_remove_34 rfl 0 rfl ?_
    refine j_aload_n (pc := 35) C dX7_remove_35 rfl 1 rfl ?_
    refine j_get (pc := 36) (ci := 7) (v := .ref n2) C inw_7 1 rfl rfl 1 (by decide) wd_3 rfl rfl dX7_remove_36 ?_
    refine j_iload_n (pc := 39) C dX7_remove_39 rfl 2 rfl ?_
    refine j_iald (pc := 40) (v := v_5) (k := (p0).toInt.toNat) C 3 1 rfl rfl (i_nn h_p0.1) rfl (i_lt_n h_p0.1 (Int.lt_of_le_of_lt h_p0.2 (by decide))) ev_5 dX7_remove_40 ?_
    refine j_callV (pc := 41) (As := [.int v_1, .int v_5]) (rest := []) (wr := [(n3, .inl (cyI, 12, .inl (u_2.2.2.1 0)))]) C (c_X7_closeGap l D cyC cyI cyJ cyZ cyO n0 n1 n2 n3 n4 v_1 v_5 n_askings n_cost n_laid f_4 n_stack h_n_askings h_n_laid hv_5 hf_4 h_n_stack) wd_62 wd_9 wd_63 wd_64 wd_65 ⟨by decide, by decide, rfl⟩ rfl ⟨rfl, rfl, by decide, by decide⟩ ⟨by decide, by decide⟩ [1, 2, 3] [0] rfl rfl ⟨by decide, by decide, by decide⟩ 1 rfl rfl rfl (Nat.le_of_ble_eq_true rfl) dX7_remove_41 (fun u_9 hw_10 => ?_)
    refine j_eq (ws2 := [(n3, .inl (cyI, 12, .inl (u_2.2.2.1 0))), (n0, .inr (7, [.ref n1, .ref n2, .ref n3, .ref n4, .int n_askings, .int n_cost, .int n_laid])), (n1, .inl (cyI, 12, .inl f_4)), (n2, .inl (cyI, 12, .inl (u_9.2.2.1 0)))]) (pc2 := 44) (lv2 := [(2, .int v_1), (0, .ref n0), (1, .int p0)]) (st2 := []) rfl rfl rfl rfl ?_
    obtain ⟨hw_10_0, hw_10_1⟩ := hw_10
    exact j_vret (pc := 44) C hr hk (fun i => [].getD i 0, fun i => [].getD i 0, fun i => [f_4, (u_9.2.2.1 0), (u_2.2.2.1 0)].getD i (fun _ => 0), fun i => [].getD i (fun _ => 0)) rfl (show (Iv 12 (-1) (3) f_4) ∧ (Iv 12 (0) (7) (u_9.2.2.1 0)) ∧ (Iv 12 (0) (11) (u_2.2.2.1 0)) ∧ (f_4 = upd n_shelf (p0).toInt.toNat (-1)) ∧ (∀ j : Nat, j < 12 → ((u_2.2.2.1 0) j).toInt = (snk n_shelf n_stack n_level (p0).toInt.toNat) j) ∧ (∀ j : Nat, j < 12 → ((u_9.2.2.1 0) j).toInt = rmS f_4 n_stack (n_shelf (p0).toInt.toNat) (n_stack (p0).toInt.toNat) j) from ⟨hf_4, hw_10_0, hw_3_0, ef_4, hw_3_1, (fun j hj => by rw [ev_1, ev_5, show rmS f_4 n_stack v_1 v_5 j = gpf f_4 n_stack v_1 v_5 j from if_pos (by have y9 := hw_7_1; omega)]; exact hw_10_1 j hj)⟩) [1, 2, 3, 0] (by decide) rfl (by decide) (by decide) dX7_remove_44
set_option maxHeartbeats 4000000 in
set_option maxRecDepth 100000 in
theorem c_X7_raise (l : Launch) (D : DG) (cyC cyI cyJ cyZ cyO : ClassId) (n0 : Nat) (n1 : Nat) (n2 : Nat) (n3 : Nat) (n4 : Nat) (p0 : Int32) (n_askings : Int32) (n_cost : Int32) (n_laid : Int32) (n_shelf : Nat → Int32) (n_stack : Nat → Int32) (n_level : Nat → Int32) (h_n_askings : 0 ≤ (n_askings).toInt ∧ (n_askings).toInt ≤ 30) (h_n_laid : 0 ≤ (n_laid).toInt ∧ (n_laid).toInt ≤ 1) (h_p0 : 0 ≤ (p0).toInt ∧ (p0).toInt ≤ 11) (h_n_shelf : Iv 12 (-1) (3) n_shelf) (h_n_stack : Iv 12 (0) (7) n_stack) (h_n_level : Iv 12 (0) (11) n_level) : KK l D (TY cyC cyI cyJ cyZ cyO) yX7_raise cX7_raise 2 none ({ frames := 2, cells := 0, slots := 0, locals := 47 } : Room) 0 0 [.ref n0, .int p0] [(n0, .inr (7, [.ref n1, .ref n2, .ref n3, .ref n4, .int n_askings, .int n_cost, .int n_laid])), (n1, .inl (cyI, 12, .inl n_shelf)), (n2, .inl (cyI, 12, .inl n_stack)), (n3, .inl (cyI, 12, .inl n_level))] (fun u => none) (fun u => (Iv 12 (0) (11) (u.2.2.1 0)) ∧ (∀ j : Nat, j < 12 → ((u.2.2.1 0) j).toInt = rsS n_shelf n_stack n_level (p0).toInt.toNat j)) (fun u => [(n0, .inr (7, [.ref n1, .ref n2, .ref n3, .ref n4, .int n_askings, .int n_cost, .int n_laid])), (n1, .inl (cyI, 12, .inl n_shelf)), (n2, .inl (cyI, 12, .inl n_stack)), (n3, .inl (cyI, 12, .inl (u.2.2.1 0)))]) := by
  refine KK.of (lv0 := [(0, .ref n0), (1, .int p0)]) (by decide) rfl (Nat.le_of_ble_eq_true rfl) ?_
  intro p e s m args below meth c A C hr hk hin
  refine j_aload_n (pc := 0) C dX7_raise_0 rfl 0 rfl ?_
  refine j_iload_n (pc := 1) C dX7_raise_1 rfl 1 rfl ?_
  refine j_callV (pc := 2) (As := [.int p0]) (rest := []) (wr := []) C (c_X7_sinkAbove l D cyC cyI cyJ cyZ cyO n0 n1 n2 n3 n4 p0 n_askings n_cost n_laid n_shelf n_stack n_level h_n_askings h_n_laid h_p0 h_n_shelf h_n_stack h_n_level) wd_58 wd_9 wd_59 wd_60 wd_61 ⟨by decide, by decide, rfl⟩ rfl ⟨rfl, rfl, by decide, by decide⟩ ⟨by decide, by decide⟩ [0, 1, 2, 3] [] rfl rfl ⟨by decide, by decide, by decide⟩ 0 rfl rfl rfl (Nat.le_of_ble_eq_true rfl) dX7_raise_2 (fun u_1 hw_2 => ?_)
  refine j_eq (ws2 := [(n0, .inr (7, [.ref n1, .ref n2, .ref n3, .ref n4, .int n_askings, .int n_cost, .int n_laid])), (n1, .inl (cyI, 12, .inl n_shelf)), (n2, .inl (cyI, 12, .inl n_stack)), (n3, .inl (cyI, 12, .inl (u_1.2.2.1 0)))]) (pc2 := 5) (lv2 := [(0, .ref n0), (1, .int p0)]) (st2 := []) rfl rfl rfl rfl ?_
  obtain ⟨hw_2_0, hw_2_1⟩ := hw_2
  refine j_aload_n (pc := 5) C dX7_raise_5 rfl 0 rfl ?_
  refine j_get (pc := 6) (ci := 7) (v := .ref n3) C inw_7 0 rfl rfl 2 (by decide) wd_21 rfl rfl dX7_raise_6 ?_
  refine j_iload_n (pc := 9) C dX7_raise_9 rfl 1 rfl ?_
  refine j_aload_n (pc := 10) C dX7_raise_10 rfl 0 rfl ?_
  refine j_aload_n (pc := 11) C dX7_raise_11 rfl 0 rfl ?_
  refine j_get (pc := 12) (ci := 7) (v := .ref n1) C inw_7 0 rfl rfl 0 (by decide) wd_2 rfl rfl dX7_raise_12 ?_
  refine j_iload_n (pc := 15) C dX7_raise_15 rfl 1 rfl ?_
  obtain ⟨v_3, ev_3⟩ : ∃ z, n_shelf (p0).toInt.toNat = z := ⟨_, rfl⟩
  have env_3 : (n_shelf (p0).toInt.toNat).toInt = v_3.toInt := by rw [ev_3]
  have hv_3 := h_n_shelf (p0).toInt.toNat (i_lt_n h_p0.1 (Int.lt_of_le_of_lt h_p0.2 (by decide))); rw [ev_3] at hv_3
  refine j_iald (pc := 16) (v := v_3) (k := (p0).toInt.toNat) C 1 1 rfl rfl (i_nn h_p0.1) rfl (i_lt_n h_p0.1 (Int.lt_of_le_of_lt h_p0.2 (by decide))) ev_3 dX7_raise_16 ?_
  refine j_aload_n (pc := 17) C dX7_raise_17 rfl 0 rfl ?_
  refine j_get (pc := 18) (ci := 7) (v := .ref n2) C inw_7 0 rfl rfl 1 (by decide) wd_3 rfl rfl dX7_raise_18 ?_
  refine j_iload_n (pc := 21) C dX7_raise_21 rfl 1 rfl ?_
  obtain ⟨v_4, ev_4⟩ : ∃ z, n_stack (p0).toInt.toNat = z := ⟨_, rfl⟩
  have env_4 : (n_stack (p0).toInt.toNat).toInt = v_4.toInt := by rw [ev_4]
  have hv_4 := h_n_stack (p0).toInt.toNat (i_lt_n h_p0.1 (Int.lt_of_le_of_lt h_p0.2 (by decide))); rw [ev_4] at hv_4
  refine j_iald (pc := 22) (v := v_4) (k := (p0).toInt.toNat) C 2 1 rfl rfl (i_nn h_p0.1) rfl (i_lt_n h_p0.1 (Int.lt_of_le_of_lt h_p0.2 (by decide))) ev_4 dX7_raise_22 ?_
  refine j_callV (pc := 23) (As := [.int v_3, .int v_4]) (rest := [.int p0, .ref n3]) (wr := [(n3, .inl (cyI, 12, .inl (u_1.2.2.1 0)))]) C (c_X7_size l D cyC cyI cyJ cyZ cyO n0 n1 n2 n3 n4 v_3 v_4 n_askings n_cost n_laid n_shelf n_stack h_n_askings h_n_laid h_n_shelf h_n_stack) wd_54 wd_9 wd_55 wd_56 wd_57 ⟨by decide, by decide, rfl⟩ rfl ⟨rfl, rfl, by decide, by decide⟩ ⟨by decide, by decide⟩ [0, 1, 2] [3] rfl rfl ⟨by decide, by decide, by decide⟩ 0 rfl rfl rfl (Nat.le_of_ble_eq_true rfl) dX7_raise_23 (fun u_5 hw_6 => ?_)
  refine j_eq (ws2 := [(n3, .inl (cyI, 12, .inl (u_1.2.2.1 0))), (n0, .inr (7, [.ref n1, .ref n2, .ref n3, .ref n4, .int n_askings, .int n_cost, .int n_laid])), (n1, .inl (cyI, 12, .inl n_shelf)), (n2, .inl (cyI, 12, .inl n_stack))]) (pc2 := 26) (lv2 := [(0, .ref n0), (1, .int p0)]) (st2 := [.int (u_5.2.1 0), .int p0, .ref n3]) rfl rfl rfl rfl ?_
  obtain ⟨hw_6_0, hw_6_1⟩ := hw_6
  have hz9 := cnB_ge (P := std n_shelf n_stack v_3 v_4) (w := (p0).toInt.toNat) (std_iff.mpr ⟨ev_3, ev_4⟩) 12 (by omega)
  have hz8 := hw_6_1
  refine j_iconst (pc := 26) (v := 1) C dX7_raise_26 (by decide) ?_
  obtain ⟨v_7, ev_7⟩ : ∃ z : Int32, (u_5.2.1 0) - 1 = z := ⟨_, rfl⟩
  have el_1 : (1 : Int32).toInt = 1 := rfl
  have hv_7 : v_7.toInt = ((u_5.2.1 0)).toInt - (1 : Int32).toInt := by rw [← ev_7]; exact fb_subI (by omega) (by omega)
  refine j_isub (pc := 27) (v := v_7) C dX7_raise_27 ev_7 ?_
  obtain ⟨f_8, ef_8⟩ : ∃ z, z = upd (u_1.2.2.1 0) (p0).toInt.toNat v_7 := ⟨_, rfl⟩
  have hf_8 : Iv 12 (0) (11) f_8 := by rw [ef_8]; exact Iv.upd hw_2_0 (by omega) (by omega)
  refine j_iast (pc := 28) (k := (p0).toInt.toNat) (ws' := [(n3, .inl (cyI, 12, .inl f_8)), (n0, .inr (7, [.ref n1, .ref n2, .ref n3, .ref n4, .int n_askings, .int n_cost, .int n_laid])), (n1, .inl (cyI, 12, .inl n_shelf)), (n2, .inl (cyI, 12, .inl n_stack))]) C 0 1 rfl rfl (i_nn h_p0.1) rfl (i_lt_n h_p0.1 (Int.lt_of_le_of_lt h_p0.2 (by decide))) dX7_raise_28 (by rw [ef_8]; rfl) ?_
  exact j_vret (pc := 29) C hr hk (fun i => [].getD i 0, fun i => [].getD i 0, fun i => [f_8].getD i (fun _ => 0), fun i => [].getD i (fun _ => 0)) rfl (show (Iv 12 (0) (11) f_8) ∧ (∀ j : Nat, j < 12 → (f_8 j).toInt = rsS n_shelf n_stack n_level (p0).toInt.toNat j) from ⟨hf_8, (fun j hj => by by_cases q : j = (p0).toInt.toNat; (rw [q, ef_8, pk_us, show rsS n_shelf n_stack n_level (p0).toInt.toNat (p0).toInt.toNat = ((cnB (std n_shelf n_stack (n_shelf (p0).toInt.toNat) (n_stack (p0).toInt.toNat)) 12 : Nat) : Int) - 1 from if_pos rfl, ev_3, ev_4]; omega); (rw [ef_8, pk_un q, show rsS n_shelf n_stack n_level (p0).toInt.toNat j = (snk n_shelf n_stack n_level (p0).toInt.toNat) j from if_neg q]; exact hw_2_1 j hj))⟩) [1, 2, 3, 0] (by decide) rfl (by decide) (by decide) dX7_raise_29
set_option maxHeartbeats 4000000 in
set_option maxRecDepth 100000 in
theorem c_X7_move (l : Launch) (D : DG) (cyC cyI cyJ cyZ cyO : ClassId) (n0 : Nat) (n1 : Nat) (n2 : Nat) (n3 : Nat) (n4 : Nat) (p0 : Int32) (p1 : Int32) (p2 : Int32) (n_askings : Int32) (n_cost : Int32) (n_laid : Int32) (n_shelf : Nat → Int32) (n_stack : Nat → Int32) (h_n_askings : 0 ≤ (n_askings).toInt ∧ (n_askings).toInt ≤ 30) (h_n_laid : 0 ≤ (n_laid).toInt ∧ (n_laid).toInt ≤ 1) (h_p0 : 0 ≤ (p0).toInt ∧ (p0).toInt ≤ 3) (h_p1 : 0 ≤ (p1).toInt ∧ (p1).toInt ≤ 7) (h_p2 : 0 ≤ (p2).toInt ∧ (p2).toInt ≤ 3) (h_n_shelf : Iv 12 (-1) (3) n_shelf) (h_n_stack : Iv 12 (0) (7) n_stack) (hst : (stF n_shelf n_stack p2 12).toInt ≤ 7) : KK l D (TY cyC cyI cyJ cyZ cyO) yX7_move cX7_move 6 none ({ frames := 2, cells := 0, slots := 0, locals := 36 } : Room) 0 0 [.ref n0, .int p0, .int p1, .int p2] [(n0, .inr (7, [.ref n1, .ref n2, .ref n3, .ref n4, .int n_askings, .int n_cost, .int n_laid])), (n1, .inl (cyI, 12, .inl n_shelf)), (n2, .inl (cyI, 12, .inl n_stack))] (fun u => none) (fun u => (Iv 12 (-1) (3) (u.2.2.1 0)) ∧ (Iv 12 (0) (7) (u.2.2.1 1)) ∧ (∀ j : Nat, j < 12 → ((u.2.2.1 0) j).toInt = (mvS n_shelf n_stack p0 p1 p2) j) ∧ (∀ j : Nat, j < 12 → ((u.2.2.1 1) j).toInt = mvG n_shelf n_stack p0 p1 p2 (stF n_shelf n_stack p2 12) j)) (fun u => [(n0, .inr (7, [.ref n1, .ref n2, .ref n3, .ref n4, .int n_askings, .int n_cost, .int n_laid])), (n1, .inl (cyI, 12, .inl (u.2.2.1 0))), (n2, .inl (cyI, 12, .inl (u.2.2.1 1)))]) := by
  refine KK.of (lv0 := [(0, .ref n0), (1, .int p0), (2, .int p1), (3, .int p2)]) (by decide) rfl (Nat.le_of_ble_eq_true rfl) ?_
  intro p e s m args below meth c A C hr hk hin
  refine j_aload_n (pc := 0) C dX7_move_0 rfl 0 rfl ?_
  refine j_iload_n (pc := 1) C dX7_move_1 rfl 3 rfl ?_
  refine j_callV (pc := 2) (As := [.int p2]) (rest := []) (wr := []) C (c_X7_stacks l D cyC cyI cyJ cyZ cyO n0 n1 n2 n3 n4 p2 n_askings n_cost n_laid n_shelf n_stack h_n_askings h_n_laid h_n_shelf h_n_stack) wd_66 wd_9 wd_67 wd_68 wd_69 ⟨by decide, by decide, rfl⟩ rfl ⟨rfl, rfl, by decide, by decide⟩ ⟨by decide, by decide⟩ [0, 1, 2] [] rfl rfl ⟨by decide, by decide, by decide⟩ 0 rfl rfl rfl (Nat.le_of_ble_eq_true rfl) dX7_move_2 (fun u_1 hw_2 => ?_)
  refine j_eq (ws2 := [(n0, .inr (7, [.ref n1, .ref n2, .ref n3, .ref n4, .int n_askings, .int n_cost, .int n_laid])), (n1, .inl (cyI, 12, .inl n_shelf)), (n2, .inl (cyI, 12, .inl n_stack))]) (pc2 := 5) (lv2 := [(0, .ref n0), (1, .int p0), (2, .int p1), (3, .int p2)]) (st2 := [.int (u_1.2.1 0)]) rfl rfl rfl rfl ?_
  obtain ⟨hw_2_0, hw_2_1⟩ := hw_2
  have hz9 : (u_1.2.1 0).toInt ≤ 7 := by rw [hw_2_1]; exact hst
  refine j_istore (pc := 5) (lv' := [(4, .int (u_1.2.1 0)), (0, .ref n0), (1, .int p0), (2, .int p1), (3, .int p2)]) C dX7_move_5 (by decide) rfl ?_
  refine j_iconst (pc := 7) (v := 0) C dX7_move_7 (by decide) ?_
  refine j_istore (pc := 8) (lv' := [(5, .int 0), (4, .int (u_1.2.1 0)), (0, .ref n0), (1, .int p0), (2, .int p1), (3, .int p2)]) C dX7_move_8 (by decide) rfl ?_
  have loop_3 : ∀ (k_3 : Nat) (x3_5 : Int32) (g3_n1 : Nat → Int32) (g3_n2 : Nat → Int32), (0 ≤ (x3_5).toInt ∧ (x3_5).toInt ≤ 12) → (Iv 12 (-1) (3) g3_n1) → (Iv 12 (0) (7) g3_n2) → (PWI (mvS n_shelf n_stack p0 p1 p2) n_shelf g3_n1 x3_5.toInt) → (PWI (mvT n_shelf n_stack p0 p1 (u_1.2.1 0)) n_stack g3_n2 x3_5.toInt) → (12 - x3_5.toInt).toNat < k_3 → J p l e ({ frames := 2, cells := 0, slots := 0, locals := 36 } : Room) s m args below meth c D A 6 0 0 (QX below D (TY cyC cyI cyJ cyZ cyO) A (fun u => none) (fun u => (Iv 12 (-1) (3) (u.2.2.1 0)) ∧ (Iv 12 (0) (7) (u.2.2.1 1)) ∧ (∀ j : Nat, j < 12 → ((u.2.2.1 0) j).toInt = (mvS n_shelf n_stack p0 p1 p2) j) ∧ (∀ j : Nat, j < 12 → ((u.2.2.1 1) j).toInt = mvG n_shelf n_stack p0 p1 p2 (stF n_shelf n_stack p2 12) j)) (fun u => [(n0, .inr (7, [.ref n1, .ref n2, .ref n3, .ref n4, .int n_askings, .int n_cost, .int n_laid])), (n1, .inl (cyI, 12, .inl (u.2.2.1 0))), (n2, .inl (cyI, 12, .inl (u.2.2.1 1)))]) args s 0 0) [(n0, .inr (7, [.ref n1, .ref n2, .ref n3, .ref n4, .int n_askings, .int n_cost, .int n_laid])), (n1, .inl (cyI, 12, .inl g3_n1)), (n2, .inl (cyI, 12, .inl g3_n2))] 10 [(5, .int x3_5), (4, .int (u_1.2.1 0)), (0, .ref n0), (1, .int p0), (2, .int p1), (3, .int p2)] [] := by
    intro k_3
    induction k_3 with
    | zero =>
      intro x3_5 g3_n1 g3_n2 hi_3_0 hi_3_1 hi_3_2 hq_3_0 hq_3_1 hm_3
      exact absurd hm_3 (Nat.not_lt_zero _)
    | succ k_3 ih_3 =>
      intro x3_5 g3_n1 g3_n2 hi_3_0 hi_3_1 hi_3_2 hq_3_0 hq_3_1 hm_3
      refine j_iload (pc := 10) C dX7_move_10 0 rfl ?_
      refine j_bipush (pc := 12) (v := 12) C dX7_move_12 (by decide) ?_
      refine j_icmp_ge (pc := 14) (tgt := 51) C dX7_move_14 (by decide) (fun c_4 => ?_) (fun c_4 => ?_)
      · skip
        have el_12 : (12 : Int32).toInt = 12 := rfl
        rw [i_le] at c_4
        have k0c_4 : x3_5.toInt = 12 := by omega
        refine j_aload_n (pc := 51) C dX7_move_51 rfl 2 rfl ?_
        refine j_iload_n (pc := 52) C dX7_move_52 rfl 3 rfl ?_
        refine j_iload_n (pc := 53) C dX7_move_53 rfl 4 rfl ?_
        refine j_callV (pc := 54) (As := [.int p0, .int p1]) (rest := []) (wr := []) C (c_X7_closeGap l D cyC cyI cyJ cyZ cyO n0 n1 n2 n3 n4 p0 p1 n_askings n_cost n_laid g3_n1 g3_n2 h_n_askings h_n_laid h_p1 hi_3_1 hi_3_2) wd_62 wd_9 wd_63 wd_64 wd_65 ⟨by decide, by decide, rfl⟩ rfl ⟨rfl, rfl, by decide, by decide⟩ ⟨by decide, by decide⟩ [0, 1, 2] [] rfl rfl ⟨by decide, by decide, by decide⟩ 0 rfl rfl rfl (Nat.le_of_ble_eq_true rfl) dX7_move_54 (fun u_5 hw_6 => ?_)
        refine j_eq (ws2 := [(n0, .inr (7, [.ref n1, .ref n2, .ref n3, .ref n4, .int n_askings, .int n_cost, .int n_laid])), (n1, .inl (cyI, 12, .inl g3_n1)), (n2, .inl (cyI, 12, .inl (u_5.2.2.1 0)))]) (pc2 := 57) (lv2 := [(5, .int x3_5), (4, .int (u_1.2.1 0)), (0, .ref n0), (1, .int p0), (2, .int p1), (3, .int p2)]) (st2 := []) rfl rfl rfl rfl ?_
        obtain ⟨hw_6_0, hw_6_1⟩ := hw_6
        exact j_vret (pc := 57) C hr hk (fun i => [].getD i 0, fun i => [].getD i 0, fun i => [g3_n1, (u_5.2.2.1 0)].getD i (fun _ => 0), fun i => [].getD i (fun _ => 0)) rfl (show (Iv 12 (-1) (3) g3_n1) ∧ (Iv 12 (0) (7) (u_5.2.2.1 0)) ∧ (∀ j : Nat, j < 12 → (g3_n1 j).toInt = (mvS n_shelf n_stack p0 p1 p2) j) ∧ (∀ j : Nat, j < 12 → ((u_5.2.2.1 0) j).toInt = mvG n_shelf n_stack p0 p1 p2 (stF n_shelf n_stack p2 12) j) from ⟨hi_3_1, hw_6_0, (PWI.fin hq_3_0 (by omega)), (fun j hj => by rw [← hw_2_1, ← gpf_mv (g1 := g3_n1) (g2 := g3_n2) (PWI.fin hq_3_0 (by omega) j hj) (PWI.fin hq_3_1 (by omega) j hj)]; exact hw_6_1 j hj)⟩) [0, 1, 2] (by decide) rfl (by decide) (by decide) dX7_move_57
      · skip
        have el_12 : (12 : Int32).toInt = 12 := rfl
        rw [i_le] at c_4
        refine j_aload_n (pc := 17) C dX7_move_17 rfl 2 rfl ?_
        refine j_iload (pc := 18) C dX7_move_18 0 rfl ?_
        refine j_iload_n (pc := 20) C dX7_move_20 rfl 3 rfl ?_
        refine j_iload_n (pc := 21) C dX7_move_21 rfl 4 rfl ?_
        refine j_callV (pc := 22) (As := [.int x3_5, .int p0, .int p1]) (rest := []) (wr := []) C (c_X7_stands l D cyC cyI cyJ cyZ cyO n0 n1 n2 n3 n4 x3_5 p0 p1 n_askings n_cost n_laid g3_n1 g3_n2 h_n_askings h_n_laid (by omega) hi_3_1 hi_3_2) wd_8 wd_9 wd_10 wd_11 wd_12 ⟨by decide, by decide, rfl⟩ rfl ⟨rfl, rfl, by decide, by decide⟩ ⟨by decide, by decide⟩ [0, 1, 2] [] rfl rfl ⟨by decide, by decide, by decide⟩ 0 rfl rfl rfl (Nat.le_of_ble_eq_true rfl) dX7_move_22 (fun u_7 hw_8 => ?_)
        refine j_eq (ws2 := [(n0, .inr (7, [.ref n1, .ref n2, .ref n3, .ref n4, .int n_askings, .int n_cost, .int n_laid])), (n1, .inl (cyI, 12, .inl g3_n1)), (n2, .inl (cyI, 12, .inl g3_n2))]) (pc2 := 25) (lv2 := [(5, .int x3_5), (4, .int (u_1.2.1 0)), (0, .ref n0), (1, .int p0), (2, .int p1), (3, .int p2)]) (st2 := [.int (u_7.2.1 0)]) rfl rfl rfl rfl ?_
        obtain ⟨hw_8_0, hw_8_1, hw_8_2⟩ := hw_8
        refine j_if_eq (pc := 25) (tgt := 45) C dX7_move_25 (by decide) (fun c_9 => ?_) (fun c_9 => ?_)
        · skip
          have el_0 : (0 : Int32).toInt = 0 := rfl
          rw [i_eq] at c_9
          obtain ⟨v_10, ev_10⟩ : ∃ z : Int32, x3_5 + 1 = z := ⟨_, rfl⟩
          have el_1 : (1 : Int32).toInt = 1 := rfl
          have hv_10 : v_10.toInt = x3_5.toInt + (1 : Int32).toInt := by rw [← ev_10]; exact fb_addI (by omega) (by omega)
          refine j_iinc (pc := 45) (v := v_10) (lv' := [(5, .int v_10), (4, .int (u_1.2.1 0)), (0, .ref n0), (1, .int p0), (2, .int p1), (3, .int p2)]) C dX7_move_45 0 rfl ev_10 (by decide) rfl ?_
          refine j_goto (pc := 48) (tgt := 10) C dX7_move_48 (by decide) ?_
          exact j_lv [0, 1, 2, 3, 4, 5] rfl (ih_3 v_10 g3_n1 g3_n2 (by omega) hi_3_1 hi_3_2 (PWI.step hq_3_0 (by omega) (by omega) (fun j hj => rfl) (by have y1 := PWI.at hq_3_0 (by omega) (by omega); have y2 := PWI.at hq_3_1 (by omega) (by omega); rw [y1]; exact (if_neg (fun z => by rcases hw_8_1 with h | h | h; omega; exact h (y1.trans z.1); exact h (y2.trans z.2))).symm)) (PWI.step hq_3_1 (by omega) (by omega) (fun j hj => rfl) (by have y1 := PWI.at hq_3_0 (by omega) (by omega); have y2 := PWI.at hq_3_1 (by omega) (by omega); rw [y2]; exact (if_neg (fun z => by rcases hw_8_1 with h | h | h; omega; exact h (y1.trans z.1); exact h (y2.trans z.2))).symm)) (by omega))
        · skip
          have el_0 : (0 : Int32).toInt = 0 := rfl
          rw [i_eq] at c_9
          have k0c_9 : ((u_7.2.1 0)).toInt = 1 := by omega
          refine j_aload_n (pc := 28) C dX7_move_28 rfl 2 rfl ?_
          refine j_get (pc := 29) (ci := 7) (v := .ref n1) C inw_7 0 rfl rfl 0 (by decide) wd_2 rfl rfl dX7_move_29 ?_
          refine j_iload (pc := 32) C dX7_move_32 0 rfl ?_
          refine j_iload_n (pc := 34) C dX7_move_34 rfl 5 rfl ?_
          obtain ⟨f_11, ef_11⟩ : ∃ z, z = upd g3_n1 (x3_5).toInt.toNat p2 := ⟨_, rfl⟩
          have hf_11 : Iv 12 (-1) (3) f_11 := by rw [ef_11]; exact Iv.upd hi_3_1 (by omega) (by omega)
          refine j_iast (pc := 35) (k := (x3_5).toInt.toNat) (ws' := [(n0, .inr (7, [.ref n1, .ref n2, .ref n3, .ref n4, .int n_askings, .int n_cost, .int n_laid])), (n1, .inl (cyI, 12, .inl f_11)), (n2, .inl (cyI, 12, .inl g3_n2))]) C 1 1 rfl rfl (i_nn hi_3_0.1) rfl (i_lt_n hi_3_0.1 (by omega)) dX7_move_35 (by rw [ef_11]; rfl) ?_
          refine j_aload_n (pc := 36) C dX7_move_36 rfl 2 rfl ?_
          refine j_get (pc := 37) (ci := 7) (v := .ref n2) C inw_7 0 rfl rfl 1 (by decide) wd_3 rfl rfl dX7_move_37 ?_
          refine j_iload (pc := 40) C dX7_move_40 0 rfl ?_
          refine j_iload (pc := 42) C dX7_move_42 1 rfl ?_
          obtain ⟨f_12, ef_12⟩ : ∃ z, z = upd g3_n2 (x3_5).toInt.toNat (u_1.2.1 0) := ⟨_, rfl⟩
          have hf_12 : Iv 12 (0) (7) f_12 := by rw [ef_12]; exact Iv.upd hi_3_2 (by omega) (by omega)
          refine j_iast (pc := 44) (k := (x3_5).toInt.toNat) (ws' := [(n0, .inr (7, [.ref n1, .ref n2, .ref n3, .ref n4, .int n_askings, .int n_cost, .int n_laid])), (n1, .inl (cyI, 12, .inl f_11)), (n2, .inl (cyI, 12, .inl f_12))]) C 2 1 rfl rfl (i_nn hi_3_0.1) rfl (i_lt_n hi_3_0.1 (by omega)) dX7_move_44 (by rw [ef_12]; rfl) ?_
          obtain ⟨v_13, ev_13⟩ : ∃ z : Int32, x3_5 + 1 = z := ⟨_, rfl⟩
          have el_1 : (1 : Int32).toInt = 1 := rfl
          have hv_13 : v_13.toInt = x3_5.toInt + (1 : Int32).toInt := by rw [← ev_13]; exact fb_addI (by omega) (by omega)
          refine j_iinc (pc := 45) (v := v_13) (lv' := [(5, .int v_13), (4, .int (u_1.2.1 0)), (0, .ref n0), (1, .int p0), (2, .int p1), (3, .int p2)]) C dX7_move_45 0 rfl ev_13 (by decide) rfl ?_
          refine j_goto (pc := 48) (tgt := 10) C dX7_move_48 (by decide) ?_
          exact j_lv [0, 1, 2, 3, 4, 5] rfl (ih_3 v_13 f_11 f_12 (by omega) hf_11 hf_12 (PWI.step hq_3_0 (by omega) (by omega) (fun j hj => by rw [ef_11]; exact pk_un hj) (by have y1 := PWI.at hq_3_0 (by omega) (by omega); have y2 := PWI.at hq_3_1 (by omega) (by omega); have y3 := (by rcases hw_8_2 with h | h; (exfalso; omega); exact h : g3_n1 (x3_5).toInt.toNat = p0 ∧ g3_n2 (x3_5).toInt.toNat = p1); rw [ef_11, pk_us]; exact (if_pos ⟨y1.symm.trans y3.1, y2.symm.trans y3.2⟩).symm)) (PWI.step hq_3_1 (by omega) (by omega) (fun j hj => by rw [ef_12]; exact pk_un hj) (by have y1 := PWI.at hq_3_0 (by omega) (by omega); have y2 := PWI.at hq_3_1 (by omega) (by omega); have y3 := (by rcases hw_8_2 with h | h; (exfalso; omega); exact h : g3_n1 (x3_5).toInt.toNat = p0 ∧ g3_n2 (x3_5).toInt.toNat = p1); rw [ef_12, pk_us]; exact (if_pos ⟨y1.symm.trans y3.1, y2.symm.trans y3.2⟩).symm)) (by omega))
  have el_0 : (0 : Int32).toInt = 0 := rfl
  exact j_lv [0, 1, 2, 3, 4, 5] rfl (loop_3 4096 0 n_shelf n_stack (by decide) h_n_shelf h_n_stack (PWI.zero rfl) (PWI.zero rfl) (by omega))
set_option maxHeartbeats 4000000 in
set_option maxRecDepth 100000 in
theorem c_X4_take (l : Launch) (D : DG) (cyC cyI cyJ cyZ cyO : ClassId) (q0 : Nat) (q1 : Nat) (n0 : Nat) (n1 : Nat) (n2 : Nat) (n3 : Nat) (n4 : Nat) (p0 : Int32) (p1 : Int32) (q_size : Int32) (n_askings : Int32) (n_cost : Int32) (n_laid : Int32) (q_ware : Nat → Int32) (n_shelf : Nat → Int32) (n_stack : Nat → Int32) (n_level : Nat → Int32) (h_q_size : 0 ≤ (q_size).toInt ∧ (q_size).toInt ≤ 12) (h_n_askings : 0 ≤ (n_askings).toInt ∧ (n_askings).toInt ≤ 30) (h_n_laid : 0 ≤ (n_laid).toInt ∧ (n_laid).toInt ≤ 1) (h_q_ware : Iv 12 (0) (11) q_ware) (h_n_shelf : Iv 12 (-1) (3) n_shelf) (h_n_stack : Iv 12 (0) (7) n_stack) (h_n_level : Iv 12 (0) (11) n_level) : KK l D (TY cyC cyI cyJ cyZ cyO) yX4_take cX4_take 5 none ({ frames := 1, cells := 0, slots := 0, locals := 23 } : Room) 0 0 [.ref q0, .ref n0, .int p0, .int p1] [(q0, .inr (4, [.ref q1, .int q_size])), (q1, .inl (cyI, 12, .inl q_ware)), (n0, .inr (7, [.ref n1, .ref n2, .ref n3, .ref n4, .int n_askings, .int n_cost, .int n_laid])), (n1, .inl (cyI, 12, .inl n_shelf)), (n2, .inl (cyI, 12, .inl n_stack)), (n3, .inl (cyI, 12, .inl n_level))] (fun u => none) (fun u => (0 ≤ (u.2.1 0).toInt ∧ (u.2.1 0).toInt ≤ 12) ∧ (Iv 12 (0) (11) (u.2.2.1 0)) ∧ (∀ w0 : Nat, w0 < 12 → n_shelf w0 = p0 → n_stack w0 = p1 → 1 ≤ ((u.2.1 0)).toInt) ∧ (∀ (r : Nat → Int32) (n : Nat), ROW n_shelf n_stack n_level p0 p1 r n → ((u.2.1 0)).toInt = (n : Int) ∧ ∀ p : Nat, p < n → (u.2.2.1 0) p = r p)) (fun u => [(q0, .inr (4, [.ref q1, .int (u.2.1 0)])), (q1, .inl (cyI, 12, .inl (u.2.2.1 0))), (n0, .inr (7, [.ref n1, .ref n2, .ref n3, .ref n4, .int n_askings, .int n_cost, .int n_laid])), (n1, .inl (cyI, 12, .inl n_shelf)), (n2, .inl (cyI, 12, .inl n_stack)), (n3, .inl (cyI, 12, .inl n_level))]) := by
  refine KK.of (lv0 := [(0, .ref q0), (1, .ref n0), (2, .int p0), (3, .int p1)]) (by decide) rfl (Nat.le_of_ble_eq_true rfl) ?_
  intro p e s m args below meth c A C hr hk hin
  refine j_aload_n (pc := 0) C dX4_take_0 rfl 0 rfl ?_
  refine j_iconst (pc := 1) (v := 0) C dX4_take_1 (by decide) ?_
  refine j_put (pc := 2) (ci := 4) (v := .int 0) (ws' := [(q0, .inr (4, [.ref q1, .int 0])), (q1, .inl (cyI, 12, .inl q_ware)), (n0, .inr (7, [.ref n1, .ref n2, .ref n3, .ref n4, .int n_askings, .int n_cost, .int n_laid])), (n1, .inl (cyI, 12, .inl n_shelf)), (n2, .inl (cyI, 12, .inl n_stack)), (n3, .inl (cyI, 12, .inl n_level))]) C inw_4 0 rfl rfl 1 (by decide) wd_29 rfl tyX4_ok nmX4 rfl (tyX4_ok 1 (by decide)) rfl rfl (Nat.le_of_ble_eq_true rfl) dX4_take_2 rfl ?_
  refine j_iconst (pc := 5) (v := 0) C dX4_take_5 (by decide) ?_
  refine j_istore (pc := 6) (lv' := [(4, .int 0), (0, .ref q0), (1, .ref n0), (2, .int p0), (3, .int p1)]) C dX4_take_6 (by decide) rfl ?_
  have loop_1 : ∀ (k_1 : Nat) (x1_4 : Int32) (y1_q0_1 : Int32) (g1_q1 : Nat → Int32), (0 ≤ (x1_4).toInt ∧ (x1_4).toInt ≤ 12) → (0 ≤ (y1_q0_1).toInt ∧ (y1_q0_1).toInt ≤ 12) → (Iv 12 (0) (11) g1_q1) → (y1_q0_1.toInt ≤ x1_4.toInt) → (y1_q0_1.toInt = ((cnB (std n_shelf n_stack p0 p1) (x1_4.toInt).toNat : Nat) : Int)) → (∀ (r : Nat → Int32) (n : Nat), ROW n_shelf n_stack n_level p0 p1 r n → ∀ w : Nat, (w : Int) < x1_4.toInt → n_shelf w = p0 → n_stack w = p1 → (g1_q1 (n_level w).toInt.toNat).toInt = (w : Int)) → (12 - x1_4.toInt).toNat < k_1 → J p l e ({ frames := 1, cells := 0, slots := 0, locals := 23 } : Room) s m args below meth c D A 5 0 0 (QX below D (TY cyC cyI cyJ cyZ cyO) A (fun u => none) (fun u => (0 ≤ (u.2.1 0).toInt ∧ (u.2.1 0).toInt ≤ 12) ∧ (Iv 12 (0) (11) (u.2.2.1 0)) ∧ (∀ w0 : Nat, w0 < 12 → n_shelf w0 = p0 → n_stack w0 = p1 → 1 ≤ ((u.2.1 0)).toInt) ∧ (∀ (r : Nat → Int32) (n : Nat), ROW n_shelf n_stack n_level p0 p1 r n → ((u.2.1 0)).toInt = (n : Int) ∧ ∀ p : Nat, p < n → (u.2.2.1 0) p = r p)) (fun u => [(q0, .inr (4, [.ref q1, .int (u.2.1 0)])), (q1, .inl (cyI, 12, .inl (u.2.2.1 0))), (n0, .inr (7, [.ref n1, .ref n2, .ref n3, .ref n4, .int n_askings, .int n_cost, .int n_laid])), (n1, .inl (cyI, 12, .inl n_shelf)), (n2, .inl (cyI, 12, .inl n_stack)), (n3, .inl (cyI, 12, .inl n_level))]) args s 0 0) [(q0, .inr (4, [.ref q1, .int y1_q0_1])), (q1, .inl (cyI, 12, .inl g1_q1)), (n0, .inr (7, [.ref n1, .ref n2, .ref n3, .ref n4, .int n_askings, .int n_cost, .int n_laid])), (n1, .inl (cyI, 12, .inl n_shelf)), (n2, .inl (cyI, 12, .inl n_stack)), (n3, .inl (cyI, 12, .inl n_level))] 8 [(4, .int x1_4), (0, .ref q0), (1, .ref n0), (2, .int p0), (3, .int p1)] [] := by
    intro k_1
    induction k_1 with
    | zero =>
      intro x1_4 y1_q0_1 g1_q1 hi_1_0 hi_1_1 hi_1_2 hr_1 hq_1_0 hq_1_1 hm_1
      exact absurd hm_1 (Nat.not_lt_zero _)
    | succ k_1 ih_1 =>
      intro x1_4 y1_q0_1 g1_q1 hi_1_0 hi_1_1 hi_1_2 hr_1 hq_1_0 hq_1_1 hm_1
      refine j_iload (pc := 8) C dX4_take_8 0 rfl ?_
      refine j_bipush (pc := 10) (v := 12) C dX4_take_10 (by decide) ?_
      refine j_icmp_ge (pc := 12) (tgt := 56) C dX4_take_12 (by decide) (fun c_2 => ?_) (fun c_2 => ?_)
      · skip
        have el_12 : (12 : Int32).toInt = 12 := rfl
        rw [i_le] at c_2
        have k0c_2 : x1_4.toInt = 12 := by omega
        exact j_vret (pc := 56) C hr hk (fun i => [].getD i 0, fun i => [y1_q0_1].getD i 0, fun i => [g1_q1].getD i (fun _ => 0), fun i => [].getD i (fun _ => 0)) rfl (show (0 ≤ (y1_q0_1).toInt ∧ (y1_q0_1).toInt ≤ 12) ∧ (Iv 12 (0) (11) g1_q1) ∧ (∀ w0 : Nat, w0 < 12 → n_shelf w0 = p0 → n_stack w0 = p1 → 1 ≤ (y1_q0_1).toInt) ∧ (∀ (r : Nat → Int32) (n : Nat), ROW n_shelf n_stack n_level p0 p1 r n → (y1_q0_1).toInt = (n : Int) ∧ ∀ p : Nat, p < n → g1_q1 p = r p) from ⟨hi_1_1, hi_1_2, (fun w0 h0 h1 h2 => by have y9 := cnB_ge (P := (std n_shelf n_stack p0 p1)) (w := w0) (std_iff.mpr ⟨h1, h2⟩) 12 h0; have y8 := hq_1_0; rw [show (x1_4).toInt.toNat = 12 from (by omega)] at y8; omega), (fun r n hR => ⟨by have y9 := hR.size; have y8 := hq_1_0; rw [show (x1_4).toInt.toNat = 12 from (by omega), y9] at y8; exact y8, fun p hp => by obtain ⟨w9, a1, a2, a3, a4, a5⟩ := hR.2 p hp; have y7 := hq_1_1 r n hR w9 (by omega) a3 a4; rw [show (n_level w9).toInt.toNat = p from (by omega)] at y7; exact (i_eq _ _).mpr (y7.trans a2.symm)⟩)⟩) [0, 1, 2, 3, 4, 5] (by decide) rfl (by decide) (by decide) dX4_take_56
      · skip
        have el_12 : (12 : Int32).toInt = 12 := rfl
        rw [i_le] at c_2
        refine j_aload_n (pc := 15) C dX4_take_15 rfl 2 rfl ?_
        refine j_iload (pc := 16) C dX4_take_16 0 rfl ?_
        refine j_iload_n (pc := 18) C dX4_take_18 rfl 3 rfl ?_
        refine j_iload_n (pc := 19) C dX4_take_19 rfl 4 rfl ?_
        refine j_callV (pc := 20) (As := [.int x1_4, .int p0, .int p1]) (rest := []) (wr := [(q0, .inr (4, [.ref q1, .int y1_q0_1])), (q1, .inl (cyI, 12, .inl g1_q1)), (n3, .inl (cyI, 12, .inl n_level))]) C (c_X7_stands l D cyC cyI cyJ cyZ cyO n0 n1 n2 n3 n4 x1_4 p0 p1 n_askings n_cost n_laid n_shelf n_stack h_n_askings h_n_laid (by omega) h_n_shelf h_n_stack) wd_8 wd_9 wd_70 wd_11 wd_12 ⟨by decide, by decide, rfl⟩ rfl ⟨rfl, rfl, by decide, by decide⟩ ⟨by decide, by decide⟩ [2, 3, 4] [0, 1, 5] rfl rfl ⟨by decide, by decide, by decide⟩ 2 rfl rfl rfl (Nat.le_of_ble_eq_true rfl) dX4_take_20 (fun u_3 hw_4 => ?_)
        refine j_eq (ws2 := [(q0, .inr (4, [.ref q1, .int y1_q0_1])), (q1, .inl (cyI, 12, .inl g1_q1)), (n3, .inl (cyI, 12, .inl n_level)), (n0, .inr (7, [.ref n1, .ref n2, .ref n3, .ref n4, .int n_askings, .int n_cost, .int n_laid])), (n1, .inl (cyI, 12, .inl n_shelf)), (n2, .inl (cyI, 12, .inl n_stack))]) (pc2 := 23) (lv2 := [(4, .int x1_4), (0, .ref q0), (1, .ref n0), (2, .int p0), (3, .int p1)]) (st2 := [.int (u_3.2.1 0)]) rfl rfl rfl rfl ?_
        obtain ⟨hw_4_0, hw_4_1, hw_4_2⟩ := hw_4
        refine j_if_eq (pc := 23) (tgt := 50) C dX4_take_23 (by decide) (fun c_5 => ?_) (fun c_5 => ?_)
        · skip
          have el_0 : (0 : Int32).toInt = 0 := rfl
          rw [i_eq] at c_5
          obtain ⟨v_6, ev_6⟩ : ∃ z : Int32, x1_4 + 1 = z := ⟨_, rfl⟩
          have el_1 : (1 : Int32).toInt = 1 := rfl
          have hv_6 : v_6.toInt = x1_4.toInt + (1 : Int32).toInt := by rw [← ev_6]; exact fb_addI (by omega) (by omega)
          refine j_iinc (pc := 50) (v := v_6) (lv' := [(4, .int v_6), (0, .ref q0), (1, .ref n0), (2, .int p0), (3, .int p1)]) C dX4_take_50 0 rfl ev_6 (by decide) rfl ?_
          refine j_goto (pc := 53) (tgt := 8) C dX4_take_53 (by decide) ?_
          refine j_subG (ws' := [(q0, .inr (4, [.ref q1, .int y1_q0_1])), (q1, .inl (cyI, 12, .inl g1_q1)), (n0, .inr (7, [.ref n1, .ref n2, .ref n3, .ref n4, .int n_askings, .int n_cost, .int n_laid])), (n1, .inl (cyI, 12, .inl n_shelf)), (n2, .inl (cyI, 12, .inl n_stack)), (n3, .inl (cyI, 12, .inl n_level))]) [0, 1, 3, 4, 5, 2] (by decide) rfl ?_
          exact j_lv [0, 1, 2, 3, 4] rfl (ih_1 v_6 y1_q0_1 g1_q1 (by omega) hi_1_1 hi_1_2 (by omega) (by rw [show (v_6.toInt).toNat = (x1_4).toInt.toNat + 1 from (by omega), cnB_n (P := (std n_shelf n_stack p0 p1)) (j := (x1_4).toInt.toNat) (fun z => by have y9 := std_iff.mp z; rcases hw_4_1 with h | h | h; omega; exact h y9.1; exact h y9.2)]; omega) (fun r n hR w hw h1 h2 => by rcases Int.lt_or_le (w : Int) (x1_4).toInt with q | q; (exact hq_1_1 r n hR w q h1 h2); (have ew : w = (x1_4).toInt.toNat := (by omega); exfalso; rw [ew] at h1 h2; rcases hw_4_1 with h | h | h; omega; exact h h1; exact h h2)) (by omega))
        · skip
          have el_0 : (0 : Int32).toInt = 0 := rfl
          rw [i_eq] at c_5
          have k0c_5 : ((u_3.2.1 0)).toInt = 1 := by omega
          refine j_aload_n (pc := 26) C dX4_take_26 rfl 1 rfl ?_
          refine j_get (pc := 27) (ci := 4) (v := .ref q1) C inw_4 0 rfl rfl 0 (by decide) wd_31 rfl rfl dX4_take_27 ?_
          refine j_aload_n (pc := 30) C dX4_take_30 rfl 2 rfl ?_
          refine j_get (pc := 31) (ci := 7) (v := .ref n3) C inw_7 3 rfl rfl 2 (by decide) wd_71 rfl rfl dX4_take_31 ?_
          refine j_iload (pc := 34) C dX4_take_34 0 rfl ?_
          obtain ⟨v_7, ev_7⟩ : ∃ z, n_level (x1_4).toInt.toNat = z := ⟨_, rfl⟩
          have env_7 : (n_level (x1_4).toInt.toNat).toInt = v_7.toInt := by rw [ev_7]
          have hv_7 := h_n_level (x1_4).toInt.toNat (i_lt_n hi_1_0.1 (by omega)); rw [ev_7] at hv_7
          refine j_iald (pc := 36) (v := v_7) (k := (x1_4).toInt.toNat) C 2 1 rfl rfl (i_nn hi_1_0.1) rfl (i_lt_n hi_1_0.1 (by omega)) ev_7 dX4_take_36 ?_
          refine j_iload (pc := 37) C dX4_take_37 0 rfl ?_
          obtain ⟨f_8, ef_8⟩ : ∃ z, z = upd g1_q1 (v_7).toInt.toNat x1_4 := ⟨_, rfl⟩
          have hf_8 : Iv 12 (0) (11) f_8 := by rw [ef_8]; exact Iv.upd hi_1_2 (by omega) (by omega)
          refine j_iast (pc := 39) (k := (v_7).toInt.toNat) (ws' := [(q0, .inr (4, [.ref q1, .int y1_q0_1])), (q1, .inl (cyI, 12, .inl f_8)), (n3, .inl (cyI, 12, .inl n_level)), (n0, .inr (7, [.ref n1, .ref n2, .ref n3, .ref n4, .int n_askings, .int n_cost, .int n_laid])), (n1, .inl (cyI, 12, .inl n_shelf)), (n2, .inl (cyI, 12, .inl n_stack))]) C 1 1 rfl rfl (i_nn hv_7.1) rfl (i_lt_n hv_7.1 (Int.lt_of_le_of_lt hv_7.2 (by decide))) dX4_take_39 (by rw [ef_8]; rfl) ?_
          refine j_aload_n (pc := 40) C dX4_take_40 rfl 1 rfl ?_
          refine j_dup (pc := 41) C dX4_take_41 rfl ?_
          refine j_get (pc := 42) (ci := 4) (v := .int y1_q0_1) C inw_4 0 rfl rfl 1 (by decide) wd_29 rfl rfl dX4_take_42 ?_
          refine j_iconst (pc := 45) (v := 1) C dX4_take_45 (by decide) ?_
          obtain ⟨v_9, ev_9⟩ : ∃ z : Int32, y1_q0_1 + 1 = z := ⟨_, rfl⟩
          have el_1 : (1 : Int32).toInt = 1 := rfl
          have hv_9 : v_9.toInt = y1_q0_1.toInt + (1 : Int32).toInt := by rw [← ev_9]; exact fb_addI (by omega) (by omega)
          refine j_iadd (pc := 46) (v := v_9) C dX4_take_46 ev_9 ?_
          refine j_put (pc := 47) (ci := 4) (v := .int v_9) (ws' := [(q0, .inr (4, [.ref q1, .int v_9])), (q1, .inl (cyI, 12, .inl f_8)), (n3, .inl (cyI, 12, .inl n_level)), (n0, .inr (7, [.ref n1, .ref n2, .ref n3, .ref n4, .int n_askings, .int n_cost, .int n_laid])), (n1, .inl (cyI, 12, .inl n_shelf)), (n2, .inl (cyI, 12, .inl n_stack))]) C inw_4 0 rfl rfl 1 (by decide) wd_29 rfl tyX4_ok nmX4 rfl (tyX4_ok 1 (by decide)) rfl rfl (Nat.le_of_ble_eq_true rfl) dX4_take_47 rfl ?_
          obtain ⟨v_10, ev_10⟩ : ∃ z : Int32, x1_4 + 1 = z := ⟨_, rfl⟩
          have el_1 : (1 : Int32).toInt = 1 := rfl
          have hv_10 : v_10.toInt = x1_4.toInt + (1 : Int32).toInt := by rw [← ev_10]; exact fb_addI (by omega) (by omega)
          refine j_iinc (pc := 50) (v := v_10) (lv' := [(4, .int v_10), (0, .ref q0), (1, .ref n0), (2, .int p0), (3, .int p1)]) C dX4_take_50 0 rfl ev_10 (by decide) rfl ?_
          refine j_goto (pc := 53) (tgt := 8) C dX4_take_53 (by decide) ?_
          refine j_subG (ws' := [(q0, .inr (4, [.ref q1, .int v_9])), (q1, .inl (cyI, 12, .inl f_8)), (n0, .inr (7, [.ref n1, .ref n2, .ref n3, .ref n4, .int n_askings, .int n_cost, .int n_laid])), (n1, .inl (cyI, 12, .inl n_shelf)), (n2, .inl (cyI, 12, .inl n_stack)), (n3, .inl (cyI, 12, .inl n_level))]) [0, 1, 3, 4, 5, 2] (by decide) rfl ?_
          exact j_lv [0, 1, 2, 3, 4] rfl (ih_1 v_10 v_9 f_8 (by omega) (by omega) hf_8 (by omega) (by rw [show (v_10.toInt).toNat = (x1_4).toInt.toNat + 1 from (by omega), cnB_y (P := (std n_shelf n_stack p0 p1)) (j := (x1_4).toInt.toNat) (std_iff.mpr (by rcases hw_4_2 with h | h; (exfalso; omega); exact h))]; omega) (fun r n hR w hw h1 h2 => by rcases Int.lt_or_le (w : Int) (x1_4).toInt with q | q; (have y3 := (by rcases hw_4_2 with h | h; (exfalso; omega); exact h : n_shelf (x1_4).toInt.toNat = p0 ∧ n_stack (x1_4).toInt.toNat = p1); rw [ef_8, pk_un (fun z => by rw [← ev_7] at z; have z9 := hR.inj (w := w) (v := (x1_4).toInt.toNat) (by omega) (by omega) h1 h2 y3.1 y3.2 z; omega)]; exact hq_1_1 r n hR w q h1 h2); (have ew : w = (x1_4).toInt.toNat := (by omega); rw [ew, ev_7, ef_8, pk_us]; omega)) (by omega))
  have el_0 : (0 : Int32).toInt = 0 := rfl
  have el_0 : (0 : Int32).toInt = 0 := rfl
  exact j_lv [0, 1, 2, 3, 4] rfl (loop_1 4096 0 0 q_ware (by decide) (by decide) h_q_ware (by omega) rfl (fun r n hR w hw => absurd hw (by omega)) (by omega))
set_option maxHeartbeats 4000000 in
set_option maxRecDepth 100000 in
theorem c_X4_remove (l : Launch) (D : DG) (cyC cyI cyJ cyZ cyO : ClassId) (q0 : Nat) (q1 : Nat) (p0 : Int32) (q_size : Int32) (q_ware : Nat → Int32) (h_q_size : 1 ≤ (q_size).toInt ∧ (q_size).toInt ≤ 12) (h_p0 : 0 ≤ (p0).toInt ∧ (p0).toInt ≤ 11) (h_q_ware : Iv 12 (0) (11) q_ware) : KK l D (TY cyC cyI cyJ cyZ cyO) yX4_remove cX4_remove 3 none ({ frames := 0, cells := 0, slots := 0, locals := 0 } : Room) 0 0 [.ref q0, .int p0] [(q0, .inr (4, [.ref q1, .int q_size])), (q1, .inl (cyI, 12, .inl q_ware))] (fun u => none) (fun u => (0 ≤ (u.2.1 0).toInt ∧ (u.2.1 0).toInt ≤ 11) ∧ (Iv 12 (0) (11) (u.2.2.1 0)) ∧ (((u.2.1 0)).toInt = (q_size).toInt - 1) ∧ (IM ((p0).toInt < (q_size).toInt) (∀ p : Nat, (p : Int) < (q_size).toInt - 1 → (u.2.2.1 0) p = q_ware (if (p : Int) < (p0).toInt then p else p + 1)))) (fun u => [(q0, .inr (4, [.ref q1, .int (u.2.1 0)])), (q1, .inl (cyI, 12, .inl (u.2.2.1 0)))]) := by
  refine KK.of (lv0 := [(0, .ref q0), (1, .int p0)]) (by decide) rfl (Nat.le_of_ble_eq_true rfl) ?_
  intro p e s m args below meth c A C hr hk hin
  refine j_iload_n (pc := 0) C dX4_remove_0 rfl 1 rfl ?_
  refine j_istore_n (pc := 1) (lv' := [(2, .int p0), (0, .ref q0), (1, .int p0)]) C dX4_remove_1 rfl (by decide) rfl ?_
  have loop_1 : ∀ (k_1 : Nat) (x1_2 : Int32) (g1_q1 : Nat → Int32), (0 ≤ (x1_2).toInt ∧ (x1_2).toInt ≤ 12) → (Iv 12 (0) (11) g1_q1) → ((p0).toInt ≤ x1_2.toInt ∧ (x1_2.toInt ≤ (q_size).toInt - 1 ∨ x1_2.toInt = (p0).toInt)) → (∀ p : Nat, (p : Int) < (q_size).toInt → ((p : Int) < x1_2.toInt → g1_q1 p = q_ware (if (p : Int) < (p0).toInt then p else p + 1)) ∧ (x1_2.toInt ≤ (p : Int) → g1_q1 p = q_ware p)) → (12 - x1_2.toInt).toNat < k_1 → J p l e ({ frames := 0, cells := 0, slots := 0, locals := 0 } : Room) s m args below meth c D A 3 0 0 (QX below D (TY cyC cyI cyJ cyZ cyO) A (fun u => none) (fun u => (0 ≤ (u.2.1 0).toInt ∧ (u.2.1 0).toInt ≤ 11) ∧ (Iv 12 (0) (11) (u.2.2.1 0)) ∧ (((u.2.1 0)).toInt = (q_size).toInt - 1) ∧ (IM ((p0).toInt < (q_size).toInt) (∀ p : Nat, (p : Int) < (q_size).toInt - 1 → (u.2.2.1 0) p = q_ware (if (p : Int) < (p0).toInt then p else p + 1)))) (fun u => [(q0, .inr (4, [.ref q1, .int (u.2.1 0)])), (q1, .inl (cyI, 12, .inl (u.2.2.1 0)))]) args s 0 0) [(q0, .inr (4, [.ref q1, .int q_size])), (q1, .inl (cyI, 12, .inl g1_q1))] 2 [(2, .int x1_2), (0, .ref q0), (1, .int p0)] [] := by
    intro k_1
    induction k_1 with
    | zero =>
      intro x1_2 g1_q1 hi_1_0 hi_1_1 hr_1 hq_1_0 hm_1
      exact absurd hm_1 (Nat.not_lt_zero _)
    | succ k_1 ih_1 =>
      intro x1_2 g1_q1 hi_1_0 hi_1_1 hr_1 hq_1_0 hm_1
      refine j_iload_n (pc := 2) C dX4_remove_2 rfl 0 rfl ?_
      refine j_aload_n (pc := 3) C dX4_remove_3 rfl 1 rfl ?_
      refine j_get (pc := 4) (ci := 4) (v := .int q_size) C inw_4 0 rfl rfl 1 (by decide) wd_29 rfl rfl dX4_remove_4 ?_
      refine j_iconst (pc := 7) (v := 1) C dX4_remove_7 (by decide) ?_
      obtain ⟨v_2, ev_2⟩ : ∃ z : Int32, q_size - 1 = z := ⟨_, rfl⟩
      have el_1 : (1 : Int32).toInt = 1 := rfl
      have hv_2 : v_2.toInt = q_size.toInt - (1 : Int32).toInt := by rw [← ev_2]; exact fb_subI (by omega) (by omega)
      refine j_isub (pc := 8) (v := v_2) C dX4_remove_8 ev_2 ?_
      refine j_icmp_ge (pc := 9) (tgt := 32) C dX4_remove_9 (by decide) (fun c_3 => ?_) (fun c_3 => ?_)
      · skip
        rw [i_le] at c_3
        refine j_aload_n (pc := 32) C dX4_remove_32 rfl 1 rfl ?_
        refine j_dup (pc := 33) C dX4_remove_33 rfl ?_
        refine j_get (pc := 34) (ci := 4) (v := .int q_size) C inw_4 0 rfl rfl 1 (by decide) wd_29 rfl rfl dX4_remove_34 ?_
        refine j_iconst (pc := 37) (v := 1) C dX4_remove_37 (by decide) ?_
        obtain ⟨v_4, ev_4⟩ : ∃ z : Int32, q_size - 1 = z := ⟨_, rfl⟩
        have el_1 : (1 : Int32).toInt = 1 := rfl
        have hv_4 : v_4.toInt = q_size.toInt - (1 : Int32).toInt := by rw [← ev_4]; exact fb_subI (by omega) (by omega)
        refine j_isub (pc := 38) (v := v_4) C dX4_remove_38 ev_4 ?_
        refine j_put (pc := 39) (ci := 4) (v := .int v_4) (ws' := [(q0, .inr (4, [.ref q1, .int v_4])), (q1, .inl (cyI, 12, .inl g1_q1))]) C inw_4 0 rfl rfl 1 (by decide) wd_29 rfl tyX4_ok nmX4 rfl (tyX4_ok 1 (by decide)) rfl rfl (Nat.le_of_ble_eq_true rfl) dX4_remove_39 rfl ?_
        exact j_vret (pc := 42) C hr hk (fun i => [].getD i 0, fun i => [v_4].getD i 0, fun i => [g1_q1].getD i (fun _ => 0), fun i => [].getD i (fun _ => 0)) rfl (show (0 ≤ (v_4).toInt ∧ (v_4).toInt ≤ 11) ∧ (Iv 12 (0) (11) g1_q1) ∧ ((v_4).toInt = (q_size).toInt - 1) ∧ (IM ((p0).toInt < (q_size).toInt) (∀ p : Nat, (p : Int) < (q_size).toInt - 1 → g1_q1 p = q_ware (if (p : Int) < (p0).toInt then p else p + 1))) from ⟨by omega, hi_1_1, by omega, (fun z9 p hp => (hq_1_0 p (by omega)).1 (by omega))⟩) [0, 1] (by decide) rfl (by decide) (by decide) dX4_remove_42
      · skip
        rw [i_le] at c_3
        refine j_aload_n (pc := 12) C dX4_remove_12 rfl 1 rfl ?_
        refine j_get (pc := 13) (ci := 4) (v := .ref q1) C inw_4 0 rfl rfl 0 (by decide) wd_31 rfl rfl dX4_remove_13 ?_
        refine j_iload_n (pc := 16) C dX4_remove_16 rfl 0 rfl ?_
        refine j_aload_n (pc := 17) C dX4_remove_17 rfl 1 rfl ?_
        refine j_get (pc := 18) (ci := 4) (v := .ref q1) C inw_4 0 rfl rfl 0 (by decide) wd_31 rfl rfl dX4_remove_18 ?_
        refine j_iload_n (pc := 21) C dX4_remove_21 rfl 0 rfl ?_
        refine j_iconst (pc := 22) (v := 1) C dX4_remove_22 (by decide) ?_
        obtain ⟨v_5, ev_5⟩ : ∃ z : Int32, x1_2 + 1 = z := ⟨_, rfl⟩
        have el_1 : (1 : Int32).toInt = 1 := rfl
        have hv_5 : v_5.toInt = x1_2.toInt + (1 : Int32).toInt := by rw [← ev_5]; exact fb_addI (by omega) (by omega)
        refine j_iadd (pc := 23) (v := v_5) C dX4_remove_23 ev_5 ?_
        obtain ⟨v_6, ev_6⟩ : ∃ z, g1_q1 (v_5).toInt.toNat = z := ⟨_, rfl⟩
        have env_6 : (g1_q1 (v_5).toInt.toNat).toInt = v_6.toInt := by rw [ev_6]
        have hv_6 := hi_1_1 (v_5).toInt.toNat (i_lt_n (by omega) (by omega)); rw [ev_6] at hv_6
        refine j_iald (pc := 24) (v := v_6) (k := (v_5).toInt.toNat) C 1 1 rfl rfl (i_nn (by omega)) rfl (i_lt_n (by omega) (by omega)) ev_6 dX4_remove_24 ?_
        obtain ⟨f_7, ef_7⟩ : ∃ z, z = upd g1_q1 (x1_2).toInt.toNat v_6 := ⟨_, rfl⟩
        have hf_7 : Iv 12 (0) (11) f_7 := by rw [ef_7]; exact Iv.upd hi_1_1 (by omega) (by omega)
        refine j_iast (pc := 25) (k := (x1_2).toInt.toNat) (ws' := [(q0, .inr (4, [.ref q1, .int q_size])), (q1, .inl (cyI, 12, .inl f_7))]) C 1 1 rfl rfl (i_nn hi_1_0.1) rfl (i_lt_n hi_1_0.1 (by omega)) dX4_remove_25 (by rw [ef_7]; rfl) ?_
        obtain ⟨v_8, ev_8⟩ : ∃ z : Int32, x1_2 + 1 = z := ⟨_, rfl⟩
        have el_1 : (1 : Int32).toInt = 1 := rfl
        have hv_8 : v_8.toInt = x1_2.toInt + (1 : Int32).toInt := by rw [← ev_8]; exact fb_addI (by omega) (by omega)
        refine j_iinc (pc := 26) (v := v_8) (lv' := [(2, .int v_8), (0, .ref q0), (1, .int p0)]) C dX4_remove_26 0 rfl ev_8 (by decide) rfl ?_
        refine j_goto (pc := 29) (tgt := 2) C dX4_remove_29 (by decide) ?_
        exact j_lv [0, 1, 2] rfl (ih_1 v_8 f_7 (by omega) hf_7 (by omega) (fun p hp => by rw [ef_7]; by_cases ep : p = (x1_2).toInt.toNat; (rw [ep, pk_us]; refine ⟨fun _ => ?_, fun h => absurd h (by omega)⟩; rw [if_neg (by omega), ← ev_6, (hq_1_0 (v_5).toInt.toNat (by omega)).2 (by omega)]; congr 1; omega); (rw [pk_un ep]; exact ⟨fun h => (hq_1_0 p hp).1 (by omega), fun h => (hq_1_0 p hp).2 (by omega)⟩)) (by omega))
  exact j_lv [0, 1, 2] rfl (loop_1 4096 p0 q_ware (by omega) h_q_ware (by omega) (fun p hp => ⟨fun h => by rw [if_pos (by omega)], fun _ => rfl⟩) (by omega))
