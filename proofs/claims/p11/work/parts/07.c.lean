theorem wd_21 : Cond.fieldLink RX7 18 "BowlShelf$Standing" "level" "[I" ∈ WALL := wl_in (by decide +kernel) (by decide +kernel)
theorem wd_22 : Cond.fieldLink RX7 30 "BowlShelf$Standing" "askings" "I" ∈ WALL := wl_in (by decide +kernel) (by decide +kernel)
theorem wd_23 : Cond.fieldLink RX7 21 "BowlShelf$Standing" "asking" "[I" ∈ WALL := wl_in (by decide +kernel) (by decide +kernel)
theorem wd_24 : Cond.methodLink RX7 34 arraycopyName ∈ WALL := wl_in (by decide +kernel) (by decide +kernel)
theorem wd_25 : Cond.native arraycopyName ∈ WALL := wl_in (by decide +kernel) (by decide +kernel)
theorem wd_26 : Cond.static arraycopyName ∈ WALL := wl_in (by decide +kernel) (by decide +kernel)
theorem wd_27 : Cond.initialized "java/lang/System" ∈ WALL := wl_in (by decide +kernel) (by decide +kernel)
theorem wd_28 : Cond.fieldLink RX7 40 "BowlShelf$Standing" "cost" "I" ∈ WALL := wl_in (by decide +kernel) (by decide +kernel)
theorem dX7_sinkAbove_0 : decode cX7_sinkAbove 0 = .ok (.iconst 0, 1) := by decide +kernel
theorem dX7_sinkAbove_1 : decode cX7_sinkAbove 1 = .ok (.istore_n 2, 1) := by decide +kernel
theorem dX7_sinkAbove_2 : decode cX7_sinkAbove 2 = .ok (.iload_n 2, 1) := by decide +kernel
theorem dX7_sinkAbove_3 : decode cX7_sinkAbove 3 = .ok (.bipush 12, 2) := by decide +kernel
theorem dX7_sinkAbove_5 : decode cX7_sinkAbove 5 = .ok (.if_icmp .ge 54, 3) := by decide +kernel
theorem dX7_sinkAbove_8 : decode cX7_sinkAbove 8 = .ok (.aload_n 0, 1) := by decide +kernel
theorem dX7_sinkAbove_9 : decode cX7_sinkAbove 9 = .ok (.iload_n 2, 1) := by decide +kernel
theorem dX7_sinkAbove_10 : decode cX7_sinkAbove 10 = .ok (.aload_n 0, 1) := by decide +kernel
theorem dX7_sinkAbove_11 : decode cX7_sinkAbove 11 = .ok (.getfield 9, 3) := by decide +kernel
theorem dX7_sinkAbove_14 : decode cX7_sinkAbove 14 = .ok (.iload_n 1, 1) := by decide +kernel
theorem dX7_sinkAbove_15 : decode cX7_sinkAbove 15 = .ok (.iaload, 1) := by decide +kernel
theorem dX7_sinkAbove_16 : decode cX7_sinkAbove 16 = .ok (.aload_n 0, 1) := by decide +kernel
theorem dX7_sinkAbove_17 : decode cX7_sinkAbove 17 = .ok (.getfield 15, 3) := by decide +kernel
theorem dX7_sinkAbove_20 : decode cX7_sinkAbove 20 = .ok (.iload_n 1, 1) := by decide +kernel
theorem dX7_sinkAbove_21 : decode cX7_sinkAbove 21 = .ok (.iaload, 1) := by decide +kernel
theorem dX7_sinkAbove_22 : decode cX7_sinkAbove 22 = .ok (.invokevirtual 53, 3) := by decide +kernel
theorem dX7_sinkAbove_25 : decode cX7_sinkAbove 25 = .ok (.ifCond .eq 28, 3) := by decide +kernel
theorem dX7_sinkAbove_28 : decode cX7_sinkAbove 28 = .ok (.aload_n 0, 1) := by decide +kernel
theorem dX7_sinkAbove_29 : decode cX7_sinkAbove 29 = .ok (.getfield 18, 3) := by decide +kernel
theorem dX7_sinkAbove_32 : decode cX7_sinkAbove 32 = .ok (.iload_n 2, 1) := by decide +kernel
theorem dX7_sinkAbove_33 : decode cX7_sinkAbove 33 = .ok (.iaload, 1) := by decide +kernel
theorem dX7_sinkAbove_34 : decode cX7_sinkAbove 34 = .ok (.aload_n 0, 1) := by decide +kernel
theorem dX7_sinkAbove_35 : decode cX7_sinkAbove 35 = .ok (.getfield 18, 3) := by decide +kernel
theorem dX7_sinkAbove_38 : decode cX7_sinkAbove 38 = .ok (.iload_n 1, 1) := by decide +kernel
theorem dX7_sinkAbove_39 : decode cX7_sinkAbove 39 = .ok (.iaload, 1) := by decide +kernel
theorem dX7_sinkAbove_40 : decode cX7_sinkAbove 40 = .ok (.if_icmp .le 13, 3) := by decide +kernel
theorem dX7_sinkAbove_43 : decode cX7_sinkAbove 43 = .ok (.aload_n 0, 1) := by decide +kernel
theorem dX7_sinkAbove_44 : decode cX7_sinkAbove 44 = .ok (.getfield 18, 3) := by decide +kernel
theorem dX7_sinkAbove_47 : decode cX7_sinkAbove 47 = .ok (.iload_n 2, 1) := by decide +kernel
theorem dX7_sinkAbove_48 : decode cX7_sinkAbove 48 = .ok (.dup2, 1) := by decide +kernel
theorem dX7_sinkAbove_49 : decode cX7_sinkAbove 49 = .ok (.iaload, 1) := by decide +kernel
theorem dX7_sinkAbove_50 : decode cX7_sinkAbove 50 = .ok (.iconst 1, 1) := by decide +kernel
theorem dX7_sinkAbove_51 : decode cX7_sinkAbove 51 = .ok (.isub, 1) := by decide +kernel
theorem dX7_sinkAbove_52 : decode cX7_sinkAbove 52 = .ok (.iastore, 1) := by decide +kernel
theorem dX7_sinkAbove_53 : decode cX7_sinkAbove 53 = .ok (.iinc 2 1, 3) := by decide +kernel
theorem dX7_sinkAbove_56 : decode cX7_sinkAbove 56 = .ok (.goto (-54), 3) := by decide +kernel
theorem dX7_sinkAbove_59 : decode cX7_sinkAbove 59 = .ok (.return_, 1) := by decide +kernel
theorem dX7_closeGap_0 : decode cX7_closeGap 0 = .ok (.iconst 0, 1) := by decide +kernel
theorem dX7_closeGap_1 : decode cX7_closeGap 1 = .ok (.istore_n 3, 1) := by decide +kernel
theorem dX7_closeGap_2 : decode cX7_closeGap 2 = .ok (.iload_n 3, 1) := by decide +kernel
theorem dX7_closeGap_3 : decode cX7_closeGap 3 = .ok (.bipush 12, 2) := by decide +kernel
theorem dX7_closeGap_5 : decode cX7_closeGap 5 = .ok (.if_icmp .ge 39, 3) := by decide +kernel
theorem dX7_closeGap_8 : decode cX7_closeGap 8 = .ok (.aload_n 0, 1) := by decide +kernel
theorem dX7_closeGap_9 : decode cX7_closeGap 9 = .ok (.getfield 9, 3) := by decide +kernel
theorem dX7_closeGap_12 : decode cX7_closeGap 12 = .ok (.iload_n 3, 1) := by decide +kernel
theorem dX7_closeGap_13 : decode cX7_closeGap 13 = .ok (.iaload, 1) := by decide +kernel
theorem dX7_closeGap_14 : decode cX7_closeGap 14 = .ok (.iload_n 1, 1) := by decide +kernel
theorem dX7_closeGap_15 : decode cX7_closeGap 15 = .ok (.if_icmp .ne 23, 3) := by decide +kernel
theorem dX7_closeGap_18 : decode cX7_closeGap 18 = .ok (.aload_n 0, 1) := by decide +kernel
theorem dX7_closeGap_19 : decode cX7_closeGap 19 = .ok (.getfield 15, 3) := by decide +kernel
theorem dX7_closeGap_22 : decode cX7_closeGap 22 = .ok (.iload_n 3, 1) := by decide +kernel
theorem dX7_closeGap_23 : decode cX7_closeGap 23 = .ok (.iaload, 1) := by decide +kernel
theorem dX7_closeGap_24 : decode cX7_closeGap 24 = .ok (.iload_n 2, 1) := by decide +kernel
theorem dX7_closeGap_25 : decode cX7_closeGap 25 = .ok (.if_icmp .le 13, 3) := by decide +kernel
theorem dX7_closeGap_28 : decode cX7_closeGap 28 = .ok (.aload_n 0, 1) := by decide +kernel
theorem dX7_closeGap_29 : decode cX7_closeGap 29 = .ok (.getfield 15, 3) := by decide +kernel
theorem dX7_closeGap_32 : decode cX7_closeGap 32 = .ok (.iload_n 3, 1) := by decide +kernel
theorem dX7_closeGap_33 : decode cX7_closeGap 33 = .ok (.dup2, 1) := by decide +kernel
theorem dX7_closeGap_34 : decode cX7_closeGap 34 = .ok (.iaload, 1) := by decide +kernel
theorem dX7_closeGap_35 : decode cX7_closeGap 35 = .ok (.iconst 1, 1) := by decide +kernel
theorem dX7_closeGap_36 : decode cX7_closeGap 36 = .ok (.isub, 1) := by decide +kernel
theorem dX7_closeGap_37 : decode cX7_closeGap 37 = .ok (.iastore, 1) := by decide +kernel
theorem dX7_closeGap_38 : decode cX7_closeGap 38 = .ok (.iinc 3 1, 3) := by decide +kernel
theorem dX7_closeGap_41 : decode cX7_closeGap 41 = .ok (.goto (-39), 3) := by decide +kernel
theorem dX7_closeGap_44 : decode cX7_closeGap 44 = .ok (.return_, 1) := by decide +kernel
theorem dX7_lifts_0 : decode cX7_lifts 0 = .ok (.iconst 0, 1) := by decide +kernel
theorem dX7_lifts_1 : decode cX7_lifts 1 = .ok (.istore_n 2, 1) := by decide +kernel
theorem dX7_lifts_2 : decode cX7_lifts 2 = .ok (.iconst 0, 1) := by decide +kernel
theorem dX7_lifts_3 : decode cX7_lifts 3 = .ok (.istore_n 3, 1) := by decide +kernel
theorem dX7_lifts_4 : decode cX7_lifts 4 = .ok (.iload_n 3, 1) := by decide +kernel
theorem dX7_lifts_5 : decode cX7_lifts 5 = .ok (.aload_n 0, 1) := by decide +kernel
theorem dX7_lifts_6 : decode cX7_lifts 6 = .ok (.getfield 30, 3) := by decide +kernel
theorem dX7_lifts_9 : decode cX7_lifts 9 = .ok (.if_icmp .ge 82, 3) := by decide +kernel
theorem dX7_lifts_12 : decode cX7_lifts 12 = .ok (.aload_n 0, 1) := by decide +kernel
theorem dX7_lifts_13 : decode cX7_lifts 13 = .ok (.getfield 21, 3) := by decide +kernel
theorem dX7_lifts_16 : decode cX7_lifts 16 = .ok (.iload_n 3, 1) := by decide +kernel
theorem dX7_lifts_17 : decode cX7_lifts 17 = .ok (.iaload, 1) := by decide +kernel
theorem dX7_lifts_18 : decode cX7_lifts 18 = .ok (.istore 4, 2) := by decide +kernel
theorem dX7_lifts_20 : decode cX7_lifts 20 = .ok (.aload_n 0, 1) := by decide +kernel
theorem dX7_lifts_21 : decode cX7_lifts 21 = .ok (.iload 4, 2) := by decide +kernel
theorem dX7_lifts_23 : decode cX7_lifts 23 = .ok (.invokevirtual 43, 3) := by decide +kernel
theorem dX7_lifts_26 : decode cX7_lifts 26 = .ok (.ifCond .ne 59, 3) := by decide +kernel
theorem dX7_lifts_29 : decode cX7_lifts 29 = .ok (.aload_n 0, 1) := by decide +kernel
theorem dX7_lifts_30 : decode cX7_lifts 30 = .ok (.iload_n 1, 1) := by decide +kernel
theorem dX7_lifts_31 : decode cX7_lifts 31 = .ok (.aload_n 0, 1) := by decide +kernel
theorem dX7_lifts_32 : decode cX7_lifts 32 = .ok (.getfield 9, 3) := by decide +kernel
theorem dX7_lifts_35 : decode cX7_lifts 35 = .ok (.iload 4, 2) := by decide +kernel
theorem dX7_lifts_37 : decode cX7_lifts 37 = .ok (.iaload, 1) := by decide +kernel
theorem dX7_lifts_38 : decode cX7_lifts 38 = .ok (.aload_n 0, 1) := by decide +kernel
theorem dX7_lifts_39 : decode cX7_lifts 39 = .ok (.getfield 15, 3) := by decide +kernel
theorem dX7_lifts_42 : decode cX7_lifts 42 = .ok (.iload 4, 2) := by decide +kernel
theorem dX7_lifts_44 : decode cX7_lifts 44 = .ok (.iaload, 1) := by decide +kernel
theorem dX7_lifts_45 : decode cX7_lifts 45 = .ok (.invokevirtual 53, 3) := by decide +kernel
theorem dX7_lifts_48 : decode cX7_lifts 48 = .ok (.ifCond .eq 37, 3) := by decide +kernel
theorem dX7_lifts_51 : decode cX7_lifts 51 = .ok (.iload_n 2, 1) := by decide +kernel
theorem dX7_lifts_52 : decode cX7_lifts 52 = .ok (.iload 4, 2) := by decide +kernel
theorem dX7_lifts_54 : decode cX7_lifts 54 = .ok (.iload_n 1, 1) := by decide +kernel
theorem dX7_lifts_55 : decode cX7_lifts 55 = .ok (.if_icmp .ne 7, 3) := by decide +kernel
theorem dX7_lifts_58 : decode cX7_lifts 58 = .ok (.iconst 1, 1) := by decide +kernel
theorem dX7_lifts_59 : decode cX7_lifts 59 = .ok (.goto 24, 3) := by decide +kernel
theorem dX7_lifts_62 : decode cX7_lifts 62 = .ok (.aload_n 0, 1) := by decide +kernel
theorem dX7_lifts_63 : decode cX7_lifts 63 = .ok (.getfield 18, 3) := by decide +kernel
theorem dX7_lifts_66 : decode cX7_lifts 66 = .ok (.iload_n 1, 1) := by decide +kernel
theorem dX7_lifts_67 : decode cX7_lifts 67 = .ok (.iaload, 1) := by decide +kernel
theorem dX7_lifts_68 : decode cX7_lifts 68 = .ok (.aload_n 0, 1) := by decide +kernel
theorem dX7_lifts_69 : decode cX7_lifts 69 = .ok (.getfield 18, 3) := by decide +kernel
theorem dX7_lifts_72 : decode cX7_lifts 72 = .ok (.iload 4, 2) := by decide +kernel
theorem dX7_lifts_74 : decode cX7_lifts 74 = .ok (.iaload, 1) := by decide +kernel
theorem dX7_lifts_75 : decode cX7_lifts 75 = .ok (.if_icmp .le 7, 3) := by decide +kernel
theorem dX7_lifts_78 : decode cX7_lifts 78 = .ok (.iconst 2, 1) := by decide +kernel
theorem dX7_lifts_79 : decode cX7_lifts 79 = .ok (.goto 4, 3) := by decide +kernel
theorem dX7_lifts_82 : decode cX7_lifts 82 = .ok (.iconst 0, 1) := by decide +kernel
theorem dX7_lifts_83 : decode cX7_lifts 83 = .ok (.iadd, 1) := by decide +kernel
theorem dX7_lifts_84 : decode cX7_lifts 84 = .ok (.istore_n 2, 1) := by decide +kernel
theorem dX7_lifts_85 : decode cX7_lifts 85 = .ok (.iinc 3 1, 3) := by decide +kernel
theorem dX7_lifts_88 : decode cX7_lifts 88 = .ok (.goto (-84), 3) := by decide +kernel
theorem dX7_lifts_91 : decode cX7_lifts 91 = .ok (.iload_n 2, 1) := by decide +kernel
theorem dX7_lifts_92 : decode cX7_lifts 92 = .ok (.ireturn, 1) := by decide +kernel
theorem dX7_timesAsked_0 : decode cX7_timesAsked 0 = .ok (.iconst 0, 1) := by decide +kernel
theorem dX7_timesAsked_1 : decode cX7_timesAsked 1 = .ok (.istore_n 2, 1) := by decide +kernel
theorem dX7_timesAsked_2 : decode cX7_timesAsked 2 = .ok (.iconst 0, 1) := by decide +kernel
theorem dX7_timesAsked_3 : decode cX7_timesAsked 3 = .ok (.istore_n 3, 1) := by decide +kernel
theorem dX7_timesAsked_4 : decode cX7_timesAsked 4 = .ok (.iload_n 3, 1) := by decide +kernel
theorem dX7_timesAsked_5 : decode cX7_timesAsked 5 = .ok (.aload_n 0, 1) := by decide +kernel
theorem dX7_timesAsked_6 : decode cX7_timesAsked 6 = .ok (.getfield 30, 3) := by decide +kernel
theorem dX7_timesAsked_9 : decode cX7_timesAsked 9 = .ok (.if_icmp .ge 27, 3) := by decide +kernel
theorem dX7_timesAsked_12 : decode cX7_timesAsked 12 = .ok (.iload_n 2, 1) := by decide +kernel
theorem dX7_timesAsked_13 : decode cX7_timesAsked 13 = .ok (.aload_n 0, 1) := by decide +kernel
theorem dX7_timesAsked_14 : decode cX7_timesAsked 14 = .ok (.getfield 21, 3) := by decide +kernel
theorem dX7_timesAsked_17 : decode cX7_timesAsked 17 = .ok (.iload_n 3, 1) := by decide +kernel
theorem dX7_timesAsked_18 : decode cX7_timesAsked 18 = .ok (.iaload, 1) := by decide +kernel
theorem dX7_timesAsked_19 : decode cX7_timesAsked 19 = .ok (.iload_n 1, 1) := by decide +kernel
theorem dX7_timesAsked_20 : decode cX7_timesAsked 20 = .ok (.if_icmp .ne 7, 3) := by decide +kernel
theorem dX7_timesAsked_23 : decode cX7_timesAsked 23 = .ok (.iconst 1, 1) := by decide +kernel
theorem dX7_timesAsked_24 : decode cX7_timesAsked 24 = .ok (.goto 4, 3) := by decide +kernel
theorem dX7_timesAsked_27 : decode cX7_timesAsked 27 = .ok (.iconst 0, 1) := by decide +kernel
theorem dX7_timesAsked_28 : decode cX7_timesAsked 28 = .ok (.iadd, 1) := by decide +kernel
theorem dX7_timesAsked_29 : decode cX7_timesAsked 29 = .ok (.istore_n 2, 1) := by decide +kernel
theorem dX7_timesAsked_30 : decode cX7_timesAsked 30 = .ok (.iinc 3 1, 3) := by decide +kernel
theorem dX7_timesAsked_33 : decode cX7_timesAsked 33 = .ok (.goto (-29), 3) := by decide +kernel
theorem dX7_timesAsked_36 : decode cX7_timesAsked 36 = .ok (.iload_n 2, 1) := by decide +kernel
theorem dX7_timesAsked_37 : decode cX7_timesAsked 37 = .ok (.ireturn, 1) := by decide +kernel
theorem dX7_copy_0 : decode cX7_copy 0 = .ok (.aload_n 1, 1) := by decide +kernel
theorem dX7_copy_1 : decode cX7_copy 1 = .ok (.getfield 9, 3) := by decide +kernel
theorem dX7_copy_4 : decode cX7_copy 4 = .ok (.iconst 0, 1) := by decide +kernel
theorem dX7_copy_5 : decode cX7_copy 5 = .ok (.aload_n 0, 1) := by decide +kernel
theorem dX7_copy_6 : decode cX7_copy 6 = .ok (.getfield 9, 3) := by decide +kernel
theorem dX7_copy_9 : decode cX7_copy 9 = .ok (.iconst 0, 1) := by decide +kernel
theorem dX7_copy_10 : decode cX7_copy 10 = .ok (.bipush 12, 2) := by decide +kernel
theorem dX7_copy_12 : decode cX7_copy 12 = .ok (.invokestatic 34, 3) := by decide +kernel
theorem dX7_copy_15 : decode cX7_copy 15 = .ok (.aload_n 1, 1) := by decide +kernel
theorem dX7_copy_16 : decode cX7_copy 16 = .ok (.getfield 15, 3) := by decide +kernel
theorem dX7_copy_19 : decode cX7_copy 19 = .ok (.iconst 0, 1) := by decide +kernel
theorem dX7_copy_20 : decode cX7_copy 20 = .ok (.aload_n 0, 1) := by decide +kernel
theorem dX7_copy_21 : decode cX7_copy 21 = .ok (.getfield 15, 3) := by decide +kernel
theorem dX7_copy_24 : decode cX7_copy 24 = .ok (.iconst 0, 1) := by decide +kernel
theorem dX7_copy_25 : decode cX7_copy 25 = .ok (.bipush 12, 2) := by decide +kernel
theorem dX7_copy_27 : decode cX7_copy 27 = .ok (.invokestatic 34, 3) := by decide +kernel
theorem dX7_copy_30 : decode cX7_copy 30 = .ok (.aload_n 1, 1) := by decide +kernel
theorem dX7_copy_31 : decode cX7_copy 31 = .ok (.getfield 18, 3) := by decide +kernel
theorem dX7_copy_34 : decode cX7_copy 34 = .ok (.iconst 0, 1) := by decide +kernel
theorem dX7_copy_35 : decode cX7_copy 35 = .ok (.aload_n 0, 1) := by decide +kernel
theorem dX7_copy_36 : decode cX7_copy 36 = .ok (.getfield 18, 3) := by decide +kernel
theorem dX7_copy_39 : decode cX7_copy 39 = .ok (.iconst 0, 1) := by decide +kernel
theorem dX7_copy_40 : decode cX7_copy 40 = .ok (.bipush 12, 2) := by decide +kernel
theorem dX7_copy_42 : decode cX7_copy 42 = .ok (.invokestatic 34, 3) := by decide +kernel
theorem dX7_copy_45 : decode cX7_copy 45 = .ok (.aload_n 1, 1) := by decide +kernel
theorem dX7_copy_46 : decode cX7_copy 46 = .ok (.getfield 21, 3) := by decide +kernel
theorem dX7_copy_49 : decode cX7_copy 49 = .ok (.iconst 0, 1) := by decide +kernel
theorem dX7_copy_50 : decode cX7_copy 50 = .ok (.aload_n 0, 1) := by decide +kernel
theorem dX7_copy_51 : decode cX7_copy 51 = .ok (.getfield 21, 3) := by decide +kernel
theorem dX7_copy_54 : decode cX7_copy 54 = .ok (.iconst 0, 1) := by decide +kernel
theorem dX7_copy_55 : decode cX7_copy 55 = .ok (.bipush 30, 2) := by decide +kernel
theorem dX7_copy_57 : decode cX7_copy 57 = .ok (.invokestatic 34, 3) := by decide +kernel
theorem dX7_copy_60 : decode cX7_copy 60 = .ok (.aload_n 0, 1) := by decide +kernel
theorem dX7_copy_61 : decode cX7_copy 61 = .ok (.aload_n 1, 1) := by decide +kernel
theorem dX7_copy_62 : decode cX7_copy 62 = .ok (.getfield 30, 3) := by decide +kernel
theorem dX7_copy_65 : decode cX7_copy 65 = .ok (.putfield 30, 3) := by decide +kernel
theorem dX7_copy_68 : decode cX7_copy 68 = .ok (.aload_n 0, 1) := by decide +kernel
theorem dX7_copy_69 : decode cX7_copy 69 = .ok (.aload_n 1, 1) := by decide +kernel
theorem dX7_copy_70 : decode cX7_copy 70 = .ok (.getfield 40, 3) := by decide +kernel
theorem dX7_copy_73 : decode cX7_copy 73 = .ok (.putfield 40, 3) := by decide +kernel
theorem dX7_copy_76 : decode cX7_copy 76 = .ok (.return_, 1) := by decide +kernel
set_option maxHeartbeats 4000000 in
set_option maxRecDepth 100000 in
theorem c_X7_sinkAbove (l : Launch) (D : DG) (cyC cyI cyJ cyZ cyO : ClassId) (n0 : Nat) (n1 : Nat) (n2 : Nat) (n3 : Nat) (n4 : Nat) (p0 : Int32) (n_askings : Int32) (n_cost : Int32) (n_laid : Int32) (n_shelf : Nat → Int32) (n_stack : Nat → Int32) (n_level : Nat → Int32) (h_n_askings : 0 ≤ (n_askings).toInt ∧ (n_askings).toInt ≤ 30) (h_n_laid : 0 ≤ (n_laid).toInt ∧ (n_laid).toInt ≤ 1) (h_p0 : 0 ≤ (p0).toInt ∧ (p0).toInt ≤ 11) (h_n_shelf : Iv 12 (-1) (3) n_shelf) (h_n_stack : Iv 12 (0) (7) n_stack) (h_n_level : Iv 12 (0) (11) n_level) : KK l D (TY cyC cyI cyJ cyZ cyO) yX7_sinkAbove cX7_sinkAbove 3 none ({ frames := 1, cells := 0, slots := 0, locals := 23 } : Room) 0 0 [.ref n0, .int p0] [(n0, .inr (7, [.ref n1, .ref n2, .ref n3, .ref n4, .int n_askings, .int n_cost, .int n_laid])), (n1, .inl (cyI, 12, .inl n_shelf)), (n2, .inl (cyI, 12, .inl n_stack)), (n3, .inl (cyI, 12, .inl n_level))] (fun u => none) (fun u => (Iv 12 (0) (11) (u.2.2.1 0)) ∧ (∀ j : Nat, j < 12 → ((u.2.2.1 0) j).toInt = (snk n_shelf n_stack n_level (p0).toInt.toNat) j)) (fun u => [(n0, .inr (7, [.ref n1, .ref n2, .ref n3, .ref n4, .int n_askings, .int n_cost, .int n_laid])), (n1, .inl (cyI, 12, .inl n_shelf)), (n2, .inl (cyI, 12, .inl n_stack)), (n3, .inl (cyI, 12, .inl (u.2.2.1 0)))]) := by
  refine KK.of (lv0 := [(0, .ref n0), (1, .int p0)]) (by decide) rfl (Nat.le_of_ble_eq_true rfl) ?_
  intro p e s m args below meth c A C hr hk hin
  refine j_iconst (pc := 0) (v := 0) C dX7_sinkAbove_0 (by decide) ?_
  refine j_istore_n (pc := 1) (lv' := [(2, .int 0), (0, .ref n0), (1, .int p0)]) C dX7_sinkAbove_1 rfl (by decide) rfl ?_
  have loop_1 : ∀ (k_1 : Nat) (x1_2 : Int32) (g1_n3 : Nat → Int32), (0 ≤ (x1_2).toInt ∧ (x1_2).toInt ≤ 12) → (Iv 12 (0) (11) g1_n3) → (PWI (snk n_shelf n_stack n_level (p0).toInt.toNat) n_level g1_n3 x1_2.toInt) → (12 - x1_2.toInt).toNat < k_1 → J p l e ({ frames := 1, cells := 0, slots := 0, locals := 23 } : Room) s m args below meth c D A 3 0 0 (QX below D (TY cyC cyI cyJ cyZ cyO) A (fun u => none) (fun u => (Iv 12 (0) (11) (u.2.2.1 0)) ∧ (∀ j : Nat, j < 12 → ((u.2.2.1 0) j).toInt = (snk n_shelf n_stack n_level (p0).toInt.toNat) j)) (fun u => [(n0, .inr (7, [.ref n1, .ref n2, .ref n3, .ref n4, .int n_askings, .int n_cost, .int n_laid])), (n1, .inl (cyI, 12, .inl n_shelf)), (n2, .inl (cyI, 12, .inl n_stack)), (n3, .inl (cyI, 12, .inl (u.2.2.1 0)))]) args s 0 0) [(n0, .inr (7, [.ref n1, .ref n2, .ref n3, .ref n4, .int n_askings, .int n_cost, .int n_laid])), (n1, .inl (cyI, 12, .inl n_shelf)), (n2, .inl (cyI, 12, .inl n_stack)), (n3, .inl (cyI, 12, .inl g1_n3))] 2 [(2, .int x1_2), (0, .ref n0), (1, .int p0)] [] := by
    intro k_1
    induction k_1 with
    | zero =>
      intro x1_2 g1_n3 hi_1_0 hi_1_1 hq_1_0 hm_1
      exact absurd hm_1 (Nat.not_lt_zero _)
    | succ k_1 ih_1 =>
      intro x1_2 g1_n3 hi_1_0 hi_1_1 hq_1_0 hm_1
      refine j_iload_n (pc := 2) C dX7_sinkAbove_2 rfl 0 rfl ?_
      refine j_bipush (pc := 3) (v := 12) C dX7_sinkAbove_3 (by decide) ?_
      refine j_icmp_ge (pc := 5) (tgt := 59) C dX7_sinkAbove_5 (by decide) (fun c_2 => ?_) (fun c_2 => ?_)
      · skip
        have el_12 : (12 : Int32).toInt = 12 := rfl
        rw [i_le] at c_2
        have k0c_2 : x1_2.toInt = 12 := by omega
        exact j_vret (pc := 59) C hr hk (fun i => [].getD i 0, fun i => [].getD i 0, fun i => [g1_n3].getD i (fun _ => 0), fun i => [].getD i (fun _ => 0)) rfl (show (Iv 12 (0) (11) g1_n3) ∧ (∀ j : Nat, j < 12 → (g1_n3 j).toInt = (snk n_shelf n_stack n_level (p0).toInt.toNat) j) from ⟨hi_1_1, (PWI.fin hq_1_0 (by omega))⟩) [0, 1, 2, 3] (by decide) rfl (by decide) (by decide) dX7_sinkAbove_59
      · skip
        have el_12 : (12 : Int32).toInt = 12 := rfl
        rw [i_le] at c_2
        refine j_aload_n (pc := 8) C dX7_sinkAbove_8 rfl 1 rfl ?_
        refine j_iload_n (pc := 9) C dX7_sinkAbove_9 rfl 0 rfl ?_
        refine j_aload_n (pc := 10) C dX7_sinkAbove_10 rfl 1 rfl ?_
        refine j_get (pc := 11) (ci := 7) (v := .ref n1) C inw_7 0 rfl rfl 0 (by decide) wd_2 rfl rfl dX7_sinkAbove_11 ?_
        refine j_iload_n (pc := 14) C dX7_sinkAbove_14 rfl 2 rfl ?_
        obtain ⟨v_3, ev_3⟩ : ∃ z, n_shelf (p0).toInt.toNat = z := ⟨_, rfl⟩
        have env_3 : (n_shelf (p0).toInt.toNat).toInt = v_3.toInt := by rw [ev_3]
        have hv_3 := h_n_shelf (p0).toInt.toNat (i_lt_n h_p0.1 (Int.lt_of_le_of_lt h_p0.2 (by decide))); rw [ev_3] at hv_3
        refine j_iald (pc := 15) (v := v_3) (k := (p0).toInt.toNat) C 1 1 rfl rfl (i_nn h_p0.1) rfl (i_lt_n h_p0.1 (Int.lt_of_le_of_lt h_p0.2 (by decide))) ev_3 dX7_sinkAbove_15 ?_
        refine j_aload_n (pc := 16) C dX7_sinkAbove_16 rfl 1 rfl ?_
        refine j_get (pc := 17) (ci := 7) (v := .ref n2) C inw_7 0 rfl rfl 1 (by decide) wd_3 rfl rfl dX7_sinkAbove_17 ?_
        refine j_iload_n (pc := 20) C dX7_sinkAbove_20 rfl 2 rfl ?_
        obtain ⟨v_4, ev_4⟩ : ∃ z, n_stack (p0).toInt.toNat = z := ⟨_, rfl⟩
        have env_4 : (n_stack (p0).toInt.toNat).toInt = v_4.toInt := by rw [ev_4]
        have hv_4 := h_n_stack (p0).toInt.toNat (i_lt_n h_p0.1 (Int.lt_of_le_of_lt h_p0.2 (by decide))); rw [ev_4] at hv_4
        refine j_iald (pc := 21) (v := v_4) (k := (p0).toInt.toNat) C 2 1 rfl rfl (i_nn h_p0.1) rfl (i_lt_n h_p0.1 (Int.lt_of_le_of_lt h_p0.2 (by decide))) ev_4 dX7_sinkAbove_21 ?_
        refine j_callV (pc := 22) (As := [.int x1_2, .int v_3, .int v_4]) (rest := []) (wr := [(n3, .inl (cyI, 12, .inl g1_n3))]) C (c_X7_stands l D cyC cyI cyJ cyZ cyO n0 n1 n2 n3 n4 x1_2 v_3 v_4 n_askings n_cost n_laid n_shelf n_stack h_n_askings h_n_laid (by omega) h_n_shelf h_n_stack) wd_8 wd_9 wd_10 wd_11 wd_12 ⟨by decide, by decide, rfl⟩ rfl ⟨rfl, rfl, by decide, by decide⟩ ⟨by decide, by decide⟩ [0, 1, 2] [3] rfl rfl ⟨by decide, by decide, by decide⟩ 0 rfl rfl rfl (Nat.le_of_ble_eq_true rfl) dX7_sinkAbove_22 (fun u_5 hw_6 => ?_)
        refine j_eq (ws2 := [(n3, .inl (cyI, 12, .inl g1_n3)), (n0, .inr (7, [.ref n1, .ref n2, .ref n3, .ref n4, .int n_askings, .int n_cost, .int n_laid])), (n1, .inl (cyI, 12, .inl n_shelf)), (n2, .inl (cyI, 12, .inl n_stack))]) (pc2 := 25) (lv2 := [(2, .int x1_2), (0, .ref n0), (1, .int p0)]) (st2 := [.int (u_5.2.1 0)]) rfl rfl rfl rfl ?_
        obtain ⟨hw_6_0, hw_6_1, hw_6_2⟩ := hw_6
        refine j_if_eq (pc := 25) (tgt := 53) C dX7_sinkAbove_25 (by decide) (fun c_7 => ?_) (fun c_7 => ?_)
        · skip
          have el_0 : (0 : Int32).toInt = 0 := rfl
          rw [i_eq] at c_7
          obtain ⟨v_8, ev_8⟩ : ∃ z : Int32, x1_2 + 1 = z := ⟨_, rfl⟩
          have el_1 : (1 : Int32).toInt = 1 := rfl
          have hv_8 : v_8.toInt = x1_2.toInt + (1 : Int32).toInt := by rw [← ev_8]; exact fb_addI (by omega) (by omega)
          refine j_iinc (pc := 53) (v := v_8) (lv' := [(2, .int v_8), (0, .ref n0), (1, .int p0)]) C dX7_sinkAbove_53 0 rfl ev_8 (by decide) rfl ?_
          refine j_goto (pc := 56) (tgt := 2) C dX7_sinkAbove_56 (by decide) ?_
          refine j_subG (ws' := [(n0, .inr (7, [.ref n1, .ref n2, .ref n3, .ref n4, .int n_askings, .int n_cost, .int n_laid])), (n1, .inl (cyI, 12, .inl n_shelf)), (n2, .inl (cyI, 12, .inl n_stack)), (n3, .inl (cyI, 12, .inl g1_n3))]) [1, 2, 3, 0] (by decide) rfl ?_
          exact j_lv [0, 1, 2] rfl (ih_1 v_8 g1_n3 (by omega) hi_1_1 (PWI.step hq_1_0 (by omega) (by omega) (fun j hj => rfl) (by have y1 := congrArg Int32.toInt (PWI.at hq_1_0 (by omega) (by omega)); have y2 := snk_low hq_1_0 (w := (p0).toInt.toNat) (by omega); rw [y1]; exact (if_neg (fun z => by rcases hw_6_1 with h | h | h; omega; exact h (z.1.trans ev_3); exact h (z.2.1.trans ev_4))).symm)) (by omega))
        · skip
          have el_0 : (0 : Int32).toInt = 0 := rfl
          rw [i_eq] at c_7
          have k0c_7 : ((u_5.2.1 0)).toInt = 1 := by omega
          refine j_aload_n (pc := 28) C dX7_sinkAbove_28 rfl 1 rfl ?_
          refine j_get (pc := 29) (ci := 7) (v := .ref n3) C inw_7 1 rfl rfl 2 (by decide) wd_21 rfl rfl dX7_sinkAbove_29 ?_
          refine j_iload_n (pc := 32) C dX7_sinkAbove_32 rfl 0 rfl ?_
          obtain ⟨v_9, ev_9⟩ : ∃ z, g1_n3 (x1_2).toInt.toNat = z := ⟨_, rfl⟩
          have env_9 : (g1_n3 (x1_2).toInt.toNat).toInt = v_9.toInt := by rw [ev_9]
          have hv_9 := hi_1_1 (x1_2).toInt.toNat (i_lt_n hi_1_0.1 (by omega)); rw [ev_9] at hv_9
          refine j_iald (pc := 33) (v := v_9) (k := (x1_2).toInt.toNat) C 0 1 rfl rfl (i_nn hi_1_0.1) rfl (i_lt_n hi_1_0.1 (by omega)) ev_9 dX7_sinkAbove_33 ?_
          refine j_aload_n (pc := 34) C dX7_sinkAbove_34 rfl 1 rfl ?_
          refine j_get (pc := 35) (ci := 7) (v := .ref n3) C inw_7 1 rfl rfl 2 (by decide) wd_21 rfl rfl dX7_sinkAbove_35 ?_
          refine j_iload_n (pc := 38) C dX7_sinkAbove_38 rfl 2 rfl ?_
          obtain ⟨v_10, ev_10⟩ : ∃ z, g1_n3 (p0).toInt.toNat = z := ⟨_, rfl⟩
          have env_10 : (g1_n3 (p0).toInt.toNat).toInt = v_10.toInt := by rw [ev_10]
          have hv_10 := hi_1_1 (p0).toInt.toNat (i_lt_n h_p0.1 (Int.lt_of_le_of_lt h_p0.2 (by decide))); rw [ev_10] at hv_10
          refine j_iald (pc := 39) (v := v_10) (k := (p0).toInt.toNat) C 0 1 rfl rfl (i_nn h_p0.1) rfl (i_lt_n h_p0.1 (Int.lt_of_le_of_lt h_p0.2 (by decide))) ev_10 dX7_sinkAbove_39 ?_
          refine j_icmp_le (pc := 40) (tgt := 53) C dX7_sinkAbove_40 (by decide) (fun c_11 => ?_) (fun c_11 => ?_)
          · skip
            rw [i_le] at c_11
            obtain ⟨v_12, ev_12⟩ : ∃ z : Int32, x1_2 + 1 = z := ⟨_, rfl⟩
            have el_1 : (1 : Int32).toInt = 1 := rfl
            have hv_12 : v_12.toInt = x1_2.toInt + (1 : Int32).toInt := by rw [← ev_12]; exact fb_addI (by omega) (by omega)
            refine j_iinc (pc := 53) (v := v_12) (lv' := [(2, .int v_12), (0, .ref n0), (1, .int p0)]) C dX7_sinkAbove_53 0 rfl ev_12 (by decide) rfl ?_
            refine j_goto (pc := 56) (tgt := 2) C dX7_sinkAbove_56 (by decide) ?_
            refine j_subG (ws' := [(n0, .inr (7, [.ref n1, .ref n2, .ref n3, .ref n4, .int n_askings, .int n_cost, .int n_laid])), (n1, .inl (cyI, 12, .inl n_shelf)), (n2, .inl (cyI, 12, .inl n_stack)), (n3, .inl (cyI, 12, .inl g1_n3))]) [1, 2, 3, 0] (by decide) rfl ?_
            exact j_lv [0, 1, 2] rfl (ih_1 v_12 g1_n3 (by omega) hi_1_1 (PWI.step hq_1_0 (by omega) (by omega) (fun j hj => rfl) (by have y1 := congrArg Int32.toInt (PWI.at hq_1_0 (by omega) (by omega)); have y2 := snk_low hq_1_0 (w := (p0).toInt.toNat) (by omega); rw [y1]; exact (if_neg (fun z => by have z3 := z.2.2; omega)).symm)) (by omega))
          · skip
            rw [i_le] at c_11
            refine j_aload_n (pc := 43) C dX7_sinkAbove_43 rfl 1 rfl ?_
            refine j_get (pc := 44) (ci := 7) (v := .ref n3) C inw_7 1 rfl rfl 2 (by decide) wd_21 rfl rfl dX7_sinkAbove_44 ?_
            refine j_iload_n (pc := 47) C dX7_sinkAbove_47 rfl 0 rfl ?_
            refine j_dup2 (pc := 48) C dX7_sinkAbove_48 rfl rfl ?_
            refine j_iald (pc := 49) (v := v_9) (k := (x1_2).toInt.toNat) C 0 1 rfl rfl (i_nn hi_1_0.1) rfl (i_lt_n hi_1_0.1 (by omega)) ev_9 dX7_sinkAbove_49 ?_
            refine j_iconst (pc := 50) (v := 1) C dX7_sinkAbove_50 (by decide) ?_
            obtain ⟨v_13, ev_13⟩ : ∃ z : Int32, v_9 - 1 = z := ⟨_, rfl⟩
            have el_1 : (1 : Int32).toInt = 1 := rfl
            have hv_13 : v_13.toInt = v_9.toInt - (1 : Int32).toInt := by rw [← ev_13]; exact fb_subI (by omega) (by omega)
            refine j_isub (pc := 51) (v := v_13) C dX7_sinkAbove_51 ev_13 ?_
            obtain ⟨f_14, ef_14⟩ : ∃ z, z = upd g1_n3 (x1_2).toInt.toNat v_13 := ⟨_, rfl⟩
            have hf_14 : Iv 12 (0) (11) f_14 := by rw [ef_14]; exact Iv.upd hi_1_1 (by omega) (by omega)
            refine j_iast (pc := 52) (k := (x1_2).toInt.toNat) (ws' := [(n3, .inl (cyI, 12, .inl f_14)), (n0, .inr (7, [.ref n1, .ref n2, .ref n3, .ref n4, .int n_askings, .int n_cost, .int n_laid])), (n1, .inl (cyI, 12, .inl n_shelf)), (n2, .inl (cyI, 12, .inl n_stack))]) C 0 1 rfl rfl (i_nn hi_1_0.1) rfl (i_lt_n hi_1_0.1 (by omega)) dX7_sinkAbove_52 (by rw [ef_14]; rfl) ?_
            obtain ⟨v_15, ev_15⟩ : ∃ z : Int32, x1_2 + 1 = z := ⟨_, rfl⟩
            have el_1 : (1 : Int32).toInt = 1 := rfl
            have hv_15 : v_15.toInt = x1_2.toInt + (1 : Int32).toInt := by rw [← ev_15]; exact fb_addI (by omega) (by omega)
            refine j_iinc (pc := 53) (v := v_15) (lv' := [(2, .int v_15), (0, .ref n0), (1, .int p0)]) C dX7_sinkAbove_53 0 rfl ev_15 (by decide) rfl ?_
            refine j_goto (pc := 56) (tgt := 2) C dX7_sinkAbove_56 (by decide) ?_
            refine j_subG (ws' := [(n0, .inr (7, [.ref n1, .ref n2, .ref n3, .ref n4, .int n_askings, .int n_cost, .int n_laid])), (n1, .inl (cyI, 12, .inl n_shelf)), (n2, .inl (cyI, 12, .inl n_stack)), (n3, .inl (cyI, 12, .inl f_14))]) [1, 2, 3, 0] (by decide) rfl ?_
            exact j_lv [0, 1, 2] rfl (ih_1 v_15 f_14 (by omega) hf_14 (PWI.step hq_1_0 (by omega) (by omega) (fun j hj => by rw [ef_14]; exact pk_un hj) (by have y1 := congrArg Int32.toInt (PWI.at hq_1_0 (by omega) (by omega)); have y2 := snk_low hq_1_0 (w := (p0).toInt.toNat) (by omega); have y3 : n_shelf (x1_2).toInt.toNat = v_3 ∧ n_stack (x1_2).toInt.toNat = v_4 := (by rcases hw_6_2 with h | h; (exfalso; omega); exact h); rw [ef_14, pk_us]; rw [show (snk n_shelf n_stack n_level (p0).toInt.toNat) (x1_2).toInt.toNat = (n_level (x1_2).toInt.toNat).toInt - 1 from if_pos ⟨y3.1.trans ev_3.symm, y3.2.trans ev_4.symm, by omega⟩]; omega)) (by omega))
  have el_0 : (0 : Int32).toInt = 0 := rfl
  exact j_lv [0, 1, 2] rfl (loop_1 4096 0 n_level (by decide) h_n_level (PWI.zero rfl) (by omega))
set_option maxHeartbeats 4000000 in
set_option maxRecDepth 100000 in
theorem c_X7_closeGap (l : Launch) (D : DG) (cyC cyI cyJ cyZ cyO : ClassId) (n0 : Nat) (n1 : Nat) (n2 : Nat) (n3 : Nat) (n4 : Nat) (p0 : Int32) (p1 : Int32) (n_askings : Int32) (n_cost : Int32) (n_laid : Int32) (n_shelf : Nat → Int32) (n_stack : Nat → Int32) (h_n_askings : 0 ≤ (n_askings).toInt ∧ (n_askings).toInt ≤ 30) (h_n_laid : 0 ≤ (n_laid).toInt ∧ (n_laid).toInt ≤ 1) (h_p1 : 0 ≤ (p1).toInt ∧ (p1).toInt ≤ 7) (h_n_shelf : Iv 12 (-1) (3) n_shelf) (h_n_stack : Iv 12 (0) (7) n_stack) : KK l D (TY cyC cyI cyJ cyZ cyO) yX7_closeGap cX7_closeGap 4 none ({ frames := 0, cells := 0, slots := 0, locals := 0 } : Room) 0 0 [.ref n0, .int p0, .int p1] [(n0, .inr (7, [.ref n1, .ref n2, .ref n3, .ref n4, .int n_askings, .int n_cost, .int n_laid])), (n1, .inl (cyI, 12, .inl n_shelf)), (n2, .inl (cyI, 12, .inl n_stack))] (fun u => none) (fun u => (Iv 12 (0) (7) (u.2.2.1 0)) ∧ (∀ j : Nat, j < 12 → ((u.2.2.1 0) j).toInt = (gpf n_shelf n_stack p0 p1) j)) (fun u => [(n0, .inr (7, [.ref n1, .ref n2, .ref n3, .ref n4, .int n_askings, .int n_cost, .int n_laid])), (n1, .inl (cyI, 12, .inl n_shelf)), (n2, .inl (cyI, 12, .inl (u.2.2.1 0)))]) := by
  refine KK.of (lv0 := [(0, .ref n0), (1, .int p0), (2, .int p1)]) (by decide) rfl (Nat.le_of_ble_eq_true rfl) ?_
  intro p e s m args below meth c A C hr hk hin
  refine j_iconst (pc := 0) (v := 0) C dX7_closeGap_0 (by decide) ?_
  refine j_istore_n (pc := 1) (lv' := [(3, .int 0), (0, .ref n0), (1, .int p0), (2, .int p1)]) C dX7_closeGap_1 rfl (by decide) rfl ?_
  have loop_1 : ∀ (k_1 : Nat) (x1_3 : Int32) (g1_n2 : Nat → Int32), (0 ≤ (x1_3).toInt ∧ (x1_3).toInt ≤ 12) → (Iv 12 (0) (7) g1_n2) → (PWI (gpf n_shelf n_stack p0 p1) n_stack g1_n2 x1_3.toInt) → (12 - x1_3.toInt).toNat < k_1 → J p l e ({ frames := 0, cells := 0, slots := 0, locals := 0 } : Room) s m args below meth c D A 4 0 0 (QX below D (TY cyC cyI cyJ cyZ cyO) A (fun u => none) (fun u => (Iv 12 (0) (7) (u.2.2.1 0)) ∧ (∀ j : Nat, j < 12 → ((u.2.2.1 0) j).toInt = (gpf n_shelf n_stack p0 p1) j)) (fun u => [(n0, .inr (7, [.ref n1, .ref n2, .ref n3, .ref n4, .int n_askings, .int n_cost, .int n_laid])), (n1, .inl (cyI, 12, .inl n_shelf)), (n2, .inl (cyI, 12, .inl (u.2.2.1 0)))]) args s 0 0) [(n0, .inr (7, [.ref n1, .ref n2, .ref n3, .ref n4, .int n_askings, .int n_cost, .int n_laid])), (n1, .inl (cyI, 12, .inl n_shelf)), (n2, .inl (cyI, 12, .inl g1_n2))] 2 [(3, .int x1_3), (0, .ref n0), (1, .int p0), (2, .int p1)] [] := by
    intro k_1
    induction k_1 with
    | zero =>
      intro x1_3 g1_n2 hi_1_0 hi_1_1 hq_1_0 hm_1
      exact absurd hm_1 (Nat.not_lt_zero _)
    | succ k_1 ih_1 =>
      intro x1_3 g1_n2 hi_1_0 hi_1_1 hq_1_0 hm_1
      refine j_iload_n (pc := 2) C dX7_closeGap_2 rfl 0 rfl ?_
      refine j_bipush (pc := 3) (v := 12) C dX7_closeGap_3 (by decide) ?_
      refine j_icmp_ge (pc := 5) (tgt := 44) C dX7_closeGap_5 (by decide) (fun c_2 => ?_) (fun c_2 => ?_)
      · skip
        have el_12 : (12 : Int32).toInt = 12 := rfl
        rw [i_le] at c_2
        have k0c_2 : x1_3.toInt = 12 := by omega
        exact j_vret (pc := 44) C hr hk (fun i => [].getD i 0, fun i => [].getD i 0, fun i => [g1_n2].getD i (fun _ => 0), fun i => [].getD i (fun _ => 0)) rfl (show (Iv 12 (0) (7) g1_n2) ∧ (∀ j : Nat, j < 12 → (g1_n2 j).toInt = (gpf n_shelf n_stack p0 p1) j) from ⟨hi_1_1, (PWI.fin hq_1_0 (by omega))⟩) [0, 1, 2] (by decide) rfl (by decide) (by decide) dX7_closeGap_44
      · skip
        have el_12 : (12 : Int32).toInt = 12 := rfl
        rw [i_le] at c_2
        refine j_aload_n (pc := 8) C dX7_closeGap_8 rfl 1 rfl ?_
        refine j_get (pc := 9) (ci := 7) (v := .ref n1) C inw_7 0 rfl rfl 0 (by decide) wd_2 rfl rfl dX7_closeGap_9 ?_
        refine j_iload_n (pc := 12) C dX7_closeGap_12 rfl 0 rfl ?_
        obtain ⟨v_3, ev_3⟩ : ∃ z, n_shelf (x1_3).toInt.toNat = z := ⟨_, rfl⟩
        have env_3 : (n_shelf (x1_3).toInt.toNat).toInt = v_3.toInt := by rw [ev_3]
        have hv_3 := h_n_shelf (x1_3).toInt.toNat (i_lt_n hi_1_0.1 (by omega)); rw [ev_3] at hv_3
        refine j_iald (pc := 13) (v := v_3) (k := (x1_3).toInt.toNat) C 1 1 rfl rfl (i_nn hi_1_0.1) rfl (i_lt_n hi_1_0.1 (by omega)) ev_3 dX7_closeGap_13 ?_
        refine j_iload_n (pc := 14) C dX7_closeGap_14 rfl 2 rfl ?_
        refine j_icmp_ne (pc := 15) (tgt := 38) C dX7_closeGap_15 (by decide) (fun c_4 => ?_) (fun c_4 => ?_)
        · skip
          rw [i_eq] at c_4
          obtain ⟨v_5, ev_5⟩ : ∃ z : Int32, x1_3 + 1 = z := ⟨_, rfl⟩
          have el_1 : (1 : Int32).toInt = 1 := rfl
          have hv_5 : v_5.toInt = x1_3.toInt + (1 : Int32).toInt := by rw [← ev_5]; exact fb_addI (by omega) (by omega)
          refine j_iinc (pc := 38) (v := v_5) (lv' := [(3, .int v_5), (0, .ref n0), (1, .int p0), (2, .int p1)]) C dX7_closeGap_38 0 rfl ev_5 (by decide) rfl ?_
          refine j_goto (pc := 41) (tgt := 2) C dX7_closeGap_41 (by decide) ?_
          exact j_lv [0, 1, 2, 3] rfl (ih_1 v_5 g1_n2 (by omega) hi_1_1 (PWI.step hq_1_0 (by omega) (by omega) (fun j hj => rfl) (by have y1 := congrArg Int32.toInt (PWI.at hq_1_0 (by omega) (by omega)); rw [y1]; exact (if_neg (fun z => by have z1 := congrArg Int32.toInt z.1; have z2 := z.2; omega)).symm)) (by omega))
        · skip
          rw [i_eq] at c_4
          refine j_aload_n (pc := 18) C dX7_closeGap_18 rfl 1 rfl ?_
          refine j_get (pc := 19) (ci := 7) (v := .ref n2) C inw_7 0 rfl rfl 1 (by decide) wd_3 rfl rfl dX7_closeGap_19 ?_
          refine j_iload_n (pc := 22) C dX7_closeGap_22 rfl 0 rfl ?_
          obtain ⟨v_6, ev_6⟩ : ∃ z, g1_n2 (x1_3).toInt.toNat = z := ⟨_, rfl⟩
          have env_6 : (g1_n2 (x1_3).toInt.toNat).toInt = v_6.toInt := by rw [ev_6]
          have hv_6 := hi_1_1 (x1_3).toInt.toNat (i_lt_n hi_1_0.1 (by omega)); rw [ev_6] at hv_6
          refine j_iald (pc := 23) (v := v_6) (k := (x1_3).toInt.toNat) C 2 1 rfl rfl (i_nn hi_1_0.1) rfl (i_lt_n hi_1_0.1 (by omega)) ev_6 dX7_closeGap_23 ?_
          refine j_iload_n (pc := 24) C dX7_closeGap_24 rfl 3 rfl ?_
          refine j_icmp_le (pc := 25) (tgt := 38) C dX7_closeGap_25 (by decide) (fun c_7 => ?_) (fun c_7 => ?_)
          · skip
            rw [i_le] at c_7
            obtain ⟨v_8, ev_8⟩ : ∃ z : Int32, x1_3 + 1 = z := ⟨_, rfl⟩
            have el_1 : (1 : Int32).toInt = 1 := rfl
            have hv_8 : v_8.toInt = x1_3.toInt + (1 : Int32).toInt := by rw [← ev_8]; exact fb_addI (by omega) (by omega)
            refine j_iinc (pc := 38) (v := v_8) (lv' := [(3, .int v_8), (0, .ref n0), (1, .int p0), (2, .int p1)]) C dX7_closeGap_38 0 rfl ev_8 (by decide) rfl ?_
            refine j_goto (pc := 41) (tgt := 2) C dX7_closeGap_41 (by decide) ?_
            exact j_lv [0, 1, 2, 3] rfl (ih_1 v_8 g1_n2 (by omega) hi_1_1 (PWI.step hq_1_0 (by omega) (by omega) (fun j hj => rfl) (by have y1 := congrArg Int32.toInt (PWI.at hq_1_0 (by omega) (by omega)); rw [y1]; exact (if_neg (fun z => by have z1 := congrArg Int32.toInt z.1; have z2 := z.2; omega)).symm)) (by omega))
          · skip
            rw [i_le] at c_7
            refine j_aload_n (pc := 28) C dX7_closeGap_28 rfl 1 rfl ?_
            refine j_get (pc := 29) (ci := 7) (v := .ref n2) C inw_7 0 rfl rfl 1 (by decide) wd_3 rfl rfl dX7_closeGap_29 ?_
            refine j_iload_n (pc := 32) C dX7_closeGap_32 rfl 0 rfl ?_
            refine j_dup2 (pc := 33) C dX7_closeGap_33 rfl rfl ?_
            refine j_iald (pc := 34) (v := v_6) (k := (x1_3).toInt.toNat) C 2 1 rfl rfl (i_nn hi_1_0.1) rfl (i_lt_n hi_1_0.1 (by omega)) ev_6 dX7_closeGap_34 ?_
            refine j_iconst (pc := 35) (v := 1) C dX7_closeGap_35 (by decide) ?_
            obtain ⟨v_9, ev_9⟩ : ∃ z : Int32, v_6 - 1 = z := ⟨_, rfl⟩
            have el_1 : (1 : Int32).toInt = 1 := rfl
            have hv_9 : v_9.toInt = v_6.toInt - (1 : Int32).toInt := by rw [← ev_9]; exact fb_subI (by omega) (by omega)
            refine j_isub (pc := 36) (v := v_9) C dX7_closeGap_36 ev_9 ?_
            obtain ⟨f_10, ef_10⟩ : ∃ z, z = upd g1_n2 (x1_3).toInt.toNat v_9 := ⟨_, rfl⟩
            have hf_10 : Iv 12 (0) (7) f_10 := by rw [ef_10]; exact Iv.upd hi_1_1 (by omega) (by omega)
            refine j_iast (pc := 37) (k := (x1_3).toInt.toNat) (ws' := [(n0, .inr (7, [.ref n1, .ref n2, .ref n3, .ref n4, .int n_askings, .int n_cost, .int n_laid])), (n1, .inl (cyI, 12, .inl n_shelf)), (n2, .inl (cyI, 12, .inl f_10))]) C 2 1 rfl rfl (i_nn hi_1_0.1) rfl (i_lt_n hi_1_0.1 (by omega)) dX7_closeGap_37 (by rw [ef_10]; rfl) ?_
            obtain ⟨v_11, ev_11⟩ : ∃ z : Int32, x1_3 + 1 = z := ⟨_, rfl⟩
            have el_1 : (1 : Int32).toInt = 1 := rfl
            have hv_11 : v_11.toInt = x1_3.toInt + (1 : Int32).toInt := by rw [← ev_11]; exact fb_addI (by omega) (by omega)
            refine j_iinc (pc := 38) (v := v_11) (lv' := [(3, .int v_11), (0, .ref n0), (1, .int p0), (2, .int p1)]) C dX7_closeGap_38 0 rfl ev_11 (by decide) rfl ?_
            refine j_goto (pc := 41) (tgt := 2) C dX7_closeGap_41 (by decide) ?_
            exact j_lv [0, 1, 2, 3] rfl (ih_1 v_11 f_10 (by omega) hf_10 (PWI.step hq_1_0 (by omega) (by omega) (fun j hj => by rw [ef_10]; exact pk_un hj) (by have y1 := congrArg Int32.toInt (PWI.at hq_1_0 (by omega) (by omega)); rw [ef_10, pk_us]; rw [show (gpf n_shelf n_stack p0 p1) (x1_3).toInt.toNat = (n_stack (x1_3).toInt.toNat).toInt - 1 from if_pos ⟨ev_3.trans ((i_eq _ _).mpr (by omega)), by omega⟩]; omega)) (by omega))
  have el_0 : (0 : Int32).toInt = 0 := rfl
  exact j_lv [0, 1, 2, 3] rfl (loop_1 4096 0 n_stack (by decide) h_n_stack (PWI.zero rfl) (by omega))
set_option maxHeartbeats 4000000 in
set_option maxRecDepth 100000 in
theorem c_X7_lifts (l : Launch) (D : DG) (cyC cyI cyJ cyZ cyO : ClassId) (n0 : Nat) (n1 : Nat) (n2 : Nat) (n3 : Nat) (n4 : Nat) (p0 : Int32) (n_askings : Int32) (n_cost : Int32) (n_laid : Int32) (n_shelf : Nat → Int32) (n_stack : Nat → Int32) (n_level : Nat → Int32) (n_asking : Nat → Int32) (h_n_askings : 0 ≤ (n_askings).toInt ∧ (n_askings).toInt ≤ 30) (h_n_laid : 0 ≤ (n_laid).toInt ∧ (n_laid).toInt ≤ 1) (h_p0 : 0 ≤ (p0).toInt ∧ (p0).toInt ≤ 11) (h_n_shelf : Iv 12 (-1) (3) n_shelf) (h_n_stack : Iv 12 (0) (7) n_stack) (h_n_level : Iv 12 (0) (11) n_level) (h_n_asking : Iv 30 (0) (11) n_asking) : KK l D (TY cyC cyI cyJ cyZ cyO) yX7_lifts cX7_lifts 5 (some .int) ({ frames := 1, cells := 0, slots := 0, locals := 23 } : Room) 0 0 [.ref n0, .int p0] [(n0, .inr (7, [.ref n1, .ref n2, .ref n3, .ref n4, .int n_askings, .int n_cost, .int n_laid])), (n1, .inl (cyI, 12, .inl n_shelf)), (n2, .inl (cyI, 12, .inl n_stack)), (n3, .inl (cyI, 12, .inl n_level)), (n4, .inl (cyI, 30, .inl n_asking))] (fun u => some (.int (u.2.1 0))) (fun u => True) (fun u => [(n0, .inr (7, [.ref n1, .ref n2, .ref n3, .ref n4, .int n_askings, .int n_cost, .int n_laid])), (n1, .inl (cyI, 12, .inl n_shelf)), (n2, .inl (cyI, 12, .inl n_stack)), (n3, .inl (cyI, 12, .inl n_level)), (n4, .inl (cyI, 30, .inl n_asking))]) := by
  refine KK.of (lv0 := [(0, .ref n0), (1, .int p0)]) (by decide) rfl (Nat.le_of_ble_eq_true rfl) ?_
  intro p e s m args below meth c A C hr hk hin
  refine j_iconst (pc := 0) (v := 0) C dX7_lifts_0 (by decide) ?_
  refine j_istore_n (pc := 1) (lv' := [(2, .int 0), (0, .ref n0), (1, .int p0)]) C dX7_lifts_1 rfl (by decide) rfl ?_
  refine j_iconst (pc := 2) (v := 0) C dX7_lifts_2 (by decide) ?_
  refine j_istore_n (pc := 3) (lv' := [(3, .int 0), (2, .int 0), (0, .ref n0), (1, .int p0)]) C dX7_lifts_3 rfl (by decide) rfl ?_
  have loop_1 : ∀ (k_1 : Nat) (x1_3 : Int32) (x1_2 : Int32), (0 ≤ (x1_3).toInt ∧ (x1_3).toInt ≤ 30) → (30 - x1_3.toInt).toNat < k_1 → J p l e ({ frames := 1, cells := 0, slots := 0, locals := 23 } : Room) s m args below meth c D A 5 0 0 (QX below D (TY cyC cyI cyJ cyZ cyO) A (fun u => some (.int (u.2.1 0))) (fun u => True) (fun u => [(n0, .inr (7, [.ref n1, .ref n2, .ref n3, .ref n4, .int n_askings, .int n_cost, .int n_laid])), (n1, .inl (cyI, 12, .inl n_shelf)), (n2, .inl (cyI, 12, .inl n_stack)), (n3, .inl (cyI, 12, .inl n_level)), (n4, .inl (cyI, 30, .inl n_asking))]) args s 0 0) [(n0, .inr (7, [.ref n1, .ref n2, .ref n3, .ref n4, .int n_askings, .int n_cost, .int n_laid])), (n1, .inl (cyI, 12, .inl n_shelf)), (n2, .inl (cyI, 12, .inl n_stack)), (n3, .inl (cyI, 12, .inl n_level)), (n4, .inl (cyI, 30, .inl n_asking))] 4 [(3, .int x1_3), (2, .int x1_2), (0, .ref n0), (1, .int p0)] [] := by
    intro k_1
    induction k_1 with
    | zero =>
      intro x1_3 x1_2 hi_1_0 hm_1
      exact absurd hm_1 (Nat.not_lt_zero _)
    | succ k_1 ih_1 =>
      intro x1_3 x1_2 hi_1_0 hm_1
      refine j_iload_n (pc := 4) C dX7_lifts_4 rfl 0 rfl ?_
      refine j_aload_n (pc := 5) C dX7_lifts_5 rfl 2 rfl ?_
      refine j_get (pc := 6) (ci := 7) (v := .int n_askings) C inw_7 0 rfl rfl 4 (by decide) wd_22 rfl rfl dX7_lifts_6 ?_
      refine j_icmp_ge (pc := 9) (tgt := 91) C dX7_lifts_9 (by decide) (fun c_2 => ?_) (fun c_2 => ?_)
      · skip
        rw [i_le] at c_2
        refine j_iload_n (pc := 91) C dX7_lifts_91 rfl 1 rfl ?_
        exact j_iret (pc := 92) C hr hk (fun i => [].getD i 0, fun i => [x1_2].getD i 0, fun i => [].getD i (fun _ => 0), fun i => [].getD i (fun _ => 0)) rfl trivial [0, 1, 2, 3, 4] (by decide) rfl (by decide) (by decide) dX7_lifts_92
      · skip
        rw [i_le] at c_2
        refine j_aload_n (pc := 12) C dX7_lifts_12 rfl 2 rfl ?_
        refine j_get (pc := 13) (ci := 7) (v := .ref n4) C inw_7 0 rfl rfl 3 (by decide) wd_23 rfl rfl dX7_lifts_13 ?_
        refine j_iload_n (pc := 16) C dX7_lifts_16 rfl 0 rfl ?_
        obtain ⟨v_3, ev_3⟩ : ∃ z, n_asking (x1_3).toInt.toNat = z := ⟨_, rfl⟩
        have env_3 : (n_asking (x1_3).toInt.toNat).toInt = v_3.toInt := by rw [ev_3]
        have hv_3 := h_n_asking (x1_3).toInt.toNat (i_lt_n hi_1_0.1 (by omega)); rw [ev_3] at hv_3
        refine j_iald (pc := 17) (v := v_3) (k := (x1_3).toInt.toNat) C 4 1 rfl rfl (i_nn hi_1_0.1) rfl (i_lt_n hi_1_0.1 (by omega)) ev_3 dX7_lifts_17 ?_
        refine j_istore (pc := 18) (lv' := [(4, .int v_3), (3, .int x1_3), (2, .int x1_2), (0, .ref n0), (1, .int p0)]) C dX7_lifts_18 (by decide) rfl ?_
        refine j_aload_n (pc := 20) C dX7_lifts_20 rfl 3 rfl ?_
        refine j_iload (pc := 21) C dX7_lifts_21 0 rfl ?_
        refine j_callV (pc := 23) (As := [.int v_3]) (rest := []) (wr := [(n2, .inl (cyI, 12, .inl n_stack)), (n3, .inl (cyI, 12, .inl n_level)), (n4, .inl (cyI, 30, .inl n_asking))]) C (c_X7_isOut l D cyC cyI cyJ cyZ cyO n0 n1 n2 n3 n4 v_3 n_askings n_cost n_laid n_shelf h_n_askings h_n_laid hv_3 h_n_shelf) wd_13 wd_9 wd_14 wd_15 wd_16 ⟨by decide, by decide, rfl⟩ rfl ⟨rfl, rfl, by decide, by decide⟩ ⟨by decide, by decide⟩ [0, 1] [2, 3, 4] rfl rfl ⟨by decide, by decide, by decide⟩ 0 rfl rfl rfl (Nat.le_of_ble_eq_true rfl) dX7_lifts_23 (fun u_4 hw_5 => ?_)
        refine j_eq (ws2 := [(n2, .inl (cyI, 12, .inl n_stack)), (n3, .inl (cyI, 12, .inl n_level)), (n4, .inl (cyI, 30, .inl n_asking)), (n0, .inr (7, [.ref n1, .ref n2, .ref n3, .ref n4, .int n_askings, .int n_cost, .int n_laid])), (n1, .inl (cyI, 12, .inl n_shelf))]) (pc2 := 26) (lv2 := [(4, .int v_3), (3, .int x1_3), (2, .int x1_2), (0, .ref n0), (1, .int p0)]) (st2 := [.int (u_4.2.1 0)]) rfl rfl rfl rfl ?_
        obtain ⟨hw_5_0, hw_5_1, hw_5_2⟩ := hw_5
        refine j_if_ne (pc := 26) (tgt := 85) C dX7_lifts_26 (by decide) (fun c_6 => ?_) (fun c_6 => ?_)
        · skip
          have el_0 : (0 : Int32).toInt = 0 := rfl
          rw [i_eq] at c_6
          have k0c_6 : ((u_4.2.1 0)).toInt = 1 := by omega
          obtain ⟨v_7, ev_7⟩ : ∃ z : Int32, x1_3 + 1 = z := ⟨_, rfl⟩
          have el_1 : (1 : Int32).toInt = 1 := rfl
          have hv_7 : v_7.toInt = x1_3.toInt + (1 : Int32).toInt := by rw [← ev_7]; exact fb_addI (by omega) (by omega)
          refine j_iinc (pc := 85) (v := v_7) (lv' := [(3, .int v_7), (4, .int v_3), (2, .int x1_2), (0, .ref n0), (1, .int p0)]) C dX7_lifts_85 1 rfl ev_7 (by decide) rfl ?_
          refine j_goto (pc := 88) (tgt := 4) C dX7_lifts_88 (by decide) ?_
          refine j_subG (ws' := [(n0, .inr (7, [.ref n1, .ref n2, .ref n3, .ref n4, .int n_askings, .int n_cost, .int n_laid])), (n1, .inl (cyI, 12, .inl n_shelf)), (n2, .inl (cyI, 12, .inl n_stack)), (n3, .inl (cyI, 12, .inl n_level)), (n4, .inl (cyI, 30, .inl n_asking))]) [3, 4, 0, 1, 2] (by decide) rfl ?_
          exact j_lv [0, 2, 3, 4] rfl (ih_1 v_7 x1_2 (by omega) (by omega))
        · skip
          have el_0 : (0 : Int32).toInt = 0 := rfl
          rw [i_eq] at c_6
          refine j_aload_n (pc := 29) C dX7_lifts_29 rfl 3 rfl ?_
          refine j_iload_n (pc := 30) C dX7_lifts_30 rfl 4 rfl ?_
          refine j_aload_n (pc := 31) C dX7_lifts_31 rfl 3 rfl ?_
          refine j_get (pc := 32) (ci := 7) (v := .ref n1) C inw_7 3 rfl rfl 0 (by decide) wd_2 rfl rfl dX7_lifts_32 ?_
          refine j_iload (pc := 35) C dX7_lifts_35 0 rfl ?_
          obtain ⟨v_8, ev_8⟩ : ∃ z, n_shelf (v_3).toInt.toNat = z := ⟨_, rfl⟩
          have env_8 : (n_shelf (v_3).toInt.toNat).toInt = v_8.toInt := by rw [ev_8]
          have hv_8 := h_n_shelf (v_3).toInt.toNat (i_lt_n hv_3.1 (Int.lt_of_le_of_lt hv_3.2 (by decide))); rw [ev_8] at hv_8
          refine j_iald (pc := 37) (v := v_8) (k := (v_3).toInt.toNat) C 4 1 rfl rfl (i_nn hv_3.1) rfl (i_lt_n hv_3.1 (Int.lt_of_le_of_lt hv_3.2 (by decide))) ev_8 dX7_lifts_37 ?_
          refine j_aload_n (pc := 38) C dX7_lifts_38 rfl 3 rfl ?_
          refine j_get (pc := 39) (ci := 7) (v := .ref n2) C inw_7 3 rfl rfl 1 (by decide) wd_3 rfl rfl dX7_lifts_39 ?_
          refine j_iload (pc := 42) C dX7_lifts_42 0 rfl ?_
          obtain ⟨v_9, ev_9⟩ : ∃ z, n_stack (v_3).toInt.toNat = z := ⟨_, rfl⟩
          have env_9 : (n_stack (v_3).toInt.toNat).toInt = v_9.toInt := by rw [ev_9]
          have hv_9 := h_n_stack (v_3).toInt.toNat (i_lt_n hv_3.1 (Int.lt_of_le_of_lt hv_3.2 (by decide))); rw [ev_9] at hv_9
          refine j_iald (pc := 44) (v := v_9) (k := (v_3).toInt.toNat) C 0 1 rfl rfl (i_nn hv_3.1) rfl (i_lt_n hv_3.1 (Int.lt_of_le_of_lt hv_3.2 (by decide))) ev_9 dX7_lifts_44 ?_
          refine j_callV (pc := 45) (As := [.int p0, .int v_8, .int v_9]) (rest := []) (wr := [(n3, .inl (cyI, 12, .inl n_level)), (n4, .inl (cyI, 30, .inl n_asking))]) C (c_X7_stands l D cyC cyI cyJ cyZ cyO n0 n1 n2 n3 n4 p0 v_8 v_9 n_askings n_cost n_laid n_shelf n_stack h_n_askings h_n_laid h_p0 h_n_shelf h_n_stack) wd_8 wd_9 wd_10 wd_11 wd_12 ⟨by decide, by decide, rfl⟩ rfl ⟨rfl, rfl, by decide, by decide⟩ ⟨by decide, by decide⟩ [3, 4, 0] [1, 2] rfl rfl ⟨by decide, by decide, by decide⟩ 3 rfl rfl rfl (Nat.le_of_ble_eq_true rfl) dX7_lifts_45 (fun u_10 hw_11 => ?_)
          refine j_eq (ws2 := [(n3, .inl (cyI, 12, .inl n_level)), (n4, .inl (cyI, 30, .inl n_asking)), (n0, .inr (7, [.ref n1, .ref n2, .ref n3, .ref n4, .int n_askings, .int n_cost, .int n_laid])), (n1, .inl (cyI, 12, .inl n_shelf)), (n2, .inl (cyI, 12, .inl n_stack))]) (pc2 := 48) (lv2 := [(4, .int v_3), (3, .int x1_3), (2, .int x1_2), (0, .ref n0), (1, .int p0)]) (st2 := [.int (u_10.2.1 0)]) rfl rfl rfl rfl ?_
          obtain ⟨hw_11_0, hw_11_1, hw_11_2⟩ := hw_11
          refine j_if_eq (pc := 48) (tgt := 85) C dX7_lifts_48 (by decide) (fun c_12 => ?_) (fun c_12 => ?_)
          · skip
            have el_0 : (0 : Int32).toInt = 0 := rfl
            rw [i_eq] at c_12
            obtain ⟨v_13, ev_13⟩ : ∃ z : Int32, x1_3 + 1 = z := ⟨_, rfl⟩
            have el_1 : (1 : Int32).toInt = 1 := rfl
            have hv_13 : v_13.toInt = x1_3.toInt + (1 : Int32).toInt := by rw [← ev_13]; exact fb_addI (by omega) (by omega)
            refine j_iinc (pc := 85) (v := v_13) (lv' := [(3, .int v_13), (4, .int v_3), (2, .int x1_2), (0, .ref n0), (1, .int p0)]) C dX7_lifts_85 1 rfl ev_13 (by decide) rfl ?_
            refine j_goto (pc := 88) (tgt := 4) C dX7_lifts_88 (by decide) ?_
            refine j_subG (ws' := [(n0, .inr (7, [.ref n1, .ref n2, .ref n3, .ref n4, .int n_askings, .int n_cost, .int n_laid])), (n1, .inl (cyI, 12, .inl n_shelf)), (n2, .inl (cyI, 12, .inl n_stack)), (n3, .inl (cyI, 12, .inl n_level)), (n4, .inl (cyI, 30, .inl n_asking))]) [2, 3, 4, 0, 1] (by decide) rfl ?_
            exact j_lv [0, 2, 3, 4] rfl (ih_1 v_13 x1_2 (by omega) (by omega))
          · skip
            have el_0 : (0 : Int32).toInt = 0 := rfl
            rw [i_eq] at c_12
            have k0c_12 : ((u_10.2.1 0)).toInt = 1 := by omega
            refine j_iload_n (pc := 51) C dX7_lifts_51 rfl 2 rfl ?_
            refine j_iload (pc := 52) C dX7_lifts_52 0 rfl ?_
            refine j_iload_n (pc := 54) C dX7_lifts_54 rfl 4 rfl ?_
            refine j_icmp_ne (pc := 55) (tgt := 62) C dX7_lifts_55 (by decide) (fun c_14 => ?_) (fun c_14 => ?_)
            · skip
              rw [i_eq] at c_14
              refine j_aload_n (pc := 62) C dX7_lifts_62 rfl 3 rfl ?_
              refine j_get (pc := 63) (ci := 7) (v := .ref n3) C inw_7 2 rfl rfl 2 (by decide) wd_21 rfl rfl dX7_lifts_63 ?_
              refine j_iload_n (pc := 66) C dX7_lifts_66 rfl 4 rfl ?_
              obtain ⟨v_15, ev_15⟩ : ∃ z, n_level (p0).toInt.toNat = z := ⟨_, rfl⟩
              have env_15 : (n_level (p0).toInt.toNat).toInt = v_15.toInt := by rw [ev_15]
              have hv_15 := h_n_level (p0).toInt.toNat (i_lt_n h_p0.1 (Int.lt_of_le_of_lt h_p0.2 (by decide))); rw [ev_15] at hv_15
              refine j_iald (pc := 67) (v := v_15) (k := (p0).toInt.toNat) C 0 1 rfl rfl (i_nn h_p0.1) rfl (i_lt_n h_p0.1 (Int.lt_of_le_of_lt h_p0.2 (by decide))) ev_15 dX7_lifts_67 ?_
              refine j_aload_n (pc := 68) C dX7_lifts_68 rfl 3 rfl ?_
              refine j_get (pc := 69) (ci := 7) (v := .ref n3) C inw_7 2 rfl rfl 2 (by decide) wd_21 rfl rfl dX7_lifts_69 ?_
              refine j_iload (pc := 72) C dX7_lifts_72 0 rfl ?_
              obtain ⟨v_16, ev_16⟩ : ∃ z, n_level (v_3).toInt.toNat = z := ⟨_, rfl⟩
              have env_16 : (n_level (v_3).toInt.toNat).toInt = v_16.toInt := by rw [ev_16]
              have hv_16 := h_n_level (v_3).toInt.toNat (i_lt_n hv_3.1 (Int.lt_of_le_of_lt hv_3.2 (by decide))); rw [ev_16] at hv_16
              refine j_iald (pc := 74) (v := v_16) (k := (v_3).toInt.toNat) C 0 1 rfl rfl (i_nn hv_3.1) rfl (i_lt_n hv_3.1 (Int.lt_of_le_of_lt hv_3.2 (by decide))) ev_16 dX7_lifts_74 ?_
              refine j_icmp_le (pc := 75) (tgt := 82) C dX7_lifts_75 (by decide) (fun c_17 => ?_) (fun c_17 => ?_)
              · skip
                rw [i_le] at c_17
                refine j_iconst (pc := 82) (v := 0) C dX7_lifts_82 (by decide) ?_
                obtain ⟨v_18, ev_18⟩ : ∃ z : Int32, x1_2 + 0 = z := ⟨_, rfl⟩
                have el_0 : (0 : Int32).toInt = 0 := rfl
                refine j_iadd (pc := 83) (v := v_18) C dX7_lifts_83 ev_18 ?_
                refine j_istore_n (pc := 84) (lv' := [(2, .int v_18), (4, .int v_3), (3, .int x1_3), (0, .ref n0), (1, .int p0)]) C dX7_lifts_84 rfl (by decide) rfl ?_
                obtain ⟨v_19, ev_19⟩ : ∃ z : Int32, x1_3 + 1 = z := ⟨_, rfl⟩
                have el_1 : (1 : Int32).toInt = 1 := rfl
                have hv_19 : v_19.toInt = x1_3.toInt + (1 : Int32).toInt := by rw [← ev_19]; exact fb_addI (by omega) (by omega)
                refine j_iinc (pc := 85) (v := v_19) (lv' := [(3, .int v_19), (2, .int v_18), (4, .int v_3), (0, .ref n0), (1, .int p0)]) C dX7_lifts_85 2 rfl ev_19 (by decide) rfl ?_
                refine j_goto (pc := 88) (tgt := 4) C dX7_lifts_88 (by decide) ?_
                refine j_subG (ws' := [(n0, .inr (7, [.ref n1, .ref n2, .ref n3, .ref n4, .int n_askings, .int n_cost, .int n_laid])), (n1, .inl (cyI, 12, .inl n_shelf)), (n2, .inl (cyI, 12, .inl n_stack)), (n3, .inl (cyI, 12, .inl n_level)), (n4, .inl (cyI, 30, .inl n_asking))]) [2, 3, 4, 0, 1] (by decide) rfl ?_
                exact j_lv [0, 1, 3, 4] rfl (ih_1 v_19 v_18 (by omega) (by omega))
              · skip
                rw [i_le] at c_17
                refine j_iconst (pc := 78) (v := 2) C dX7_lifts_78 (by decide) ?_
                refine j_goto (pc := 79) (tgt := 83) C dX7_lifts_79 (by decide) ?_
                obtain ⟨v_20, ev_20⟩ : ∃ z : Int32, x1_2 + 2 = z := ⟨_, rfl⟩
                have el_2 : (2 : Int32).toInt = 2 := rfl
                refine j_iadd (pc := 83) (v := v_20) C dX7_lifts_83 ev_20 ?_
                refine j_istore_n (pc := 84) (lv' := [(2, .int v_20), (4, .int v_3), (3, .int x1_3), (0, .ref n0), (1, .int p0)]) C dX7_lifts_84 rfl (by decide) rfl ?_
                obtain ⟨v_21, ev_21⟩ : ∃ z : Int32, x1_3 + 1 = z := ⟨_, rfl⟩
                have el_1 : (1 : Int32).toInt = 1 := rfl
                have hv_21 : v_21.toInt = x1_3.toInt + (1 : Int32).toInt := by rw [← ev_21]; exact fb_addI (by omega) (by omega)
                refine j_iinc (pc := 85) (v := v_21) (lv' := [(3, .int v_21), (2, .int v_20), (4, .int v_3), (0, .ref n0), (1, .int p0)]) C dX7_lifts_85 2 rfl ev_21 (by decide) rfl ?_
                refine j_goto (pc := 88) (tgt := 4) C dX7_lifts_88 (by decide) ?_
                refine j_subG (ws' := [(n0, .inr (7, [.ref n1, .ref n2, .ref n3, .ref n4, .int n_askings, .int n_cost, .int n_laid])), (n1, .inl (cyI, 12, .inl n_shelf)), (n2, .inl (cyI, 12, .inl n_stack)), (n3, .inl (cyI, 12, .inl n_level)), (n4, .inl (cyI, 30, .inl n_asking))]) [2, 3, 4, 0, 1] (by decide) rfl ?_
                exact j_lv [0, 1, 3, 4] rfl (ih_1 v_21 v_20 (by omega) (by omega))
            · skip
              rw [i_eq] at c_14
              refine j_iconst (pc := 58) (v := 1) C dX7_lifts_58 (by decide) ?_
              refine j_goto (pc := 59) (tgt := 83) C dX7_lifts_59 (by decide) ?_
              obtain ⟨v_22, ev_22⟩ : ∃ z : Int32, x1_2 + 1 = z := ⟨_, rfl⟩
              have el_1 : (1 : Int32).toInt = 1 := rfl
              refine j_iadd (pc := 83) (v := v_22) C dX7_lifts_83 ev_22 ?_
              refine j_istore_n (pc := 84) (lv' := [(2, .int v_22), (4, .int v_3), (3, .int x1_3), (0, .ref n0), (1, .int p0)]) C dX7_lifts_84 rfl (by decide) rfl ?_
              obtain ⟨v_23, ev_23⟩ : ∃ z : Int32, x1_3 + 1 = z := ⟨_, rfl⟩
              have el_1 : (1 : Int32).toInt = 1 := rfl
              have hv_23 : v_23.toInt = x1_3.toInt + (1 : Int32).toInt := by rw [← ev_23]; exact fb_addI (by omega) (by omega)
              refine j_iinc (pc := 85) (v := v_23) (lv' := [(3, .int v_23), (2, .int v_22), (4, .int v_3), (0, .ref n0), (1, .int p0)]) C dX7_lifts_85 2 rfl ev_23 (by decide) rfl ?_
              refine j_goto (pc := 88) (tgt := 4) C dX7_lifts_88 (by decide) ?_
              refine j_subG (ws' := [(n0, .inr (7, [.ref n1, .ref n2, .ref n3, .ref n4, .int n_askings, .int n_cost, .int n_laid])), (n1, .inl (cyI, 12, .inl n_shelf)), (n2, .inl (cyI, 12, .inl n_stack)), (n3, .inl (cyI, 12, .inl n_level)), (n4, .inl (cyI, 30, .inl n_asking))]) [2, 3, 4, 0, 1] (by decide) rfl ?_
              exact j_lv [0, 1, 3, 4] rfl (ih_1 v_23 v_22 (by omega) (by omega))
  have el_0 : (0 : Int32).toInt = 0 := rfl
  have el_0 : (0 : Int32).toInt = 0 := rfl
  exact j_lv [0, 1, 2, 3] rfl (loop_1 4096 0 0 (by decide) (by omega))
set_option maxHeartbeats 4000000 in
set_option maxRecDepth 100000 in
theorem c_X7_timesAsked (l : Launch) (D : DG) (cyC cyI cyJ cyZ cyO : ClassId) (n0 : Nat) (n4 : Nat) (n1 : Nat) (n2 : Nat) (n3 : Nat) (p0 : Int32) (n_askings : Int32) (n_cost : Int32) (n_laid : Int32) (n_asking : Nat → Int32) (h_n_askings : 0 ≤ (n_askings).toInt ∧ (n_askings).toInt ≤ 30) (h_n_laid : 0 ≤ (n_laid).toInt ∧ (n_laid).toInt ≤ 1) (h_n_asking : Iv 30 (0) (11) n_asking) : KK l D (TY cyC cyI cyJ cyZ cyO) yX7_timesAsked cX7_timesAsked 4 (some .int) ({ frames := 0, cells := 0, slots := 0, locals := 0 } : Room) 0 0 [.ref n0, .int p0] [(n0, .inr (7, [.ref n1, .ref n2, .ref n3, .ref n4, .int n_askings, .int n_cost, .int n_laid])), (n4, .inl (cyI, 30, .inl n_asking))] (fun u => some (.int (u.2.1 0))) (fun u => True) (fun u => [(n0, .inr (7, [.ref n1, .ref n2, .ref n3, .ref n4, .int n_askings, .int n_cost, .int n_laid])), (n4, .inl (cyI, 30, .inl n_asking))]) := by
  refine KK.of (lv0 := [(0, .ref n0), (1, .int p0)]) (by decide) rfl (Nat.le_of_ble_eq_true rfl) ?_
  intro p e s m args below meth c A C hr hk hin
  refine j_iconst (pc := 0) (v := 0) C dX7_timesAsked_0 (by decide) ?_
  refine j_istore_n (pc := 1) (lv' := [(2, .int 0), (0, .ref n0), (1, .int p0)]) C dX7_timesAsked_1 rfl (by decide) rfl ?_
  refine j_iconst (pc := 2) (v := 0) C dX7_timesAsked_2 (by decide) ?_
  refine j_istore_n (pc := 3) (lv' := [(3, .int 0), (2, .int 0), (0, .ref n0), (1, .int p0)]) C dX7_timesAsked_3 rfl (by decide) rfl ?_
  have loop_1 : ∀ (k_1 : Nat) (x1_3 : Int32) (x1_2 : Int32), (0 ≤ (x1_3).toInt ∧ (x1_3).toInt ≤ 30) → (30 - x1_3.toInt).toNat < k_1 → J p l e ({ frames := 0, cells := 0, slots := 0, locals := 0 } : Room) s m args below meth c D A 4 0 0 (QX below D (TY cyC cyI cyJ cyZ cyO) A (fun u => some (.int (u.2.1 0))) (fun u => True) (fun u => [(n0, .inr (7, [.ref n1, .ref n2, .ref n3, .ref n4, .int n_askings, .int n_cost, .int n_laid])), (n4, .inl (cyI, 30, .inl n_asking))]) args s 0 0) [(n0, .inr (7, [.ref n1, .ref n2, .ref n3, .ref n4, .int n_askings, .int n_cost, .int n_laid])), (n4, .inl (cyI, 30, .inl n_asking))] 4 [(3, .int x1_3), (2, .int x1_2), (0, .ref n0), (1, .int p0)] [] := by
    intro k_1
    induction k_1 with
    | zero =>
      intro x1_3 x1_2 hi_1_0 hm_1
      exact absurd hm_1 (Nat.not_lt_zero _)
    | succ k_1 ih_1 =>
      intro x1_3 x1_2 hi_1_0 hm_1
      refine j_iload_n (pc := 4) C dX7_timesAsked_4 rfl 0 rfl ?_
      refine j_aload_n (pc := 5) C dX7_timesAsked_5 rfl 2 rfl ?_
      refine j_get (pc := 6) (ci := 7) (v := .int n_askings) C inw_7 0 rfl rfl 4 (by decide) wd_22 rfl rfl dX7_timesAsked_6 ?_
      refine j_icmp_ge (pc := 9) (tgt := 36) C dX7_timesAsked_9 (by decide) (fun c_2 => ?_) (fun c_2 => ?_)
      · skip
        rw [i_le] at c_2
        refine j_iload_n (pc := 36) C dX7_timesAsked_36 rfl 1 rfl ?_
        exact j_iret (pc := 37) C hr hk (fun i => [].getD i 0, fun i => [x1_2].getD i 0, fun i => [].getD i (fun _ => 0), fun i => [].getD i (fun _ => 0)) rfl trivial [0, 1] (by decide) rfl (by decide) (by decide) dX7_timesAsked_37
      · skip
        rw [i_le] at c_2
        refine j_iload_n (pc := 12) C dX7_timesAsked_12 rfl 1 rfl ?_
        refine j_aload_n (pc := 13) C dX7_timesAsked_13 rfl 2 rfl ?_
        refine j_get (pc := 14) (ci := 7) (v := .ref n4) C inw_7 0 rfl rfl 3 (by decide) wd_23 rfl rfl dX7_timesAsked_14 ?_
        refine j_iload_n (pc := 17) C dX7_timesAsked_17 rfl 0 rfl ?_
        obtain ⟨v_3, ev_3⟩ : ∃ z, n_asking (x1_3).toInt.toNat = z := ⟨_, rfl⟩
        have env_3 : (n_asking (x1_3).toInt.toNat).toInt = v_3.toInt := by rw [ev_3]
        have hv_3 := h_n_asking (x1_3).toInt.toNat (i_lt_n hi_1_0.1 (by omega)); rw [ev_3] at hv_3
        refine j_iald (pc := 18) (v := v_3) (k := (x1_3).toInt.toNat) C 1 1 rfl rfl (i_nn hi_1_0.1) rfl (i_lt_n hi_1_0.1 (by omega)) ev_3 dX7_timesAsked_18 ?_
        refine j_iload_n (pc := 19) C dX7_timesAsked_19 rfl 3 rfl ?_
        refine j_icmp_ne (pc := 20) (tgt := 27) C dX7_timesAsked_20 (by decide) (fun c_4 => ?_) (fun c_4 => ?_)
        · skip
          rw [i_eq] at c_4
          refine j_iconst (pc := 27) (v := 0) C dX7_timesAsked_27 (by decide) ?_
          obtain ⟨v_5, ev_5⟩ : ∃ z : Int32, x1_2 + 0 = z := ⟨_, rfl⟩
          have el_0 : (0 : Int32).toInt = 0 := rfl
          refine j_iadd (pc := 28) (v := v_5) C dX7_timesAsked_28 ev_5 ?_
          refine j_istore_n (pc := 29) (lv' := [(2, .int v_5), (3, .int x1_3), (0, .ref n0), (1, .int p0)]) C dX7_timesAsked_29 rfl (by decide) rfl ?_
          obtain ⟨v_6, ev_6⟩ : ∃ z : Int32, x1_3 + 1 = z := ⟨_, rfl⟩
          have el_1 : (1 : Int32).toInt = 1 := rfl
          have hv_6 : v_6.toInt = x1_3.toInt + (1 : Int32).toInt := by rw [← ev_6]; exact fb_addI (by omega) (by omega)
          refine j_iinc (pc := 30) (v := v_6) (lv' := [(3, .int v_6), (2, .int v_5), (0, .ref n0), (1, .int p0)]) C dX7_timesAsked_30 1 rfl ev_6 (by decide) rfl ?_
          refine j_goto (pc := 33) (tgt := 4) C dX7_timesAsked_33 (by decide) ?_
          exact j_lv [0, 1, 2, 3] rfl (ih_1 v_6 v_5 (by omega) (by omega))
        · skip
          rw [i_eq] at c_4
          refine j_iconst (pc := 23) (v := 1) C dX7_timesAsked_23 (by decide) ?_
          refine j_goto (pc := 24) (tgt := 28) C dX7_timesAsked_24 (by decide) ?_
          obtain ⟨v_7, ev_7⟩ : ∃ z : Int32, x1_2 + 1 = z := ⟨_, rfl⟩
          have el_1 : (1 : Int32).toInt = 1 := rfl
          refine j_iadd (pc := 28) (v := v_7) C dX7_timesAsked_28 ev_7 ?_
          refine j_istore_n (pc := 29) (lv' := [(2, .int v_7), (3, .int x1_3), (0, .ref n0), (1, .int p0)]) C dX7_timesAsked_29 rfl (by decide) rfl ?_
          obtain ⟨v_8, ev_8⟩ : ∃ z : Int32, x1_3 + 1 = z := ⟨_, rfl⟩
          have el_1 : (1 : Int32).toInt = 1 := rfl
          have hv_8 : v_8.toInt = x1_3.toInt + (1 : Int32).toInt := by rw [← ev_8]; exact fb_addI (by omega) (by omega)
          refine j_iinc (pc := 30) (v := v_8) (lv' := [(3, .int v_8), (2, .int v_7), (0, .ref n0), (1, .int p0)]) C dX7_timesAsked_30 1 rfl ev_8 (by decide) rfl ?_
          refine j_goto (pc := 33) (tgt := 4) C dX7_timesAsked_33 (by decide) ?_
          exact j_lv [0, 1, 2, 3] rfl (ih_1 v_8 v_7 (by omega) (by omega))
  have el_0 : (0 : Int32).toInt = 0 := rfl
  have el_0 : (0 : Int32).toInt = 0 := rfl
  exact j_lv [0, 1, 2, 3] rfl (loop_1 4096 0 0 (by decide) (by omega))
set_option maxHeartbeats 4000000 in
set_option maxRecDepth 100000 in
theorem c_X7_copy (l : Launch) (D : DG) (cyC cyI cyJ cyZ cyO : ClassId) (n0 : Nat) (n1 : Nat) (n2 : Nat) (n3 : Nat) (n4 : Nat) (k0 : Nat) (k1 : Nat) (k2 : Nat) (k3 : Nat) (k4 : Nat) (n_askings : Int32) (n_cost : Int32) (n_laid : Int32) (k_askings : Int32) (k_cost : Int32) (k_laid : Int32) (n_shelf : Nat → Int32) (n_stack : Nat → Int32) (n_level : Nat → Int32) (n_asking : Nat → Int32) (k_shelf : Nat → Int32) (k_stack : Nat → Int32) (k_level : Nat → Int32) (k_asking : Nat → Int32) (h_n_askings : 0 ≤ (n_askings).toInt ∧ (n_askings).toInt ≤ 30) (h_n_laid : 0 ≤ (n_laid).toInt ∧ (n_laid).toInt ≤ 1) (h_k_askings : 0 ≤ (k_askings).toInt ∧ (k_askings).toInt ≤ 30) (h_k_laid : 0 ≤ (k_laid).toInt ∧ (k_laid).toInt ≤ 1) (h_n_shelf : Iv 12 (-1) (3) n_shelf) (h_n_stack : Iv 12 (0) (7) n_stack) (h_n_level : Iv 12 (0) (11) n_level) (h_n_asking : Iv 30 (0) (11) n_asking) (h_k_shelf : Iv 12 (-1) (3) k_shelf) (h_k_stack : Iv 12 (0) (7) k_stack) (h_k_level : Iv 12 (0) (11) k_level) (h_k_asking : Iv 30 (0) (11) k_asking) : KK l D (TY cyC cyI cyJ cyZ cyO) yX7_copy cX7_copy 2 none ({ frames := 1, cells := 0, slots := 0, locals := 18 } : Room) 0 0 [.ref n0, .ref k0] [(n0, .inr (7, [.ref n1, .ref n2, .ref n3, .ref n4, .int n_askings, .int n_cost, .int n_laid])), (n1, .inl (cyI, 12, .inl n_shelf)), (n2, .inl (cyI, 12, .inl n_stack)), (n3, .inl (cyI, 12, .inl n_level)), (n4, .inl (cyI, 30, .inl n_asking)), (k0, .inr (7, [.ref k1, .ref k2, .ref k3, .ref k4, .int k_askings, .int k_cost, .int k_laid])), (k1, .inl (cyI, 12, .inl k_shelf)), (k2, .inl (cyI, 12, .inl k_stack)), (k3, .inl (cyI, 12, .inl k_level)), (k4, .inl (cyI, 30, .inl k_asking))] (fun u => none) (fun u => True) (fun u => [(n0, .inr (7, [.ref n1, .ref n2, .ref n3, .ref n4, .int k_askings, .int k_cost, .int n_laid])), (n1, .inl (cyI, 12, .inl k_shelf)), (n2, .inl (cyI, 12, .inl k_stack)), (n3, .inl (cyI, 12, .inl k_level)), (n4, .inl (cyI, 30, .inl k_asking)), (k0, .inr (7, [.ref k1, .ref k2, .ref k3, .ref k4, .int k_askings, .int k_cost, .int k_laid])), (k1, .inl (cyI, 12, .inl k_shelf)), (k2, .inl (cyI, 12, .inl k_stack)), (k3, .inl (cyI, 12, .inl k_level)), (k4, .inl (cyI, 30, .inl k_asking))]) := by
  refine KK.of (lv0 := [(0, .ref n0), (1, .ref k0)]) (by decide) rfl (Nat.le_of_ble_eq_true rfl) ?_
  intro p e s m args below meth c A C hr hk hin
  refine j_aload_n (pc := 0) C dX7_copy_0 rfl 1 rfl ?_
  refine j_get (pc := 1) (ci := 7) (v := .ref k1) C inw_7 5 rfl rfl 0 (by decide) wd_2 rfl rfl dX7_copy_1 ?_
  refine j_iconst (pc := 4) (v := 0) C dX7_copy_4 (by decide) ?_
  refine j_aload_n (pc := 5) C dX7_copy_5 rfl 0 rfl ?_
  refine j_get (pc := 6) (ci := 7) (v := .ref n1) C inw_7 0 rfl rfl 0 (by decide) wd_2 rfl rfl dX7_copy_6 ?_
  refine j_iconst (pc := 9) (v := 0) C dX7_copy_9 (by decide) ?_
  refine j_bipush (pc := 10) (v := 12) C dX7_copy_10 (by decide) ?_
  obtain ⟨f_1, ef_1⟩ : ∃ z, z = va_cpy k_shelf n_shelf 0 0 12 := ⟨_, rfl⟩
  have hf_1 : Iv 12 (-1) (3) f_1 := by rw [ef_1]; exact Iv.cpy h_k_shelf h_n_shelf (by decide)
  refine j_acpy (pc := 12) (ks := 0) (kd := 0) (kn := 12) (ws' := [(n0, .inr (7, [.ref n1, .ref n2, .ref n3, .ref n4, .int n_askings, .int n_cost, .int n_laid])), (n1, .inl (cyI, 12, .inl f_1)), (n2, .inl (cyI, 12, .inl n_stack)), (n3, .inl (cyI, 12, .inl n_level)), (n4, .inl (cyI, 30, .inl n_asking)), (k0, .inr (7, [.ref k1, .ref k2, .ref k3, .ref k4, .int k_askings, .int k_cost, .int k_laid])), (k1, .inl (cyI, 12, .inl k_shelf)), (k2, .inl (cyI, 12, .inl k_stack)), (k3, .inl (cyI, 12, .inl k_level)), (k4, .inl (cyI, 30, .inl k_asking))]) C wd_24 wd_25 wd_26 wd_27 6 1 1 rfl rfl rfl (by decide) (by decide) (by decide) (by decide) (by decide) (by decide) (by decide) (by decide) (by decide) (Nat.le_of_ble_eq_true rfl) dX7_copy_12 (by rw [ef_1]; rfl) ?_
  refine j_arrc (q0 := 1) (g := k_shelf) (ws' := [(n0, .inr (7, [.ref n1, .ref n2, .ref n3, .ref n4, .int n_askings, .int n_cost, .int n_laid])), (n1, .inl (cyI, 12, .inl k_shelf)), (n2, .inl (cyI, 12, .inl n_stack)), (n3, .inl (cyI, 12, .inl n_level)), (n4, .inl (cyI, 30, .inl n_asking)), (k0, .inr (7, [.ref k1, .ref k2, .ref k3, .ref k4, .int k_askings, .int k_cost, .int k_laid])), (k1, .inl (cyI, 12, .inl k_shelf)), (k2, .inl (cyI, 12, .inl k_stack)), (k3, .inl (cyI, 12, .inl k_level)), (k4, .inl (cyI, 30, .inl k_asking))]) rfl (fun j hj => by rw [ef_1]; exact cpy_full hj) rfl ?_
  refine j_aload_n (pc := 15) C dX7_copy_15 rfl 1 rfl ?_
  refine j_get (pc := 16) (ci := 7) (v := .ref k2) C inw_7 5 rfl rfl 1 (by decide) wd_3 rfl rfl dX7_copy_16 ?_
  refine j_iconst (pc := 19) (v := 0) C dX7_copy_19 (by decide) ?_
  refine j_aload_n (pc := 20) C dX7_copy_20 rfl 0 rfl ?_
  refine j_get (pc := 21) (ci := 7) (v := .ref n2) C inw_7 0 rfl rfl 1 (by decide) wd_3 rfl rfl dX7_copy_21 ?_
  refine j_iconst (pc := 24) (v := 0) C dX7_copy_24 (by decide) ?_
  refine j_bipush (pc := 25) (v := 12) C dX7_copy_25 (by decide) ?_
  obtain ⟨f_2, ef_2⟩ : ∃ z, z = va_cpy k_stack n_stack 0 0 12 := ⟨_, rfl⟩
  have hf_2 : Iv 12 (0) (7) f_2 := by rw [ef_2]; exact Iv.cpy h_k_stack h_n_stack (by decide)
  refine j_acpy (pc := 27) (ks := 0) (kd := 0) (kn := 12) (ws' := [(n0, .inr (7, [.ref n1, .ref n2, .ref n3, .ref n4, .int n_askings, .int n_cost, .int n_laid])), (n1, .inl (cyI, 12, .inl k_shelf)), (n2, .inl (cyI, 12, .inl f_2)), (n3, .inl (cyI, 12, .inl n_level)), (n4, .inl (cyI, 30, .inl n_asking)), (k0, .inr (7, [.ref k1, .ref k2, .ref k3, .ref k4, .int k_askings, .int k_cost, .int k_laid])), (k1, .inl (cyI, 12, .inl k_shelf)), (k2, .inl (cyI, 12, .inl k_stack)), (k3, .inl (cyI, 12, .inl k_level)), (k4, .inl (cyI, 30, .inl k_asking))]) C wd_24 wd_25 wd_26 wd_27 7 2 1 rfl rfl rfl (by decide) (by decide) (by decide) (by decide) (by decide) (by decide) (by decide) (by decide) (by decide) (Nat.le_of_ble_eq_true rfl) dX7_copy_27 (by rw [ef_2]; rfl) ?_
  refine j_arrc (q0 := 2) (g := k_stack) (ws' := [(n0, .inr (7, [.ref n1, .ref n2, .ref n3, .ref n4, .int n_askings, .int n_cost, .int n_laid])), (n1, .inl (cyI, 12, .inl k_shelf)), (n2, .inl (cyI, 12, .inl k_stack)), (n3, .inl (cyI, 12, .inl n_level)), (n4, .inl (cyI, 30, .inl n_asking)), (k0, .inr (7, [.ref k1, .ref k2, .ref k3, .ref k4, .int k_askings, .int k_cost, .int k_laid])), (k1, .inl (cyI, 12, .inl k_shelf)), (k2, .inl (cyI, 12, .inl k_stack)), (k3, .inl (cyI, 12, .inl k_level)), (k4, .inl (cyI, 30, .inl k_asking))]) rfl (fun j hj => by rw [ef_2]; exact cpy_full hj) rfl ?_
  refine j_aload_n (pc := 30) C dX7_copy_30 rfl 1 rfl ?_
  refine j_get (pc := 31) (ci := 7) (v := .ref k3) C inw_7 5 rfl rfl 2 (by decide) wd_21 rfl rfl dX7_copy_31 ?_
  refine j_iconst (pc := 34) (v := 0) C dX7_copy_34 (by decide) ?_
  refine j_aload_n (pc := 35) C dX7_copy_35 rfl 0 rfl ?_
  refine j_get (pc := 36) (ci := 7) (v := .ref n3) C inw_7 0 rfl rfl 2 (by decide) wd_21 rfl rfl dX7_copy_36 ?_
  refine j_iconst (pc := 39) (v := 0) C dX7_copy_39 (by decide) ?_
  refine j_bipush (pc := 40) (v := 12) C dX7_copy_40 (by decide) ?_
  obtain ⟨f_3, ef_3⟩ : ∃ z, z = va_cpy k_level n_level 0 0 12 := ⟨_, rfl⟩
  have hf_3 : Iv 12 (0) (11) f_3 := by rw [ef_3]; exact Iv.cpy h_k_level h_n_level (by decide)
  refine j_acpy (pc := 42) (ks := 0) (kd := 0) (kn := 12) (ws' := [(n0, .inr (7, [.ref n1, .ref n2, .ref n3, .ref n4, .int n_askings, .int n_cost, .int n_laid])), (n1, .inl (cyI, 12, .inl k_shelf)), (n2, .inl (cyI, 12, .inl k_stack)), (n3, .inl (cyI, 12, .inl f_3)), (n4, .inl (cyI, 30, .inl n_asking)), (k0, .inr (7, [.ref k1, .ref k2, .ref k3, .ref k4, .int k_askings, .int k_cost, .int k_laid])), (k1, .inl (cyI, 12, .inl k_shelf)), (k2, .inl (cyI, 12, .inl k_stack)), (k3, .inl (cyI, 12, .inl k_level)), (k4, .inl (cyI, 30, .inl k_asking))]) C wd_24 wd_25 wd_26 wd_27 8 3 1 rfl rfl rfl (by decide) (by decide) (by decide) (by decide) (by decide) (by decide) (by decide) (by decide) (by decide) (Nat.le_of_ble_eq_true rfl) dX7_copy_42 (by rw [ef_3]; rfl) ?_
  refine j_arrc (q0 := 3) (g := k_level) (ws' := [(n0, .inr (7, [.ref n1, .ref n2, .ref n3, .ref n4, .int n_askings, .int n_cost, .int n_laid])), (n1, .inl (cyI, 12, .inl k_shelf)), (n2, .inl (cyI, 12, .inl k_stack)), (n3, .inl (cyI, 12, .inl k_level)), (n4, .inl (cyI, 30, .inl n_asking)), (k0, .inr (7, [.ref k1, .ref k2, .ref k3, .ref k4, .int k_askings, .int k_cost, .int k_laid])), (k1, .inl (cyI, 12, .inl k_shelf)), (k2, .inl (cyI, 12, .inl k_stack)), (k3, .inl (cyI, 12, .inl k_level)), (k4, .inl (cyI, 30, .inl k_asking))]) rfl (fun j hj => by rw [ef_3]; exact cpy_full hj) rfl ?_
  refine j_aload_n (pc := 45) C dX7_copy_45 rfl 1 rfl ?_
  refine j_get (pc := 46) (ci := 7) (v := .ref k4) C inw_7 5 rfl rfl 3 (by decide) wd_23 rfl rfl dX7_copy_46 ?_
  refine j_iconst (pc := 49) (v := 0) C dX7_copy_49 (by decide) ?_
  refine j_aload_n (pc := 50) C dX7_copy_50 rfl 0 rfl ?_
  refine j_get (pc := 51) (ci := 7) (v := .ref n4) C inw_7 0 rfl rfl 3 (by decide) wd_23 rfl rfl dX7_copy_51 ?_
  refine j_iconst (pc := 54) (v := 0) C dX7_copy_54 (by decide) ?_
  refine j_bipush (pc := 55) (v := 30) C dX7_copy_55 (by decide) ?_
  obtain ⟨f_4, ef_4⟩ : ∃ z, z = va_cpy k_asking n_asking 0 0 30 := ⟨_, rfl⟩
  have hf_4 : Iv 30 (0) (11) f_4 := by rw [ef_4]; exact Iv.cpy h_k_asking h_n_asking (by decide)
  refine j_acpy (pc := 57) (ks := 0) (kd := 0) (kn := 30) (ws' := [(n0, .inr (7, [.ref n1, .ref n2, .ref n3, .ref n4, .int n_askings, .int n_cost, .int n_laid])), (n1, .inl (cyI, 12, .inl k_shelf)), (n2, .inl (cyI, 12, .inl k_stack)), (n3, .inl (cyI, 12, .inl k_level)), (n4, .inl (cyI, 30, .inl f_4)), (k0, .inr (7, [.ref k1, .ref k2, .ref k3, .ref k4, .int k_askings, .int k_cost, .int k_laid])), (k1, .inl (cyI, 12, .inl k_shelf)), (k2, .inl (cyI, 12, .inl k_stack)), (k3, .inl (cyI, 12, .inl k_level)), (k4, .inl (cyI, 30, .inl k_asking))]) C wd_24 wd_25 wd_26 wd_27 9 4 1 rfl rfl rfl (by decide) (by decide) (by decide) (by decide) (by decide) (by decide) (by decide) (by decide) (by decide) (Nat.le_of_ble_eq_true rfl) dX7_copy_57 (by rw [ef_4]; rfl) ?_
  refine j_arrc (q0 := 4) (g := k_asking) (ws' := [(n0, .inr (7, [.ref n1, .ref n2, .ref n3, .ref n4, .int n_askings, .int n_cost, .int n_laid])), (n1, .inl (cyI, 12, .inl k_shelf)), (n2, .inl (cyI, 12, .inl k_stack)), (n3, .inl (cyI, 12, .inl k_level)), (n4, .inl (cyI, 30, .inl k_asking)), (k0, .inr (7, [.ref k1, .ref k2, .ref k3, .ref k4, .int k_askings, .int k_cost, .int k_laid])), (k1, .inl (cyI, 12, .inl k_shelf)), (k2, .inl (cyI, 12, .inl k_stack)), (k3, .inl (cyI, 12, .inl k_level)), (k4, .inl (cyI, 30, .inl k_asking))]) rfl (fun j hj => by rw [ef_4]; exact cpy_full hj) rfl ?_
  refine j_aload_n (pc := 60) C dX7_copy_60 rfl 0 rfl ?_
  refine j_aload_n (pc := 61) C dX7_copy_61 rfl 1 rfl ?_
  refine j_get (pc := 62) (ci := 7) (v := .int k_askings) C inw_7 5 rfl rfl 4 (by decide) wd_22 rfl rfl dX7_copy_62 ?_
  refine j_put (pc := 65) (ci := 7) (v := .int k_askings) (ws' := [(n0, .inr (7, [.ref n1, .ref n2, .ref n3, .ref n4, .int k_askings, .int n_cost, .int n_laid])), (n1, .inl (cyI, 12, .inl k_shelf)), (n2, .inl (cyI, 12, .inl k_stack)), (n3, .inl (cyI, 12, .inl k_level)), (n4, .inl (cyI, 30, .inl k_asking)), (k0, .inr (7, [.ref k1, .ref k2, .ref k3, .ref k4, .int k_askings, .int k_cost, .int k_laid])), (k1, .inl (cyI, 12, .inl k_shelf)), (k2, .inl (cyI, 12, .inl k_stack)), (k3, .inl (cyI, 12, .inl k_level)), (k4, .inl (cyI, 30, .inl k_asking))]) C inw_7 0 rfl rfl 4 (by decide) wd_22 rfl tyX7_ok nmX7 rfl (tyX7_ok 4 (by decide)) rfl rfl (Nat.le_of_ble_eq_true rfl) dX7_copy_65 rfl ?_
  refine j_aload_n (pc := 68) C dX7_copy_68 rfl 0 rfl ?_
  refine j_aload_n (pc := 69) C dX7_copy_69 rfl 1 rfl ?_
  refine j_get (pc := 70) (ci := 7) (v := .int k_cost) C inw_7 5 rfl rfl 5 (by decide) wd_28 rfl rfl dX7_copy_70 ?_
  refine j_put (pc := 73) (ci := 7) (v := .int k_cost) (ws' := [(n0, .inr (7, [.ref n1, .ref n2, .ref n3, .ref n4, .int k_askings, .int k_cost, .int n_laid])), (n1, .inl (cyI, 12, .inl k_shelf)), (n2, .inl (cyI, 12, .inl k_stack)), (n3, .inl (cyI, 12, .inl k_level)), (n4, .inl (cyI, 30, .inl k_asking)), (k0, .inr (7, [.ref k1, .ref k2, .ref k3, .ref k4, .int k_askings, .int k_cost, .int k_laid])), (k1, .inl (cyI, 12, .inl k_shelf)), (k2, .inl (cyI, 12, .inl k_stack)), (k3, .inl (cyI, 12, .inl k_level)), (k4, .inl (cyI, 30, .inl k_asking))]) C inw_7 0 rfl rfl 5 (by decide) wd_28 rfl tyX7_ok nmX7 rfl (tyX7_ok 5 (by decide)) rfl rfl (Nat.le_of_ble_eq_true rfl) dX7_copy_73 rfl ?_
  exact j_vret (pc := 76) C hr hk (fun i => [].getD i 0, fun i => [].getD i 0, fun i => [].getD i (fun _ => 0), fun i => [].getD i (fun _ => 0)) rfl trivial [0, 1, 2, 3, 4, 5, 6, 7, 8, 9] (by decide) rfl (by decide) (by decide) dX7_copy_76
