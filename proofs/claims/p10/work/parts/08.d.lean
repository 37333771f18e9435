theorem wd_29 : Cond.fieldLink RX4 15 "BowlShelf$Pile" "size" "I" ∈ WALL := wl_in (by decide +kernel) (by decide +kernel)
theorem wd_30 : Cond.fieldLink RX4 28 "BowlShelf$Told" "weight" "[I" ∈ WALL := wl_in (by decide +kernel) (by decide +kernel)
theorem wd_31 : Cond.fieldLink RX4 9 "BowlShelf$Pile" "ware" "[I" ∈ WALL := wl_in (by decide +kernel) (by decide +kernel)
theorem wd_32 : Cond.code yX9_rise cX9_rise 4 (some .int) ∈ WALL := wl_in (by decide +kernel) (by decide +kernel)
theorem wd_33 : Cond.initialized RX9 ∈ WALL := wl_in (by decide +kernel) (by decide +kernel)
theorem wd_34 : Cond.methodLink RX4 33 yX9_rise ∈ WALL := wl_in (by decide +kernel) (by decide +kernel)
theorem wd_35 : Cond.instanceMethod yX9_rise ∈ WALL := wl_in (by decide +kernel) (by decide +kernel)
theorem wd_36 : Cond.selects RX9 yX9_rise yX9_rise ∈ WALL := wl_in (by decide +kernel) (by decide +kernel)
theorem wd_37 : Cond.fieldLink RX4 37 "BowlShelf$Told" "deep" "[I" ∈ WALL := wl_in (by decide +kernel) (by decide +kernel)
theorem wd_38 : Cond.methodLink RX4 40 Lib.Math.max.name ∈ WALL := wl_in (by decide +kernel) (by decide +kernel)
theorem wd_39 : Cond.code yX4_weightFrom cX4_weightFrom 5 (some .int) ∈ WALL := wl_in (by decide +kernel) (by decide +kernel)
theorem wd_40 : Cond.initialized RX4 ∈ WALL := wl_in (by decide +kernel) (by decide +kernel)
theorem wd_41 : Cond.methodLink RX4 45 yX4_weightFrom ∈ WALL := wl_in (by decide +kernel) (by decide +kernel)
theorem wd_42 : Cond.instanceMethod yX4_weightFrom ∈ WALL := wl_in (by decide +kernel) (by decide +kernel)
theorem wd_43 : Cond.selects RX4 yX4_weightFrom yX4_weightFrom ∈ WALL := wl_in (by decide +kernel) (by decide +kernel)
theorem wd_44 : Cond.code yX4_highestRim cX4_highestRim 5 (some .int) ∈ WALL := wl_in (by decide +kernel) (by decide +kernel)
theorem wd_45 : Cond.methodLink RX4 55 yX4_highestRim ∈ WALL := wl_in (by decide +kernel) (by decide +kernel)
theorem wd_46 : Cond.instanceMethod yX4_highestRim ∈ WALL := wl_in (by decide +kernel) (by decide +kernel)
theorem wd_47 : Cond.selects RX4 yX4_highestRim yX4_highestRim ∈ WALL := wl_in (by decide +kernel) (by decide +kernel)
theorem wd_48 : Cond.fieldLink RX4 52 "BowlShelf$Told" "bears" "[I" ∈ WALL := wl_in (by decide +kernel) (by decide +kernel)
theorem wd_49 : Cond.fieldLink RX4 49 "BowlShelf$Told" "mayOn" "[I" ∈ WALL := wl_in (by decide +kernel) (by decide +kernel)
theorem dX4_weightFrom_0 : decode cX4_weightFrom 0 = .ok (.iconst 0, 1) := by decide +kernel
theorem dX4_weightFrom_1 : decode cX4_weightFrom 1 = .ok (.istore_n 3, 1) := by decide +kernel
theorem dX4_weightFrom_2 : decode cX4_weightFrom 2 = .ok (.iload_n 2, 1) := by decide +kernel
theorem dX4_weightFrom_3 : decode cX4_weightFrom 3 = .ok (.istore 4, 2) := by decide +kernel
theorem dX4_weightFrom_5 : decode cX4_weightFrom 5 = .ok (.iload 4, 2) := by decide +kernel
theorem dX4_weightFrom_7 : decode cX4_weightFrom 7 = .ok (.aload_n 0, 1) := by decide +kernel
theorem dX4_weightFrom_8 : decode cX4_weightFrom 8 = .ok (.getfield 15, 3) := by decide +kernel
theorem dX4_weightFrom_11 : decode cX4_weightFrom 11 = .ok (.if_icmp .ge 24, 3) := by decide +kernel
theorem dX4_weightFrom_14 : decode cX4_weightFrom 14 = .ok (.iload_n 3, 1) := by decide +kernel
theorem dX4_weightFrom_15 : decode cX4_weightFrom 15 = .ok (.aload_n 1, 1) := by decide +kernel
theorem dX4_weightFrom_16 : decode cX4_weightFrom 16 = .ok (.getfield 28, 3) := by decide +kernel
theorem dX4_weightFrom_19 : decode cX4_weightFrom 19 = .ok (.aload_n 0, 1) := by decide +kernel
theorem dX4_weightFrom_20 : decode cX4_weightFrom 20 = .ok (.getfield 9, 3) := by decide +kernel
theorem dX4_weightFrom_23 : decode cX4_weightFrom 23 = .ok (.iload 4, 2) := by decide +kernel
theorem dX4_weightFrom_25 : decode cX4_weightFrom 25 = .ok (.iaload, 1) := by decide +kernel
theorem dX4_weightFrom_26 : decode cX4_weightFrom 26 = .ok (.iaload, 1) := by decide +kernel
theorem dX4_weightFrom_27 : decode cX4_weightFrom 27 = .ok (.iadd, 1) := by decide +kernel
theorem dX4_weightFrom_28 : decode cX4_weightFrom 28 = .ok (.istore_n 3, 1) := by decide +kernel
theorem dX4_weightFrom_29 : decode cX4_weightFrom 29 = .ok (.iinc 4 1, 3) := by decide +kernel
theorem dX4_weightFrom_32 : decode cX4_weightFrom 32 = .ok (.goto (-27), 3) := by decide +kernel
theorem dX4_weightFrom_35 : decode cX4_weightFrom 35 = .ok (.iload_n 3, 1) := by decide +kernel
theorem dX4_weightFrom_36 : decode cX4_weightFrom 36 = .ok (.ireturn, 1) := by decide +kernel
theorem dX4_foot_0 : decode cX4_foot 0 = .ok (.iconst 0, 1) := by decide +kernel
theorem dX4_foot_1 : decode cX4_foot 1 = .ok (.istore_n 3, 1) := by decide +kernel
theorem dX4_foot_2 : decode cX4_foot 2 = .ok (.iconst 1, 1) := by decide +kernel
theorem dX4_foot_3 : decode cX4_foot 3 = .ok (.istore 4, 2) := by decide +kernel
theorem dX4_foot_5 : decode cX4_foot 5 = .ok (.iload 4, 2) := by decide +kernel
theorem dX4_foot_7 : decode cX4_foot 7 = .ok (.iload_n 2, 1) := by decide +kernel
theorem dX4_foot_8 : decode cX4_foot 8 = .ok (.if_icmp .gt 41, 3) := by decide +kernel
theorem dX4_foot_11 : decode cX4_foot 11 = .ok (.iload 4, 2) := by decide +kernel
theorem dX4_foot_13 : decode cX4_foot 13 = .ok (.aload_n 0, 1) := by decide +kernel
theorem dX4_foot_14 : decode cX4_foot 14 = .ok (.getfield 15, 3) := by decide +kernel
theorem dX4_foot_17 : decode cX4_foot 17 = .ok (.if_icmp .ge 32, 3) := by decide +kernel
theorem dX4_foot_20 : decode cX4_foot 20 = .ok (.iload_n 3, 1) := by decide +kernel
theorem dX4_foot_21 : decode cX4_foot 21 = .ok (.aload_n 1, 1) := by decide +kernel
theorem dX4_foot_22 : decode cX4_foot 22 = .ok (.aload_n 0, 1) := by decide +kernel
theorem dX4_foot_23 : decode cX4_foot 23 = .ok (.getfield 9, 3) := by decide +kernel
theorem dX4_foot_26 : decode cX4_foot 26 = .ok (.iload 4, 2) := by decide +kernel
theorem dX4_foot_28 : decode cX4_foot 28 = .ok (.iaload, 1) := by decide +kernel
theorem dX4_foot_29 : decode cX4_foot 29 = .ok (.aload_n 0, 1) := by decide +kernel
theorem dX4_foot_30 : decode cX4_foot 30 = .ok (.getfield 9, 3) := by decide +kernel
theorem dX4_foot_33 : decode cX4_foot 33 = .ok (.iload 4, 2) := by decide +kernel
theorem dX4_foot_35 : decode cX4_foot 35 = .ok (.iconst 1, 1) := by decide +kernel
theorem dX4_foot_36 : decode cX4_foot 36 = .ok (.isub, 1) := by decide +kernel
theorem dX4_foot_37 : decode cX4_foot 37 = .ok (.iaload, 1) := by decide +kernel
theorem dX4_foot_38 : decode cX4_foot 38 = .ok (.invokevirtual 33, 3) := by decide +kernel
theorem dX4_foot_41 : decode cX4_foot 41 = .ok (.iadd, 1) := by decide +kernel
theorem dX4_foot_42 : decode cX4_foot 42 = .ok (.istore_n 3, 1) := by decide +kernel
theorem dX4_foot_43 : decode cX4_foot 43 = .ok (.iinc 4 1, 3) := by decide +kernel
theorem dX4_foot_46 : decode cX4_foot 46 = .ok (.goto (-41), 3) := by decide +kernel
theorem dX4_foot_49 : decode cX4_foot 49 = .ok (.iload_n 3, 1) := by decide +kernel
theorem dX4_foot_50 : decode cX4_foot 50 = .ok (.ireturn, 1) := by decide +kernel
theorem dX4_highestRim_0 : decode cX4_highestRim 0 = .ok (.iconst 0, 1) := by decide +kernel
theorem dX4_highestRim_1 : decode cX4_highestRim 1 = .ok (.istore_n 2, 1) := by decide +kernel
theorem dX4_highestRim_2 : decode cX4_highestRim 2 = .ok (.iconst 0, 1) := by decide +kernel
theorem dX4_highestRim_3 : decode cX4_highestRim 3 = .ok (.istore_n 3, 1) := by decide +kernel
theorem dX4_highestRim_4 : decode cX4_highestRim 4 = .ok (.iconst 0, 1) := by decide +kernel
theorem dX4_highestRim_5 : decode cX4_highestRim 5 = .ok (.istore 4, 2) := by decide +kernel
theorem dX4_highestRim_7 : decode cX4_highestRim 7 = .ok (.iload 4, 2) := by decide +kernel
theorem dX4_highestRim_9 : decode cX4_highestRim 9 = .ok (.aload_n 0, 1) := by decide +kernel
theorem dX4_highestRim_10 : decode cX4_highestRim 10 = .ok (.getfield 15, 3) := by decide +kernel
theorem dX4_highestRim_13 : decode cX4_highestRim 13 = .ok (.if_icmp .ge 60, 3) := by decide +kernel
theorem dX4_highestRim_16 : decode cX4_highestRim 16 = .ok (.iload_n 3, 1) := by decide +kernel
theorem dX4_highestRim_17 : decode cX4_highestRim 17 = .ok (.iload 4, 2) := by decide +kernel
theorem dX4_highestRim_19 : decode cX4_highestRim 19 = .ok (.ifCond .ne 7, 3) := by decide +kernel
theorem dX4_highestRim_22 : decode cX4_highestRim 22 = .ok (.iconst 0, 1) := by decide +kernel
theorem dX4_highestRim_23 : decode cX4_highestRim 23 = .ok (.goto 23, 3) := by decide +kernel
theorem dX4_highestRim_26 : decode cX4_highestRim 26 = .ok (.aload_n 1, 1) := by decide +kernel
theorem dX4_highestRim_27 : decode cX4_highestRim 27 = .ok (.aload_n 0, 1) := by decide +kernel
theorem dX4_highestRim_28 : decode cX4_highestRim 28 = .ok (.getfield 9, 3) := by decide +kernel
theorem dX4_highestRim_31 : decode cX4_highestRim 31 = .ok (.iload 4, 2) := by decide +kernel
theorem dX4_highestRim_33 : decode cX4_highestRim 33 = .ok (.iaload, 1) := by decide +kernel
theorem dX4_highestRim_34 : decode cX4_highestRim 34 = .ok (.aload_n 0, 1) := by decide +kernel
theorem dX4_highestRim_35 : decode cX4_highestRim 35 = .ok (.getfield 9, 3) := by decide +kernel
theorem dX4_highestRim_38 : decode cX4_highestRim 38 = .ok (.iload 4, 2) := by decide +kernel
theorem dX4_highestRim_40 : decode cX4_highestRim 40 = .ok (.iconst 1, 1) := by decide +kernel
theorem dX4_highestRim_41 : decode cX4_highestRim 41 = .ok (.isub, 1) := by decide +kernel
theorem dX4_highestRim_42 : decode cX4_highestRim 42 = .ok (.iaload, 1) := by decide +kernel
theorem dX4_highestRim_43 : decode cX4_highestRim 43 = .ok (.invokevirtual 33, 3) := by decide +kernel
theorem dX4_highestRim_46 : decode cX4_highestRim 46 = .ok (.iadd, 1) := by decide +kernel
theorem dX4_highestRim_47 : decode cX4_highestRim 47 = .ok (.istore_n 3, 1) := by decide +kernel
theorem dX4_highestRim_48 : decode cX4_highestRim 48 = .ok (.iload_n 2, 1) := by decide +kernel
theorem dX4_highestRim_49 : decode cX4_highestRim 49 = .ok (.iload_n 3, 1) := by decide +kernel
theorem dX4_highestRim_50 : decode cX4_highestRim 50 = .ok (.aload_n 1, 1) := by decide +kernel
theorem dX4_highestRim_51 : decode cX4_highestRim 51 = .ok (.getfield 37, 3) := by decide +kernel
theorem dX4_highestRim_54 : decode cX4_highestRim 54 = .ok (.aload_n 0, 1) := by decide +kernel
theorem dX4_highestRim_55 : decode cX4_highestRim 55 = .ok (.getfield 9, 3) := by decide +kernel
theorem dX4_highestRim_58 : decode cX4_highestRim 58 = .ok (.iload 4, 2) := by decide +kernel
theorem dX4_highestRim_60 : decode cX4_highestRim 60 = .ok (.iaload, 1) := by decide +kernel
theorem dX4_highestRim_61 : decode cX4_highestRim 61 = .ok (.iaload, 1) := by decide +kernel
theorem dX4_highestRim_62 : decode cX4_highestRim 62 = .ok (.iadd, 1) := by decide +kernel
theorem dX4_highestRim_63 : decode cX4_highestRim 63 = .ok (.invokestatic 40, 3) := by decide +kernel
theorem dX4_highestRim_66 : decode cX4_highestRim 66 = .ok (.istore_n 2, 1) := by decide +kernel
theorem dX4_highestRim_67 : decode cX4_highestRim 67 = .ok (.iinc 4 1, 3) := by decide +kernel
theorem dX4_highestRim_70 : decode cX4_highestRim 70 = .ok (.goto (-63), 3) := by decide +kernel
theorem dX4_highestRim_73 : decode cX4_highestRim 73 = .ok (.iload_n 2, 1) := by decide +kernel
theorem dX4_highestRim_74 : decode cX4_highestRim 74 = .ok (.ireturn, 1) := by decide +kernel
theorem dX4_price_0 : decode cX4_price 0 = .ok (.aload_n 1, 1) := by decide +kernel
theorem dX4_price_1 : decode cX4_price 1 = .ok (.getfield 28, 3) := by decide +kernel
theorem dX4_price_4 : decode cX4_price 4 = .ok (.aload_n 0, 1) := by decide +kernel
theorem dX4_price_5 : decode cX4_price 5 = .ok (.getfield 9, 3) := by decide +kernel
theorem dX4_price_8 : decode cX4_price 8 = .ok (.iload_n 2, 1) := by decide +kernel
theorem dX4_price_9 : decode cX4_price 9 = .ok (.iaload, 1) := by decide +kernel
theorem dX4_price_10 : decode cX4_price 10 = .ok (.iaload, 1) := by decide +kernel
theorem dX4_price_11 : decode cX4_price 11 = .ok (.iload_n 3, 1) := by decide +kernel
theorem dX4_price_12 : decode cX4_price 12 = .ok (.iadd, 1) := by decide +kernel
theorem dX4_price_13 : decode cX4_price 13 = .ok (.istore 4, 2) := by decide +kernel
theorem dX4_price_15 : decode cX4_price 15 = .ok (.iload 4, 2) := by decide +kernel
theorem dX4_price_17 : decode cX4_price 17 = .ok (.iconst 2, 1) := by decide +kernel
theorem dX4_price_18 : decode cX4_price 18 = .ok (.aload_n 0, 1) := by decide +kernel
theorem dX4_price_19 : decode cX4_price 19 = .ok (.aload_n 1, 1) := by decide +kernel
theorem dX4_price_20 : decode cX4_price 20 = .ok (.iload_n 2, 1) := by decide +kernel
theorem dX4_price_21 : decode cX4_price 21 = .ok (.iconst 1, 1) := by decide +kernel
theorem dX4_price_22 : decode cX4_price 22 = .ok (.iadd, 1) := by decide +kernel
theorem dX4_price_23 : decode cX4_price 23 = .ok (.invokevirtual 45, 3) := by decide +kernel
theorem dX4_price_26 : decode cX4_price 26 = .ok (.iload_n 3, 1) := by decide +kernel
theorem dX4_price_27 : decode cX4_price 27 = .ok (.aload_n 0, 1) := by decide +kernel
theorem dX4_price_28 : decode cX4_price 28 = .ok (.getfield 15, 3) := by decide +kernel
theorem dX4_price_31 : decode cX4_price 31 = .ok (.iconst 1, 1) := by decide +kernel
theorem dX4_price_32 : decode cX4_price 32 = .ok (.isub, 1) := by decide +kernel
theorem dX4_price_33 : decode cX4_price 33 = .ok (.iload_n 2, 1) := by decide +kernel
theorem dX4_price_34 : decode cX4_price 34 = .ok (.isub, 1) := by decide +kernel
theorem dX4_price_35 : decode cX4_price 35 = .ok (.imul, 1) := by decide +kernel
theorem dX4_price_36 : decode cX4_price 36 = .ok (.iadd, 1) := by decide +kernel
theorem dX4_price_37 : decode cX4_price 37 = .ok (.imul, 1) := by decide +kernel
theorem dX4_price_38 : decode cX4_price 38 = .ok (.iadd, 1) := by decide +kernel
theorem dX4_price_39 : decode cX4_price 39 = .ok (.ireturn, 1) := by decide +kernel
theorem dX4_refusal_0 : decode cX4_refusal 0 = .ok (.iconst 1, 1) := by decide +kernel
theorem dX4_refusal_1 : decode cX4_refusal 1 = .ok (.istore_n 3, 1) := by decide +kernel
theorem dX4_refusal_2 : decode cX4_refusal 2 = .ok (.iload_n 3, 1) := by decide +kernel
theorem dX4_refusal_3 : decode cX4_refusal 3 = .ok (.aload_n 0, 1) := by decide +kernel
theorem dX4_refusal_4 : decode cX4_refusal 4 = .ok (.getfield 15, 3) := by decide +kernel
theorem dX4_refusal_7 : decode cX4_refusal 7 = .ok (.if_icmp .ge 36, 3) := by decide +kernel
theorem dX4_refusal_10 : decode cX4_refusal 10 = .ok (.aload_n 1, 1) := by decide +kernel
theorem dX4_refusal_11 : decode cX4_refusal 11 = .ok (.getfield 49, 3) := by decide +kernel
theorem dX4_refusal_14 : decode cX4_refusal 14 = .ok (.aload_n 0, 1) := by decide +kernel
theorem dX4_refusal_15 : decode cX4_refusal 15 = .ok (.getfield 9, 3) := by decide +kernel
theorem dX4_refusal_18 : decode cX4_refusal 18 = .ok (.iload_n 3, 1) := by decide +kernel
theorem dX4_refusal_19 : decode cX4_refusal 19 = .ok (.iconst 1, 1) := by decide +kernel
theorem dX4_refusal_20 : decode cX4_refusal 20 = .ok (.isub, 1) := by decide +kernel
theorem dX4_refusal_21 : decode cX4_refusal 21 = .ok (.iaload, 1) := by decide +kernel
theorem dX4_refusal_22 : decode cX4_refusal 22 = .ok (.iaload, 1) := by decide +kernel
theorem dX4_refusal_23 : decode cX4_refusal 23 = .ok (.aload_n 0, 1) := by decide +kernel
theorem dX4_refusal_24 : decode cX4_refusal 24 = .ok (.getfield 9, 3) := by decide +kernel
theorem dX4_refusal_27 : decode cX4_refusal 27 = .ok (.iload_n 3, 1) := by decide +kernel
theorem dX4_refusal_28 : decode cX4_refusal 28 = .ok (.iaload, 1) := by decide +kernel
theorem dX4_refusal_29 : decode cX4_refusal 29 = .ok (.iushr, 1) := by decide +kernel
theorem dX4_refusal_30 : decode cX4_refusal 30 = .ok (.iconst 1, 1) := by decide +kernel
theorem dX4_refusal_31 : decode cX4_refusal 31 = .ok (.iand, 1) := by decide +kernel
theorem dX4_refusal_32 : decode cX4_refusal 32 = .ok (.ifCond .ne 5, 3) := by decide +kernel
theorem dX4_refusal_35 : decode cX4_refusal 35 = .ok (.iconst 4, 1) := by decide +kernel
theorem dX4_refusal_36 : decode cX4_refusal 36 = .ok (.ireturn, 1) := by decide +kernel
theorem dX4_refusal_37 : decode cX4_refusal 37 = .ok (.iinc 3 1, 3) := by decide +kernel
theorem dX4_refusal_40 : decode cX4_refusal 40 = .ok (.goto (-38), 3) := by decide +kernel
theorem dX4_refusal_43 : decode cX4_refusal 43 = .ok (.iconst 0, 1) := by decide +kernel
theorem dX4_refusal_44 : decode cX4_refusal 44 = .ok (.istore_n 3, 1) := by decide +kernel
theorem dX4_refusal_45 : decode cX4_refusal 45 = .ok (.iload_n 3, 1) := by decide +kernel
theorem dX4_refusal_46 : decode cX4_refusal 46 = .ok (.aload_n 0, 1) := by decide +kernel
theorem dX4_refusal_47 : decode cX4_refusal 47 = .ok (.getfield 15, 3) := by decide +kernel
theorem dX4_refusal_50 : decode cX4_refusal 50 = .ok (.if_icmp .ge 33, 3) := by decide +kernel
theorem dX4_refusal_53 : decode cX4_refusal 53 = .ok (.aload_n 0, 1) := by decide +kernel
theorem dX4_refusal_54 : decode cX4_refusal 54 = .ok (.aload_n 1, 1) := by decide +kernel
theorem dX4_refusal_55 : decode cX4_refusal 55 = .ok (.iload_n 3, 1) := by decide +kernel
theorem dX4_refusal_56 : decode cX4_refusal 56 = .ok (.iconst 1, 1) := by decide +kernel
theorem dX4_refusal_57 : decode cX4_refusal 57 = .ok (.iadd, 1) := by decide +kernel
theorem dX4_refusal_58 : decode cX4_refusal 58 = .ok (.invokevirtual 45, 3) := by decide +kernel
theorem dX4_refusal_61 : decode cX4_refusal 61 = .ok (.aload_n 1, 1) := by decide +kernel
theorem dX4_refusal_62 : decode cX4_refusal 62 = .ok (.getfield 52, 3) := by decide +kernel
theorem dX4_refusal_65 : decode cX4_refusal 65 = .ok (.aload_n 0, 1) := by decide +kernel
theorem dX4_refusal_66 : decode cX4_refusal 66 = .ok (.getfield 9, 3) := by decide +kernel
theorem dX4_refusal_69 : decode cX4_refusal 69 = .ok (.iload_n 3, 1) := by decide +kernel
theorem dX4_refusal_70 : decode cX4_refusal 70 = .ok (.iaload, 1) := by decide +kernel
theorem dX4_refusal_71 : decode cX4_refusal 71 = .ok (.iaload, 1) := by decide +kernel
theorem dX4_refusal_72 : decode cX4_refusal 72 = .ok (.if_icmp .le 5, 3) := by decide +kernel
theorem dX4_refusal_75 : decode cX4_refusal 75 = .ok (.iconst 5, 1) := by decide +kernel
theorem dX4_refusal_76 : decode cX4_refusal 76 = .ok (.ireturn, 1) := by decide +kernel
theorem dX4_refusal_77 : decode cX4_refusal 77 = .ok (.iinc 3 1, 3) := by decide +kernel
theorem dX4_refusal_80 : decode cX4_refusal 80 = .ok (.goto (-35), 3) := by decide +kernel
theorem dX4_refusal_83 : decode cX4_refusal 83 = .ok (.aload_n 0, 1) := by decide +kernel
theorem dX4_refusal_84 : decode cX4_refusal 84 = .ok (.aload_n 1, 1) := by decide +kernel
theorem dX4_refusal_85 : decode cX4_refusal 85 = .ok (.invokevirtual 55, 3) := by decide +kernel
theorem dX4_refusal_88 : decode cX4_refusal 88 = .ok (.iload_n 2, 1) := by decide +kernel
theorem dX4_refusal_89 : decode cX4_refusal 89 = .ok (.if_icmp .le 8, 3) := by decide +kernel
theorem dX4_refusal_92 : decode cX4_refusal 92 = .ok (.bipush 6, 2) := by decide +kernel
theorem dX4_refusal_94 : decode cX4_refusal 94 = .ok (.goto 4, 3) := by decide +kernel
theorem dX4_refusal_97 : decode cX4_refusal 97 = .ok (.iconst 0, 1) := by decide +kernel
theorem dX4_refusal_98 : decode cX4_refusal 98 = .ok (.ireturn, 1) := by decide +kernel
theorem dX4_add_0 : decode cX4_add 0 = .ok (.aload_n 0, 1) := by decide +kernel
theorem dX4_add_1 : decode cX4_add 1 = .ok (.getfield 15, 3) := by decide +kernel
theorem dX4_add_4 : decode cX4_add 4 = .ok (.bipush 12, 2) := by decide +kernel
theorem dX4_add_6 : decode cX4_add 6 = .ok (.if_icmp .ge 23, 3) := by decide +kernel
theorem dX4_add_9 : decode cX4_add 9 = .ok (.aload_n 0, 1) := by decide +kernel
theorem dX4_add_10 : decode cX4_add 10 = .ok (.getfield 9, 3) := by decide +kernel
theorem dX4_add_13 : decode cX4_add 13 = .ok (.aload_n 0, 1) := by decide +kernel
theorem dX4_add_14 : decode cX4_add 14 = .ok (.getfield 15, 3) := by decide +kernel
theorem dX4_add_17 : decode cX4_add 17 = .ok (.iload_n 1, 1) := by decide +kernel
theorem dX4_add_18 : decode cX4_add 18 = .ok (.iastore, 1) := by decide +kernel
theorem dX4_add_19 : decode cX4_add 19 = .ok (.aload_n 0, 1) := by decide +kernel
theorem dX4_add_20 : decode cX4_add 20 = .ok (.dup, 1) := by decide +kernel
theorem dX4_add_21 : decode cX4_add 21 = .ok (.getfield 15, 3) := by decide +kernel
theorem dX4_add_24 : decode cX4_add 24 = .ok (.iconst 1, 1) := by decide +kernel
theorem dX4_add_25 : decode cX4_add 25 = .ok (.iadd, 1) := by decide +kernel
theorem dX4_add_26 : decode cX4_add 26 = .ok (.putfield 15, 3) := by decide +kernel
theorem dX4_add_29 : decode cX4_add 29 = .ok (.return_, 1) := by decide +kernel
set_option maxHeartbeats 4000000 in
set_option maxRecDepth 100000 in
theorem c_X4_weightFrom (l : Launch) (D : DG) (cyC cyI cyJ cyZ cyO : ClassId) (q0 : Nat) (q1 : Nat) (a0 : Nat) (a3 : Nat) (a1 : Nat) (a2 : Nat) (a4 : Nat) (a5 : Nat) (a6 : Nat) (a7 : Nat) (a8 : Nat) (a9 : Nat) (a10 : Nat) (p0 : Int32) (q_size : Int32) (a_wares : Int32) (a_shelves : Int32) (a_nests : Int32) (a_lids : Int32) (a_tops : Int32) (q_ware : Nat → Int32) (a_weight : Nat → Int32) (h_q_size : 0 ≤ (q_size).toInt ∧ (q_size).toInt ≤ 12) (h_a_wares : 0 ≤ (a_wares).toInt ∧ (a_wares).toInt ≤ 12) (h_a_shelves : 0 ≤ (a_shelves).toInt ∧ (a_shelves).toInt ≤ 4) (h_a_nests : 0 ≤ (a_nests).toInt ∧ (a_nests).toInt ≤ 4) (h_p0 : 0 ≤ (p0).toInt ∧ (p0).toInt ≤ 13) (h_q_ware : Iv 12 (0) (11) q_ware) : KK l D (TY cyC cyI cyJ cyZ cyO) yX4_weightFrom cX4_weightFrom 5 (some .int) ({ frames := 0, cells := 0, slots := 0, locals := 0 } : Room) 0 0 [.ref q0, .ref a0, .int p0] [(q0, .inr (4, [.ref q1, .int q_size])), (q1, .inl (cyI, 12, .inl q_ware)), (a0, .inr (9, [.int a_wares, .int a_shelves, .int a_nests, .ref a1, .ref a2, .ref a3, .ref a4, .ref a5, .ref a6, .int a_lids, .int a_tops, .ref a7, .ref a8, .ref a9, .ref a10])), (a3, .inl (cyI, 12, .inl a_weight))] (fun u => some (.int (u.2.1 0))) (fun u => ((u.2.1 0) = wtF a_weight q_ware (p0).toInt.toNat (q_size).toInt.toNat)) (fun u => [(q0, .inr (4, [.ref q1, .int q_size])), (q1, .inl (cyI, 12, .inl q_ware)), (a0, .inr (9, [.int a_wares, .int a_shelves, .int a_nests, .ref a1, .ref a2, .ref a3, .ref a4, .ref a5, .ref a6, .int a_lids, .int a_tops, .ref a7, .ref a8, .ref a9, .ref a10])), (a3, .inl (cyI, 12, .inl a_weight))]) := by
  refine KK.of (lv0 := [(0, .ref q0), (1, .ref a0), (2, .int p0)]) (by decide) rfl (Nat.le_of_ble_eq_true rfl) ?_
  intro p e s m args below meth c A C hr hk hin
  refine j_iconst (pc := 0) (v := 0) C dX4_weightFrom_0 (by decide) ?_
  refine j_istore_n (pc := 1) (lv' := [(3, .int 0), (0, .ref q0), (1, .ref a0), (2, .int p0)]) C dX4_weightFrom_1 rfl (by decide) rfl ?_
  refine j_iload_n (pc := 2) C dX4_weightFrom_2 rfl 3 rfl ?_
  refine j_istore (pc := 3) (lv' := [(4, .int p0), (3, .int 0), (0, .ref q0), (1, .ref a0), (2, .int p0)]) C dX4_weightFrom_3 (by decide) rfl ?_
  have loop_1 : ∀ (k_1 : Nat) (x1_4 : Int32) (x1_3 : Int32), (0 ≤ (x1_4).toInt ∧ (x1_4).toInt ≤ 13) → ((p0).toInt ≤ x1_4.toInt ∧ (x1_4.toInt ≤ (q_size).toInt ∨ x1_4.toInt = (p0).toInt)) → (x1_3 = wtF a_weight q_ware (p0).toInt.toNat (x1_4.toInt).toNat) → (13 - x1_4.toInt).toNat < k_1 → J p l e ({ frames := 0, cells := 0, slots := 0, locals := 0 } : Room) s m args below meth c D A 5 0 0 (QX below D (TY cyC cyI cyJ cyZ cyO) A (fun u => some (.int (u.2.1 0))) (fun u => ((u.2.1 0) = wtF a_weight q_ware (p0).toInt.toNat (q_size).toInt.toNat)) (fun u => [(q0, .inr (4, [.ref q1, .int q_size])), (q1, .inl (cyI, 12, .inl q_ware)), (a0, .inr (9, [.int a_wares, .int a_shelves, .int a_nests, .ref a1, .ref a2, .ref a3, .ref a4, .ref a5, .ref a6, .int a_lids, .int a_tops, .ref a7, .ref a8, .ref a9, .ref a10])), (a3, .inl (cyI, 12, .inl a_weight))]) args s 0 0) [(q0, .inr (4, [.ref q1, .int q_size])), (q1, .inl (cyI, 12, .inl q_ware)), (a0, .inr (9, [.int a_wares, .int a_shelves, .int a_nests, .ref a1, .ref a2, .ref a3, .ref a4, .ref a5, .ref a6, .int a_lids, .int a_tops, .ref a7, .ref a8, .ref a9, .ref a10])), (a3, .inl (cyI, 12, .inl a_weight))] 5 [(4, .int x1_4), (3, .int x1_3), (0, .ref q0), (1, .ref a0), (2, .int p0)] [] := by
    intro k_1
    induction k_1 with
    | zero =>
      intro x1_4 x1_3 hi_1_0 hr_1 hq_1_0 hm_1
      exact absurd hm_1 (Nat.not_lt_zero _)
    | succ k_1 ih_1 =>
      intro x1_4 x1_3 hi_1_0 hr_1 hq_1_0 hm_1
      refine j_iload (pc := 5) C dX4_weightFrom_5 0 rfl ?_
      refine j_aload_n (pc := 7) C dX4_weightFrom_7 rfl 2 rfl ?_
      refine j_get (pc := 8) (ci := 4) (v := .int q_size) C inw_4 0 rfl rfl 1 (by decide) wd_29 rfl rfl dX4_weightFrom_8 ?_
      refine j_icmp_ge (pc := 11) (tgt := 35) C dX4_weightFrom_11 (by decide) (fun c_2 => ?_) (fun c_2 => ?_)
      · skip
        rw [i_le] at c_2
        refine j_iload_n (pc := 35) C dX4_weightFrom_35 rfl 1 rfl ?_
        exact j_iret (pc := 36) C hr hk (fun i => [].getD i 0, fun i => [x1_3].getD i 0, fun i => [].getD i (fun _ => 0), fun i => [].getD i (fun _ => 0)) rfl (show (x1_3 = wtF a_weight q_ware (p0).toInt.toNat (q_size).toInt.toNat) from ((by rcases (by omega : (x1_4).toInt = (q_size).toInt ∨ (x1_4).toInt = (p0).toInt ∧ (q_size).toInt ≤ (p0).toInt) with z | z; (rw [show (q_size).toInt.toNat = (x1_4).toInt.toNat from (by omega)]; exact hq_1_0); (rw [hq_1_0, show (x1_4).toInt.toNat = (p0).toInt.toNat from (by omega), wtF_0 _ _ (Nat.le_refl _), wtF_0 _ _ (by omega)])))) [0, 1, 2, 3] (by decide) rfl (by decide) (by decide) dX4_weightFrom_36
      · skip
        rw [i_le] at c_2
        refine j_iload_n (pc := 14) C dX4_weightFrom_14 rfl 1 rfl ?_
        refine j_aload_n (pc := 15) C dX4_weightFrom_15 rfl 3 rfl ?_
        refine j_get (pc := 16) (ci := 9) (v := .ref a3) C inw_9 2 rfl rfl 5 (by decide) wd_30 rfl rfl dX4_weightFrom_16 ?_
        refine j_aload_n (pc := 19) C dX4_weightFrom_19 rfl 2 rfl ?_
        refine j_get (pc := 20) (ci := 4) (v := .ref q1) C inw_4 0 rfl rfl 0 (by decide) wd_31 rfl rfl dX4_weightFrom_20 ?_
        refine j_iload (pc := 23) C dX4_weightFrom_23 0 rfl ?_
        obtain ⟨v_3, ev_3⟩ : ∃ z, q_ware (x1_4).toInt.toNat = z := ⟨_, rfl⟩
        have env_3 : (q_ware (x1_4).toInt.toNat).toInt = v_3.toInt := by rw [ev_3]
        have hv_3 := h_q_ware (x1_4).toInt.toNat (i_lt_n hi_1_0.1 (by omega)); rw [ev_3] at hv_3
        refine j_iald (pc := 25) (v := v_3) (k := (x1_4).toInt.toNat) C 1 1 rfl rfl (i_nn hi_1_0.1) rfl (i_lt_n hi_1_0.1 (by omega)) ev_3 dX4_weightFrom_25 ?_
        obtain ⟨v_4, ev_4⟩ : ∃ z, a_weight (v_3).toInt.toNat = z := ⟨_, rfl⟩
        have env_4 : (a_weight (v_3).toInt.toNat).toInt = v_4.toInt := by rw [ev_4]
        refine j_iald (pc := 26) (v := v_4) (k := (v_3).toInt.toNat) C 3 1 rfl rfl (i_nn hv_3.1) rfl (i_lt_n hv_3.1 (Int.lt_of_le_of_lt hv_3.2 (by decide))) ev_4 dX4_weightFrom_26 ?_
        obtain ⟨v_5, ev_5⟩ : ∃ z : Int32, x1_3 + v_4 = z := ⟨_, rfl⟩
        refine j_iadd (pc := 27) (v := v_5) C dX4_weightFrom_27 ev_5 ?_
        refine j_istore_n (pc := 28) (lv' := [(3, .int v_5), (4, .int x1_4), (0, .ref q0), (1, .ref a0), (2, .int p0)]) C dX4_weightFrom_28 rfl (by decide) rfl ?_
        obtain ⟨v_6, ev_6⟩ : ∃ z : Int32, x1_4 + 1 = z := ⟨_, rfl⟩
        have el_1 : (1 : Int32).toInt = 1 := rfl
        have hv_6 : v_6.toInt = x1_4.toInt + (1 : Int32).toInt := by rw [← ev_6]; exact fb_addI (by omega) (by omega)
        refine j_iinc (pc := 29) (v := v_6) (lv' := [(4, .int v_6), (3, .int v_5), (0, .ref q0), (1, .ref a0), (2, .int p0)]) C dX4_weightFrom_29 1 rfl ev_6 (by decide) rfl ?_
        refine j_goto (pc := 32) (tgt := 5) C dX4_weightFrom_32 (by decide) ?_
        exact j_lv [0, 1, 2, 3, 4] rfl (ih_1 v_6 v_5 (by omega) (by omega) (by rw [show (v_6.toInt).toNat = (x1_4).toInt.toNat + 1 from (by omega), wtF_top _ _ _ (by omega), ← hq_1_0, ev_3, ev_4]; exact ev_5.symm) (by omega))
  have el_0 : (0 : Int32).toInt = 0 := rfl
  exact j_lv [0, 1, 2, 3, 4] rfl (loop_1 4096 p0 0 h_p0 (by omega) (wtF_0 _ _ (Nat.le_refl _)).symm (by omega))
set_option maxHeartbeats 4000000 in
set_option maxRecDepth 100000 in
theorem c_X4_foot (l : Launch) (D : DG) (cyC cyI cyJ cyZ cyO : ClassId) (q0 : Nat) (q1 : Nat) (a0 : Nat) (a1 : Nat) (a2 : Nat) (a3 : Nat) (a4 : Nat) (a5 : Nat) (a6 : Nat) (a7 : Nat) (a8 : Nat) (a9 : Nat) (a10 : Nat) (p0 : Int32) (q_size : Int32) (a_wares : Int32) (a_shelves : Int32) (a_nests : Int32) (a_lids : Int32) (a_tops : Int32) (q_ware : Nat → Int32) (a_wide : Nat → Int32) (a_deep : Nat → Int32) (h_q_size : 0 ≤ (q_size).toInt ∧ (q_size).toInt ≤ 12) (h_a_wares : 0 ≤ (a_wares).toInt ∧ (a_wares).toInt ≤ 12) (h_a_shelves : 0 ≤ (a_shelves).toInt ∧ (a_shelves).toInt ≤ 4) (h_a_nests : 0 ≤ (a_nests).toInt ∧ (a_nests).toInt ≤ 4) (h_p0 : 0 ≤ (p0).toInt ∧ (p0).toInt ≤ 11) (h_q_ware : Iv 12 (0) (11) q_ware) : KK l D (TY cyC cyI cyJ cyZ cyO) yX4_foot cX4_foot 5 (some .int) ({ frames := 1, cells := 0, slots := 0, locals := 23 } : Room) 0 0 [.ref q0, .ref a0, .int p0] [(q0, .inr (4, [.ref q1, .int q_size])), (q1, .inl (cyI, 12, .inl q_ware)), (a0, .inr (9, [.int a_wares, .int a_shelves, .int a_nests, .ref a1, .ref a2, .ref a3, .ref a4, .ref a5, .ref a6, .int a_lids, .int a_tops, .ref a7, .ref a8, .ref a9, .ref a10])), (a1, .inl (cyI, 12, .inl a_wide)), (a2, .inl (cyI, 12, .inl a_deep))] (fun u => some (.int (u.2.1 0))) (fun u => (IM ((p0).toInt < (q_size).toInt) ((u.2.1 0) = ftF (rsC a_wide a_deep a_lids) q_ware (p0).toInt.toNat))) (fun u => [(q0, .inr (4, [.ref q1, .int q_size])), (q1, .inl (cyI, 12, .inl q_ware)), (a0, .inr (9, [.int a_wares, .int a_shelves, .int a_nests, .ref a1, .ref a2, .ref a3, .ref a4, .ref a5, .ref a6, .int a_lids, .int a_tops, .ref a7, .ref a8, .ref a9, .ref a10])), (a1, .inl (cyI, 12, .inl a_wide)), (a2, .inl (cyI, 12, .inl a_deep))]) := by
  refine KK.of (lv0 := [(0, .ref q0), (1, .ref a0), (2, .int p0)]) (by decide) rfl (Nat.le_of_ble_eq_true rfl) ?_
  intro p e s m args below meth c A C hr hk hin
  refine j_iconst (pc := 0) (v := 0) C dX4_foot_0 (by decide) ?_
  refine j_istore_n (pc := 1) (lv' := [(3, .int 0), (0, .ref q0), (1, .ref a0), (2, .int p0)]) C dX4_foot_1 rfl (by decide) rfl ?_
  refine j_iconst (pc := 2) (v := 1) C dX4_foot_2 (by decide) ?_
  refine j_istore (pc := 3) (lv' := [(4, .int 1), (3, .int 0), (0, .ref q0), (1, .ref a0), (2, .int p0)]) C dX4_foot_3 (by decide) rfl ?_
  have loop_1 : ∀ (k_1 : Nat) (x1_4 : Int32) (x1_3 : Int32), (1 ≤ (x1_4).toInt ∧ (x1_4).toInt ≤ 12) → (x1_4.toInt ≤ (p0).toInt + 1) → (x1_3 = ftF (rsC a_wide a_deep a_lids) q_ware (x1_4.toInt - 1).toNat) → (12 - x1_4.toInt).toNat < k_1 → J p l e ({ frames := 1, cells := 0, slots := 0, locals := 23 } : Room) s m args below meth c D A 5 0 0 (QX below D (TY cyC cyI cyJ cyZ cyO) A (fun u => some (.int (u.2.1 0))) (fun u => (IM ((p0).toInt < (q_size).toInt) ((u.2.1 0) = ftF (rsC a_wide a_deep a_lids) q_ware (p0).toInt.toNat))) (fun u => [(q0, .inr (4, [.ref q1, .int q_size])), (q1, .inl (cyI, 12, .inl q_ware)), (a0, .inr (9, [.int a_wares, .int a_shelves, .int a_nests, .ref a1, .ref a2, .ref a3, .ref a4, .ref a5, .ref a6, .int a_lids, .int a_tops, .ref a7, .ref a8, .ref a9, .ref a10])), (a1, .inl (cyI, 12, .inl a_wide)), (a2, .inl (cyI, 12, .inl a_deep))]) args s 0 0) [(q0, .inr (4, [.ref q1, .int q_size])), (q1, .inl (cyI, 12, .inl q_ware)), (a0, .inr (9, [.int a_wares, .int a_shelves, .int a_nests, .ref a1, .ref a2, .ref a3, .ref a4, .ref a5, .ref a6, .int a_lids, .int a_tops, .ref a7, .ref a8, .ref a9, .ref a10])), (a1, .inl (cyI, 12, .inl a_wide)), (a2, .inl (cyI, 12, .inl a_deep))] 5 [(4, .int x1_4), (3, .int x1_3), (0, .ref q0), (1, .ref a0), (2, .int p0)] [] := by
    intro k_1
    induction k_1 with
    | zero =>
      intro x1_4 x1_3 hi_1_0 hr_1 hq_1_0 hm_1
      exact absurd hm_1 (Nat.not_lt_zero _)
    | succ k_1 ih_1 =>
      intro x1_4 x1_3 hi_1_0 hr_1 hq_1_0 hm_1
      refine j_iload (pc := 5) C dX4_foot_5 0 rfl ?_
      refine j_iload_n (pc := 7) C dX4_foot_7 rfl 4 rfl ?_
      refine j_icmp_gt (pc := 8) (tgt := 49) C dX4_foot_8 (by decide) (fun c_2 => ?_) (fun c_2 => ?_)
      · skip
        rw [i_lt] at c_2
        refine j_iload_n (pc := 49) C dX4_foot_49 rfl 1 rfl ?_
        exact j_iret (pc := 50) C hr hk (fun i => [].getD i 0, fun i => [x1_3].getD i 0, fun i => [].getD i (fun _ => 0), fun i => [].getD i (fun _ => 0)) rfl (show (IM ((p0).toInt < (q_size).toInt) (x1_3 = ftF (rsC a_wide a_deep a_lids) q_ware (p0).toInt.toNat)) from ((fun z9 => by rw [show (p0).toInt.toNat = ((x1_4).toInt - 1).toNat from (by omega)]; exact hq_1_0))) [0, 1, 2, 3, 4] (by decide) rfl (by decide) (by decide) dX4_foot_50
      · skip
        rw [i_lt] at c_2
        refine j_iload (pc := 11) C dX4_foot_11 0 rfl ?_
        refine j_aload_n (pc := 13) C dX4_foot_13 rfl 2 rfl ?_
        refine j_get (pc := 14) (ci := 4) (v := .int q_size) C inw_4 0 rfl rfl 1 (by decide) wd_29 rfl rfl dX4_foot_14 ?_
        refine j_icmp_ge (pc := 17) (tgt := 49) C dX4_foot_17 (by decide) (fun c_3 => ?_) (fun c_3 => ?_)
        · skip
          rw [i_le] at c_3
          refine j_iload_n (pc := 49) C dX4_foot_49 rfl 1 rfl ?_
          exact j_iret (pc := 50) C hr hk (fun i => [].getD i 0, fun i => [x1_3].getD i 0, fun i => [].getD i (fun _ => 0), fun i => [].getD i (fun _ => 0)) rfl (show (IM ((p0).toInt < (q_size).toInt) (x1_3 = ftF (rsC a_wide a_deep a_lids) q_ware (p0).toInt.toNat)) from ((fun z9 => by rw [show (p0).toInt.toNat = ((x1_4).toInt - 1).toNat from (by omega)]; exact hq_1_0))) [0, 1, 2, 3, 4] (by decide) rfl (by decide) (by decide) dX4_foot_50
        · skip
          rw [i_le] at c_3
          refine j_iload_n (pc := 20) C dX4_foot_20 rfl 1 rfl ?_
          refine j_aload_n (pc := 21) C dX4_foot_21 rfl 3 rfl ?_
          refine j_aload_n (pc := 22) C dX4_foot_22 rfl 2 rfl ?_
          refine j_get (pc := 23) (ci := 4) (v := .ref q1) C inw_4 0 rfl rfl 0 (by decide) wd_31 rfl rfl dX4_foot_23 ?_
          refine j_iload (pc := 26) C dX4_foot_26 0 rfl ?_
          obtain ⟨v_4, ev_4⟩ : ∃ z, q_ware (x1_4).toInt.toNat = z := ⟨_, rfl⟩
          have env_4 : (q_ware (x1_4).toInt.toNat).toInt = v_4.toInt := by rw [ev_4]
          have hv_4 := h_q_ware (x1_4).toInt.toNat (i_lt_n (Int.le_trans (by decide) hi_1_0.1) (by omega)); rw [ev_4] at hv_4
          refine j_iald (pc := 28) (v := v_4) (k := (x1_4).toInt.toNat) C 1 1 rfl rfl (i_nn (Int.le_trans (by decide) hi_1_0.1)) rfl (i_lt_n (Int.le_trans (by decide) hi_1_0.1) (by omega)) ev_4 dX4_foot_28 ?_
          refine j_aload_n (pc := 29) C dX4_foot_29 rfl 2 rfl ?_
          refine j_get (pc := 30) (ci := 4) (v := .ref q1) C inw_4 0 rfl rfl 0 (by decide) wd_31 rfl rfl dX4_foot_30 ?_
          refine j_iload (pc := 33) C dX4_foot_33 0 rfl ?_
          refine j_iconst (pc := 35) (v := 1) C dX4_foot_35 (by decide) ?_
          obtain ⟨v_5, ev_5⟩ : ∃ z : Int32, x1_4 - 1 = z := ⟨_, rfl⟩
          have el_1 : (1 : Int32).toInt = 1 := rfl
          have hv_5 : v_5.toInt = x1_4.toInt - (1 : Int32).toInt := by rw [← ev_5]; exact fb_subI (by omega) (by omega)
          refine j_isub (pc := 36) (v := v_5) C dX4_foot_36 ev_5 ?_
          obtain ⟨v_6, ev_6⟩ : ∃ z, q_ware (v_5).toInt.toNat = z := ⟨_, rfl⟩
          have env_6 : (q_ware (v_5).toInt.toNat).toInt = v_6.toInt := by rw [ev_6]
          have hv_6 := h_q_ware (v_5).toInt.toNat (i_lt_n (by omega) (by omega)); rw [ev_6] at hv_6
          refine j_iald (pc := 37) (v := v_6) (k := (v_5).toInt.toNat) C 1 1 rfl rfl (i_nn (by omega)) rfl (i_lt_n (by omega) (by omega)) ev_6 dX4_foot_37 ?_
          refine j_callV (pc := 38) (As := [.int v_4, .int v_6]) (rest := [.int x1_3]) (wr := [(q0, .inr (4, [.ref q1, .int q_size])), (q1, .inl (cyI, 12, .inl q_ware))]) C (c_X9_rise l D cyC cyI cyJ cyZ cyO a0 a1 a2 a3 a4 a5 a6 a7 a8 a9 a10 v_4 v_6 a_wares a_shelves a_nests a_lids a_tops a_wide a_deep h_a_wares h_a_shelves h_a_nests hv_4 hv_6) wd_32 wd_33 wd_34 wd_35 wd_36 ⟨by decide, by decide, rfl⟩ rfl ⟨rfl, rfl, by decide, by decide⟩ ⟨by decide, by decide⟩ [2, 3, 4] [0, 1] rfl rfl ⟨by decide, by decide, by decide⟩ 2 rfl rfl rfl (Nat.le_of_ble_eq_true rfl) dX4_foot_38 (fun u_7 hw_8 => ?_)
          refine j_eq (ws2 := [(q0, .inr (4, [.ref q1, .int q_size])), (q1, .inl (cyI, 12, .inl q_ware)), (a0, .inr (9, [.int a_wares, .int a_shelves, .int a_nests, .ref a1, .ref a2, .ref a3, .ref a4, .ref a5, .ref a6, .int a_lids, .int a_tops, .ref a7, .ref a8, .ref a9, .ref a10])), (a1, .inl (cyI, 12, .inl a_wide)), (a2, .inl (cyI, 12, .inl a_deep))]) (pc2 := 41) (lv2 := [(4, .int x1_4), (3, .int x1_3), (0, .ref q0), (1, .ref a0), (2, .int p0)]) (st2 := [.int (u_7.2.1 0), .int x1_3]) rfl rfl rfl rfl ?_
          have hw_8_0 : (u_7.2.1 0) = (rsC a_wide a_deep a_lids) (v_4).toInt.toNat (v_6).toInt.toNat := hw_8
          obtain ⟨v_9, ev_9⟩ : ∃ z : Int32, x1_3 + (u_7.2.1 0) = z := ⟨_, rfl⟩
          refine j_iadd (pc := 41) (v := v_9) C dX4_foot_41 ev_9 ?_
          refine j_istore_n (pc := 42) (lv' := [(3, .int v_9), (4, .int x1_4), (0, .ref q0), (1, .ref a0), (2, .int p0)]) C dX4_foot_42 rfl (by decide) rfl ?_
          obtain ⟨v_10, ev_10⟩ : ∃ z : Int32, x1_4 + 1 = z := ⟨_, rfl⟩
          have el_1 : (1 : Int32).toInt = 1 := rfl
          have hv_10 : v_10.toInt = x1_4.toInt + (1 : Int32).toInt := by rw [← ev_10]; exact fb_addI (by omega) (by omega)
          refine j_iinc (pc := 43) (v := v_10) (lv' := [(4, .int v_10), (3, .int v_9), (0, .ref q0), (1, .ref a0), (2, .int p0)]) C dX4_foot_43 1 rfl ev_10 (by decide) rfl ?_
          refine j_goto (pc := 46) (tgt := 5) C dX4_foot_46 (by decide) ?_
          exact j_lv [0, 1, 2, 3, 4] rfl (ih_1 v_10 v_9 (by omega) (by omega) (by rw [show (v_10.toInt - 1).toNat = ((x1_4).toInt - 1).toNat + 1 from (by omega), ftF_s, ← hq_1_0, show ((x1_4).toInt - 1).toNat + 1 = (x1_4).toInt.toNat from (by omega), show ((x1_4).toInt - 1).toNat = (v_5).toInt.toNat from (by omega), ev_4, ev_6, ← hw_8_0]; exact ev_9.symm) (by omega))
  have el_1 : (1 : Int32).toInt = 1 := rfl
  have el_0 : (0 : Int32).toInt = 0 := rfl
  exact j_lv [0, 1, 2, 3, 4] rfl (loop_1 4096 1 0 (by decide) (by omega) rfl (by omega))
set_option maxHeartbeats 4000000 in
set_option maxRecDepth 100000 in
theorem c_X4_highestRim (l : Launch) (D : DG) (cyC cyI cyJ cyZ cyO : ClassId) (q0 : Nat) (q1 : Nat) (a0 : Nat) (a1 : Nat) (a2 : Nat) (a3 : Nat) (a4 : Nat) (a5 : Nat) (a6 : Nat) (a7 : Nat) (a8 : Nat) (a9 : Nat) (a10 : Nat) (q_size : Int32) (a_wares : Int32) (a_shelves : Int32) (a_nests : Int32) (a_lids : Int32) (a_tops : Int32) (q_ware : Nat → Int32) (a_wide : Nat → Int32) (a_deep : Nat → Int32) (h_q_size : 0 ≤ (q_size).toInt ∧ (q_size).toInt ≤ 12) (h_a_wares : 0 ≤ (a_wares).toInt ∧ (a_wares).toInt ≤ 12) (h_a_shelves : 0 ≤ (a_shelves).toInt ∧ (a_shelves).toInt ≤ 4) (h_a_nests : 0 ≤ (a_nests).toInt ∧ (a_nests).toInt ≤ 4) (h_q_ware : Iv 12 (0) (11) q_ware) : KK l D (TY cyC cyI cyJ cyZ cyO) yX4_highestRim cX4_highestRim 5 (some .int) ({ frames := 1, cells := 0, slots := 0, locals := 23 } : Room) 0 0 [.ref q0, .ref a0] [(q0, .inr (4, [.ref q1, .int q_size])), (q1, .inl (cyI, 12, .inl q_ware)), (a0, .inr (9, [.int a_wares, .int a_shelves, .int a_nests, .ref a1, .ref a2, .ref a3, .ref a4, .ref a5, .ref a6, .int a_lids, .int a_tops, .ref a7, .ref a8, .ref a9, .ref a10])), (a1, .inl (cyI, 12, .inl a_wide)), (a2, .inl (cyI, 12, .inl a_deep))] (fun u => some (.int (u.2.1 0))) (fun u => ((u.2.1 0) = hiF (rsC a_wide a_deep a_lids) a_deep q_ware (q_size).toInt.toNat)) (fun u => [(q0, .inr (4, [.ref q1, .int q_size])), (q1, .inl (cyI, 12, .inl q_ware)), (a0, .inr (9, [.int a_wares, .int a_shelves, .int a_nests, .ref a1, .ref a2, .ref a3, .ref a4, .ref a5, .ref a6, .int a_lids, .int a_tops, .ref a7, .ref a8, .ref a9, .ref a10])), (a1, .inl (cyI, 12, .inl a_wide)), (a2, .inl (cyI, 12, .inl a_deep))]) := by
  refine KK.of (lv0 := [(0, .ref q0), (1, .ref a0)]) (by decide) rfl (Nat.le_of_ble_eq_true rfl) ?_
  intro p e s m args below meth c A C hr hk hin
  refine j_iconst (pc := 0) (v := 0) C dX4_highestRim_0 (by decide) ?_
  refine j_istore_n (pc := 1) (lv' := [(2, .int 0), (0, .ref q0), (1, .ref a0)]) C dX4_highestRim_1 rfl (by decide) rfl ?_
  refine j_iconst (pc := 2) (v := 0) C dX4_highestRim_2 (by decide) ?_
  refine j_istore_n (pc := 3) (lv' := [(3, .int 0), (2, .int 0), (0, .ref q0), (1, .ref a0)]) C dX4_highestRim_3 rfl (by decide) rfl ?_
  refine j_iconst (pc := 4) (v := 0) C dX4_highestRim_4 (by decide) ?_
  refine j_istore (pc := 5) (lv' := [(4, .int 0), (3, .int 0), (2, .int 0), (0, .ref q0), (1, .ref a0)]) C dX4_highestRim_5 (by decide) rfl ?_
  have loop_1 : ∀ (k_1 : Nat) (x1_4 : Int32) (x1_3 : Int32) (x1_2 : Int32), (0 ≤ (x1_4).toInt ∧ (x1_4).toInt ≤ 12) → (x1_4.toInt ≤ (q_size).toInt) → (x1_3 = ftF (rsC a_wide a_deep a_lids) q_ware (x1_4.toInt - 1).toNat) → (x1_2 = hiF (rsC a_wide a_deep a_lids) a_deep q_ware (x1_4.toInt).toNat) → (12 - x1_4.toInt).toNat < k_1 → J p l e ({ frames := 1, cells := 0, slots := 0, locals := 23 } : Room) s m args below meth c D A 5 0 0 (QX below D (TY cyC cyI cyJ cyZ cyO) A (fun u => some (.int (u.2.1 0))) (fun u => ((u.2.1 0) = hiF (rsC a_wide a_deep a_lids) a_deep q_ware (q_size).toInt.toNat)) (fun u => [(q0, .inr (4, [.ref q1, .int q_size])), (q1, .inl (cyI, 12, .inl q_ware)), (a0, .inr (9, [.int a_wares, .int a_shelves, .int a_nests, .ref a1, .ref a2, .ref a3, .ref a4, .ref a5, .ref a6, .int a_lids, .int a_tops, .ref a7, .ref a8, .ref a9, .ref a10])), (a1, .inl (cyI, 12, .inl a_wide)), (a2, .inl (cyI, 12, .inl a_deep))]) args s 0 0) [(q0, .inr (4, [.ref q1, .int q_size])), (q1, .inl (cyI, 12, .inl q_ware)), (a0, .inr (9, [.int a_wares, .int a_shelves, .int a_nests, .ref a1, .ref a2, .ref a3, .ref a4, .ref a5, .ref a6, .int a_lids, .int a_tops, .ref a7, .ref a8, .ref a9, .ref a10])), (a1, .inl (cyI, 12, .inl a_wide)), (a2, .inl (cyI, 12, .inl a_deep))] 7 [(4, .int x1_4), (3, .int x1_3), (2, .int x1_2), (0, .ref q0), (1, .ref a0)] [] := by
    intro k_1
    induction k_1 with
    | zero =>
      intro x1_4 x1_3 x1_2 hi_1_0 hr_1 hq_1_0 hq_1_1 hm_1
      exact absurd hm_1 (Nat.not_lt_zero _)
    | succ k_1 ih_1 =>
      intro x1_4 x1_3 x1_2 hi_1_0 hr_1 hq_1_0 hq_1_1 hm_1
      refine j_iload (pc := 7) C dX4_highestRim_7 0 rfl ?_
      refine j_aload_n (pc := 9) C dX4_highestRim_9 rfl 3 rfl ?_
      refine j_get (pc := 10) (ci := 4) (v := .int q_size) C inw_4 0 rfl rfl 1 (by decide) wd_29 rfl rfl dX4_highestRim_10 ?_
      refine j_icmp_ge (pc := 13) (tgt := 73) C dX4_highestRim_13 (by decide) (fun c_2 => ?_) (fun c_2 => ?_)
      · skip
        rw [i_le] at c_2
        refine j_iload_n (pc := 73) C dX4_highestRim_73 rfl 2 rfl ?_
        exact j_iret (pc := 74) C hr hk (fun i => [].getD i 0, fun i => [x1_2].getD i 0, fun i => [].getD i (fun _ => 0), fun i => [].getD i (fun _ => 0)) rfl (show (x1_2 = hiF (rsC a_wide a_deep a_lids) a_deep q_ware (q_size).toInt.toNat) from ((by rw [show (q_size).toInt.toNat = (x1_4).toInt.toNat from (by omega)]; exact hq_1_1))) [0, 1, 2, 3, 4] (by decide) rfl (by decide) (by decide) dX4_highestRim_74
      · skip
        rw [i_le] at c_2
        refine j_iload_n (pc := 16) C dX4_highestRim_16 rfl 1 rfl ?_
        refine j_iload (pc := 17) C dX4_highestRim_17 0 rfl ?_
        refine j_if_ne (pc := 19) (tgt := 26) C dX4_highestRim_19 (by decide) (fun c_3 => ?_) (fun c_3 => ?_)
        · skip
          have el_0 : (0 : Int32).toInt = 0 := rfl
          rw [i_eq] at c_3
          refine j_aload_n (pc := 26) C dX4_highestRim_26 rfl 4 rfl ?_
          refine j_aload_n (pc := 27) C dX4_highestRim_27 rfl 3 rfl ?_
          refine j_get (pc := 28) (ci := 4) (v := .ref q1) C inw_4 0 rfl rfl 0 (by decide) wd_31 rfl rfl dX4_highestRim_28 ?_
          refine j_iload (pc := 31) C dX4_highestRim_31 0 rfl ?_
          obtain ⟨v_4, ev_4⟩ : ∃ z, q_ware (x1_4).toInt.toNat = z := ⟨_, rfl⟩
          have env_4 : (q_ware (x1_4).toInt.toNat).toInt = v_4.toInt := by rw [ev_4]
          have hv_4 := h_q_ware (x1_4).toInt.toNat (i_lt_n hi_1_0.1 (by omega)); rw [ev_4] at hv_4
          refine j_iald (pc := 33) (v := v_4) (k := (x1_4).toInt.toNat) C 1 1 rfl rfl (i_nn hi_1_0.1) rfl (i_lt_n hi_1_0.1 (by omega)) ev_4 dX4_highestRim_33 ?_
          refine j_aload_n (pc := 34) C dX4_highestRim_34 rfl 3 rfl ?_
          refine j_get (pc := 35) (ci := 4) (v := .ref q1) C inw_4 0 rfl rfl 0 (by decide) wd_31 rfl rfl dX4_highestRim_35 ?_
          refine j_iload (pc := 38) C dX4_highestRim_38 0 rfl ?_
          refine j_iconst (pc := 40) (v := 1) C dX4_highestRim_40 (by decide) ?_
          obtain ⟨v_5, ev_5⟩ : ∃ z : Int32, x1_4 - 1 = z := ⟨_, rfl⟩
          have el_1 : (1 : Int32).toInt = 1 := rfl
          have hv_5 : v_5.toInt = x1_4.toInt - (1 : Int32).toInt := by rw [← ev_5]; exact fb_subI (by omega) (by omega)
          refine j_isub (pc := 41) (v := v_5) C dX4_highestRim_41 ev_5 ?_
          obtain ⟨v_6, ev_6⟩ : ∃ z, q_ware (v_5).toInt.toNat = z := ⟨_, rfl⟩
          have env_6 : (q_ware (v_5).toInt.toNat).toInt = v_6.toInt := by rw [ev_6]
          have hv_6 := h_q_ware (v_5).toInt.toNat (i_lt_n (by omega) (by omega)); rw [ev_6] at hv_6
          refine j_iald (pc := 42) (v := v_6) (k := (v_5).toInt.toNat) C 1 1 rfl rfl (i_nn (by omega)) rfl (i_lt_n (by omega) (by omega)) ev_6 dX4_highestRim_42 ?_
          refine j_callV (pc := 43) (As := [.int v_4, .int v_6]) (rest := [.int x1_3]) (wr := [(q0, .inr (4, [.ref q1, .int q_size])), (q1, .inl (cyI, 12, .inl q_ware))]) C (c_X9_rise l D cyC cyI cyJ cyZ cyO a0 a1 a2 a3 a4 a5 a6 a7 a8 a9 a10 v_4 v_6 a_wares a_shelves a_nests a_lids a_tops a_wide a_deep h_a_wares h_a_shelves h_a_nests hv_4 hv_6) wd_32 wd_33 wd_34 wd_35 wd_36 ⟨by decide, by decide, rfl⟩ rfl ⟨rfl, rfl, by decide, by decide⟩ ⟨by decide, by decide⟩ [2, 3, 4] [0, 1] rfl rfl ⟨by decide, by decide, by decide⟩ 2 rfl rfl rfl (Nat.le_of_ble_eq_true rfl) dX4_highestRim_43 (fun u_7 hw_8 => ?_)
          refine j_eq (ws2 := [(q0, .inr (4, [.ref q1, .int q_size])), (q1, .inl (cyI, 12, .inl q_ware)), (a0, .inr (9, [.int a_wares, .int a_shelves, .int a_nests, .ref a1, .ref a2, .ref a3, .ref a4, .ref a5, .ref a6, .int a_lids, .int a_tops, .ref a7, .ref a8, .ref a9, .ref a10])), (a1, .inl (cyI, 12, .inl a_wide)), (a2, .inl (cyI, 12, .inl a_deep))]) (pc2 := 46) (lv2 := [(4, .int x1_4), (3, .int x1_3), (2, .int x1_2), (0, .ref q0), (1, .ref a0)]) (st2 := [.int (u_7.2.1 0), .int x1_3]) rfl rfl rfl rfl ?_
          have hw_8_0 : (u_7.2.1 0) = (rsC a_wide a_deep a_lids) (v_4).toInt.toNat (v_6).toInt.toNat := hw_8
          obtain ⟨v_9, ev_9⟩ : ∃ z : Int32, x1_3 + (u_7.2.1 0) = z := ⟨_, rfl⟩
          refine j_iadd (pc := 46) (v := v_9) C dX4_highestRim_46 ev_9 ?_
          refine j_istore_n (pc := 47) (lv' := [(3, .int v_9), (4, .int x1_4), (2, .int x1_2), (0, .ref q0), (1, .ref a0)]) C dX4_highestRim_47 rfl (by decide) rfl ?_
          have hft9 : v_9 = ftF (rsC a_wide a_deep a_lids) q_ware (x1_4).toInt.toNat := by rw [show (x1_4).toInt.toNat = ((x1_4).toInt - 1).toNat + 1 from (by omega), ftF_s, ← hq_1_0, show ((x1_4).toInt - 1).toNat + 1 = (x1_4).toInt.toNat from (by omega), show ((x1_4).toInt - 1).toNat = (v_5).toInt.toNat from (by omega), ev_4, ev_6, ← hw_8_0]; exact ev_9.symm
          refine j_iload_n (pc := 48) C dX4_highestRim_48 rfl 2 rfl ?_
          refine j_iload_n (pc := 49) C dX4_highestRim_49 rfl 0 rfl ?_
          refine j_aload_n (pc := 50) C dX4_highestRim_50 rfl 4 rfl ?_
          refine j_get (pc := 51) (ci := 9) (v := .ref a2) C inw_9 2 rfl rfl 4 (by decide) wd_37 rfl rfl dX4_highestRim_51 ?_
          refine j_aload_n (pc := 54) C dX4_highestRim_54 rfl 3 rfl ?_
          refine j_get (pc := 55) (ci := 4) (v := .ref q1) C inw_4 0 rfl rfl 0 (by decide) wd_31 rfl rfl dX4_highestRim_55 ?_
          refine j_iload (pc := 58) C dX4_highestRim_58 1 rfl ?_
          refine j_iald (pc := 60) (v := v_4) (k := (x1_4).toInt.toNat) C 1 1 rfl rfl (i_nn hi_1_0.1) rfl (i_lt_n hi_1_0.1 (by omega)) ev_4 dX4_highestRim_60 ?_
          obtain ⟨v_10, ev_10⟩ : ∃ z, a_deep (v_4).toInt.toNat = z := ⟨_, rfl⟩
          have env_10 : (a_deep (v_4).toInt.toNat).toInt = v_10.toInt := by rw [ev_10]
          refine j_iald (pc := 61) (v := v_10) (k := (v_4).toInt.toNat) C 4 1 rfl rfl (i_nn hv_4.1) rfl (i_lt_n hv_4.1 (Int.lt_of_le_of_lt hv_4.2 (by decide))) ev_10 dX4_highestRim_61 ?_
          obtain ⟨v_11, ev_11⟩ : ∃ z : Int32, v_9 + v_10 = z := ⟨_, rfl⟩
          refine j_iadd (pc := 62) (v := v_11) C dX4_highestRim_62 ev_11 ?_
          obtain ⟨v_12, ev_12⟩ : ∃ z : Int32, (if (x1_2 : Int32) < v_11 then v_11 else x1_2) = z := ⟨_, rfl⟩
          refine j_mmax (pc := 63) (v := v_12) C wd_38 wd_5 wd_6 wd_7 (by decide) (Nat.le_of_ble_eq_true rfl) (by decide) (by decide) ev_12 dX4_highestRim_63 ?_
          refine j_istore_n (pc := 66) (lv' := [(2, .int v_12), (3, .int v_9), (4, .int x1_4), (0, .ref q0), (1, .ref a0)]) C dX4_highestRim_66 rfl (by decide) rfl ?_
          obtain ⟨v_13, ev_13⟩ : ∃ z : Int32, x1_4 + 1 = z := ⟨_, rfl⟩
          have el_1 : (1 : Int32).toInt = 1 := rfl
          have hv_13 : v_13.toInt = x1_4.toInt + (1 : Int32).toInt := by rw [← ev_13]; exact fb_addI (by omega) (by omega)
          refine j_iinc (pc := 67) (v := v_13) (lv' := [(4, .int v_13), (2, .int v_12), (3, .int v_9), (0, .ref q0), (1, .ref a0)]) C dX4_highestRim_67 2 rfl ev_13 (by decide) rfl ?_
          refine j_goto (pc := 70) (tgt := 7) C dX4_highestRim_70 (by decide) ?_
          exact j_lv [0, 2, 1, 3, 4] rfl (ih_1 v_13 v_9 v_12 (by omega) (by omega) (by rw [show (v_13.toInt - 1).toNat = (x1_4).toInt.toNat from (by omega)]; exact hft9) (by rw [show (v_13.toInt).toNat = (x1_4).toInt.toNat + 1 from (by omega), hiF_s, ← hq_1_1, ← hft9, ev_4, ev_10, ev_11]; exact ev_12.symm) (by omega))
        · skip
          have el_0 : (0 : Int32).toInt = 0 := rfl
          rw [i_eq] at c_3
          refine j_iconst (pc := 22) (v := 0) C dX4_highestRim_22 (by decide) ?_
          refine j_goto (pc := 23) (tgt := 46) C dX4_highestRim_23 (by decide) ?_
          obtain ⟨v_14, ev_14⟩ : ∃ z : Int32, x1_3 + 0 = z := ⟨_, rfl⟩
          have el_0 : (0 : Int32).toInt = 0 := rfl
          refine j_iadd (pc := 46) (v := v_14) C dX4_highestRim_46 ev_14 ?_
          refine j_istore_n (pc := 47) (lv' := [(3, .int v_14), (4, .int x1_4), (2, .int x1_2), (0, .ref q0), (1, .ref a0)]) C dX4_highestRim_47 rfl (by decide) rfl ?_
          have hft9 : v_14 = ftF (rsC a_wide a_deep a_lids) q_ware (x1_4).toInt.toNat := by rw [← ev_14, hq_1_0, show ((x1_4).toInt - 1).toNat = 0 from (by omega), show (x1_4).toInt.toNat = 0 from (by omega)]; rfl
          refine j_iload_n (pc := 48) C dX4_highestRim_48 rfl 2 rfl ?_
          refine j_iload_n (pc := 49) C dX4_highestRim_49 rfl 0 rfl ?_
          refine j_aload_n (pc := 50) C dX4_highestRim_50 rfl 4 rfl ?_
          refine j_get (pc := 51) (ci := 9) (v := .ref a2) C inw_9 2 rfl rfl 4 (by decide) wd_37 rfl rfl dX4_highestRim_51 ?_
          refine j_aload_n (pc := 54) C dX4_highestRim_54 rfl 3 rfl ?_
          refine j_get (pc := 55) (ci := 4) (v := .ref q1) C inw_4 0 rfl rfl 0 (by decide) wd_31 rfl rfl dX4_highestRim_55 ?_
          refine j_iload (pc := 58) C dX4_highestRim_58 1 rfl ?_
          obtain ⟨v_15, ev_15⟩ : ∃ z, q_ware (x1_4).toInt.toNat = z := ⟨_, rfl⟩
          have env_15 : (q_ware (x1_4).toInt.toNat).toInt = v_15.toInt := by rw [ev_15]
          have hv_15 := h_q_ware (x1_4).toInt.toNat (i_lt_n hi_1_0.1 (by omega)); rw [ev_15] at hv_15
          refine j_iald (pc := 60) (v := v_15) (k := (x1_4).toInt.toNat) C 1 1 rfl rfl (i_nn hi_1_0.1) rfl (i_lt_n hi_1_0.1 (by omega)) ev_15 dX4_highestRim_60 ?_
          obtain ⟨v_16, ev_16⟩ : ∃ z, a_deep (v_15).toInt.toNat = z := ⟨_, rfl⟩
          have env_16 : (a_deep (v_15).toInt.toNat).toInt = v_16.toInt := by rw [ev_16]
          refine j_iald (pc := 61) (v := v_16) (k := (v_15).toInt.toNat) C 4 1 rfl rfl (i_nn hv_15.1) rfl (i_lt_n hv_15.1 (Int.lt_of_le_of_lt hv_15.2 (by decide))) ev_16 dX4_highestRim_61 ?_
          obtain ⟨v_17, ev_17⟩ : ∃ z : Int32, v_14 + v_16 = z := ⟨_, rfl⟩
          refine j_iadd (pc := 62) (v := v_17) C dX4_highestRim_62 ev_17 ?_
          obtain ⟨v_18, ev_18⟩ : ∃ z : Int32, (if (x1_2 : Int32) < v_17 then v_17 else x1_2) = z := ⟨_, rfl⟩
          refine j_mmax (pc := 63) (v := v_18) C wd_38 wd_5 wd_6 wd_7 (by decide) (Nat.le_of_ble_eq_true rfl) (by decide) (by decide) ev_18 dX4_highestRim_63 ?_
          refine j_istore_n (pc := 66) (lv' := [(2, .int v_18), (3, .int v_14), (4, .int x1_4), (0, .ref q0), (1, .ref a0)]) C dX4_highestRim_66 rfl (by decide) rfl ?_
          obtain ⟨v_19, ev_19⟩ : ∃ z : Int32, x1_4 + 1 = z := ⟨_, rfl⟩
          have el_1 : (1 : Int32).toInt = 1 := rfl
          have hv_19 : v_19.toInt = x1_4.toInt + (1 : Int32).toInt := by rw [← ev_19]; exact fb_addI (by omega) (by omega)
          refine j_iinc (pc := 67) (v := v_19) (lv' := [(4, .int v_19), (2, .int v_18), (3, .int v_14), (0, .ref q0), (1, .ref a0)]) C dX4_highestRim_67 2 rfl ev_19 (by decide) rfl ?_
          refine j_goto (pc := 70) (tgt := 7) C dX4_highestRim_70 (by decide) ?_
          exact j_lv [0, 2, 1, 3, 4] rfl (ih_1 v_19 v_14 v_18 (by omega) (by omega) (by rw [show (v_19.toInt - 1).toNat = (x1_4).toInt.toNat from (by omega)]; exact hft9) (by rw [show (v_19.toInt).toNat = (x1_4).toInt.toNat + 1 from (by omega), hiF_s, ← hq_1_1, ← hft9, ev_15, ev_16, ev_17]; exact ev_18.symm) (by omega))
  have el_0 : (0 : Int32).toInt = 0 := rfl
  have el_0 : (0 : Int32).toInt = 0 := rfl
  have el_0 : (0 : Int32).toInt = 0 := rfl
  exact j_lv [0, 1, 2, 3, 4] rfl (loop_1 4096 0 0 0 (by decide) (by omega) rfl rfl (by omega))
set_option maxHeartbeats 4000000 in
set_option maxRecDepth 100000 in
theorem c_X4_price (l : Launch) (D : DG) (cyC cyI cyJ cyZ cyO : ClassId) (q0 : Nat) (q1 : Nat) (a0 : Nat) (a3 : Nat) (a1 : Nat) (a2 : Nat) (a4 : Nat) (a5 : Nat) (a6 : Nat) (a7 : Nat) (a8 : Nat) (a9 : Nat) (a10 : Nat) (p0 : Int32) (p1 : Int32) (q_size : Int32) (a_wares : Int32) (a_shelves : Int32) (a_nests : Int32) (a_lids : Int32) (a_tops : Int32) (q_ware : Nat → Int32) (a_weight : Nat → Int32) (h_q_size : 0 ≤ (q_size).toInt ∧ (q_size).toInt ≤ 12) (h_a_wares : 0 ≤ (a_wares).toInt ∧ (a_wares).toInt ≤ 12) (h_a_shelves : 0 ≤ (a_shelves).toInt ∧ (a_shelves).toInt ≤ 4) (h_a_nests : 0 ≤ (a_nests).toInt ∧ (a_nests).toInt ≤ 4) (h_p0 : 0 ≤ (p0).toInt ∧ (p0).toInt ≤ 11) (h_q_ware : Iv 12 (0) (11) q_ware) : KK l D (TY cyC cyI cyJ cyZ cyO) yX4_price cX4_price 5 (some .int) ({ frames := 1, cells := 0, slots := 0, locals := 24 } : Room) 0 0 [.ref q0, .ref a0, .int p0, .int p1] [(q0, .inr (4, [.ref q1, .int q_size])), (q1, .inl (cyI, 12, .inl q_ware)), (a0, .inr (9, [.int a_wares, .int a_shelves, .int a_nests, .ref a1, .ref a2, .ref a3, .ref a4, .ref a5, .ref a6, .int a_lids, .int a_tops, .ref a7, .ref a8, .ref a9, .ref a10])), (a3, .inl (cyI, 12, .inl a_weight))] (fun u => some (.int (u.2.1 0))) (fun u => ((u.2.1 0) = prC a_weight q_ware p0 q_size p1)) (fun u => [(q0, .inr (4, [.ref q1, .int q_size])), (q1, .inl (cyI, 12, .inl q_ware)), (a0, .inr (9, [.int a_wares, .int a_shelves, .int a_nests, .ref a1, .ref a2, .ref a3, .ref a4, .ref a5, .ref a6, .int a_lids, .int a_tops, .ref a7, .ref a8, .ref a9, .ref a10])), (a3, .inl (cyI, 12, .inl a_weight))]) := by
  refine KK.of (lv0 := [(0, .ref q0), (1, .ref a0), (2, .int p0), (3, .int p1)]) (by decide) rfl (Nat.le_of_ble_eq_true rfl) ?_
  intro p e s m args below meth c A C hr hk hin
  refine j_aload_n (pc := 0) C dX4_price_0 rfl 1 rfl ?_
  refine j_get (pc := 1) (ci := 9) (v := .ref a3) C inw_9 2 rfl rfl 5 (by decide) wd_30 rfl rfl dX4_price_1 ?_
  refine j_aload_n (pc := 4) C dX4_price_4 rfl 0 rfl ?_
  refine j_get (pc := 5) (ci := 4) (v := .ref q1) C inw_4 0 rfl rfl 0 (by decide) wd_31 rfl rfl dX4_price_5 ?_
  refine j_iload_n (pc := 8) C dX4_price_8 rfl 2 rfl ?_
  obtain ⟨v_1, ev_1⟩ : ∃ z, q_ware (p0).toInt.toNat = z := ⟨_, rfl⟩
  have env_1 : (q_ware (p0).toInt.toNat).toInt = v_1.toInt := by rw [ev_1]
  have hv_1 := h_q_ware (p0).toInt.toNat (i_lt_n h_p0.1 (Int.lt_of_le_of_lt h_p0.2 (by decide))); rw [ev_1] at hv_1
  refine j_iald (pc := 9) (v := v_1) (k := (p0).toInt.toNat) C 1 1 rfl rfl (i_nn h_p0.1) rfl (i_lt_n h_p0.1 (Int.lt_of_le_of_lt h_p0.2 (by decide))) ev_1 dX4_price_9 ?_
  obtain ⟨v_2, ev_2⟩ : ∃ z, a_weight (v_1).toInt.toNat = z := ⟨_, rfl⟩
  have env_2 : (a_weight (v_1).toInt.toNat).toInt = v_2.toInt := by rw [ev_2]
  refine j_iald (pc := 10) (v := v_2) (k := (v_1).toInt.toNat) C 3 1 rfl rfl (i_nn hv_1.1) rfl (i_lt_n hv_1.1 (Int.lt_of_le_of_lt hv_1.2 (by decide))) ev_2 dX4_price_10 ?_
  refine j_iload_n (pc := 11) C dX4_price_11 rfl 3 rfl ?_
  obtain ⟨v_3, ev_3⟩ : ∃ z : Int32, v_2 + p1 = z := ⟨_, rfl⟩
  refine j_iadd (pc := 12) (v := v_3) C dX4_price_12 ev_3 ?_
  refine j_istore (pc := 13) (lv' := [(4, .int v_3), (0, .ref q0), (1, .ref a0), (2, .int p0), (3, .int p1)]) C dX4_price_13 (by decide) rfl ?_
  refine j_iload (pc := 15) C dX4_price_15 0 rfl ?_
  refine j_iconst (pc := 17) (v := 2) C dX4_price_17 (by decide) ?_
  refine j_aload_n (pc := 18) C dX4_price_18 rfl 1 rfl ?_
  refine j_aload_n (pc := 19) C dX4_price_19 rfl 2 rfl ?_
  refine j_iload_n (pc := 20) C dX4_price_20 rfl 3 rfl ?_
  refine j_iconst (pc := 21) (v := 1) C dX4_price_21 (by decide) ?_
  obtain ⟨v_4, ev_4⟩ : ∃ z : Int32, p0 + 1 = z := ⟨_, rfl⟩
  have el_1 : (1 : Int32).toInt = 1 := rfl
  have hv_4 : v_4.toInt = p0.toInt + (1 : Int32).toInt := by rw [← ev_4]; exact fb_addI (by omega) (by omega)
  refine j_iadd (pc := 22) (v := v_4) C dX4_price_22 ev_4 ?_
  refine j_callV (pc := 23) (As := [.ref a0, .int v_4]) (rest := [.int 2, .int v_3]) (wr := []) C (c_X4_weightFrom l D cyC cyI cyJ cyZ cyO q0 q1 a0 a3 a1 a2 a4 a5 a6 a7 a8 a9 a10 v_4 q_size a_wares a_shelves a_nests a_lids a_tops q_ware a_weight h_q_size h_a_wares h_a_shelves h_a_nests (by omega) h_q_ware) wd_39 wd_40 wd_41 wd_42 wd_43 ⟨by decide, by decide, rfl⟩ rfl ⟨rfl, rfl, by decide, by decide⟩ ⟨by decide, by decide⟩ [0, 1, 2, 3] [] rfl rfl ⟨by decide, by decide, by decide⟩ 0 rfl rfl rfl (Nat.le_of_ble_eq_true rfl) dX4_price_23 (fun u_5 hw_6 => ?_)
  refine j_eq (ws2 := [(q0, .inr (4, [.ref q1, .int q_size])), (q1, .inl (cyI, 12, .inl q_ware)), (a0, .inr (9, [.int a_wares, .int a_shelves, .int a_nests, .ref a1, .ref a2, .ref a3, .ref a4, .ref a5, .ref a6, .int a_lids, .int a_tops, .ref a7, .ref a8, .ref a9, .ref a10])), (a3, .inl (cyI, 12, .inl a_weight))]) (pc2 := 26) (lv2 := [(4, .int v_3), (0, .ref q0), (1, .ref a0), (2, .int p0), (3, .int p1)]) (st2 := [.int (u_5.2.1 0), .int 2, .int v_3]) rfl rfl rfl rfl ?_
  have hw_6_0 : (u_5.2.1 0) = wtF a_weight q_ware (v_4).toInt.toNat (q_size).toInt.toNat := hw_6
  refine j_iload_n (pc := 26) C dX4_price_26 rfl 4 rfl ?_
  refine j_aload_n (pc := 27) C dX4_price_27 rfl 1 rfl ?_
  refine j_get (pc := 28) (ci := 4) (v := .int q_size) C inw_4 0 rfl rfl 1 (by decide) wd_29 rfl rfl dX4_price_28 ?_
  refine j_iconst (pc := 31) (v := 1) C dX4_price_31 (by decide) ?_
  obtain ⟨v_7, ev_7⟩ : ∃ z : Int32, q_size - 1 = z := ⟨_, rfl⟩
  have el_1 : (1 : Int32).toInt = 1 := rfl
  have hv_7 : v_7.toInt = q_size.toInt - (1 : Int32).toInt := by rw [← ev_7]; exact fb_subI (by omega) (by omega)
  refine j_isub (pc := 32) (v := v_7) C dX4_price_32 ev_7 ?_
  refine j_iload_n (pc := 33) C dX4_price_33 rfl 3 rfl ?_
  obtain ⟨v_8, ev_8⟩ : ∃ z : Int32, v_7 - p0 = z := ⟨_, rfl⟩
  have hv_8 : v_8.toInt = v_7.toInt - p0.toInt := by rw [← ev_8]; exact fb_subI (by omega) (by omega)
  refine j_isub (pc := 34) (v := v_8) C dX4_price_34 ev_8 ?_
  obtain ⟨v_9, ev_9⟩ : ∃ z : Int32, p1 * v_8 = z := ⟨_, rfl⟩
  refine j_imul (pc := 35) (v := v_9) C dX4_price_35 ev_9 ?_
  obtain ⟨v_10, ev_10⟩ : ∃ z : Int32, (u_5.2.1 0) + v_9 = z := ⟨_, rfl⟩
  refine j_iadd (pc := 36) (v := v_10) C dX4_price_36 ev_10 ?_
  obtain ⟨v_11, ev_11⟩ : ∃ z : Int32, 2 * v_10 = z := ⟨_, rfl⟩
  have el_2 : (2 : Int32).toInt = 2 := rfl
  refine j_imul (pc := 37) (v := v_11) C dX4_price_37 ev_11 ?_
  obtain ⟨v_12, ev_12⟩ : ∃ z : Int32, v_3 + v_11 = z := ⟨_, rfl⟩
  refine j_iadd (pc := 38) (v := v_12) C dX4_price_38 ev_12 ?_
  exact j_iret (pc := 39) C hr hk (fun i => [].getD i 0, fun i => [v_12].getD i 0, fun i => [].getD i (fun _ => 0), fun i => [].getD i (fun _ => 0)) rfl (show (v_12 = prC a_weight q_ware p0 q_size p1) from ((by have y9 := hw_6_0; rw [show (v_4).toInt.toNat = (p0).toInt.toNat + 1 from (by omega)] at y9; unfold prC; rw [← ev_12, ← ev_11, ← ev_10, ← ev_9, ← ev_8, ← ev_7, ← ev_3, ← ev_2, ← ev_1, y9]))) [0, 1, 2, 3] (by decide) rfl (by decide) (by decide) dX4_price_39
set_option maxHeartbeats 4000000 in
set_option maxRecDepth 100000 in
theorem c_X4_refusal (l : Launch) (D : DG) (cyC cyI cyJ cyZ cyO : ClassId) (q0 : Nat) (q1 : Nat) (a0 : Nat) (a1 : Nat) (a2 : Nat) (a3 : Nat) (a4 : Nat) (a7 : Nat) (a5 : Nat) (a6 : Nat) (a8 : Nat) (a9 : Nat) (a10 : Nat) (p0 : Int32) (q_size : Int32) (a_wares : Int32) (a_shelves : Int32) (a_nests : Int32) (a_lids : Int32) (a_tops : Int32) (q_ware : Nat → Int32) (a_wide : Nat → Int32) (a_deep : Nat → Int32) (a_weight : Nat → Int32) (a_bears : Nat → Int32) (a_mayOn : Nat → Int32) (h_q_size : 0 ≤ (q_size).toInt ∧ (q_size).toInt ≤ 12) (h_a_wares : 0 ≤ (a_wares).toInt ∧ (a_wares).toInt ≤ 12) (h_a_shelves : 0 ≤ (a_shelves).toInt ∧ (a_shelves).toInt ≤ 4) (h_a_nests : 0 ≤ (a_nests).toInt ∧ (a_nests).toInt ≤ 4) (h_q_ware : Iv 12 (0) (11) q_ware) : KK l D (TY cyC cyI cyJ cyZ cyO) yX4_refusal cX4_refusal 4 (some .int) ({ frames := 2, cells := 0, slots := 0, locals := 47 } : Room) 0 0 [.ref q0, .ref a0, .int p0] [(q0, .inr (4, [.ref q1, .int q_size])), (q1, .inl (cyI, 12, .inl q_ware)), (a0, .inr (9, [.int a_wares, .int a_shelves, .int a_nests, .ref a1, .ref a2, .ref a3, .ref a4, .ref a5, .ref a6, .int a_lids, .int a_tops, .ref a7, .ref a8, .ref a9, .ref a10])), (a1, .inl (cyI, 12, .inl a_wide)), (a2, .inl (cyI, 12, .inl a_deep)), (a3, .inl (cyI, 12, .inl a_weight)), (a4, .inl (cyI, 12, .inl a_bears)), (a7, .inl (cyI, 12, .inl a_mayOn))] (fun u => some (.int (u.2.1 0))) (fun u => (0 ≤ (u.2.1 0).toInt ∧ (u.2.1 0).toInt ≤ 6) ∧ (RFZ (fun u l => BT (a_mayOn l) u) a_weight a_bears a_deep (rsC a_wide a_deep a_lids) q_ware (q_size).toInt.toNat p0 ((u.2.1 0)).toInt)) (fun u => [(q0, .inr (4, [.ref q1, .int q_size])), (q1, .inl (cyI, 12, .inl q_ware)), (a0, .inr (9, [.int a_wares, .int a_shelves, .int a_nests, .ref a1, .ref a2, .ref a3, .ref a4, .ref a5, .ref a6, .int a_lids, .int a_tops, .ref a7, .ref a8, .ref a9, .ref a10])), (a1, .inl (cyI, 12, .inl a_wide)), (a2, .inl (cyI, 12, .inl a_deep)), (a3, .inl (cyI, 12, .inl a_weight)), (a4, .inl (cyI, 12, .inl a_bears)), (a7, .inl (cyI, 12, .inl a_mayOn))]) := by
  refine KK.of (lv0 := [(0, .ref q0), (1, .ref a0), (2, .int p0)]) (by decide) rfl (Nat.le_of_ble_eq_true rfl) ?_
  intro p e s m args below meth c A C hr hk hin
  refine j_iconst (pc := 0) (v := 1) C dX4_refusal_0 (by decide) ?_
  refine j_istore_n (pc := 1) (lv' := [(3, .int 1), (0, .ref q0), (1, .ref a0), (2, .int p0)]) C dX4_refusal_1 rfl (by decide) rfl ?_
  have loop_1 : ∀ (k_1 : Nat) (x1_3 : Int32), (1 ≤ (x1_3).toInt ∧ (x1_3).toInt ≤ 12) → (∀ i : Nat, 1 ≤ i → (i : Int) < x1_3.toInt → (fun u l => BT (a_mayOn l) u) (q_ware i).toInt.toNat (q_ware (i - 1)).toInt.toNat = true) → (12 - x1_3.toInt).toNat < k_1 → J p l e ({ frames := 2, cells := 0, slots := 0, locals := 47 } : Room) s m args below meth c D A 4 0 0 (QX below D (TY cyC cyI cyJ cyZ cyO) A (fun u => some (.int (u.2.1 0))) (fun u => (0 ≤ (u.2.1 0).toInt ∧ (u.2.1 0).toInt ≤ 6) ∧ (RFZ (fun u l => BT (a_mayOn l) u) a_weight a_bears a_deep (rsC a_wide a_deep a_lids) q_ware (q_size).toInt.toNat p0 ((u.2.1 0)).toInt)) (fun u => [(q0, .inr (4, [.ref q1, .int q_size])), (q1, .inl (cyI, 12, .inl q_ware)), (a0, .inr (9, [.int a_wares, .int a_shelves, .int a_nests, .ref a1, .ref a2, .ref a3, .ref a4, .ref a5, .ref a6, .int a_lids, .int a_tops, .ref a7, .ref a8, .ref a9, .ref a10])), (a1, .inl (cyI, 12, .inl a_wide)), (a2, .inl (cyI, 12, .inl a_deep)), (a3, .inl (cyI, 12, .inl a_weight)), (a4, .inl (cyI, 12, .inl a_bears)), (a7, .inl (cyI, 12, .inl a_mayOn))]) args s 0 0) [(q0, .inr (4, [.ref q1, .int q_size])), (q1, .inl (cyI, 12, .inl q_ware)), (a0, .inr (9, [.int a_wares, .int a_shelves, .int a_nests, .ref a1, .ref a2, .ref a3, .ref a4, .ref a5, .ref a6, .int a_lids, .int a_tops, .ref a7, .ref a8, .ref a9, .ref a10])), (a1, .inl (cyI, 12, .inl a_wide)), (a2, .inl (cyI, 12, .inl a_deep)), (a3, .inl (cyI, 12, .inl a_weight)), (a4, .inl (cyI, 12, .inl a_bears)), (a7, .inl (cyI, 12, .inl a_mayOn))] 2 [(3, .int x1_3), (0, .ref q0), (1, .ref a0), (2, .int p0)] [] := by
    intro k_1
    induction k_1 with
    | zero =>
      intro x1_3 hi_1_0 hq_1_0 hm_1
      exact absurd hm_1 (Nat.not_lt_zero _)
    | succ k_1 ih_1 =>
      intro x1_3 hi_1_0 hq_1_0 hm_1
      refine j_iload_n (pc := 2) C dX4_refusal_2 rfl 0 rfl ?_
      refine j_aload_n (pc := 3) C dX4_refusal_3 rfl 1 rfl ?_
      refine j_get (pc := 4) (ci := 4) (v := .int q_size) C inw_4 0 rfl rfl 1 (by decide) wd_29 rfl rfl dX4_refusal_4 ?_
      refine j_icmp_ge (pc := 7) (tgt := 43) C dX4_refusal_7 (by decide) (fun c_2 => ?_) (fun c_2 => ?_)
      · skip
        rw [i_le] at c_2
        have hM9 : myF (fun u l => BT (a_mayOn l) u) q_ware (q_size).toInt.toNat := fun i h1 h2 => hq_1_0 i h1 (by omega)
        refine j_iconst (pc := 43) (v := 0) C dX4_refusal_43 (by decide) ?_
        refine j_istore_n (pc := 44) (lv' := [(3, .int 0), (0, .ref q0), (1, .ref a0), (2, .int p0)]) C dX4_refusal_44 rfl (by decide) rfl ?_
        have loop_3 : ∀ (k_3 : Nat) (x3_3 : Int32), (0 ≤ (x3_3).toInt ∧ (x3_3).toInt ≤ 12) → (∀ i : Nat, (i : Int) < x3_3.toInt → ¬ a_bears (q_ware i).toInt.toNat < wtF a_weight q_ware (i + 1) (q_size).toInt.toNat) → (12 - x3_3.toInt).toNat < k_3 → J p l e ({ frames := 2, cells := 0, slots := 0, locals := 47 } : Room) s m args below meth c D A 4 0 0 (QX below D (TY cyC cyI cyJ cyZ cyO) A (fun u => some (.int (u.2.1 0))) (fun u => (0 ≤ (u.2.1 0).toInt ∧ (u.2.1 0).toInt ≤ 6) ∧ (RFZ (fun u l => BT (a_mayOn l) u) a_weight a_bears a_deep (rsC a_wide a_deep a_lids) q_ware (q_size).toInt.toNat p0 ((u.2.1 0)).toInt)) (fun u => [(q0, .inr (4, [.ref q1, .int q_size])), (q1, .inl (cyI, 12, .inl q_ware)), (a0, .inr (9, [.int a_wares, .int a_shelves, .int a_nests, .ref a1, .ref a2, .ref a3, .ref a4, .ref a5, .ref a6, .int a_lids, .int a_tops, .ref a7, .ref a8, .ref a9, .ref a10])), (a1, .inl (cyI, 12, .inl a_wide)), (a2, .inl (cyI, 12, .inl a_deep)), (a3, .inl (cyI, 12, .inl a_weight)), (a4, .inl (cyI, 12, .inl a_bears)), (a7, .inl (cyI, 12, .inl a_mayOn))]) args s 0 0) [(q0, .inr (4, [.ref q1, .int q_size])), (q1, .inl (cyI, 12, .inl q_ware)), (a0, .inr (9, [.int a_wares, .int a_shelves, .int a_nests, .ref a1, .ref a2, .ref a3, .ref a4, .ref a5, .ref a6, .int a_lids, .int a_tops, .ref a7, .ref a8, .ref a9, .ref a10])), (a1, .inl (cyI, 12, .inl a_wide)), (a2, .inl (cyI, 12, .inl a_deep)), (a3, .inl (cyI, 12, .inl a_weight)), (a4, .inl (cyI, 12, .inl a_bears)), (a7, .inl (cyI, 12, .inl a_mayOn))] 45 [(3, .int x3_3), (0, .ref q0), (1, .ref a0), (2, .int p0)] [] := by
          intro k_3
          induction k_3 with
          | zero =>
            intro x3_3 hi_3_0 hq_3_0 hm_3
            exact absurd hm_3 (Nat.not_lt_zero _)
          | succ k_3 ih_3 =>
            intro x3_3 hi_3_0 hq_3_0 hm_3
            refine j_iload_n (pc := 45) C dX4_refusal_45 rfl 0 rfl ?_
            refine j_aload_n (pc := 46) C dX4_refusal_46 rfl 1 rfl ?_
            refine j_get (pc := 47) (ci := 4) (v := .int q_size) C inw_4 0 rfl rfl 1 (by decide) wd_29 rfl rfl dX4_refusal_47 ?_
            refine j_icmp_ge (pc := 50) (tgt := 83) C dX4_refusal_50 (by decide) (fun c_4 => ?_) (fun c_4 => ?_)
            · skip
              rw [i_le] at c_4
              have hB9 : brF a_weight a_bears q_ware (q_size).toInt.toNat := fun i h2 => hq_3_0 i (by omega)
              refine j_aload_n (pc := 83) C dX4_refusal_83 rfl 1 rfl ?_
              refine j_aload_n (pc := 84) C dX4_refusal_84 rfl 2 rfl ?_
              refine j_callV (pc := 85) (As := [.ref a0]) (rest := []) (wr := [(a3, .inl (cyI, 12, .inl a_weight)), (a4, .inl (cyI, 12, .inl a_bears)), (a7, .inl (cyI, 12, .inl a_mayOn))]) C (c_X4_highestRim l D cyC cyI cyJ cyZ cyO q0 q1 a0 a1 a2 a3 a4 a5 a6 a7 a8 a9 a10 q_size a_wares a_shelves a_nests a_lids a_tops q_ware a_wide a_deep h_q_size h_a_wares h_a_shelves h_a_nests h_q_ware) wd_44 wd_40 wd_45 wd_46 wd_47 ⟨by decide, by decide, rfl⟩ rfl ⟨rfl, rfl, by decide, by decide⟩ ⟨by decide, by decide⟩ [0, 1, 2, 3, 4] [5, 6, 7] rfl rfl ⟨by decide, by decide, by decide⟩ 0 rfl rfl rfl (Nat.le_of_ble_eq_true rfl) dX4_refusal_85 (fun u_5 hw_6 => ?_)
              refine j_eq (ws2 := [(a3, .inl (cyI, 12, .inl a_weight)), (a4, .inl (cyI, 12, .inl a_bears)), (a7, .inl (cyI, 12, .inl a_mayOn)), (q0, .inr (4, [.ref q1, .int q_size])), (q1, .inl (cyI, 12, .inl q_ware)), (a0, .inr (9, [.int a_wares, .int a_shelves, .int a_nests, .ref a1, .ref a2, .ref a3, .ref a4, .ref a5, .ref a6, .int a_lids, .int a_tops, .ref a7, .ref a8, .ref a9, .ref a10])), (a1, .inl (cyI, 12, .inl a_wide)), (a2, .inl (cyI, 12, .inl a_deep))]) (pc2 := 88) (lv2 := [(3, .int x3_3), (0, .ref q0), (1, .ref a0), (2, .int p0)]) (st2 := [.int (u_5.2.1 0)]) rfl rfl rfl rfl ?_
              have hw_6_0 : (u_5.2.1 0) = hiF (rsC a_wide a_deep a_lids) a_deep q_ware (q_size).toInt.toNat := hw_6
              refine j_iload_n (pc := 88) C dX4_refusal_88 rfl 3 rfl ?_
              refine j_icmp_le (pc := 89) (tgt := 97) C dX4_refusal_89 (by decide) (fun c_7 => ?_) (fun c_7 => ?_)
              · skip
                rw [i_le] at c_7
                refine j_iconst (pc := 97) (v := 0) C dX4_refusal_97 (by decide) ?_
                have el_0 : (0 : Int32).toInt = 0 := rfl
                have el_0 : (0 : Int32).toInt = 0 := rfl
                have el_6 : (6 : Int32).toInt = 6 := rfl
                have el_0 : (0 : Int32).toInt = 0 := rfl
                exact j_iret (pc := 98) C hr hk (fun i => [].getD i 0, fun i => [0].getD i 0, fun i => [].getD i (fun _ => 0), fun i => [].getD i (fun _ => 0)) rfl (show (0 ≤ ((0 : Int32)).toInt ∧ ((0 : Int32)).toInt ≤ 6) ∧ (RFZ (fun u l => BT (a_mayOn l) u) a_weight a_bears a_deep (rsC a_wide a_deep a_lids) q_ware (q_size).toInt.toNat p0 ((0 : Int32)).toInt) from ⟨by omega, (Or.inr ⟨hM9, Or.inr ⟨hB9, Or.inr ⟨rfl, by rw [← hw_6_0, i_lt]; omega⟩⟩⟩)⟩) [3, 4, 5, 6, 7, 0, 1, 2] (by decide) rfl (by decide) (by decide) dX4_refusal_98
              · skip
                rw [i_le] at c_7
                refine j_bipush (pc := 92) (v := 6) C dX4_refusal_92 (by decide) ?_
                refine j_goto (pc := 94) (tgt := 98) C dX4_refusal_94 (by decide) ?_
                have el_6 : (6 : Int32).toInt = 6 := rfl
                have el_6 : (6 : Int32).toInt = 6 := rfl
                have el_6 : (6 : Int32).toInt = 6 := rfl
                have el_0 : (0 : Int32).toInt = 0 := rfl
                exact j_iret (pc := 98) C hr hk (fun i => [].getD i 0, fun i => [6].getD i 0, fun i => [].getD i (fun _ => 0), fun i => [].getD i (fun _ => 0)) rfl (show (0 ≤ ((6 : Int32)).toInt ∧ ((6 : Int32)).toInt ≤ 6) ∧ (RFZ (fun u l => BT (a_mayOn l) u) a_weight a_bears a_deep (rsC a_wide a_deep a_lids) q_ware (q_size).toInt.toNat p0 ((6 : Int32)).toInt) from ⟨by omega, (Or.inr ⟨hM9, Or.inr ⟨hB9, Or.inl ⟨rfl, by rw [← hw_6_0, i_lt]; omega⟩⟩⟩)⟩) [3, 4, 5, 6, 7, 0, 1, 2] (by decide) rfl (by decide) (by decide) dX4_refusal_98
            · skip
              rw [i_le] at c_4
              refine j_aload_n (pc := 53) C dX4_refusal_53 rfl 1 rfl ?_
              refine j_aload_n (pc := 54) C dX4_refusal_54 rfl 2 rfl ?_
              refine j_iload_n (pc := 55) C dX4_refusal_55 rfl 0 rfl ?_
              refine j_iconst (pc := 56) (v := 1) C dX4_refusal_56 (by decide) ?_
              obtain ⟨v_8, ev_8⟩ : ∃ z : Int32, x3_3 + 1 = z := ⟨_, rfl⟩
              have el_1 : (1 : Int32).toInt = 1 := rfl
              have hv_8 : v_8.toInt = x3_3.toInt + (1 : Int32).toInt := by rw [← ev_8]; exact fb_addI (by omega) (by omega)
              refine j_iadd (pc := 57) (v := v_8) C dX4_refusal_57 ev_8 ?_
              refine j_callV (pc := 58) (As := [.ref a0, .int v_8]) (rest := []) (wr := [(a1, .inl (cyI, 12, .inl a_wide)), (a2, .inl (cyI, 12, .inl a_deep)), (a4, .inl (cyI, 12, .inl a_bears)), (a7, .inl (cyI, 12, .inl a_mayOn))]) C (c_X4_weightFrom l D cyC cyI cyJ cyZ cyO q0 q1 a0 a3 a1 a2 a4 a5 a6 a7 a8 a9 a10 v_8 q_size a_wares a_shelves a_nests a_lids a_tops q_ware a_weight h_q_size h_a_wares h_a_shelves h_a_nests (by omega) h_q_ware) wd_39 wd_40 wd_41 wd_42 wd_43 ⟨by decide, by decide, rfl⟩ rfl ⟨rfl, rfl, by decide, by decide⟩ ⟨by decide, by decide⟩ [0, 1, 2, 5] [3, 4, 6, 7] rfl rfl ⟨by decide, by decide, by decide⟩ 0 rfl rfl rfl (Nat.le_of_ble_eq_true rfl) dX4_refusal_58 (fun u_9 hw_10 => ?_)
              refine j_eq (ws2 := [(a1, .inl (cyI, 12, .inl a_wide)), (a2, .inl (cyI, 12, .inl a_deep)), (a4, .inl (cyI, 12, .inl a_bears)), (a7, .inl (cyI, 12, .inl a_mayOn)), (q0, .inr (4, [.ref q1, .int q_size])), (q1, .inl (cyI, 12, .inl q_ware)), (a0, .inr (9, [.int a_wares, .int a_shelves, .int a_nests, .ref a1, .ref a2, .ref a3, .ref a4, .ref a5, .ref a6, .int a_lids, .int a_tops, .ref a7, .ref a8, .ref a9, .ref a10])), (a3, .inl (cyI, 12, .inl a_weight))]) (pc2 := 61) (lv2 := [(3, .int x3_3), (0, .ref q0), (1, .ref a0), (2, .int p0)]) (st2 := [.int (u_9.2.1 0)]) rfl rfl rfl rfl ?_
              have hw_10_0 : (u_9.2.1 0) = wtF a_weight q_ware (v_8).toInt.toNat (q_size).toInt.toNat := hw_10
              refine j_aload_n (pc := 61) C dX4_refusal_61 rfl 2 rfl ?_
              refine j_get (pc := 62) (ci := 9) (v := .ref a4) C inw_9 6 rfl rfl 6 (by decide) wd_48 rfl rfl dX4_refusal_62 ?_
              refine j_aload_n (pc := 65) C dX4_refusal_65 rfl 1 rfl ?_
              refine j_get (pc := 66) (ci := 4) (v := .ref q1) C inw_4 4 rfl rfl 0 (by decide) wd_31 rfl rfl dX4_refusal_66 ?_
              refine j_iload_n (pc := 69) C dX4_refusal_69 rfl 0 rfl ?_
              obtain ⟨v_11, ev_11⟩ : ∃ z, q_ware (x3_3).toInt.toNat = z := ⟨_, rfl⟩
              have env_11 : (q_ware (x3_3).toInt.toNat).toInt = v_11.toInt := by rw [ev_11]
              have hv_11 := h_q_ware (x3_3).toInt.toNat (i_lt_n hi_3_0.1 (by omega)); rw [ev_11] at hv_11
              refine j_iald (pc := 70) (v := v_11) (k := (x3_3).toInt.toNat) C 5 1 rfl rfl (i_nn hi_3_0.1) rfl (i_lt_n hi_3_0.1 (by omega)) ev_11 dX4_refusal_70 ?_
              obtain ⟨v_12, ev_12⟩ : ∃ z, a_bears (v_11).toInt.toNat = z := ⟨_, rfl⟩
              have env_12 : (a_bears (v_11).toInt.toNat).toInt = v_12.toInt := by rw [ev_12]
              refine j_iald (pc := 71) (v := v_12) (k := (v_11).toInt.toNat) C 2 1 rfl rfl (i_nn hv_11.1) rfl (i_lt_n hv_11.1 (Int.lt_of_le_of_lt hv_11.2 (by decide))) ev_12 dX4_refusal_71 ?_
              refine j_icmp_le (pc := 72) (tgt := 77) C dX4_refusal_72 (by decide) (fun c_13 => ?_) (fun c_13 => ?_)
              · skip
                rw [i_le] at c_13
                obtain ⟨v_14, ev_14⟩ : ∃ z : Int32, x3_3 + 1 = z := ⟨_, rfl⟩
                have el_1 : (1 : Int32).toInt = 1 := rfl
                have hv_14 : v_14.toInt = x3_3.toInt + (1 : Int32).toInt := by rw [← ev_14]; exact fb_addI (by omega) (by omega)
                refine j_iinc (pc := 77) (v := v_14) (lv' := [(3, .int v_14), (0, .ref q0), (1, .ref a0), (2, .int p0)]) C dX4_refusal_77 0 rfl ev_14 (by decide) rfl ?_
                refine j_goto (pc := 80) (tgt := 45) C dX4_refusal_80 (by decide) ?_
                refine j_subG (ws' := [(q0, .inr (4, [.ref q1, .int q_size])), (q1, .inl (cyI, 12, .inl q_ware)), (a0, .inr (9, [.int a_wares, .int a_shelves, .int a_nests, .ref a1, .ref a2, .ref a3, .ref a4, .ref a5, .ref a6, .int a_lids, .int a_tops, .ref a7, .ref a8, .ref a9, .ref a10])), (a1, .inl (cyI, 12, .inl a_wide)), (a2, .inl (cyI, 12, .inl a_deep)), (a3, .inl (cyI, 12, .inl a_weight)), (a4, .inl (cyI, 12, .inl a_bears)), (a7, .inl (cyI, 12, .inl a_mayOn))]) [4, 5, 6, 0, 1, 7, 2, 3] (by decide) rfl ?_
                exact j_lv [0, 1, 2, 3] rfl (ih_3 v_14 (by omega) (fun i h2 => by rcases Int.lt_or_le (i : Int) (x3_3).toInt with q | q; (exact hq_3_0 i q); (rw [show i = (x3_3).toInt.toNat from (by omega), ev_11, ev_12, i_lt]; have y9 := congrArg Int32.toInt hw_10_0; rw [show (v_8).toInt.toNat = (x3_3).toInt.toNat + 1 from (by omega)] at y9; omega)) (by omega))
              · skip
                rw [i_le] at c_13
                refine j_iconst (pc := 75) (v := 5) C dX4_refusal_75 (by decide) ?_
                have el_5 : (5 : Int32).toInt = 5 := rfl
                have el_5 : (5 : Int32).toInt = 5 := rfl
                exact j_iret (pc := 76) C hr hk (fun i => [].getD i 0, fun i => [5].getD i 0, fun i => [].getD i (fun _ => 0), fun i => [].getD i (fun _ => 0)) rfl (show (0 ≤ ((5 : Int32)).toInt ∧ ((5 : Int32)).toInt ≤ 6) ∧ (RFZ (fun u l => BT (a_mayOn l) u) a_weight a_bears a_deep (rsC a_wide a_deep a_lids) q_ware (q_size).toInt.toNat p0 ((5 : Int32)).toInt) from ⟨by omega, (Or.inr ⟨hM9, Or.inl ⟨rfl, fun z => by have z9 := z (x3_3).toInt.toNat (by omega); rw [ev_11, ev_12, i_lt] at z9; have y9 := congrArg Int32.toInt hw_10_0; rw [show (v_8).toInt.toNat = (x3_3).toInt.toNat + 1 from (by omega)] at y9; omega⟩⟩)⟩) [4, 5, 6, 0, 1, 7, 2, 3] (by decide) rfl (by decide) (by decide) dX4_refusal_76
        have el_0 : (0 : Int32).toInt = 0 := rfl
        exact j_lv [0, 1, 2, 3] rfl (loop_3 4096 0 (by decide) (fun i h2 => absurd h2 (by omega)) (by omega))
      · skip
        rw [i_le] at c_2
        refine j_aload_n (pc := 10) C dX4_refusal_10 rfl 2 rfl ?_
        refine j_get (pc := 11) (ci := 9) (v := .ref a7) C inw_9 2 rfl rfl 11 (by decide) wd_49 rfl rfl dX4_refusal_11 ?_
        refine j_aload_n (pc := 14) C dX4_refusal_14 rfl 1 rfl ?_
        refine j_get (pc := 15) (ci := 4) (v := .ref q1) C inw_4 0 rfl rfl 0 (by decide) wd_31 rfl rfl dX4_refusal_15 ?_
        refine j_iload_n (pc := 18) C dX4_refusal_18 rfl 0 rfl ?_
        refine j_iconst (pc := 19) (v := 1) C dX4_refusal_19 (by decide) ?_
        obtain ⟨v_15, ev_15⟩ : ∃ z : Int32, x1_3 - 1 = z := ⟨_, rfl⟩
        have el_1 : (1 : Int32).toInt = 1 := rfl
        have hv_15 : v_15.toInt = x1_3.toInt - (1 : Int32).toInt := by rw [← ev_15]; exact fb_subI (by omega) (by omega)
        refine j_isub (pc := 20) (v := v_15) C dX4_refusal_20 ev_15 ?_
        obtain ⟨v_16, ev_16⟩ : ∃ z, q_ware (v_15).toInt.toNat = z := ⟨_, rfl⟩
        have env_16 : (q_ware (v_15).toInt.toNat).toInt = v_16.toInt := by rw [ev_16]
        have hv_16 := h_q_ware (v_15).toInt.toNat (i_lt_n (by omega) (by omega)); rw [ev_16] at hv_16
        refine j_iald (pc := 21) (v := v_16) (k := (v_15).toInt.toNat) C 1 1 rfl rfl (i_nn (by omega)) rfl (i_lt_n (by omega) (by omega)) ev_16 dX4_refusal_21 ?_
        obtain ⟨v_17, ev_17⟩ : ∃ z, a_mayOn (v_16).toInt.toNat = z := ⟨_, rfl⟩
        have env_17 : (a_mayOn (v_16).toInt.toNat).toInt = v_17.toInt := by rw [ev_17]
        refine j_iald (pc := 22) (v := v_17) (k := (v_16).toInt.toNat) C 7 1 rfl rfl (i_nn hv_16.1) rfl (i_lt_n hv_16.1 (Int.lt_of_le_of_lt hv_16.2 (by decide))) ev_17 dX4_refusal_22 ?_
        refine j_aload_n (pc := 23) C dX4_refusal_23 rfl 1 rfl ?_
        refine j_get (pc := 24) (ci := 4) (v := .ref q1) C inw_4 0 rfl rfl 0 (by decide) wd_31 rfl rfl dX4_refusal_24 ?_
        refine j_iload_n (pc := 27) C dX4_refusal_27 rfl 0 rfl ?_
        obtain ⟨v_18, ev_18⟩ : ∃ z, q_ware (x1_3).toInt.toNat = z := ⟨_, rfl⟩
        have env_18 : (q_ware (x1_3).toInt.toNat).toInt = v_18.toInt := by rw [ev_18]
        have hv_18 := h_q_ware (x1_3).toInt.toNat (i_lt_n (Int.le_trans (by decide) hi_1_0.1) (by omega)); rw [ev_18] at hv_18
        refine j_iald (pc := 28) (v := v_18) (k := (x1_3).toInt.toNat) C 1 1 rfl rfl (i_nn (Int.le_trans (by decide) hi_1_0.1)) rfl (i_lt_n (Int.le_trans (by decide) hi_1_0.1) (by omega)) ev_18 dX4_refusal_28 ?_
        obtain ⟨v_19, ev_19⟩ : ∃ z : Int32, ((v_17 : Int32).toUInt32 >>> ((v_18 : Int32).toUInt32 &&& Int32.toUInt32 31)).toInt32 = z := ⟨_, rfl⟩
        refine j_iushr (pc := 29) (v := v_19) C dX4_refusal_29 ev_19 ?_
        refine j_iconst (pc := 30) (v := 1) C dX4_refusal_30 (by decide) ?_
        obtain ⟨v_20, ev_20⟩ : ∃ z : Int32, v_19 &&& 1 = z := ⟨_, rfl⟩
        have el_1 : (1 : Int32).toInt = 1 := rfl
        have hv_20 : 0 ≤ v_20.toInt ∧ v_20.toInt ≤ 1 := by rw [← ev_20]; exact and1_r _
        refine j_iand (pc := 31) (v := v_20) C dX4_refusal_31 ev_20 ?_
        have hb9 : v_20.toInt = if BT (a_mayOn (q_ware ((x1_3).toInt.toNat - 1)).toInt.toNat) (q_ware (x1_3).toInt.toNat).toInt.toNat = true then 1 else 0 := by rw [show (x1_3).toInt.toNat - 1 = (v_15).toInt.toNat from (by omega), ev_16, ev_17, ev_18, ← ev_20, ← ev_19]; exact bt_rd (by omega) (by omega)
        refine j_if_ne (pc := 32) (tgt := 37) C dX4_refusal_32 (by decide) (fun c_21 => ?_) (fun c_21 => ?_)
        · skip
          have el_0 : (0 : Int32).toInt = 0 := rfl
          rw [i_eq] at c_21
          have k0c_21 : v_20.toInt = 1 := by omega
          obtain ⟨v_22, ev_22⟩ : ∃ z : Int32, x1_3 + 1 = z := ⟨_, rfl⟩
          have el_1 : (1 : Int32).toInt = 1 := rfl
          have hv_22 : v_22.toInt = x1_3.toInt + (1 : Int32).toInt := by rw [← ev_22]; exact fb_addI (by omega) (by omega)
          refine j_iinc (pc := 37) (v := v_22) (lv' := [(3, .int v_22), (0, .ref q0), (1, .ref a0), (2, .int p0)]) C dX4_refusal_37 0 rfl ev_22 (by decide) rfl ?_
          refine j_goto (pc := 40) (tgt := 2) C dX4_refusal_40 (by decide) ?_
          exact j_lv [0, 1, 2, 3] rfl (ih_1 v_22 (by omega) (fun i h1 h2 => by rcases Int.lt_or_le (i : Int) (x1_3).toInt with q | q; (exact hq_1_0 i h1 q); (rw [show i = (x1_3).toInt.toNat from (by omega)]; show BT (a_mayOn (q_ware ((x1_3).toInt.toNat - 1)).toInt.toNat) (q_ware (x1_3).toInt.toNat).toInt.toNat = true; by_cases z : BT (a_mayOn (q_ware ((x1_3).toInt.toNat - 1)).toInt.toNat) (q_ware (x1_3).toInt.toNat).toInt.toNat = true; (exact z); (rw [if_neg z] at hb9; exfalso; omega))) (by omega))
        · skip
          have el_0 : (0 : Int32).toInt = 0 := rfl
          rw [i_eq] at c_21
          refine j_iconst (pc := 35) (v := 4) C dX4_refusal_35 (by decide) ?_
          have el_4 : (4 : Int32).toInt = 4 := rfl
          have el_4 : (4 : Int32).toInt = 4 := rfl
          exact j_iret (pc := 36) C hr hk (fun i => [].getD i 0, fun i => [4].getD i 0, fun i => [].getD i (fun _ => 0), fun i => [].getD i (fun _ => 0)) rfl (show (0 ≤ ((4 : Int32)).toInt ∧ ((4 : Int32)).toInt ≤ 6) ∧ (RFZ (fun u l => BT (a_mayOn l) u) a_weight a_bears a_deep (rsC a_wide a_deep a_lids) q_ware (q_size).toInt.toNat p0 ((4 : Int32)).toInt) from ⟨by omega, (Or.inl ⟨rfl, fun z => by have z9 : BT (a_mayOn (q_ware ((x1_3).toInt.toNat - 1)).toInt.toNat) (q_ware (x1_3).toInt.toNat).toInt.toNat = true := z (x1_3).toInt.toNat (by omega) (by omega); rw [if_pos z9] at hb9; omega⟩)⟩) [0, 1, 2, 3, 4, 5, 6, 7] (by decide) rfl (by decide) (by decide) dX4_refusal_36
  have el_1 : (1 : Int32).toInt = 1 := rfl
  exact j_lv [0, 1, 2, 3] rfl (loop_1 4096 1 (by decide) (fun i h1 h2 => absurd h2 (by omega)) (by omega))
set_option maxHeartbeats 4000000 in
set_option maxRecDepth 100000 in
theorem c_X4_add (l : Launch) (D : DG) (cyC cyI cyJ cyZ cyO : ClassId) (q0 : Nat) (q1 : Nat) (p0 : Int32) (q_size : Int32) (q_ware : Nat → Int32) (h_q_size : 0 ≤ (q_size).toInt ∧ (q_size).toInt ≤ 12) (h_p0 : 0 ≤ (p0).toInt ∧ (p0).toInt ≤ 11) (h_q_ware : Iv 12 (0) (11) q_ware) : KK l D (TY cyC cyI cyJ cyZ cyO) yX4_add cX4_add 2 none ({ frames := 0, cells := 0, slots := 0, locals := 0 } : Room) 0 0 [.ref q0, .int p0] [(q0, .inr (4, [.ref q1, .int q_size])), (q1, .inl (cyI, 12, .inl q_ware))] (fun u => none) (fun u => (0 ≤ (u.2.1 0).toInt ∧ (u.2.1 0).toInt ≤ 12) ∧ (Iv 12 (0) (11) (u.2.2.1 0)) ∧ (IM ((q_size).toInt ≤ 11) (((u.2.1 0)).toInt = (q_size).toInt + 1 ∧ (u.2.2.1 0) = upd q_ware (q_size).toInt.toNat p0))) (fun u => [(q0, .inr (4, [.ref q1, .int (u.2.1 0)])), (q1, .inl (cyI, 12, .inl (u.2.2.1 0)))]) := by
  refine KK.of (lv0 := [(0, .ref q0), (1, .int p0)]) (by decide) rfl (Nat.le_of_ble_eq_true rfl) ?_
  intro p e s m args below meth c A C hr hk hin
  refine j_aload_n (pc := 0) C dX4_add_0 rfl 0 rfl ?_
  refine j_get (pc := 1) (ci := 4) (v := .int q_size) C inw_4 0 rfl rfl 1 (by decide) wd_29 rfl rfl dX4_add_1 ?_
  refine j_bipush (pc := 4) (v := 12) C dX4_add_4 (by decide) ?_
  refine j_icmp_ge (pc := 6) (tgt := 29) C dX4_add_6 (by decide) (fun c_1 => ?_) (fun c_1 => ?_)
  · skip
    have el_12 : (12 : Int32).toInt = 12 := rfl
    rw [i_le] at c_1
    have k0c_1 : q_size.toInt = 12 := by omega
    exact j_vret (pc := 29) C hr hk (fun i => [].getD i 0, fun i => [q_size].getD i 0, fun i => [q_ware].getD i (fun _ => 0), fun i => [].getD i (fun _ => 0)) rfl (show (0 ≤ (q_size).toInt ∧ (q_size).toInt ≤ 12) ∧ (Iv 12 (0) (11) q_ware) ∧ (IM ((q_size).toInt ≤ 11) ((q_size).toInt = (q_size).toInt + 1 ∧ q_ware = upd q_ware (q_size).toInt.toNat p0)) from ⟨h_q_size, h_q_ware, (fun z9 => by exfalso; omega)⟩) [0, 1] (by decide) rfl (by decide) (by decide) dX4_add_29
  · skip
    have el_12 : (12 : Int32).toInt = 12 := rfl
    rw [i_le] at c_1
    refine j_aload_n (pc := 9) C dX4_add_9 rfl 0 rfl ?_
    refine j_get (pc := 10) (ci := 4) (v := .ref q1) C inw_4 0 rfl rfl 0 (by decide) wd_31 rfl rfl dX4_add_10 ?_
    refine j_aload_n (pc := 13) C dX4_add_13 rfl 0 rfl ?_
    refine j_get (pc := 14) (ci := 4) (v := .int q_size) C inw_4 0 rfl rfl 1 (by decide) wd_29 rfl rfl dX4_add_14 ?_
    refine j_iload_n (pc := 17) C dX4_add_17 rfl 1 rfl ?_
    obtain ⟨f_2, ef_2⟩ : ∃ z, z = upd q_ware (q_size).toInt.toNat p0 := ⟨_, rfl⟩
    have hf_2 : Iv 12 (0) (11) f_2 := by rw [ef_2]; exact Iv.upd h_q_ware (by omega) (by omega)
    refine j_iast (pc := 18) (k := (q_size).toInt.toNat) (ws' := [(q0, .inr (4, [.ref q1, .int q_size])), (q1, .inl (cyI, 12, .inl f_2))]) C 1 1 rfl rfl (i_nn h_q_size.1) rfl (i_lt_n h_q_size.1 (by omega)) dX4_add_18 (by rw [ef_2]; rfl) ?_
    refine j_aload_n (pc := 19) C dX4_add_19 rfl 0 rfl ?_
    refine j_dup (pc := 20) C dX4_add_20 rfl ?_
    refine j_get (pc := 21) (ci := 4) (v := .int q_size) C inw_4 0 rfl rfl 1 (by decide) wd_29 rfl rfl dX4_add_21 ?_
    refine j_iconst (pc := 24) (v := 1) C dX4_add_24 (by decide) ?_
    obtain ⟨v_3, ev_3⟩ : ∃ z : Int32, q_size + 1 = z := ⟨_, rfl⟩
    have el_1 : (1 : Int32).toInt = 1 := rfl
    have hv_3 : v_3.toInt = q_size.toInt + (1 : Int32).toInt := by rw [← ev_3]; exact fb_addI (by omega) (by omega)
    refine j_iadd (pc := 25) (v := v_3) C dX4_add_25 ev_3 ?_
    refine j_put (pc := 26) (ci := 4) (v := .int v_3) (ws' := [(q0, .inr (4, [.ref q1, .int v_3])), (q1, .inl (cyI, 12, .inl f_2))]) C inw_4 0 rfl rfl 1 (by decide) wd_29 rfl tyX4_ok nmX4 rfl (tyX4_ok 1 (by decide)) rfl rfl (Nat.le_of_ble_eq_true rfl) dX4_add_26 rfl ?_
    exact j_vret (pc := 29) C hr hk (fun i => [].getD i 0, fun i => [v_3].getD i 0, fun i => [f_2].getD i (fun _ => 0), fun i => [].getD i (fun _ => 0)) rfl (show (0 ≤ (v_3).toInt ∧ (v_3).toInt ≤ 12) ∧ (Iv 12 (0) (11) f_2) ∧ (IM ((q_size).toInt ≤ 11) ((v_3).toInt = (q_size).toInt + 1 ∧ f_2 = upd q_ware (q_size).toInt.toNat p0)) from ⟨by omega, hf_2, (fun _ => ⟨by omega, ef_2⟩)⟩) [0, 1] (by decide) rfl (by decide) (by decide) dX4_add_29
theorem wd_50 : Cond.code yJ7_fill_53178 cJ7_fill_53178 4 none ∈ WALL := wl_in (by decide +kernel) (by decide +kernel)
theorem wd_51 : Cond.initialized RJ7 ∈ WALL := wl_in (by decide +kernel) (by decide +kernel)
theorem wd_52 : Cond.methodLink RX7 24 yJ7_fill_53178 ∈ WALL := wl_in (by decide +kernel) (by decide +kernel)
theorem wd_53 : Cond.static yJ7_fill_53178 ∈ WALL := wl_in (by decide +kernel) (by decide +kernel)
theorem wd_54 : Cond.code yX7_size cX7_size 5 (some .int) ∈ WALL := wl_in (by decide +kernel) (by decide +kernel)
theorem wd_55 : Cond.methodLink RX7 57 yX7_size ∈ WALL := wl_in (by decide +kernel) (by decide +kernel)
theorem wd_56 : Cond.instanceMethod yX7_size ∈ WALL := wl_in (by decide +kernel) (by decide +kernel)
theorem wd_57 : Cond.selects RX7 yX7_size yX7_size ∈ WALL := wl_in (by decide +kernel) (by decide +kernel)
theorem wd_58 : Cond.code yX7_sinkAbove cX7_sinkAbove 3 none ∈ WALL := wl_in (by decide +kernel) (by decide +kernel)
theorem wd_59 : Cond.methodLink RX7 60 yX7_sinkAbove ∈ WALL := wl_in (by decide +kernel) (by decide +kernel)
theorem wd_60 : Cond.instanceMethod yX7_sinkAbove ∈ WALL := wl_in (by decide +kernel) (by decide +kernel)
theorem wd_61 : Cond.selects RX7 yX7_sinkAbove yX7_sinkAbove ∈ WALL := wl_in (by decide +kernel) (by decide +kernel)
theorem wd_62 : Cond.code yX7_closeGap cX7_closeGap 4 none ∈ WALL := wl_in (by decide +kernel) (by decide +kernel)
theorem wd_63 : Cond.methodLink RX7 64 yX7_closeGap ∈ WALL := wl_in (by decide +kernel) (by decide +kernel)
theorem wd_64 : Cond.instanceMethod yX7_closeGap ∈ WALL := wl_in (by decide +kernel) (by decide +kernel)
theorem wd_65 : Cond.selects RX7 yX7_closeGap yX7_closeGap ∈ WALL := wl_in (by decide +kernel) (by decide +kernel)
theorem wd_66 : Cond.code yX7_stacks cX7_stacks 4 (some .int) ∈ WALL := wl_in (by decide +kernel) (by decide +kernel)
theorem wd_67 : Cond.methodLink RX7 68 yX7_stacks ∈ WALL := wl_in (by decide +kernel) (by decide +kernel)
theorem wd_68 : Cond.instanceMethod yX7_stacks ∈ WALL := wl_in (by decide +kernel) (by decide +kernel)
theorem wd_69 : Cond.selects RX7 yX7_stacks yX7_stacks ∈ WALL := wl_in (by decide +kernel) (by decide +kernel)
theorem wd_70 : Cond.methodLink RX4 19 yX7_stands ∈ WALL := wl_in (by decide +kernel) (by decide +kernel)
theorem wd_71 : Cond.fieldLink RX4 25 "BowlShelf$Standing" "level" "[I" ∈ WALL := wl_in (by decide +kernel) (by decide +kernel)
theorem dJ7_fill_53178_0 : decode cJ7_fill_53178 0 = .ok (.iconst 0, 1) := by decide +kernel
theorem dJ7_fill_53178_1 : decode cJ7_fill_53178 1 = .ok (.istore_n 2, 1) := by decide +kernel
theorem dJ7_fill_53178_2 : decode cJ7_fill_53178 2 = .ok (.aload_n 0, 1) := by decide +kernel
theorem dJ7_fill_53178_3 : decode cJ7_fill_53178 3 = .ok (.arraylength, 1) := by decide +kernel
theorem dJ7_fill_53178_4 : decode cJ7_fill_53178 4 = .ok (.istore_n 3, 1) := by decide +kernel
theorem dJ7_fill_53178_5 : decode cJ7_fill_53178 5 = .ok (.iload_n 2, 1) := by decide +kernel
theorem dJ7_fill_53178_6 : decode cJ7_fill_53178 6 = .ok (.iload_n 3, 1) := by decide +kernel
theorem dJ7_fill_53178_7 : decode cJ7_fill_53178 7 = .ok (.if_icmp .ge 13, 3) := by decide +kernel
theorem dJ7_fill_53178_10 : decode cJ7_fill_53178 10 = .ok (.aload_n 0, 1) := by decide +kernel
theorem dJ7_fill_53178_11 : decode cJ7_fill_53178 11 = .ok (.iload_n 2, 1) := by decide +kernel
theorem dJ7_fill_53178_12 : decode cJ7_fill_53178 12 = .ok (.iload_n 1, 1) := by decide +kernel
theorem dJ7_fill_53178_13 : decode cJ7_fill_53178 13 = .ok (.iastore, 1) := by decide +kernel
theorem dJ7_fill_53178_14 : decode cJ7_fill_53178 14 = .ok (.iinc 2 1, 3) := by decide +kernel
theorem dJ7_fill_53178_17 : decode cJ7_fill_53178 17 = .ok (.goto (-12), 3) := by decide +kernel
theorem dJ7_fill_53178_20 : decode cJ7_fill_53178 20 = .ok (.return_, 1) := by decide +kernel
theorem dX7_empty_0 : decode cX7_empty 0 = .ok (.aload_n 0, 1) := by decide +kernel
theorem dX7_empty_1 : decode cX7_empty 1 = .ok (.getfield 9, 3) := by decide +kernel
theorem dX7_empty_4 : decode cX7_empty 4 = .ok (.iconst (-1), 1) := by decide +kernel
theorem dX7_empty_5 : decode cX7_empty 5 = .ok (.invokestatic 24, 3) := by decide +kernel
theorem dX7_empty_8 : decode cX7_empty 8 = .ok (.aload_n 0, 1) := by decide +kernel
theorem dX7_empty_9 : decode cX7_empty 9 = .ok (.iconst 0, 1) := by decide +kernel
theorem dX7_empty_10 : decode cX7_empty 10 = .ok (.putfield 30, 3) := by decide +kernel
theorem dX7_empty_13 : decode cX7_empty 13 = .ok (.return_, 1) := by decide +kernel
theorem dX7_add_0 : decode cX7_add 0 = .ok (.aload_n 0, 1) := by decide +kernel
theorem dX7_add_1 : decode cX7_add 1 = .ok (.getfield 18, 3) := by decide +kernel
theorem dX7_add_4 : decode cX7_add 4 = .ok (.iload_n 1, 1) := by decide +kernel
theorem dX7_add_5 : decode cX7_add 5 = .ok (.aload_n 0, 1) := by decide +kernel
theorem dX7_add_6 : decode cX7_add 6 = .ok (.iload_n 2, 1) := by decide +kernel
theorem dX7_add_7 : decode cX7_add 7 = .ok (.iload_n 3, 1) := by decide +kernel
theorem dX7_add_8 : decode cX7_add 8 = .ok (.invokevirtual 57, 3) := by decide +kernel
theorem dX7_add_11 : decode cX7_add 11 = .ok (.iastore, 1) := by decide +kernel
theorem dX7_add_12 : decode cX7_add 12 = .ok (.aload_n 0, 1) := by decide +kernel
theorem dX7_add_13 : decode cX7_add 13 = .ok (.getfield 9, 3) := by decide +kernel
theorem dX7_add_16 : decode cX7_add 16 = .ok (.iload_n 1, 1) := by decide +kernel
theorem dX7_add_17 : decode cX7_add 17 = .ok (.iload_n 2, 1) := by decide +kernel
theorem dX7_add_18 : decode cX7_add 18 = .ok (.iastore, 1) := by decide +kernel
theorem dX7_add_19 : decode cX7_add 19 = .ok (.aload_n 0, 1) := by decide +kernel
theorem dX7_add_20 : decode cX7_add 20 = .ok (.getfield 15, 3) := by decide +kernel
theorem dX7_add_23 : decode cX7_add 23 = .ok (.iload_n 1, 1) := by decide +kernel
theorem dX7_add_24 : decode cX7_add 24 = .ok (.iload_n 3, 1) := by decide +kernel
theorem dX7_add_25 : decode cX7_add 25 = .ok (.iastore, 1) := by decide +kernel
theorem dX7_add_26 : decode cX7_add 26 = .ok (.return_, 1) := by decide +kernel
theorem dX7_remove_0 : decode cX7_remove 0 = .ok (.aload_n 0, 1) := by decide +kernel
theorem dX7_remove_1 : decode cX7_remove 1 = .ok (.getfield 9, 3) := by decide +kernel
theorem dX7_remove_4 : decode cX7_remove 4 = .ok (.iload_n 1, 1) := by decide +kernel
theorem dX7_remove_5 : decode cX7_remove 5 = .ok (.iaload, 1) := by decide +kernel
theorem dX7_remove_6 : decode cX7_remove 6 = .ok (.istore_n 2, 1) := by decide +kernel
theorem dX7_remove_7 : decode cX7_remove 7 = .ok (.aload_n 0, 1) := by decide +kernel
theorem dX7_remove_8 : decode cX7_remove 8 = .ok (.iload_n 1, 1) := by decide +kernel
theorem dX7_remove_9 : decode cX7_remove 9 = .ok (.invokevirtual 60, 3) := by decide +kernel
theorem dX7_remove_12 : decode cX7_remove 12 = .ok (.aload_n 0, 1) := by decide +kernel
theorem dX7_remove_13 : decode cX7_remove 13 = .ok (.getfield 9, 3) := by decide +kernel
theorem dX7_remove_16 : decode cX7_remove 16 = .ok (.iload_n 1, 1) := by decide +kernel
theorem dX7_remove_17 : decode cX7_remove 17 = .ok (.iconst (-1), 1) := by decide +kernel
theorem dX7_remove_18 : decode cX7_remove 18 = .ok (.iastore, 1) := by decide +kernel
theorem dX7_remove_19 : decode cX7_remove 19 = .ok (.aload_n 0, 1) := by decide +kernel
theorem dX7_remove_20 : decode cX7_remove 20 = .ok (.iload_n 2, 1) := by decide +kernel
theorem dX7_remove_21 : decode cX7_remove 21 = .ok (.aload_n 0, 1) := by decide +kernel
theorem dX7_remove_22 : decode cX7_remove 22 = .ok (.getfield 15, 3) := by decide +kernel
theorem dX7_remove_25 : decode cX7_remove 25 = .ok (.iload_n 1, 1) := by decide +kernel
theorem dX7_remove_26 : decode cX7_remove 26 = .ok (.iaload, 1) := by decide +kernel
theorem dX7_remove_27 : decode cX7_remove 27 = .ok (.invokevirtual 57, 3) := by decide +kernel
theorem dX7_remove_30 : decode cX7_remove 30 = .ok (.ifCond .ne 14, 3) := by decide +kernel
theorem dX7_remove_33 : decode cX7_remove 33 = .ok (.aload_n 0, 1) := by decide +kernel
theorem dX7_remove_34 : decode cX7_remove 34 = .ok (.iload_n 2, 1) := by decide +kernel
theorem dX7_remove_35 : decode cX7_remove 35 = .ok (.aload_n 0, 1) := by decide +kernel
theorem dX7_remove_36 : decode cX7_remove 36 = .ok (.getfield 15, 3) := by decide +kernel
theorem dX7_remove_39 : decode cX7_remove 39 = .ok (.iload_n 1, 1) := by decide +kernel
theorem dX7_remove_40 : decode cX7_remove 40 = .ok (.iaload, 1) := by decide +kernel
theorem dX7_remove_41 : decode cX7_remove 41 = .ok (.invokevirtual 64, 3) := by decide +kernel
theorem dX7_remove_44 : decode cX7_remove 44 = .ok (.return_, 1) := by decide +kernel
theorem dX7_raise_0 : decode cX7_raise 0 = .ok (.aload_n 0, 1) := by decide +kernel
theorem dX7_raise_1 : decode cX7_raise 1 = .ok (.iload_n 1, 1) := by decide +kernel
theorem dX7_raise_2 : decode cX7_raise 2 = .ok (.invokevirtual 60, 3) := by decide +kernel
theorem dX7_raise_5 : decode cX7_raise 5 = .ok (.aload_n 0, 1) := by decide +kernel
theorem dX7_raise_6 : decode cX7_raise 6 = .ok (.getfield 18, 3) := by decide +kernel
theorem dX7_raise_9 : decode cX7_raise 9 = .ok (.iload_n 1, 1) := by decide +kernel
theorem dX7_raise_10 : decode cX7_raise 10 = .ok (.aload_n 0, 1) := by decide +kernel
theorem dX7_raise_11 : decode cX7_raise 11 = .ok (.aload_n 0, 1) := by decide +kernel
theorem dX7_raise_12 : decode cX7_raise 12 = .ok (.getfield 9, 3) := by decide +kernel
theorem dX7_raise_15 : decode cX7_raise 15 = .ok (.iload_n 1, 1) := by decide +kernel
theorem dX7_raise_16 : decode cX7_raise 16 = .ok (.iaload, 1) := by decide +kernel
theorem dX7_raise_17 : decode cX7_raise 17 = .ok (.aload_n 0, 1) := by decide +kernel
theorem dX7_raise_18 : decode cX7_raise 18 = .ok (.getfield 15, 3) := by decide +kernel
theorem dX7_raise_21 : decode cX7_raise 21 = .ok (.iload_n 1, 1) := by decide +kernel
theorem dX7_raise_22 : decode cX7_raise 22 = .ok (.iaload, 1) := by decide +kernel
theorem dX7_raise_23 : decode cX7_raise 23 = .ok (.invokevirtual 57, 3) := by decide +kernel
theorem dX7_raise_26 : decode cX7_raise 26 = .ok (.iconst 1, 1) := by decide +kernel
theorem dX7_raise_27 : decode cX7_raise 27 = .ok (.isub, 1) := by decide +kernel
theorem dX7_raise_28 : decode cX7_raise 28 = .ok (.iastore, 1) := by decide +kernel
theorem dX7_raise_29 : decode cX7_raise 29 = .ok (.return_, 1) := by decide +kernel
theorem dX7_move_0 : decode cX7_move 0 = .ok (.aload_n 0, 1) := by decide +kernel
theorem dX7_move_1 : decode cX7_move 1 = .ok (.iload_n 3, 1) := by decide +kernel
theorem dX7_move_2 : decode cX7_move 2 = .ok (.invokevirtual 68, 3) := by decide +kernel
theorem dX7_move_5 : decode cX7_move 5 = .ok (.istore 4, 2) := by decide +kernel
theorem dX7_move_7 : decode cX7_move 7 = .ok (.iconst 0, 1) := by decide +kernel
theorem dX7_move_8 : decode cX7_move 8 = .ok (.istore 5, 2) := by decide +kernel
theorem dX7_move_10 : decode cX7_move 10 = .ok (.iload 5, 2) := by decide +kernel
theorem dX7_move_12 : decode cX7_move 12 = .ok (.bipush 12, 2) := by decide +kernel
theorem dX7_move_14 : decode cX7_move 14 = .ok (.if_icmp .ge 37, 3) := by decide +kernel
theorem dX7_move_17 : decode cX7_move 17 = .ok (.aload_n 0, 1) := by decide +kernel
theorem dX7_move_18 : decode cX7_move 18 = .ok (.iload 5, 2) := by decide +kernel
theorem dX7_move_20 : decode cX7_move 20 = .ok (.iload_n 1, 1) := by decide +kernel
theorem dX7_move_21 : decode cX7_move 21 = .ok (.iload_n 2, 1) := by decide +kernel
theorem dX7_move_22 : decode cX7_move 22 = .ok (.invokevirtual 53, 3) := by decide +kernel
theorem dX7_move_25 : decode cX7_move 25 = .ok (.ifCond .eq 20, 3) := by decide +kernel
theorem dX7_move_28 : decode cX7_move 28 = .ok (.aload_n 0, 1) := by decide +kernel
theorem dX7_move_29 : decode cX7_move 29 = .ok (.getfield 9, 3) := by decide +kernel
theorem dX7_move_32 : decode cX7_move 32 = .ok (.iload 5, 2) := by decide +kernel
theorem dX7_move_34 : decode cX7_move 34 = .ok (.iload_n 3, 1) := by decide +kernel
theorem dX7_move_35 : decode cX7_move 35 = .ok (.iastore, 1) := by decide +kernel
theorem dX7_move_36 : decode cX7_move 36 = .ok (.aload_n 0, 1) := by decide +kernel
theorem dX7_move_37 : decode cX7_move 37 = .ok (.getfield 15, 3) := by decide +kernel
theorem dX7_move_40 : decode cX7_move 40 = .ok (.iload 5, 2) := by decide +kernel
theorem dX7_move_42 : decode cX7_move 42 = .ok (.iload 4, 2) := by decide +kernel
theorem dX7_move_44 : decode cX7_move 44 = .ok (.iastore, 1) := by decide +kernel
theorem dX7_move_45 : decode cX7_move 45 = .ok (.iinc 5 1, 3) := by decide +kernel
theorem dX7_move_48 : decode cX7_move 48 = .ok (.goto (-38), 3) := by decide +kernel
theorem dX7_move_51 : decode cX7_move 51 = .ok (.aload_n 0, 1) := by decide +kernel
theorem dX7_move_52 : decode cX7_move 52 = .ok (.iload_n 1, 1) := by decide +kernel
theorem dX7_move_53 : decode cX7_move 53 = .ok (.iload_n 2, 1) := by decide +kernel
theorem dX7_move_54 : decode cX7_move 54 = .ok (.invokevirtual 64, 3) := by decide +kernel
theorem dX7_move_57 : decode cX7_move 57 = .ok (.return_, 1) := by decide +kernel
theorem dX4_take_0 : decode cX4_take 0 = .ok (.aload_n 0, 1) := by decide +kernel
theorem dX4_take_1 : decode cX4_take 1 = .ok (.iconst 0, 1) := by decide +kernel
theorem dX4_take_2 : decode cX4_take 2 = .ok (.putfield 15, 3) := by decide +kernel
theorem dX4_take_5 : decode cX4_take 5 = .ok (.iconst 0, 1) := by decide +kernel
theorem dX4_take_6 : decode cX4_take 6 = .ok (.istore 4, 2) := by decide +kernel
theorem dX4_take_8 : decode cX4_take 8 = .ok (.iload 4, 2) := by decide +kernel
theorem dX4_take_10 : decode cX4_take 10 = .ok (.bipush 12, 2) := by decide +kernel
theorem dX4_take_12 : decode cX4_take 12 = .ok (.if_icmp .ge 44, 3) := by decide +kernel
theorem dX4_take_15 : decode cX4_take 15 = .ok (.aload_n 1, 1) := by decide +kernel
theorem dX4_take_16 : decode cX4_take 16 = .ok (.iload 4, 2) := by decide +kernel
theorem dX4_take_18 : decode cX4_take 18 = .ok (.iload_n 2, 1) := by decide +kernel
theorem dX4_take_19 : decode cX4_take 19 = .ok (.iload_n 3, 1) := by decide +kernel
theorem dX4_take_20 : decode cX4_take 20 = .ok (.invokevirtual 19, 3) := by decide +kernel
theorem dX4_take_23 : decode cX4_take 23 = .ok (.ifCond .eq 27, 3) := by decide +kernel
theorem dX4_take_26 : decode cX4_take 26 = .ok (.aload_n 0, 1) := by decide +kernel
theorem dX4_take_27 : decode cX4_take 27 = .ok (.getfield 9, 3) := by decide +kernel
theorem dX4_take_30 : decode cX4_take 30 = .ok (.aload_n 1, 1) := by decide +kernel
theorem dX4_take_31 : decode cX4_take 31 = .ok (.getfield 25, 3) := by decide +kernel
theorem dX4_take_34 : decode cX4_take 34 = .ok (.iload 4, 2) := by decide +kernel
theorem dX4_take_36 : decode cX4_take 36 = .ok (.iaload, 1) := by decide +kernel
theorem dX4_take_37 : decode cX4_take 37 = .ok (.iload 4, 2) := by decide +kernel
theorem dX4_take_39 : decode cX4_take 39 = .ok (.iastore, 1) := by decide +kernel
theorem dX4_take_40 : decode cX4_take 40 = .ok (.aload_n 0, 1) := by decide +kernel
theorem dX4_take_41 : decode cX4_take 41 = .ok (.dup, 1) := by decide +kernel
theorem dX4_take_42 : decode cX4_take 42 = .ok (.getfield 15, 3) := by decide +kernel
theorem dX4_take_45 : decode cX4_take 45 = .ok (.iconst 1, 1) := by decide +kernel
theorem dX4_take_46 : decode cX4_take 46 = .ok (.iadd, 1) := by decide +kernel
theorem dX4_take_47 : decode cX4_take 47 = .ok (.putfield 15, 3) := by decide +kernel
theorem dX4_take_50 : decode cX4_take 50 = .ok (.iinc 4 1, 3) := by decide +kernel
theorem dX4_take_53 : decode cX4_take 53 = .ok (.goto (-45), 3) := by decide +kernel
theorem dX4_take_56 : decode cX4_take 56 = .ok (.return_, 1) := by decide +kernel
theorem dX4_remove_0 : decode cX4_remove 0 = .ok (.iload_n 1, 1) := by decide +kernel
theorem dX4_remove_1 : decode cX4_remove 1 = .ok (.istore_n 2, 1) := by decide +kernel
theorem dX4_remove_2 : decode cX4_remove 2 = .ok (.iload_n 2, 1) := by decide +kernel
theorem dX4_remove_3 : decode cX4_remove 3 = .ok (.aload_n 0, 1) := by decide +kernel
theorem dX4_remove_4 : decode cX4_remove 4 = .ok (.getfield 15, 3) := by decide +kernel
theorem dX4_remove_7 : decode cX4_remove 7 = .ok (.iconst 1, 1) := by decide +kernel
theorem dX4_remove_8 : decode cX4_remove 8 = .ok (.isub, 1) := by decide +kernel
theorem dX4_remove_9 : decode cX4_remove 9 = .ok (.if_icmp .ge 23, 3) := by decide +kernel
theorem dX4_remove_12 : decode cX4_remove 12 = .ok (.aload_n 0, 1) := by decide +kernel
theorem dX4_remove_13 : decode cX4_remove 13 = .ok (.getfield 9, 3) := by decide +kernel
theorem dX4_remove_16 : decode cX4_remove 16 = .ok (.iload_n 2, 1) := by decide +kernel
theorem dX4_remove_17 : decode cX4_remove 17 = .ok (.aload_n 0, 1) := by decide +kernel
theorem dX4_remove_18 : decode cX4_remove 18 = .ok (.getfield 9, 3) := by decide +kernel
theorem dX4_remove_21 : decode cX4_remove 21 = .ok (.iload_n 2, 1) := by decide +kernel
theorem dX4_remove_22 : decode cX4_remove 22 = .ok (.iconst 1, 1) := by decide +kernel
theorem dX4_remove_23 : decode cX4_remove 23 = .ok (.iadd, 1) := by decide +kernel
theorem dX4_remove_24 : decode cX4_remove 24 = .ok (.iaload, 1) := by decide +kernel
theorem dX4_remove_25 : decode cX4_remove 25 = .ok (.iastore, 1) := by decide +kernel
theorem dX4_remove_26 : decode cX4_remove 26 = .ok (.iinc 2 1, 3) := by decide +kernel
theorem dX4_remove_29 : decode cX4_remove 29 = .ok (.goto (-27), 3) := by decide +kernel
theorem dX4_remove_32 : decode cX4_remove 32 = .ok (.aload_n 0, 1) := by decide +kernel
theorem dX4_remove_33 : decode cX4_remove 33 = .ok (.dup, 1) := by decide +kernel
theorem dX4_remove_34 : decode cX4_remove 34 = .ok (.getfield 15, 3) := by decide +kernel
theorem dX4_remove_37 : decode cX4_remove 37 = .ok (.iconst 1, 1) := by decide +kernel
theorem dX4_remove_38 : decode cX4_remove 38 = .ok (.isub, 1) := by decide +kernel
theorem dX4_remove_39 : decode cX4_remove 39 = .ok (.putfield 15, 3) := by decide +kernel
theorem dX4_remove_42 : decode cX4_remove 42 = .ok (.return_, 1) := by decide +kernel
set_option maxHeartbeats 4000000 in
set_option maxRecDepth 100000 in
theorem c_fill (l : Launch) (D : DG) (cyC cyI cyJ cyZ cyO : ClassId) (a : Nat) (v : Int32) (f : Nat → Int32) : KK l D (TY cyC cyI cyJ cyZ cyO) yJ7_fill_53178 cJ7_fill_53178 4 none ({ frames := 0, cells := 0, slots := 0, locals := 0 } : Room) 0 0 [.ref a, .int v] [(a, .inl (cyI, 12, .inl f))] (fun u => none) (fun u => True) (fun u => [(a, .inl (cyI, 12, .inl (fun _ => v)))]) := by
  refine KK.of (lv0 := [(0, .ref a), (1, .int v)]) (by decide) rfl (Nat.le_of_ble_eq_true rfl) ?_
  intro p e s m args below meth c A C hr hk hin
  refine j_iconst (pc := 0) (v := 0) C dJ7_fill_53178_0 (by decide) ?_
  refine j_istore_n (pc := 1) (lv' := [(2, .int 0), (0, .ref a), (1, .int v)]) C dJ7_fill_53178_1 rfl (by decide) rfl ?_
  refine j_aload_n (pc := 2) C dJ7_fill_53178_2 rfl 1 rfl ?_
  refine j_alen (pc := 3) (v := 12) C 0 1 rfl rfl rfl dJ7_fill_53178_3 ?_
  refine j_istore_n (pc := 4) (lv' := [(3, .int 12), (2, .int 0), (0, .ref a), (1, .int v)]) C dJ7_fill_53178_4 rfl (by decide) rfl ?_
  have loop : ∀ (k i : Nat) (g : Nat → Int32), i + k = 12 → (∀ j, j < i → g j = v) → J p l e ({ frames := 0, cells := 0, slots := 0, locals := 0 } : Room) s m args below meth c D A 4 0 0 (QX below D (TY cyC cyI cyJ cyZ cyO) A (fun u => none) (fun u => True) (fun u => [(a, .inl (cyI, 12, .inl (fun _ => v)))]) args s 0 0) [(a, .inl (cyI, 12, .inl g))] 5 [(2, .int (nI i)), (3, .int 12), (0, .ref a), (1, .int v)] [] := by
    intro k
    induction k with
    | zero =>
      intro i g hi hg
      obtain rfl : i = 12 := by omega
      refine j_iload_n (pc := 5) C dJ7_fill_53178_5 rfl 0 rfl ?_
      refine j_iload_n (pc := 6) C dJ7_fill_53178_6 rfl 1 rfl ?_
      refine j_icmp_ge_t (pc := 7) (tgt := 20) C dJ7_fill_53178_7 (by decide) (by decide) ?_
      refine j_arrc (q0 := 0) (g := fun _ => v) (ws' := [(a, .inl (cyI, 12, .inl (fun _ => v)))]) rfl hg rfl ?_
      exact j_vret (pc := 20) C hr hk (fun i => [].getD i 0, fun _ => 0, fun _ _ => 0, fun _ _ => 0) rfl trivial [0] (by decide) rfl (by decide) (by decide) dJ7_fill_53178_20
    | succ k ih =>
      intro i g hi hg
      refine j_iload_n (pc := 5) C dJ7_fill_53178_5 rfl 0 rfl ?_
      refine j_iload_n (pc := 6) C dJ7_fill_53178_6 rfl 1 rfl ?_
      refine j_icmp_ge_f (pc := 7) (tgt := 20) C dJ7_fill_53178_7 (by decide) (nI12 12 (by omega) (by decide)) ?_
      refine j_aload_n (pc := 10) C dJ7_fill_53178_10 rfl 2 rfl ?_
      refine j_iload_n (pc := 11) C dJ7_fill_53178_11 rfl 0 rfl ?_
      refine j_iload_n (pc := 12) C dJ7_fill_53178_12 rfl 3 rfl ?_
      refine j_iast (pc := 13) (k := i) (ws' := [(a, .inl (cyI, 12, .inl (upd g i v)))]) C 0 1 rfl rfl (nI_pos (by omega)) (nI_clamp (by omega)) (by omega) dJ7_fill_53178_13 rfl ?_
      refine j_iinc (pc := 14) (v := (nI (i + 1))) (lv' := [(2, .int (nI (i + 1))), (3, .int 12), (0, .ref a), (1, .int v)]) C dJ7_fill_53178_14 0 rfl (nI_1 i) (by decide) rfl ?_
      refine j_goto (pc := 17) (tgt := 5) C dJ7_fill_53178_17 (by decide) ?_
      exact j_lv [0, 1, 2, 3] rfl (ih (i + 1) _ (by omega) (upd_all (P := fun _ x => x = v) hg rfl))
  exact j_lv [1, 0, 2, 3] rfl (loop 12 0 f rfl (fun j hj => absurd hj (Nat.not_lt_zero j)))
set_option maxHeartbeats 4000000 in
set_option maxRecDepth 100000 in
theorem c_X7_empty (l : Launch) (D : DG) (cyC cyI cyJ cyZ cyO : ClassId) (n0 : Nat) (n1 : Nat) (n2 : Nat) (n3 : Nat) (n4 : Nat) (n_askings : Int32) (n_cost : Int32) (n_laid : Int32) (n_shelf : Nat → Int32) (h_n_askings : 0 ≤ (n_askings).toInt ∧ (n_askings).toInt ≤ 30) (h_n_laid : 0 ≤ (n_laid).toInt ∧ (n_laid).toInt ≤ 1) (h_n_shelf : Iv 12 (-1) (3) n_shelf) : KK l D (TY cyC cyI cyJ cyZ cyO) yX7_empty cX7_empty 1 none ({ frames := 1, cells := 0, slots := 0, locals := 23 } : Room) 0 0 [.ref n0] [(n0, .inr (7, [.ref n1, .ref n2, .ref n3, .ref n4, .int n_askings, .int n_cost, .int n_laid])), (n1, .inl (cyI, 12, .inl n_shelf))] (fun u => none) (fun u => True) (fun u => [(n0, .inr (7, [.ref n1, .ref n2, .ref n3, .ref n4, .int 0, .int n_cost, .int n_laid])), (n1, .inl (cyI, 12, .inl (fun _ => (-1))))]) := by
  refine KK.of (lv0 := [(0, .ref n0)]) (by decide) rfl (Nat.le_of_ble_eq_true rfl) ?_
  intro p e s m args below meth c A C hr hk hin
  refine j_aload_n (pc := 0) C dX7_empty_0 rfl 0 rfl ?_
  refine j_get (pc := 1) (ci := 7) (v := .ref n1) C inw_7 0 rfl rfl 0 (by decide) wd_2 rfl rfl dX7_empty_1 ?_
  refine j_iconst (pc := 4) (v := (-1)) C dX7_empty_4 (by decide) ?_
  refine j_callS (pc := 5) (As := [.ref n1, .int (-1)]) (rest := []) (wr := [(n0, .inr (7, [.ref n1, .ref n2, .ref n3, .ref n4, .int n_askings, .int n_cost, .int n_laid]))]) C (c_fill l D cyC cyI cyJ cyZ cyO n1 (-1) n_shelf) wd_50 wd_51 wd_52 wd_53 ⟨by decide, by decide, rfl⟩ rfl ⟨rfl, rfl, by decide, by decide⟩ ⟨by decide, by decide⟩ [1] [0] rfl rfl ⟨by decide, by decide, by decide⟩ rfl (Nat.le_of_ble_eq_true rfl) dX7_empty_5 (fun u_1 hw_2 => ?_)
  refine j_eq (ws2 := [(n0, .inr (7, [.ref n1, .ref n2, .ref n3, .ref n4, .int n_askings, .int n_cost, .int n_laid])), (n1, .inl (cyI, 12, .inl (fun _ => (-1))))]) (pc2 := 8) (lv2 := [(0, .ref n0)]) (st2 := []) rfl rfl rfl rfl ?_
  refine j_aload_n (pc := 8) C dX7_empty_8 rfl 0 rfl ?_
  refine j_iconst (pc := 9) (v := 0) C dX7_empty_9 (by decide) ?_
  refine j_put (pc := 10) (ci := 7) (v := .int 0) (ws' := [(n0, .inr (7, [.ref n1, .ref n2, .ref n3, .ref n4, .int 0, .int n_cost, .int n_laid])), (n1, .inl (cyI, 12, .inl (fun _ => (-1))))]) C inw_7 0 rfl rfl 4 (by decide) wd_22 rfl tyX7_ok nmX7 rfl (tyX7_ok 4 (by decide)) rfl rfl (Nat.le_of_ble_eq_true rfl) dX7_empty_10 rfl ?_
  exact j_vret (pc := 13) C hr hk (fun i => [].getD i 0, fun i => [].getD i 0, fun i => [].getD i (fun _ => 0), fun i => [].getD i (fun _ => 0)) rfl trivial [0, 1] (by decide) rfl (by decide) (by decide) dX7_empty_13
theorem cnB_lt {P : Nat → Bool} {w : Nat} (h : ¬ P w = true) : ∀ m, w < m → cnB P m ≤ m - 1 := by
  intro m
  induction m with
  | zero => intro h; exact absurd h (Nat.not_lt_zero w)
  | succ m ih =>
    intro hw
    by_cases e : w = m
    · rw [← e, cnB_n h]; have := cnB_le P w; omega
    · have i := ih (by omega)
      by_cases q : P m = true
      · rw [cnB_y q]; omega
      · rw [cnB_n q]; omega
theorem cnB_ge {P : Nat → Bool} {w : Nat} (h : P w = true) : ∀ m, w < m → 1 ≤ cnB P m := by
  intro m
  induction m with
  | zero => intro h; exact absurd h (Nat.not_lt_zero w)
  | succ m ih =>
    intro hw
    by_cases e : w = m
    · rw [← e, cnB_y h]; omega
    · have i := ih (by omega)
      by_cases q : P m = true
      · rw [cnB_y q]; omega
      · rw [cnB_n q]; omega
set_option maxHeartbeats 4000000 in
set_option maxRecDepth 100000 in
theorem c_X7_add (l : Launch) (D : DG) (cyC cyI cyJ cyZ cyO : ClassId) (n0 : Nat) (n1 : Nat) (n2 : Nat) (n3 : Nat) (n4 : Nat) (p0 : Int32) (p1 : Int32) (p2 : Int32) (n_askings : Int32) (n_cost : Int32) (n_laid : Int32) (n_shelf : Nat → Int32) (n_stack : Nat → Int32) (n_level : Nat → Int32) (h_n_askings : 0 ≤ (n_askings).toInt ∧ (n_askings).toInt ≤ 30) (h_n_laid : 0 ≤ (n_laid).toInt ∧ (n_laid).toInt ≤ 1) (h_p0 : 0 ≤ (p0).toInt ∧ (p0).toInt ≤ 11) (h_p1 : 0 ≤ (p1).toInt ∧ (p1).toInt ≤ 3) (h_p2 : 0 ≤ (p2).toInt ∧ (p2).toInt ≤ 7) (h_n_shelf : Iv 12 (-1) (3) n_shelf) (h_n_stack : Iv 12 (0) (7) n_stack) (h_n_level : Iv 12 (0) (11) n_level) (hout : n_shelf (p0).toInt.toNat = -1) : KK l D (TY cyC cyI cyJ cyZ cyO) yX7_add cX7_add 4 none ({ frames := 2, cells := 0, slots := 0, locals := 47 } : Room) 0 0 [.ref n0, .int p0, .int p1, .int p2] [(n0, .inr (7, [.ref n1, .ref n2, .ref n3, .ref n4, .int n_askings, .int n_cost, .int n_laid])), (n1, .inl (cyI, 12, .inl n_shelf)), (n2, .inl (cyI, 12, .inl n_stack)), (n3, .inl (cyI, 12, .inl n_level))] (fun u => none) (fun u => (Iv 12 (-1) (3) (u.2.2.1 0)) ∧ (Iv 12 (0) (7) (u.2.2.1 1)) ∧ (Iv 12 (0) (11) (u.2.2.1 2)) ∧ ((u.2.2.1 0) = upd n_shelf (p0).toInt.toNat p1) ∧ ((u.2.2.1 1) = upd n_stack (p0).toInt.toNat p2) ∧ (∀ j : Nat, ¬ j = (p0).toInt.toNat → (u.2.2.1 2) j = n_level j) ∧ (((u.2.2.1 2) (p0).toInt.toNat).toInt = ((cnB (std n_shelf n_stack p1 p2) 12 : Nat) : Int))) (fun u => [(n0, .inr (7, [.ref n1, .ref n2, .ref n3, .ref n4, .int n_askings, .int n_cost, .int n_laid])), (n1, .inl (cyI, 12, .inl (u.2.2.1 0))), (n2, .inl (cyI, 12, .inl (u.2.2.1 1))), (n3, .inl (cyI, 12, .inl (u.2.2.1 2)))]) := by
  refine KK.of (lv0 := [(0, .ref n0), (1, .int p0), (2, .int p1), (3, .int p2)]) (by decide) rfl (Nat.le_of_ble_eq_true rfl) ?_
  intro p e s m args below meth c A C hr hk hin
  refine j_aload_n (pc := 0) C dX7_add_0 rfl 0 rfl ?_
  refine j_get (pc := 1) (ci := 7) (v := .ref n3) C inw_7 0 rfl rfl 2 (by decide) wd_21 rfl rfl dX7_add_1 ?_
  refine j_iload_n (pc := 4) C dX7_add_4 rfl 1 rfl ?_
  refine j_aload_n (pc := 5) C dX7_add_5 rfl 0 rfl ?_
  refine j_iload_n (pc := 6) C dX7_add_6 rfl 2 rfl ?_
  refine j_iload_n (pc := 7) C dX7_add_7 rfl 3 rfl ?_
  refine j_callV (pc := 8) (As := [.int p1, .int p2]) (rest := [.int p0, .ref n3]) (wr := [(n3, .inl (cyI, 12, .inl n_level))]) C (c_X7_size l D cyC cyI cyJ cyZ cyO n0 n1 n2 n3 n4 p1 p2 n_askings n_cost n_laid n_shelf n_stack h_n_askings h_n_laid h_n_shelf h_n_stack) wd_54 wd_9 wd_55 wd_56 wd_57 ⟨by decide, by decide, rfl⟩ rfl ⟨rfl, rfl, by decide, by decide⟩ ⟨by decide, by decide⟩ [0, 1, 2] [3] rfl rfl ⟨by decide, by decide, by decide⟩ 0 rfl rfl rfl (Nat.le_of_ble_eq_true rfl) dX7_add_8 (fun u_1 hw_2 => ?_)
  refine j_eq (ws2 := [(n3, .inl (cyI, 12, .inl n_level)), (n0, .inr (7, [.ref n1, .ref n2, .ref n3, .ref n4, .int n_askings, .int n_cost, .int n_laid])), (n1, .inl (cyI, 12, .inl n_shelf)), (n2, .inl (cyI, 12, .inl n_stack))]) (pc2 := 11) (lv2 := [(0, .ref n0), (1, .int p0), (2, .int p1), (3, .int p2)]) (st2 := [.int (u_1.2.1 0), .int p0, .ref n3]) rfl rfl rfl rfl ?_
  obtain ⟨hw_2_0, hw_2_1⟩ := hw_2
  have hz9 := cnB_lt (P := std n_shelf n_stack p1 p2) (w := (p0.toInt).toNat) (fun z => by have h9 := congrArg Int32.toInt (hout.symm.trans (std_iff.mp z).1); have h8 : (-1 : Int32).toInt = -1 := rfl; omega) 12 (by omega)
  have hz8 := hw_2_1
  obtain ⟨f_3, ef_3⟩ : ∃ z, z = upd n_level (p0).toInt.toNat (u_1.2.1 0) := ⟨_, rfl⟩
  have hf_3 : Iv 12 (0) (11) f_3 := by rw [ef_3]; exact Iv.upd h_n_level (by omega) (by omega)
  refine j_iast (pc := 11) (k := (p0).toInt.toNat) (ws' := [(n3, .inl (cyI, 12, .inl f_3)), (n0, .inr (7, [.ref n1, .ref n2, .ref n3, .ref n4, .int n_askings, .int n_cost, .int n_laid])), (n1, .inl (cyI, 12, .inl n_shelf)), (n2, .inl (cyI, 12, .inl n_stack))]) C 0 1 rfl rfl (i_nn h_p0.1) rfl (i_lt_n h_p0.1 (Int.lt_of_le_of_lt h_p0.2 (by decide))) dX7_add_11 (by rw [ef_3]; rfl) ?_
  refine j_aload_n (pc := 12) C dX7_add_12 rfl 0 rfl ?_
  refine j_get (pc := 13) (ci := 7) (v := .ref n1) C inw_7 1 rfl rfl 0 (by decide) wd_2 rfl rfl dX7_add_13 ?_
  refine j_iload_n (pc := 16) C dX7_add_16 rfl 1 rfl ?_
  refine j_iload_n (pc := 17) C dX7_add_17 rfl 2 rfl ?_
  obtain ⟨f_4, ef_4⟩ : ∃ z, z = upd n_shelf (p0).toInt.toNat p1 := ⟨_, rfl⟩
  have hf_4 : Iv 12 (-1) (3) f_4 := by rw [ef_4]; exact Iv.upd h_n_shelf (by omega) (by omega)
  refine j_iast (pc := 18) (k := (p0).toInt.toNat) (ws' := [(n3, .inl (cyI, 12, .inl f_3)), (n0, .inr (7, [.ref n1, .ref n2, .ref n3, .ref n4, .int n_askings, .int n_cost, .int n_laid])), (n1, .inl (cyI, 12, .inl f_4)), (n2, .inl (cyI, 12, .inl n_stack))]) C 2 1 rfl rfl (i_nn h_p0.1) rfl (i_lt_n h_p0.1 (Int.lt_of_le_of_lt h_p0.2 (by decide))) dX7_add_18 (by rw [ef_4]; rfl) ?_
  refine j_aload_n (pc := 19) C dX7_add_19 rfl 0 rfl ?_
  refine j_get (pc := 20) (ci := 7) (v := .ref n2) C inw_7 1 rfl rfl 1 (by decide) wd_3 rfl rfl dX7_add_20 ?_
  refine j_iload_n (pc := 23) C dX7_add_23 rfl 1 rfl ?_
  refine j_iload_n (pc := 24) C dX7_add_24 rfl 3 rfl ?_
  obtain ⟨f_5, ef_5⟩ : ∃ z, z = upd n_stack (p0).toInt.toNat p2 := ⟨_, rfl⟩
  have hf_5 : Iv 12 (0) (7) f_5 := by rw [ef_5]; exact Iv.upd h_n_stack (by omega) (by omega)
  refine j_iast (pc := 25) (k := (p0).toInt.toNat) (ws' := [(n3, .inl (cyI, 12, .inl f_3)), (n0, .inr (7, [.ref n1, .ref n2, .ref n3, .ref n4, .int n_askings, .int n_cost, .int n_laid])), (n1, .inl (cyI, 12, .inl f_4)), (n2, .inl (cyI, 12, .inl f_5))]) C 3 1 rfl rfl (i_nn h_p0.1) rfl (i_lt_n h_p0.1 (Int.lt_of_le_of_lt h_p0.2 (by decide))) dX7_add_25 (by rw [ef_5]; rfl) ?_
  exact j_vret (pc := 26) C hr hk (fun i => [].getD i 0, fun i => [].getD i 0, fun i => [f_4, f_5, f_3].getD i (fun _ => 0), fun i => [].getD i (fun _ => 0)) rfl (show (Iv 12 (-1) (3) f_4) ∧ (Iv 12 (0) (7) f_5) ∧ (Iv 12 (0) (11) f_3) ∧ (f_4 = upd n_shelf (p0).toInt.toNat p1) ∧ (f_5 = upd n_stack (p0).toInt.toNat p2) ∧ (∀ j : Nat, ¬ j = (p0).toInt.toNat → f_3 j = n_level j) ∧ ((f_3 (p0).toInt.toNat).toInt = ((cnB (std n_shelf n_stack p1 p2) 12 : Nat) : Int)) from ⟨hf_4, hf_5, hf_3, ef_4, ef_5, (fun j hj => by rw [ef_3]; exact pk_un hj), (by rw [ef_3, pk_us]; exact hw_2_1)⟩) [1, 2, 3, 0] (by decide) rfl (by decide) (by decide) dX7_add_26
set_option maxHeartbeats 4000000 in
set_option maxRecDepth 100000 in
theorem c_X7_remove (l : Launch) (D : DG) (cyC cyI cyJ cyZ cyO : ClassId) (n0 : Nat) (n1 : Nat) (n2 : Nat) (n3 : Nat) (n4 : Nat) (p0 : Int32) (n_askings : Int32) (n_cost : Int32) (n_laid : Int32) (n_shelf : Nat → Int32) (n_stack : Nat → Int32) (n_level : Nat → Int32) (h_n_askings : 0 ≤ (n_askings).toInt ∧ (n_askings).toInt ≤ 30) (h_n_laid : 0 ≤ (n_laid).toInt ∧ (n_laid).toInt ≤ 1) (h_p0 : 0 ≤ (p0).toInt ∧ (p0).toInt ≤ 11) (h_n_shelf : Iv 12 (-1) (3) n_shelf) (h_n_stack : Iv 12 (0) (7) n_stack) (h_n_level : Iv 12 (0) (11) n_level) : KK l D (TY cyC cyI cyJ cyZ cyO) yX7_remove cX7_remove 3 none ({ frames := 2, cells := 0, slots := 0, locals := 47 } : Room) 0 0 [.ref n0, .int p0] [(n0, .inr (7, [.ref n1, .ref n2, .ref n3, .ref n4, .int n_askings, .int n_cost, .int n_laid])), (n1, .inl (cyI, 12, .inl n_shelf)), (n2, .inl (cyI, 12, .inl n_stack)), (n3, .inl (cyI, 12, .inl n_level))] (fun u => none) (fun u => (Iv 12 (-1) (3) (u.2.2.1 0)) ∧ (Iv 12 (0) (7) (u.2.2.1 1)) ∧ (Iv 12 (0) (11) (u.2.2.1 2)) ∧ ((u.2.2.1 0) = upd n_shelf (p0).toInt.toNat (-1)) ∧ (∀ j : Nat, j < 12 → ((u.2.2.1 2) j).toInt = (snk n_shelf n_stack n_level (p0).toInt.toNat) j) ∧ (∀ j : Nat, j < 12 → ((u.2.2.1 1) j).toInt = rmS (u.2.2.1 0) n_stack (n_shelf (p0).toInt.toNat) (n_stack (p0).toInt.toNat) j)) (fun u => [(n0, .inr (7, [.ref n1, .ref n2, .ref n3, .ref n4, .int n_askings, .int n_cost, .int n_laid])), (n1, .inl (cyI, 12, .inl (u.2.2.1 0))), (n2, .inl (cyI, 12, .inl (u.2.2.1 1))), (n3, .inl (cyI, 12, .inl (u.2.2.1 2)))]) := by
  refine KK.of (lv0 := [(0, .ref n0), (1, .int p0)]) (by decide) rfl (Nat.le_of_ble_eq_true rfl) ?_
  intro p e s m args below meth c A C hr hk hin
  refine j_aload_n (pc := 0) C dX7_remove_0 rfl 0 rfl ?_
  refine j_get (pc := 1) (ci := 7) (v := .ref n1) C inw_7 0 rfl rfl 0 (by decide) wd_2 rfl rfl dX7_remove_1 ?_
  refine j_iload_n (pc := 4) C dX7_remove_4 rfl 1 rfl ?_
  obtain ⟨v_1, ev_1⟩ : ∃ z, n_shelf (p0).toInt.toNat = z := ⟨_, rfl⟩
  have env_1 : (n_shelf (p0).toInt.toNat).toInt = v_1.toInt := by rw [ev_1]
  have hv_1 := h_n_shelf (p0).toInt.toNat (i_lt_n h_p0.1 (Int.lt_of_le_of_lt h_p0.2 (by decide))); rw [ev_1] at hv_1
  refine j_iald (pc := 5) (v := v_1) (k := (p0).toInt.toNat) C 1 1 rfl rfl (i_nn h_p0.1) rfl (i_lt_n h_p0.1 (Int.lt_of_le_of_lt h_p0.2 (by decide))) ev_1 dX7_remove_5 ?_
  refine j_istore_n (pc := 6) (lv' := [(2, .int v_1), (0, .ref n0), (1, .int p0)]) C dX7_remove_6 rfl (by decide) rfl ?_
  refine j_aload_n (pc := 7) C dX7_remove_7 rfl 1 rfl ?_
  refine j_iload_n (pc := 8) C dX7_remove_8 rfl 2 rfl ?_
  refine j_callV (pc := 9) (As := [.int p0]) (rest := []) (wr := []) C (c_X7_sinkAbove l D cyC cyI cyJ cyZ cyO n0 n1 n2 n3 n4 p0 n_askings n_cost n_laid n_shelf n_stack n_level h_n_askings h_n_laid h_p0 h_n_shelf h_n_stack h_n_level) wd_58 wd_9 wd_59 wd_60 wd_61 ⟨by decide, by decide, rfl⟩ rfl ⟨rfl, rfl, by decide, by decide⟩ ⟨by decide, by decide⟩ [0, 1, 2, 3] [] rfl rfl ⟨by decide, by decide, by decide⟩ 0 rfl rfl rfl (Nat.le_of_ble_eq_true rfl) dX7_remove_9 (fun u_2 hw_3 => ?_)
  refine j_eq (ws2 := [(n0, .inr (7, [.ref n1, .ref n2, .ref n3, .ref n4, .int n_askings, .int n_cost, .int n_laid])), (n1, .inl (cyI, 12, .inl n_shelf)), (n2, .inl (cyI, 12, .inl n_stack)), (n3, .inl (cyI, 12, .inl (u_2.2.2.1 0)))]) (pc2 := 12) (lv2 := [(2, .int v_1), (0, .ref n0), (1, .int p0)]) (st2 := []) rfl rfl rfl rfl ?_
  obtain ⟨hw_3_0, hw_3_1⟩ := hw_3
  refine j_aload_n (pc := 12) C dX7_remove_12 rfl 1 rfl ?_
  refine j_get (pc := 13) (ci := 7) (v := .ref n1) C inw_7 0 rfl rfl 0 (by decide) wd_2 rfl rfl dX7_remove_13 ?_
  refine j_iload_n (pc := 16) C dX7_remove_16 rfl 2 rfl ?_
  refine j_iconst (pc := 17) (v := (-1)) C dX7_remove_17 (by decide) ?_
  obtain ⟨f_4, ef_4⟩ : ∃ z, z = upd n_shelf (p0).toInt.toNat (-1) := ⟨_, rfl⟩
  have el_m1 : ((-1) : Int32).toInt = (-1) := rfl
  have hf_4 : Iv 12 (-1) (3) f_4 := by rw [ef_4]; exact Iv.upd h_n_shelf (by omega) (by omega)
  refine j_iast (pc := 18) (k := (p0).toInt.toNat) (ws' := [(n0, .inr (7, [.ref n1, .ref n2, .ref n3, .ref n4, .int n_askings, .int n_cost, .int n_laid])), (n1, .inl (cyI, 12, .inl f_4)), (n2, .inl (cyI, 12, .inl n_stack)), (n3, .inl (cyI, 12, .inl (u_2.2.2.1 0)))]) C 1 1 rfl rfl (i_nn h_p0.1) rfl (i_lt_n h_p0.1 (Int.lt_of_le_of_lt h_p0.2 (by decide))) dX7_remove_18 (by rw [ef_4]; rfl) ?_
  refine j_aload_n (pc := 19) C dX7_remove_19 rfl 1 rfl ?_
  refine j_iload_n (pc := 20) C dX7_remove_20 rfl 0 rfl ?_
  refine j_aload_n (pc := 21) C dX7_remove_21 rfl 1 rfl ?_
  refine j_get (pc := 22) (ci := 7) (v := .ref n2) C inw_7 0 rfl rfl 1 (by decide) wd_3 rfl rfl dX7_remove_22 ?_
  refine j_iload_n (pc := 25) C dX7_remove_25 rfl 2 rfl ?_
  obtain ⟨v_5, ev_5⟩ : ∃ z, n_stack (p0).toInt.toNat = z := ⟨_, rfl⟩
  have env_5 : (n_stack (p0).toInt.toNat).toInt = v_5.toInt := by rw [ev_5]
  have hv_5 := h_n_stack (p0).toInt.toNat (i_lt_n h_p0.1 (Int.lt_of_le_of_lt h_p0.2 (by decide))); rw [ev_5] at hv_5
  refine j_iald (pc := 26) (v := v_5) (k := (p0).toInt.toNat) C 2 1 rfl rfl (i_nn h_p0.1) rfl (i_lt_n h_p0.1 (Int.lt_of_le_of_lt h_p0.2 (by decide))) ev_5 dX7_remove_26 ?_
  refine j_callV (pc := 27) (As := [.int v_1, .int v_5]) (rest := []) (wr := [(n3, .inl (cyI, 12, .inl (u_2.2.2.1 0)))]) C (c_X7_size l D cyC cyI cyJ cyZ cyO n0 n1 n2 n3 n4 v_1 v_5 n_askings n_cost n_laid f_4 n_stack h_n_askings h_n_laid hf_4 h_n_stack) wd_54 wd_9 wd_55 wd_56 wd_57 ⟨by decide, by decide, rfl⟩ rfl ⟨rfl, rfl, by decide, by decide⟩ ⟨by decide, by decide⟩ [0, 1, 2] [3] rfl rfl ⟨by decide, by decide, by decide⟩ 0 rfl rfl rfl (Nat.le_of_ble_eq_true rfl) dX7_remove_27 (fun u_6 hw_7 => ?_)
  refine j_eq (ws2 := [(n3, .inl (cyI, 12, .inl (u_2.2.2.1 0))), (n0, .inr (7, [.ref n1, .ref n2, .ref n3, .ref n4, .int n_askings, .int n_cost, .int n_laid])), (n1, .inl (cyI, 12, .inl f_4)), (n2, .inl (cyI, 12, .inl n_stack))]) (pc2 := 30) (lv2 := [(2, .int v_1), (0, .ref n0), (1, .int p0)]) (st2 := [.int (u_6.2.1 0)]) rfl rfl rfl rfl ?_
  obtain ⟨hw_7_0, hw_7_1⟩ := hw_7
  refine j_if_ne (pc := 30) (tgt := 44) C dX7_remove_30 (by decide) (fun c_8 => ?_) (fun c_8 => ?_)
  · skip
    have el_0 : (0 : Int32).toInt = 0 := rfl
    rw [i_eq] at c_8
    exact j_vret (pc := 44) C hr hk (fun i => [].getD i 0, fun i => [].getD i 0, fun i => [f_4, n_stack, (u_2.2.2.1 0)].getD i (fun _ => 0), fun i => [].getD i (fun _ => 0)) rfl (show (Iv 12 (-1) (3) f_4) ∧ (Iv 12 (0) (7) n_stack) ∧ (Iv 12 (0) (11) (u_2.2.2.1 0)) ∧ (f_4 = upd n_shelf (p0).toInt.toNat (-1)) ∧ (∀ j : Nat, j < 12 → ((u_2.2.2.1 0) j).toInt = (snk n_shelf n_stack n_level (p0).toInt.toNat) j) ∧ (∀ j : Nat, j < 12 → (n_stack j).toInt = rmS f_4 n_stack (n_shelf (p0).toInt.toNat) (n_stack (p0).toInt.toNat) j) from ⟨hf_4, h_n_stack, hw_3_0, ef_4, hw_3_1, (fun j hj => by rw [ev_1, ev_5]; exact (if_neg (by have y9 := hw_7_1; omega)).symm)⟩) [1, 2, 3, 0] (by decide) rfl (by decide) (by decide) dX7_remove_44
  · skip
    have el_0 : (0 : Int32).toInt = 0 := rfl
    rw [i_eq] at c_8
    refine j_aload_n (pc := 33) C dX7_remove_33 rfl 1 rfl ?_
    refine j_iload_n (pc := 34) C dX7_remove_34 rfl 0 rfl ?_
    refine j_aload_n (pc := 35) C dX7_remove_35 rfl 1 rfl ?_
    refine j_get (pc := 36) (ci := 7) (v := .ref n2) C inw_7 1 rfl rfl 1 (by decide) wd_3 rfl rfl dX7_remove_36 ?_
    refine j_iload_n (pc := 39) C dX7_remove_39 rfl 2 rfl ?_
    refine j_iald (pc := 40) (v := v_5) (k := (p0).toInt.toNat) C 3 1 rfl rfl (i_nn h_p0.1) rfl (i_lt_n h_p0.1 (Int.lt_of_le_of_lt h_p0.2 (by decide))) ev_5 dX7_remove_40 ?_
    refine j_callV (pc := 41) (As := [.int v_1, .int v_5]) (rest := []) (wr := [(n3, .inl (cyI, 12, .inl (u_2.2.2.1 0)))]) C (c_X7_closeGap l D cyC cyI cyJ cyZ cyO n0 n1 n2 n3 n4 v_1 v_5 n_askings n_cost n_laid f_4 n_stack h_n_askings h_n_laid hv_5 hf_4 h_n_stack) wd_62 wd_9 wd_63 wd_64 wd_65 ⟨by decide, by decide, rfl⟩ rfl ⟨rfl, rfl, by decide, by decide⟩ ⟨by decide, by decide⟩ [1, 2, 3] [0] rfl rfl ⟨by decide, by decide, by decide⟩ 1 rfl rfl rfl (Nat.le_of_ble_eq_true rfl) dX7_remove_41 (fun u_9 hw_10 => ?_)
    refine j_eq (ws2 := [(n3, .inl (cyI, 12, .inl (u_2.2.2.1 0))), (n0, .inr (7, [.ref n1, .ref n2, .ref n3, .ref n4, .int n_askings, .int n_cost, .int n_laid])), (n1, .inl (cyI, 12, .inl f_4)), (n2, .inl (cyI, 12, .inl (u_9.2.2.1 0)))]) (pc2 := 44) (lv2 := [(2, .int v_1), (0, .ref n0), (1, .int p0)]) (st2 := []) rfl rfl rfl rfl ?_
    obtain ⟨hw_10_0, hw_10_1⟩ := hw_10
    exact j_vret (pc := 44) C hr hk (fun i => [].getD i 0, fun i => [].getD i 0, fun i => [f_4, (u_9.2.2.1 0), (u_2.2.2.1 0)].getD i (fun _ => 0), fun i => [].getD i (fun _ => 0)) rfl (show (Iv 12 (-1) (3) f_4) ∧ (Iv 12 (0) (7) (u_9.2.2.1 0)) ∧ (Iv 12 (0) (11) (u_2.2.2.1 0)) ∧ (f_4 = upd n_shelf (p0).toInt.toNat (-1)) ∧ (∀ j : Nat, j < 12 → ((u_2.2.2.1 0) j).toInt = (snk n_shelf n_stack n_level (p0).toInt.toNat) j) ∧ (∀ j : Nat, j < 12 → ((u_9.2.2.1 0) j).toInt = rmS f_4 n_stack (n_shelf (p0).toInt.toNat) (n_stack (p0).toInt.toNat) j) from ⟨hf_4, hw_10_0, hw_3_0, ef_4, hw_3_1, (fun j hj => by rw [ev_1, ev_5, show rmS f_4 n_stack v_1 v_5 j = gpf f_4 n_stack v_1 v_5 j from if_pos (by have y9 := hw_7_1; omega)]; exact hw_10_1 j hj)⟩) [1, 2, 3, 0] (by decide) rfl (by decide) (by decide) dX7_remove_44
set_option maxHeartbeats 4000000 in
set_option maxRecDepth 100000 in
theorem c_X7_raise (l : Launch) (D : DG) (cyC cyI cyJ cyZ cyO : ClassId) (n0 : Nat) (n1 : Nat) (n2 : Nat) (n3 : Nat) (n4 : Nat) (p0 : Int32) (n_askings : Int32) (n_cost : Int32) (n_laid : Int32) (n_shelf : Nat → Int32) (n_stack : Nat → Int32) (n_level : Nat → Int32) (h_n_askings : 0 ≤ (n_askings).toInt ∧ (n_askings).toInt ≤ 30) (h_n_laid : 0 ≤ (n_laid).toInt ∧ (n_laid).toInt ≤ 1) (h_p0 : 0 ≤ (p0).toInt ∧ (p0).toInt ≤ 11) (h_n_shelf : Iv 12 (-1) (3) n_shelf) (h_n_stack : Iv 12 (0) (7) n_stack) (h_n_level : Iv 12 (0) (11) n_level) : KK l D (TY cyC cyI cyJ cyZ cyO) yX7_raise cX7_raise 2 none ({ frames := 2, cells := 0, slots := 0, locals := 47 } : Room) 0 0 [.ref n0, .int p0] [(n0, .inr (7, [.ref n1, .ref n2, .ref n3, .ref n4, .int n_askings, .int n_cost, .int n_laid])), (n1, .inl (cyI, 12, .inl n_shelf)), (n2, .inl (cyI, 12, .inl n_stack)), (n3, .inl (cyI, 12, .inl n_level))] (fun u => none) (fun u => (Iv 12 (0) (11) (u.2.2.1 0)) ∧ (∀ j : Nat, j < 12 → ((u.2.2.1 0) j).toInt = rsS n_shelf n_stack n_level (p0).toInt.toNat j)) (fun u => [(n0, .inr (7, [.ref n1, .ref n2, .ref n3, .ref n4, .int n_askings, .int n_cost, .int n_laid])), (n1, .inl (cyI, 12, .inl n_shelf)), (n2, .inl (cyI, 12, .inl n_stack)), (n3, .inl (cyI, 12, .inl (u.2.2.1 0)))]) := by
  refine KK.of (lv0 := [(0, .ref n0), (1, .int p0)]) (by decide) rfl (Nat.le_of_ble_eq_true rfl) ?_
  intro p e s m args below meth c A C hr hk hin
  refine j_aload_n (pc := 0) C dX7_raise_0 rfl 0 rfl ?_
  refine j_iload_n (pc := 1) C dX7_raise_1 rfl 1 rfl ?_
  refine j_callV (pc := 2) (As := [.int p0]) (rest := []) (wr := []) C (c_X7_sinkAbove l D cyC cyI cyJ cyZ cyO n0 n1 n2 n3 n4 p0 n_askings n_cost n_laid n_shelf n_stack n_level h_n_askings h_n_laid h_p0 h_n_shelf h_n_stack h_n_level) wd_58 wd_9 wd_59 wd_60 wd_61 ⟨by decide, by decide, rfl⟩ rfl ⟨rfl, rfl, by decide, by decide⟩ ⟨by decide, by decide⟩ [0, 1, 2, 3] [] rfl rfl ⟨by decide, by decide, by decide⟩ 0 rfl rfl rfl (Nat.le_of_ble_eq_true rfl) dX7_raise_2 (fun u_1 hw_2 => ?_)
  refine j_eq (ws2 := [(n0, .inr (7, [.ref n1, .ref n2, .ref n3, .ref n4, .int n_askings, .int n_cost, .int n_laid])), (n1, .inl (cyI, 12, .inl n_shelf)), (n2, .inl (cyI, 12, .inl n_stack)), (n3, .inl (cyI, 12, .inl (u_1.2.2.1 0)))]) (pc2 := 5) (lv2 := [(0, .ref n0), (1, .int p0)]) (st2 := []) rfl rfl rfl rfl ?_
  obtain ⟨hw_2_0, hw_2_1⟩ := hw_2
  refine j_aload_n (pc := 5) C dX7_raise_5 rfl 0 rfl ?_
  refine j_get (pc := 6) (ci := 7) (v := .ref n3) C inw_7 0 rfl rfl 2 (by decide) wd_21 rfl rfl dX7_raise_6 ?_
  refine j_iload_n (pc := 9) C dX7_raise_9 rfl 1 rfl ?_
  refine j_aload_n (pc := 10) C dX7_raise_10 rfl 0 rfl ?_
  refine j_aload_n (pc := 11) C dX7_raise_11 rfl 0 rfl ?_
  refine j_get (pc := 12) (ci := 7) (v := .ref n1) C inw_7 0 rfl rfl 0 (by decide) wd_2 rfl rfl dX7_raise_12 ?_
  refine j_iload_n (pc := 15) C dX7_raise_15 rfl 1 rfl ?_
  obtain ⟨v_3, ev_3⟩ : ∃ z, n_shelf (p0).toInt.toNat = z := ⟨_, rfl⟩
  have env_3 : (n_shelf (p0).toInt.toNat).toInt = v_3.toInt := by rw [ev_3]
  have hv_3 := h_n_shelf (p0).toInt.toNat (i_lt_n h_p0.1 (Int.lt_of_le_of_lt h_p0.2 (by decide))); rw [ev_3] at hv_3
  refine j_iald (pc := 16) (v := v_3) (k := (p0).toInt.toNat) C 1 1 rfl rfl (i_nn h_p0.1) rfl (i_lt_n h_p0.1 (Int.lt_of_le_of_lt h_p0.2 (by decide))) ev_3 dX7_raise_16 ?_
  refine j_aload_n (pc := 17) C dX7_raise_17 rfl 0 rfl ?_
  refine j_get (pc := 18) (ci := 7) (v := .ref n2) C inw_7 0 rfl rfl 1 (by decide) wd_3 rfl rfl dX7_raise_18 ?_
  refine j_iload_n (pc := 21) C dX7_raise_21 rfl 1 rfl ?_
  obtain ⟨v_4, ev_4⟩ : ∃ z, n_stack (p0).toInt.toNat = z := ⟨_, rfl⟩
  have env_4 : (n_stack (p0).toInt.toNat).toInt = v_4.toInt := by rw [ev_4]
  have hv_4 := h_n_stack (p0).toInt.toNat (i_lt_n h_p0.1 (Int.lt_of_le_of_lt h_p0.2 (by decide))); rw [ev_4] at hv_4
  refine j_iald (pc := 22) (v := v_4) (k := (p0).toInt.toNat) C 2 1 rfl rfl (i_nn h_p0.1) rfl (i_lt_n h_p0.1 (Int.lt_of_le_of_lt h_p0.2 (by decide))) ev_4 dX7_raise_22 ?_
  refine j_callV (pc := 23) (As := [.int v_3, .int v_4]) (rest := [.int p0, .ref n3]) (wr := [(n3, .inl (cyI, 12, .inl (u_1.2.2.1 0)))]) C (c_X7_size l D cyC cyI cyJ cyZ cyO n0 n1 n2 n3 n4 v_3 v_4 n_askings n_cost n_laid n_shelf n_stack h_n_askings h_n_laid h_n_shelf h_n_stack) wd_54 wd_9 wd_55 wd_56 wd_57 ⟨by decide, by decide, rfl⟩ rfl ⟨rfl, rfl, by decide, by decide⟩ ⟨by decide, by decide⟩ [0, 1, 2] [3] rfl rfl ⟨by decide, by decide, by decide⟩ 0 rfl rfl rfl (Nat.le_of_ble_eq_true rfl) dX7_raise_23 (fun u_5 hw_6 => ?_)
  refine j_eq (ws2 := [(n3, .inl (cyI, 12, .inl (u_1.2.2.1 0))), (n0, .inr (7, [.ref n1, .ref n2, .ref n3, .ref n4, .int n_askings, .int n_cost, .int n_laid])), (n1, .inl (cyI, 12, .inl n_shelf)), (n2, .inl (cyI, 12, .inl n_stack))]) (pc2 := 26) (lv2 := [(0, .ref n0), (1, .int p0)]) (st2 := [.int (u_5.2.1 0), .int p0, .ref n3]) rfl rfl rfl rfl ?_
  obtain ⟨hw_6_0, hw_6_1⟩ := hw_6
  have hz9 := cnB_ge (P := std n_shelf n_stack v_3 v_4) (w := (p0).toInt.toNat) (std_iff.mpr ⟨ev_3, ev_4⟩) 12 (by omega)
  have hz8 := hw_6_1
  refine j_iconst (pc := 26) (v := 1) C dX7_raise_26 (by decide) ?_
  obtain ⟨v_7, ev_7⟩ : ∃ z : Int32, (u_5.2.1 0) - 1 = z := ⟨_, rfl⟩
  have el_1 : (1 : Int32).toInt = 1 := rfl
  have hv_7 : v_7.toInt = ((u_5.2.1 0)).toInt - (1 : Int32).toInt := by rw [← ev_7]; exact fb_subI (by omega) (by omega)
  refine j_isub (pc := 27) (v := v_7) C dX7_raise_27 ev_7 ?_
  obtain ⟨f_8, ef_8⟩ : ∃ z, z = upd (u_1.2.2.1 0) (p0).toInt.toNat v_7 := ⟨_, rfl⟩
  have hf_8 : Iv 12 (0) (11) f_8 := by rw [ef_8]; exact Iv.upd hw_2_0 (by omega) (by omega)
  refine j_iast (pc := 28) (k := (p0).toInt.toNat) (ws' := [(n3, .inl (cyI, 12, .inl f_8)), (n0, .inr (7, [.ref n1, .ref n2, .ref n3, .ref n4, .int n_askings, .int n_cost, .int n_laid])), (n1, .inl (cyI, 12, .inl n_shelf)), (n2, .inl (cyI, 12, .inl n_stack))]) C 0 1 rfl rfl (i_nn h_p0.1) rfl (i_lt_n h_p0.1 (Int.lt_of_le_of_lt h_p0.2 (by decide))) dX7_raise_28 (by rw [ef_8]; rfl) ?_
  exact j_vret (pc := 29) C hr hk (fun i => [].getD i 0, fun i => [].getD i 0, fun i => [f_8].getD i (fun _ => 0), fun i => [].getD i (fun _ => 0)) rfl (show (Iv 12 (0) (11) f_8) ∧ (∀ j : Nat, j < 12 → (f_8 j).toInt = rsS n_shelf n_stack n_level (p0).toInt.toNat j) from ⟨hf_8, (fun j hj => by by_cases q : j = (p0).toInt.toNat; (rw [q, ef_8, pk_us, show rsS n_shelf n_stack n_level (p0).toInt.toNat (p0).toInt.toNat = ((cnB (std n_shelf n_stack (n_shelf (p0).toInt.toNat) (n_stack (p0).toInt.toNat)) 12 : Nat) : Int) - 1 from if_pos rfl, ev_3, ev_4]; omega); (rw [ef_8, pk_un q, show rsS n_shelf n_stack n_level (p0).toInt.toNat j = (snk n_shelf n_stack n_level (p0).toInt.toNat) j from if_neg q]; exact hw_2_1 j hj))⟩) [1, 2, 3, 0] (by decide) rfl (by decide) (by decide) dX7_raise_29
set_option maxHeartbeats 4000000 in
set_option maxRecDepth 100000 in
theorem c_X7_move (l : Launch) (D : DG) (cyC cyI cyJ cyZ cyO : ClassId) (n0 : Nat) (n1 : Nat) (n2 : Nat) (n3 : Nat) (n4 : Nat) (p0 : Int32) (p1 : Int32) (p2 : Int32) (n_askings : Int32) (n_cost : Int32) (n_laid : Int32) (n_shelf : Nat → Int32) (n_stack : Nat → Int32) (h_n_askings : 0 ≤ (n_askings).toInt ∧ (n_askings).toInt ≤ 30) (h_n_laid : 0 ≤ (n_laid).toInt ∧ (n_laid).toInt ≤ 1) (h_p0 : 0 ≤ (p0).toInt ∧ (p0).toInt ≤ 3) (h_p1 : 0 ≤ (p1).toInt ∧ (p1).toInt ≤ 7) (h_p2 : 0 ≤ (p2).toInt ∧ (p2).toInt ≤ 3) (h_n_shelf : Iv 12 (-1) (3) n_shelf) (h_n_stack : Iv 12 (0) (7) n_stack) (hst : (stF n_shelf n_stack p2 12).toInt ≤ 7) : KK l D (TY cyC cyI cyJ cyZ cyO) yX7_move cX7_move 6 none ({ frames := 2, cells := 0, slots := 0, locals := 36 } : Room) 0 0 [.ref n0, .int p0, .int p1, .int p2] [(n0, .inr (7, [.ref n1, .ref n2, .ref n3, .ref n4, .int n_askings, .int n_cost, .int n_laid])), (n1, .inl (cyI, 12, .inl n_shelf)), (n2, .inl (cyI, 12, .inl n_stack))] (fun u => none) (fun u => (Iv 12 (-1) (3) (u.2.2.1 0)) ∧ (Iv 12 (0) (7) (u.2.2.1 1)) ∧ (∀ j : Nat, j < 12 → ((u.2.2.1 0) j).toInt = (mvS n_shelf n_stack p0 p1 p2) j) ∧ (∀ j : Nat, j < 12 → ((u.2.2.1 1) j).toInt = mvG n_shelf n_stack p0 p1 p2 (stF n_shelf n_stack p2 12) j)) (fun u => [(n0, .inr (7, [.ref n1, .ref n2, .ref n3, .ref n4, .int n_askings, .int n_cost, .int n_laid])), (n1, .inl (cyI, 12, .inl (u.2.2.1 0))), (n2, .inl (cyI, 12, .inl (u.2.2.1 1)))]) := by
  refine KK.of (lv0 := [(0, .ref n0), (1, .int p0), (2, .int p1), (3, .int p2)]) (by decide) rfl (Nat.le_of_ble_eq_true rfl) ?_
  intro p e s m args below meth c A C hr hk hin
  refine j_aload_n (pc := 0) C dX7_move_0 rfl 0 rfl ?_
  refine j_iload_n (pc := 1) C dX7_move_1 rfl 3 rfl ?_
  refine j_callV (pc := 2) (As := [.int p2]) (rest := []) (wr := []) C (c_X7_stacks l D cyC cyI cyJ cyZ cyO n0 n1 n2 n3 n4 p2 n_askings n_cost n_laid n_shelf n_stack h_n_askings h_n_laid h_n_shelf h_n_stack) wd_66 wd_9 wd_67 wd_68 wd_69 ⟨by decide, by decide, rfl⟩ rfl ⟨rfl, rfl, by decide, by decide⟩ ⟨by decide, by decide⟩ [0, 1, 2] [] rfl rfl ⟨by decide, by decide, by decide⟩ 0 rfl rfl rfl (Nat.le_of_ble_eq_true rfl) dX7_move_2 (fun u_1 hw_2 => ?_)
  refine j_eq (ws2 := [(n0, .inr (7, [.ref n1, .ref n2, .ref n3, .ref n4, .int n_askings, .int n_cost, .int n_laid])), (n1, .inl (cyI, 12, .inl n_shelf)), (n2, .inl (cyI, 12, .inl n_stack))]) (pc2 := 5) (lv2 := [(0, .ref n0), (1, .int p0), (2, .int p1), (3, .int p2)]) (st2 := [.int (u_1.2.1 0)]) rfl rfl rfl rfl ?_
  obtain ⟨hw_2_0, hw_2_1⟩ := hw_2
  have hz9 : (u_1.2.1 0).toInt ≤ 7 := by rw [hw_2_1]; exact hst
  refine j_istore (pc := 5) (lv' := [(4, .int (u_1.2.1 0)), (0, .ref n0), (1, .int p0), (2, .int p1), (3, .int p2)]) C dX7_move_5 (by decide) rfl ?_
  refine j_iconst (pc := 7) (v := 0) C dX7_move_7 (by decide) ?_
  refine j_istore (pc := 8) (lv' := [(5, .int 0), (4, .int (u_1.2.1 0)), (0, .ref n0), (1, .int p0), (2, .int p1), (3, .int p2)]) C dX7_move_8 (by decide) rfl ?_
  have loop_3 : ∀ (k_3 : Nat) (x3_5 : Int32) (g3_n1 : Nat → Int32) (g3_n2 : Nat → Int32), (0 ≤ (x3_5).toInt ∧ (x3_5).toInt ≤ 12) → (Iv 12 (-1) (3) g3_n1) → (Iv 12 (0) (7) g3_n2) → (PWI (mvS n_shelf n_stack p0 p1 p2) n_shelf g3_n1 x3_5.toInt) → (PWI (mvT n_shelf n_stack p0 p1 (u_1.2.1 0)) n_stack g3_n2 x3_5.toInt) → (12 - x3_5.toInt).toNat < k_3 → J p l e ({ frames := 2, cells := 0, slots := 0, locals := 36 } : Room) s m args below meth c D A 6 0 0 (QX below D (TY cyC cyI cyJ cyZ cyO) A (fun u => none) (fun u => (Iv 12 (-1) (3) (u.2.2.1 0)) ∧ (Iv 12 (0) (7) (u.2.2.1 1)) ∧ (∀ j : Nat, j < 12 → ((u.2.2.1 0) j).toInt = (mvS n_shelf n_stack p0 p1 p2) j) ∧ (∀ j : Nat, j < 12 → ((u.2.2.1 1) j).toInt = mvG n_shelf n_stack p0 p1 p2 (stF n_shelf n_stack p2 12) j)) (fun u => [(n0, .inr (7, [.ref n1, .ref n2, .ref n3, .ref n4, .int n_askings, .int n_cost, .int n_laid])), (n1, .inl (cyI, 12, .inl (u.2.2.1 0))), (n2, .inl (cyI, 12, .inl (u.2.2.1 1)))]) args s 0 0) [(n0, .inr (7, [.ref n1, .ref n2, .ref n3, .ref n4, .int n_askings, .int n_cost, .int n_laid])), (n1, .inl (cyI, 12, .inl g3_n1)), (n2, .inl (cyI, 12, .inl g3_n2))] 10 [(5, .int x3_5), (4, .int (u_1.2.1 0)), (0, .ref n0), (1, .int p0), (2, .int p1), (3, .int p2)] [] := by
    intro k_3
    induction k_3 with
    | zero =>
      intro x3_5 g3_n1 g3_n2 hi_3_0 hi_3_1 hi_3_2 hq_3_0 hq_3_1 hm_3
      exact absurd hm_3 (Nat.not_lt_zero _)
    | succ k_3 ih_3 =>
      intro x3_5 g3_n1 g3_n2 hi_3_0 hi_3_1 hi_3_2 hq_3_0 hq_3_1 hm_3
      refine j_iload (pc := 10) C dX7_move_10 0 rfl ?_
      refine j_bipush (pc := 12) (v := 12) C dX7_move_12 (by decide) ?_
      refine j_icmp_ge (pc := 14) (tgt := 51) C dX7_move_14 (by decide) (fun c_4 => ?_) (fun c_4 => ?_)
      · skip
        have el_12 : (12 : Int32).toInt = 12 := rfl
        rw [i_le] at c_4
        have k0c_4 : x3_5.toInt = 12 := by omega
        refine j_aload_n (pc := 51) C dX7_move_51 rfl 2 rfl ?_
        refine j_iload_n (pc := 52) C dX7_move_52 rfl 3 rfl ?_
        refine j_iload_n (pc := 53) C dX7_move_53 rfl 4 rfl ?_
        refine j_callV (pc := 54) (As := [.int p0, .int p1]) (rest := []) (wr := []) C (c_X7_closeGap l D cyC cyI cyJ cyZ cyO n0 n1 n2 n3 n4 p0 p1 n_askings n_cost n_laid g3_n1 g3_n2 h_n_askings h_n_laid h_p1 hi_3_1 hi_3_2) wd_62 wd_9 wd_63 wd_64 wd_65 ⟨by decide, by decide, rfl⟩ rfl ⟨rfl, rfl, by decide, by decide⟩ ⟨by decide, by decide⟩ [0, 1, 2] [] rfl rfl ⟨by decide, by decide, by decide⟩ 0 rfl rfl rfl (Nat.le_of_ble_eq_true rfl) dX7_move_54 (fun u_5 hw_6 => ?_)
        refine j_eq (ws2 := [(n0, .inr (7, [.ref n1, .ref n2, .ref n3, .ref n4, .int n_askings, .int n_cost, .int n_laid])), (n1, .inl (cyI, 12, .inl g3_n1)), (n2, .inl (cyI, 12, .inl (u_5.2.2.1 0)))]) (pc2 := 57) (lv2 := [(5, .int x3_5), (4, .int (u_1.2.1 0)), (0, .ref n0), (1, .int p0), (2, .int p1), (3, .int p2)]) (st2 := []) rfl rfl rfl rfl ?_
        obtain ⟨hw_6_0, hw_6_1⟩ := hw_6
        exact j_vret (pc := 57) C hr hk (fun i => [].getD i 0, fun i => [].getD i 0, fun i => [g3_n1, (u_5.2.2.1 0)].getD i (fun _ => 0), fun i => [].getD i (fun _ => 0)) rfl (show (Iv 12 (-1) (3) g3_n1) ∧ (Iv 12 (0) (7) (u_5.2.2.1 0)) ∧ (∀ j : Nat, j < 12 → (g3_n1 j).toInt = (mvS n_shelf n_stack p0 p1 p2) j) ∧ (∀ j : Nat, j < 12 → ((u_5.2.2.1 0) j).toInt = mvG n_shelf n_stack p0 p1 p2 (stF n_shelf n_stack p2 12) j) from ⟨hi_3_1, hw_6_0, (PWI.fin hq_3_0 (by omega)), (fun j hj => by rw [← hw_2_1, ← gpf_mv (g1 := g3_n1) (g2 := g3_n2) (PWI.fin hq_3_0 (by omega) j hj) (PWI.fin hq_3_1 (by omega) j hj)]; exact hw_6_1 j hj)⟩) [0, 1, 2] (by decide) rfl (by decide) (by decide) dX7_move_57
      · skip
        have el_12 : (12 : Int32).toInt = 12 := rfl
        rw [i_le] at c_4
        refine j_aload_n (pc := 17) C dX7_move_17 rfl 2 rfl ?_
        refine j_iload (pc := 18) C dX7_move_18 0 rfl ?_
        refine j_iload_n (pc := 20) C dX7_move_20 rfl 3 rfl ?_
        refine j_iload_n (pc := 21) C dX7_move_21 rfl 4 rfl ?_
        refine j_callV (pc := 22) (As := [.int x3_5, .int p0, .int p1]) (rest := []) (wr := []) C (c_X7_stands l D cyC cyI cyJ cyZ cyO n0 n1 n2 n3 n4 x3_5 p0 p1 n_askings n_cost n_laid g3_n1 g3_n2 h_n_askings h_n_laid (by omega) hi_3_1 hi_3_2) wd_8 wd_9 wd_10 wd_11 wd_12 ⟨by decide, by decide, rfl⟩ rfl ⟨rfl, rfl, by decide, by decide⟩ ⟨by decide, by decide⟩ [0, 1, 2] [] rfl rfl ⟨by decide, by decide, by decide⟩ 0 rfl rfl rfl (Nat.le_of_ble_eq_true rfl) dX7_move_22 (fun u_7 hw_8 => ?_)
        refine j_eq (ws2 := [(n0, .inr (7, [.ref n1, .ref n2, .ref n3, .ref n4, .int n_askings, .int n_cost, .int n_laid])), (n1, .inl (cyI, 12, .inl g3_n1)), (n2, .inl (cyI, 12, .inl g3_n2))]) (pc2 := 25) (lv2 := [(5, .int x3_5), (4, .int (u_1.2.1 0)), (0, .ref n0), (1, .int p0), (2, .int p1), (3, .int p2)]) (st2 := [.int (u_7.2.1 0)]) rfl rfl rfl rfl ?_
        obtain ⟨hw_8_0, hw_8_1, hw_8_2⟩ := hw_8
        refine j_if_eq (pc := 25) (tgt := 45) C dX7_move_25 (by decide) (fun c_9 => ?_) (fun c_9 => ?_)
        · skip
          have el_0 : (0 : Int32).toInt = 0 := rfl
          rw [i_eq] at c_9
          obtain ⟨v_10, ev_10⟩ : ∃ z : Int32, x3_5 + 1 = z := ⟨_, rfl⟩
          have el_1 : (1 : Int32).toInt = 1 := rfl
          have hv_10 : v_10.toInt = x3_5.toInt + (1 : Int32).toInt := by rw [← ev_10]; exact fb_addI (by omega) (by omega)
          refine j_iinc (pc := 45) (v := v_10) (lv' := [(5, .int v_10), (4, .int (u_1.2.1 0)), (0, .ref n0), (1, .int p0), (2, .int p1), (3, .int p2)]) C dX7_move_45 0 rfl ev_10 (by decide) rfl ?_
          refine j_goto (pc := 48) (tgt := 10) C dX7_move_48 (by decide) ?_
          exact j_lv [0, 1, 2, 3, 4, 5] rfl (ih_3 v_10 g3_n1 g3_n2 (by omega) hi_3_1 hi_3_2 (PWI.step hq_3_0 (by omega) (by omega) (fun j hj => rfl) (by have y1 := PWI.at hq_3_0 (by omega) (by omega); have y2 := PWI.at hq_3_1 (by omega) (by omega); rw [y1]; exact (if_neg (fun z => by rcases hw_8_1 with h | h | h; omega; exact h (y1.trans z.1); exact h (y2.trans z.2))).symm)) (PWI.step hq_3_1 (by omega) (by omega) (fun j hj => rfl) (by have y1 := PWI.at hq_3_0 (by omega) (by omega); have y2 := PWI.at hq_3_1 (by omega) (by omega); rw [y2]; exact (if_neg (fun z => by rcases hw_8_1 with h | h | h; omega; exact h (y1.trans z.1); exact h (y2.trans z.2))).symm)) (by omega))
        · skip
          have el_0 : (0 : Int32).toInt = 0 := rfl
          rw [i_eq] at c_9
          have k0c_9 : ((u_7.2.1 0)).toInt = 1 := by omega
          refine j_aload_n (pc := 28) C dX7_move_28 rfl 2 rfl ?_
          refine j_get (pc := 29) (ci := 7) (v := .ref n1) C inw_7 0 rfl rfl 0 (by decide) wd_2 rfl rfl dX7_move_29 ?_
          refine j_iload (pc := 32) C dX7_move_32 0 rfl ?_
          refine j_iload_n (pc := 34) C dX7_move_34 rfl 5 rfl ?_
          obtain ⟨f_11, ef_11⟩ : ∃ z, z = upd g3_n1 (x3_5).toInt.toNat p2 := ⟨_, rfl⟩
          have hf_11 : Iv 12 (-1) (3) f_11 := by rw [ef_11]; exact Iv.upd hi_3_1 (by omega) (by omega)
          refine j_iast (pc := 35) (k := (x3_5).toInt.toNat) (ws' := [(n0, .inr (7, [.ref n1, .ref n2, .ref n3, .ref n4, .int n_askings, .int n_cost, .int n_laid])), (n1, .inl (cyI, 12, .inl f_11)), (n2, .inl (cyI, 12, .inl g3_n2))]) C 1 1 rfl rfl (i_nn hi_3_0.1) rfl (i_lt_n hi_3_0.1 (by omega)) dX7_move_35 (by rw [ef_11]; rfl) ?_
          refine j_aload_n (pc := 36) C dX7_move_36 rfl 2 rfl ?_
          refine j_get (pc := 37) (ci := 7) (v := .ref n2) C inw_7 0 rfl rfl 1 (by decide) wd_3 rfl rfl dX7_move_37 ?_
          refine j_iload (pc := 40) C dX7_move_40 0 rfl ?_
          refine j_iload (pc := 42) C dX7_move_42 1 rfl ?_
          obtain ⟨f_12, ef_12⟩ : ∃ z, z = upd g3_n2 (x3_5).toInt.toNat (u_1.2.1 0) := ⟨_, rfl⟩
          have hf_12 : Iv 12 (0) (7) f_12 := by rw [ef_12]; exact Iv.upd hi_3_2 (by omega) (by omega)
          refine j_iast (pc := 44) (k := (x3_5).toInt.toNat) (ws' := [(n0, .inr (7, [.ref n1, .ref n2, .ref n3, .ref n4, .int n_askings, .int n_cost, .int n_laid])), (n1, .inl (cyI, 12, .inl f_11)), (n2, .inl (cyI, 12, .inl f_12))]) C 2 1 rfl rfl (i_nn hi_3_0.1) rfl (i_lt_n hi_3_0.1 (by omega)) dX7_move_44 (by rw [ef_12]; rfl) ?_
          obtain ⟨v_13, ev_13⟩ : ∃ z : Int32, x3_5 + 1 = z := ⟨_, rfl⟩
          have el_1 : (1 : Int32).toInt = 1 := rfl
          have hv_13 : v_13.toInt = x3_5.toInt + (1 : Int32).toInt := by rw [← ev_13]; exact fb_addI (by omega) (by omega)
          refine j_iinc (pc := 45) (v := v_13) (lv' := [(5, .int v_13), (4, .int (u_1.2.1 0)), (0, .ref n0), (1, .int p0), (2, .int p1), (3, .int p2)]) C dX7_move_45 0 rfl ev_13 (by decide) rfl ?_
          refine j_goto (pc := 48) (tgt := 10) C dX7_move_48 (by decide) ?_
          exact j_lv [0, 1, 2, 3, 4, 5] rfl (ih_3 v_13 f_11 f_12 (by omega) hf_11 hf_12 (PWI.step hq_3_0 (by omega) (by omega) (fun j hj => by rw [ef_11]; exact pk_un hj) (by have y1 := PWI.at hq_3_0 (by omega) (by omega); have y2 := PWI.at hq_3_1 (by omega) (by omega); have y3 := (by rcases hw_8_2 with h | h; (exfalso; omega); exact h : g3_n1 (x3_5).toInt.toNat = p0 ∧ g3_n2 (x3_5).toInt.toNat = p1); rw [ef_11, pk_us]; exact (if_pos ⟨y1.symm.trans y3.1, y2.symm.trans y3.2⟩).symm)) (PWI.step hq_3_1 (by omega) (by omega) (fun j hj => by rw [ef_12]; exact pk_un hj) (by have y1 := PWI.at hq_3_0 (by omega) (by omega); have y2 := PWI.at hq_3_1 (by omega) (by omega); have y3 := (by rcases hw_8_2 with h | h; (exfalso; omega); exact h : g3_n1 (x3_5).toInt.toNat = p0 ∧ g3_n2 (x3_5).toInt.toNat = p1); rw [ef_12, pk_us]; exact (if_pos ⟨y1.symm.trans y3.1, y2.symm.trans y3.2⟩).symm)) (by omega))
  have el_0 : (0 : Int32).toInt = 0 := rfl
  exact j_lv [0, 1, 2, 3, 4, 5] rfl (loop_3 4096 0 n_shelf n_stack (by decide) h_n_shelf h_n_stack (PWI.zero rfl) (PWI.zero rfl) (by omega))
set_option maxHeartbeats 4000000 in
set_option maxRecDepth 100000 in
theorem c_X4_take (l : Launch) (D : DG) (cyC cyI cyJ cyZ cyO : ClassId) (q0 : Nat) (q1 : Nat) (n0 : Nat) (n1 : Nat) (n2 : Nat) (n3 : Nat) (n4 : Nat) (p0 : Int32) (p1 : Int32) (q_size : Int32) (n_askings : Int32) (n_cost : Int32) (n_laid : Int32) (q_ware : Nat → Int32) (n_shelf : Nat → Int32) (n_stack : Nat → Int32) (n_level : Nat → Int32) (h_q_size : 0 ≤ (q_size).toInt ∧ (q_size).toInt ≤ 12) (h_n_askings : 0 ≤ (n_askings).toInt ∧ (n_askings).toInt ≤ 30) (h_n_laid : 0 ≤ (n_laid).toInt ∧ (n_laid).toInt ≤ 1) (h_q_ware : Iv 12 (0) (11) q_ware) (h_n_shelf : Iv 12 (-1) (3) n_shelf) (h_n_stack : Iv 12 (0) (7) n_stack) (h_n_level : Iv 12 (0) (11) n_level) : KK l D (TY cyC cyI cyJ cyZ cyO) yX4_take cX4_take 5 none ({ frames := 1, cells := 0, slots := 0, locals := 23 } : Room) 0 0 [.ref q0, .ref n0, .int p0, .int p1] [(q0, .inr (4, [.ref q1, .int q_size])), (q1, .inl (cyI, 12, .inl q_ware)), (n0, .inr (7, [.ref n1, .ref n2, .ref n3, .ref n4, .int n_askings, .int n_cost, .int n_laid])), (n1, .inl (cyI, 12, .inl n_shelf)), (n2, .inl (cyI, 12, .inl n_stack)), (n3, .inl (cyI, 12, .inl n_level))] (fun u => none) (fun u => (0 ≤ (u.2.1 0).toInt ∧ (u.2.1 0).toInt ≤ 12) ∧ (Iv 12 (0) (11) (u.2.2.1 0)) ∧ (∀ w0 : Nat, w0 < 12 → n_shelf w0 = p0 → n_stack w0 = p1 → 1 ≤ ((u.2.1 0)).toInt) ∧ (∀ (r : Nat → Int32) (n : Nat), ROW n_shelf n_stack n_level p0 p1 r n → ((u.2.1 0)).toInt = (n : Int) ∧ ∀ p : Nat, p < n → (u.2.2.1 0) p = r p)) (fun u => [(q0, .inr (4, [.ref q1, .int (u.2.1 0)])), (q1, .inl (cyI, 12, .inl (u.2.2.1 0))), (n0, .inr (7, [.ref n1, .ref n2, .ref n3, .ref n4, .int n_askings, .int n_cost, .int n_laid])), (n1, .inl (cyI, 12, .inl n_shelf)), (n2, .inl (cyI, 12, .inl n_stack)), (n3, .inl (cyI, 12, .inl n_level))]) := by
  refine KK.of (lv0 := [(0, .ref q0), (1, .ref n0), (2, .int p0), (3, .int p1)]) (by decide) rfl (Nat.le_of_ble_eq_true rfl) ?_
  intro p e s m args below meth c A C hr hk hin
  refine j_aload_n (pc := 0) C dX4_take_0 rfl 0 rfl ?_
  refine j_iconst (pc := 1) (v := 0) C dX4_take_1 (by decide) ?_
  refine j_put (pc := 2) (ci := 4) (v := .int 0) (ws' := [(q0, .inr (4, [.ref q1, .int 0])), (q1, .inl (cyI, 12, .inl q_ware)), (n0, .inr (7, [.ref n1, .ref n2, .ref n3, .ref n4, .int n_askings, .int n_cost, .int n_laid])), (n1, .inl (cyI, 12, .inl n_shelf)), (n2, .inl (cyI, 12, .inl n_stack)), (n3, .inl (cyI, 12, .inl n_level))]) C inw_4 0 rfl rfl 1 (by decide) wd_29 rfl tyX4_ok nmX4 rfl (tyX4_ok 1 (by decide)) rfl rfl (Nat.le_of_ble_eq_true rfl) dX4_take_2 rfl ?_
  refine j_iconst (pc := 5) (v := 0) C dX4_take_5 (by decide) ?_
  refine j_istore (pc := 6) (lv' := [(4, .int 0), (0, .ref q0), (1, .ref n0), (2, .int p0), (3, .int p1)]) C dX4_take_6 (by decide) rfl ?_
  have loop_1 : ∀ (k_1 : Nat) (x1_4 : Int32) (y1_q0_1 : Int32) (g1_q1 : Nat → Int32), (0 ≤ (x1_4).toInt ∧ (x1_4).toInt ≤ 12) → (0 ≤ (y1_q0_1).toInt ∧ (y1_q0_1).toInt ≤ 12) → (Iv 12 (0) (11) g1_q1) → (y1_q0_1.toInt ≤ x1_4.toInt) → (y1_q0_1.toInt = ((cnB (std n_shelf n_stack p0 p1) (x1_4.toInt).toNat : Nat) : Int)) → (∀ (r : Nat → Int32) (n : Nat), ROW n_shelf n_stack n_level p0 p1 r n → ∀ w : Nat, (w : Int) < x1_4.toInt → n_shelf w = p0 → n_stack w = p1 → (g1_q1 (n_level w).toInt.toNat).toInt = (w : Int)) → (12 - x1_4.toInt).toNat < k_1 → J p l e ({ frames := 1, cells := 0, slots := 0, locals := 23 } : Room) s m args below meth c D A 5 0 0 (QX below D (TY cyC cyI cyJ cyZ cyO) A (fun u => none) (fun u => (0 ≤ (u.2.1 0).toInt ∧ (u.2.1 0).toInt ≤ 12) ∧ (Iv 12 (0) (11) (u.2.2.1 0)) ∧ (∀ w0 : Nat, w0 < 12 → n_shelf w0 = p0 → n_stack w0 = p1 → 1 ≤ ((u.2.1 0)).toInt) ∧ (∀ (r : Nat → Int32) (n : Nat), ROW n_shelf n_stack n_level p0 p1 r n → ((u.2.1 0)).toInt = (n : Int) ∧ ∀ p : Nat, p < n → (u.2.2.1 0) p = r p)) (fun u => [(q0, .inr (4, [.ref q1, .int (u.2.1 0)])), (q1, .inl (cyI, 12, .inl (u.2.2.1 0))), (n0, .inr (7, [.ref n1, .ref n2, .ref n3, .ref n4, .int n_askings, .int n_cost, .int n_laid])), (n1, .inl (cyI, 12, .inl n_shelf)), (n2, .inl (cyI, 12, .inl n_stack)), (n3, .inl (cyI, 12, .inl n_level))]) args s 0 0) [(q0, .inr (4, [.ref q1, .int y1_q0_1])), (q1, .inl (cyI, 12, .inl g1_q1)), (n0, .inr (7, [.ref n1, .ref n2, .ref n3, .ref n4, .int n_askings, .int n_cost, .int n_laid])), (n1, .inl (cyI, 12, .inl n_shelf)), (n2, .inl (cyI, 12, .inl n_stack)), (n3, .inl (cyI, 12, .inl n_level))] 8 [(4, .int x1_4), (0, .ref q0), (1, .ref n0), (2, .int p0), (3, .int p1)] [] := by
    intro k_1
    induction k_1 with
    | zero =>
      intro x1_4 y1_q0_1 g1_q1 hi_1_0 hi_1_1 hi_1_2 hr_1 hq_1_0 hq_1_1 hm_1
      exact absurd hm_1 (Nat.not_lt_zero _)
    | succ k_1 ih_1 =>
      intro x1_4 y1_q0_1 g1_q1 hi_1_0 hi_1_1 hi_1_2 hr_1 hq_1_0 hq_1_1 hm_1
      refine j_iload (pc := 8) C dX4_take_8 0 rfl ?_
      refine j_bipush (pc := 10) (v := 12) C dX4_take_10 (by decide) ?_
      refine j_icmp_ge (pc := 12) (tgt := 56) C dX4_take_12 (by decide) (fun c_2 => ?_) (fun c_2 => ?_)
      · skip
        have el_12 : (12 : Int32).toInt = 12 := rfl
        rw [i_le] at c_2
        have k0c_2 : x1_4.toInt = 12 := by omega
        exact j_vret (pc := 56) C hr hk (fun i => [].getD i 0, fun i => [y1_q0_1].getD i 0, fun i => [g1_q1].getD i (fun _ => 0), fun i => [].getD i (fun _ => 0)) rfl (show (0 ≤ (y1_q0_1).toInt ∧ (y1_q0_1).toInt ≤ 12) ∧ (Iv 12 (0) (11) g1_q1) ∧ (∀ w0 : Nat, w0 < 12 → n_shelf w0 = p0 → n_stack w0 = p1 → 1 ≤ (y1_q0_1).toInt) ∧ (∀ (r : Nat → Int32) (n : Nat), ROW n_shelf n_stack n_level p0 p1 r n → (y1_q0_1).toInt = (n : Int) ∧ ∀ p : Nat, p < n → g1_q1 p = r p) from ⟨hi_1_1, hi_1_2, (fun w0 h0 h1 h2 => by have y9 := cnB_ge (P := (std n_shelf n_stack p0 p1)) (w := w0) (std_iff.mpr ⟨h1, h2⟩) 12 h0; have y8 := hq_1_0; rw [show (x1_4).toInt.toNat = 12 from (by omega)] at y8; omega), (fun r n hR => ⟨by have y9 := hR.size; have y8 := hq_1_0; rw [show (x1_4).toInt.toNat = 12 from (by omega), y9] at y8; exact y8, fun p hp => by obtain ⟨w9, a1, a2, a3, a4, a5⟩ := hR.2 p hp; have y7 := hq_1_1 r n hR w9 (by omega) a3 a4; rw [show (n_level w9).toInt.toNat = p from (by omega)] at y7; exact (i_eq _ _).mpr (y7.trans a2.symm)⟩)⟩) [0, 1, 2, 3, 4, 5] (by decide) rfl (by decide) (by decide) dX4_take_56
      · skip
        have el_12 : (12 : Int32).toInt = 12 := rfl
        rw [i_le] at c_2
        refine j_aload_n (pc := 15) C dX4_take_15 rfl 2 rfl ?_
        refine j_iload (pc := 16) C dX4_take_16 0 rfl ?_
        refine j_iload_n (pc := 18) C dX4_take_18 rfl 3 rfl ?_
        refine j_iload_n (pc := 19) C dX4_take_19 rfl 4 rfl ?_
        refine j_callV (pc := 20) (As := [.int x1_4, .int p0, .int p1]) (rest := []) (wr := [(q0, .inr (4, [.ref q1, .int y1_q0_1])), (q1, .inl (cyI, 12, .inl g1_q1)), (n3, .inl (cyI, 12, .inl n_level))]) C (c_X7_stands l D cyC cyI cyJ cyZ cyO n0 n1 n2 n3 n4 x1_4 p0 p1 n_askings n_cost n_laid n_shelf n_stack h_n_askings h_n_laid (by omega) h_n_shelf h_n_stack) wd_8 wd_9 wd_70 wd_11 wd_12 ⟨by decide, by decide, rfl⟩ rfl ⟨rfl, rfl, by decide, by decide⟩ ⟨by decide, by decide⟩ [2, 3, 4] [0, 1, 5] rfl rfl ⟨by decide, by decide, by decide⟩ 2 rfl rfl rfl (Nat.le_of_ble_eq_true rfl) dX4_take_20 (fun u_3 hw_4 => ?_)
        refine j_eq (ws2 := [(q0, .inr (4, [.ref q1, .int y1_q0_1])), (q1, .inl (cyI, 12, .inl g1_q1)), (n3, .inl (cyI, 12, .inl n_level)), (n0, .inr (7, [.ref n1, .ref n2, .ref n3, .ref n4, .int n_askings, .int n_cost, .int n_laid])), (n1, .inl (cyI, 12, .inl n_shelf)), (n2, .inl (cyI, 12, .inl n_stack))]) (pc2 := 23) (lv2 := [(4, .int x1_4), (0, .ref q0), (1, .ref n0), (2, .int p0), (3, .int p1)]) (st2 := [.int (u_3.2.1 0)]) rfl rfl rfl rfl ?_
        obtain ⟨hw_4_0, hw_4_1, hw_4_2⟩ := hw_4
        refine j_if_eq (pc := 23) (tgt := 50) C dX4_take_23 (by decide) (fun c_5 => ?_) (fun c_5 => ?_)
        · skip
          have el_0 : (0 : Int32).toInt = 0 := rfl
          rw [i_eq] at c_5
          obtain ⟨v_6, ev_6⟩ : ∃ z : Int32, x1_4 + 1 = z := ⟨_, rfl⟩
          have el_1 : (1 : Int32).toInt = 1 := rfl
          have hv_6 : v_6.toInt = x1_4.toInt + (1 : Int32).toInt := by rw [← ev_6]; exact fb_addI (by omega) (by omega)
          refine j_iinc (pc := 50) (v := v_6) (lv' := [(4, .int v_6), (0, .ref q0), (1, .ref n0), (2, .int p0), (3, .int p1)]) C dX4_take_50 0 rfl ev_6 (by decide) rfl ?_
          refine j_goto (pc := 53) (tgt := 8) C dX4_take_53 (by decide) ?_
          refine j_subG (ws' := [(q0, .inr (4, [.ref q1, .int y1_q0_1])), (q1, .inl (cyI, 12, .inl g1_q1)), (n0, .inr (7, [.ref n1, .ref n2, .ref n3, .ref n4, .int n_askings, .int n_cost, .int n_laid])), (n1, .inl (cyI, 12, .inl n_shelf)), (n2, .inl (cyI, 12, .inl n_stack)), (n3, .inl (cyI, 12, .inl n_level))]) [0, 1, 3, 4, 5, 2] (by decide) rfl ?_
          exact j_lv [0, 1, 2, 3, 4] rfl (ih_1 v_6 y1_q0_1 g1_q1 (by omega) hi_1_1 hi_1_2 (by omega) (by rw [show (v_6.toInt).toNat = (x1_4).toInt.toNat + 1 from (by omega), cnB_n (P := (std n_shelf n_stack p0 p1)) (j := (x1_4).toInt.toNat) (fun z => by have y9 := std_iff.mp z; rcases hw_4_1 with h | h | h; omega; exact h y9.1; exact h y9.2)]; omega) (fun r n hR w hw h1 h2 => by rcases Int.lt_or_le (w : Int) (x1_4).toInt with q | q; (exact hq_1_1 r n hR w q h1 h2); (have ew : w = (x1_4).toInt.toNat := (by omega); exfalso; rw [ew] at h1 h2; rcases hw_4_1 with h | h | h; omega; exact h h1; exact h h2)) (by omega))
        · skip
          have el_0 : (0 : Int32).toInt = 0 := rfl
          rw [i_eq] at c_5
          have k0c_5 : ((u_3.2.1 0)).toInt = 1 := by omega
          refine j_aload_n (pc := 26) C dX4_take_26 rfl 1 rfl ?_
          refine j_get (pc := 27) (ci := 4) (v := .ref q1) C inw_4 0 rfl rfl 0 (by decide) wd_31 rfl rfl dX4_take_27 ?_
          refine j_aload_n (pc := 30) C dX4_take_30 rfl 2 rfl ?_
          refine j_get (pc := 31) (ci := 7) (v := .ref n3) C inw_7 3 rfl rfl 2 (by decide) wd_71 rfl rfl dX4_take_31 ?_
          refine j_iload (pc := 34) C dX4_take_34 0 rfl ?_
          obtain ⟨v_7, ev_7⟩ : ∃ z, n_level (x1_4).toInt.toNat = z := ⟨_, rfl⟩
          have env_7 : (n_level (x1_4).toInt.toNat).toInt = v_7.toInt := by rw [ev_7]
          have hv_7 := h_n_level (x1_4).toInt.toNat (i_lt_n hi_1_0.1 (by omega)); rw [ev_7] at hv_7
          refine j_iald (pc := 36) (v := v_7) (k := (x1_4).toInt.toNat) C 2 1 rfl rfl (i_nn hi_1_0.1) rfl (i_lt_n hi_1_0.1 (by omega)) ev_7 dX4_take_36 ?_
          refine j_iload (pc := 37) C dX4_take_37 0 rfl ?_
          obtain ⟨f_8, ef_8⟩ : ∃ z, z = upd g1_q1 (v_7).toInt.toNat x1_4 := ⟨_, rfl⟩
          have hf_8 : Iv 12 (0) (11) f_8 := by rw [ef_8]; exact Iv.upd hi_1_2 (by omega) (by omega)
          refine j_iast (pc := 39) (k := (v_7).toInt.toNat) (ws' := [(q0, .inr (4, [.ref q1, .int y1_q0_1])), (q1, .inl (cyI, 12, .inl f_8)), (n3, .inl (cyI, 12, .inl n_level)), (n0, .inr (7, [.ref n1, .ref n2, .ref n3, .ref n4, .int n_askings, .int n_cost, .int n_laid])), (n1, .inl (cyI, 12, .inl n_shelf)), (n2, .inl (cyI, 12, .inl n_stack))]) C 1 1 rfl rfl (i_nn hv_7.1) rfl (i_lt_n hv_7.1 (Int.lt_of_le_of_lt hv_7.2 (by decide))) dX4_take_39 (by rw [ef_8]; rfl) ?_
          refine j_aload_n (pc := 40) C dX4_take_40 rfl 1 rfl ?_
          refine j_dup (pc := 41) C dX4_take_41 rfl ?_
          refine j_get (pc := 42) (ci := 4) (v := .int y1_q0_1) C inw_4 0 rfl rfl 1 (by decide) wd_29 rfl rfl dX4_take_42 ?_
          refine j_iconst (pc := 45) (v := 1) C dX4_take_45 (by decide) ?_
          obtain ⟨v_9, ev_9⟩ : ∃ z : Int32, y1_q0_1 + 1 = z := ⟨_, rfl⟩
          have el_1 : (1 : Int32).toInt = 1 := rfl
          have hv_9 : v_9.toInt = y1_q0_1.toInt + (1 : Int32).toInt := by rw [← ev_9]; exact fb_addI (by omega) (by omega)
          refine j_iadd (pc := 46) (v := v_9) C dX4_take_46 ev_9 ?_
          refine j_put (pc := 47) (ci := 4) (v := .int v_9) (ws' := [(q0, .inr (4, [.ref q1, .int v_9])), (q1, .inl (cyI, 12, .inl f_8)), (n3, .inl (cyI, 12, .inl n_level)), (n0, .inr (7, [.ref n1, .ref n2, .ref n3, .ref n4, .int n_askings, .int n_cost, .int n_laid])), (n1, .inl (cyI, 12, .inl n_shelf)), (n2, .inl (cyI, 12, .inl n_stack))]) C inw_4 0 rfl rfl 1 (by decide) wd_29 rfl tyX4_ok nmX4 rfl (tyX4_ok 1 (by decide)) rfl rfl (Nat.le_of_ble_eq_true rfl) dX4_take_47 rfl ?_
          obtain ⟨v_10, ev_10⟩ : ∃ z : Int32, x1_4 + 1 = z := ⟨_, rfl⟩
          have el_1 : (1 : Int32).toInt = 1 := rfl
          have hv_10 : v_10.toInt = x1_4.toInt + (1 : Int32).toInt := by rw [← ev_10]; exact fb_addI (by omega) (by omega)
          refine j_iinc (pc := 50) (v := v_10) (lv' := [(4, .int v_10), (0, .ref q0), (1, .ref n0), (2, .int p0), (3, .int p1)]) C dX4_take_50 0 rfl ev_10 (by decide) rfl ?_
          refine j_goto (pc := 53) (tgt := 8) C dX4_take_53 (by decide) ?_
          refine j_subG (ws' := [(q0, .inr (4, [.ref q1, .int v_9])), (q1, .inl (cyI, 12, .inl f_8)), (n0, .inr (7, [.ref n1, .ref n2, .ref n3, .ref n4, .int n_askings, .int n_cost, .int n_laid])), (n1, .inl (cyI, 12, .inl n_shelf)), (n2, .inl (cyI, 12, .inl n_stack)), (n3, .inl (cyI, 12, .inl n_level))]) [0, 1, 3, 4, 5, 2] (by decide) rfl ?_
          exact j_lv [0, 1, 2, 3, 4] rfl (ih_1 v_10 v_9 f_8 (by omega) (by omega) hf_8 (by omega) (by rw [show (v_10.toInt).toNat = (x1_4).toInt.toNat + 1 from (by omega), cnB_y (P := (std n_shelf n_stack p0 p1)) (j := (x1_4).toInt.toNat) (std_iff.mpr (by rcases hw_4_2 with h | h; (exfalso; omega); exact h))]; omega) (fun r n hR w hw h1 h2 => by rcases Int.lt_or_le (w : Int) (x1_4).toInt with q | q; (have y3 := (by rcases hw_4_2 with h | h; (exfalso; omega); exact h : n_shelf (x1_4).toInt.toNat = p0 ∧ n_stack (x1_4).toInt.toNat = p1); rw [ef_8, pk_un (fun z => by rw [← ev_7] at z; have z9 := hR.inj (w := w) (v := (x1_4).toInt.toNat) (by omega) (by omega) h1 h2 y3.1 y3.2 z; omega)]; exact hq_1_1 r n hR w q h1 h2); (have ew : w = (x1_4).toInt.toNat := (by omega); rw [ew, ev_7, ef_8, pk_us]; omega)) (by omega))
  have el_0 : (0 : Int32).toInt = 0 := rfl
  have el_0 : (0 : Int32).toInt = 0 := rfl
  exact j_lv [0, 1, 2, 3, 4] rfl (loop_1 4096 0 0 q_ware (by decide) (by decide) h_q_ware (by omega) rfl (fun r n hR w hw => absurd hw (by omega)) (by omega))
set_option maxHeartbeats 4000000 in
set_option maxRecDepth 100000 in
theorem c_X4_remove (l : Launch) (D : DG) (cyC cyI cyJ cyZ cyO : ClassId) (q0 : Nat) (q1 : Nat) (p0 : Int32) (q_size : Int32) (q_ware : Nat → Int32) (h_q_size : 1 ≤ (q_size).toInt ∧ (q_size).toInt ≤ 12) (h_p0 : 0 ≤ (p0).toInt ∧ (p0).toInt ≤ 11) (h_q_ware : Iv 12 (0) (11) q_ware) : KK l D (TY cyC cyI cyJ cyZ cyO) yX4_remove cX4_remove 3 none ({ frames := 0, cells := 0, slots := 0, locals := 0 } : Room) 0 0 [.ref q0, .int p0] [(q0, .inr (4, [.ref q1, .int q_size])), (q1, .inl (cyI, 12, .inl q_ware))] (fun u => none) (fun u => (0 ≤ (u.2.1 0).toInt ∧ (u.2.1 0).toInt ≤ 11) ∧ (Iv 12 (0) (11) (u.2.2.1 0)) ∧ (((u.2.1 0)).toInt = (q_size).toInt - 1) ∧ (IM ((p0).toInt < (q_size).toInt) (∀ p : Nat, (p : Int) < (q_size).toInt - 1 → (u.2.2.1 0) p = q_ware (if (p : Int) < (p0).toInt then p else p + 1)))) (fun u => [(q0, .inr (4, [.ref q1, .int (u.2.1 0)])), (q1, .inl (cyI, 12, .inl (u.2.2.1 0)))]) := by
  refine KK.of (lv0 := [(0, .ref q0), (1, .int p0)]) (by decide) rfl (Nat.le_of_ble_eq_true rfl) ?_
  intro p e s m args below meth c A C hr hk hin
  refine j_iload_n (pc := 0) C dX4_remove_0 rfl 1 rfl ?_
  refine j_istore_n (pc := 1) (lv' := [(2, .int p0), (0, .ref q0), (1, .int p0)]) C dX4_remove_1 rfl (by decide) rfl ?_
  have loop_1 : ∀ (k_1 : Nat) (x1_2 : Int32) (g1_q1 : Nat → Int32), (0 ≤ (x1_2).toInt ∧ (x1_2).toInt ≤ 12) → (Iv 12 (0) (11) g1_q1) → ((p0).toInt ≤ x1_2.toInt ∧ (x1_2.toInt ≤ (q_size).toInt - 1 ∨ x1_2.toInt = (p0).toInt)) → (∀ p : Nat, (p : Int) < (q_size).toInt → ((p : Int) < x1_2.toInt → g1_q1 p = q_ware (if (p : Int) < (p0).toInt then p else p + 1)) ∧ (x1_2.toInt ≤ (p : Int) → g1_q1 p = q_ware p)) → (12 - x1_2.toInt).toNat < k_1 → J p l e ({ frames := 0, cells := 0, slots := 0, locals := 0 } : Room) s m args below meth c D A 3 0 0 (QX below D (TY cyC cyI cyJ cyZ cyO) A (fun u => none) (fun u => (0 ≤ (u.2.1 0).toInt ∧ (u.2.1 0).toInt ≤ 11) ∧ (Iv 12 (0) (11) (u.2.2.1 0)) ∧ (((u.2.1 0)).toInt = (q_size).toInt - 1) ∧ (IM ((p0).toInt < (q_size).toInt) (∀ p : Nat, (p : Int) < (q_size).toInt - 1 → (u.2.2.1 0) p = q_ware (if (p : Int) < (p0).toInt then p else p + 1)))) (fun u => [(q0, .inr (4, [.ref q1, .int (u.2.1 0)])), (q1, .inl (cyI, 12, .inl (u.2.2.1 0)))]) args s 0 0) [(q0, .inr (4, [.ref q1, .int q_size])), (q1, .inl (cyI, 12, .inl g1_q1))] 2 [(2, .int x1_2), (0, .ref q0), (1, .int p0)] [] := by
    intro k_1
    induction k_1 with
    | zero =>
      intro x1_2 g1_q1 hi_1_0 hi_1_1 hr_1 hq_1_0 hm_1
      exact absurd hm_1 (Nat.not_lt_zero _)
    | succ k_1 ih_1 =>
      intro x1_2 g1_q1 hi_1_0 hi_1_1 hr_1 hq_1_0 hm_1
      refine j_iload_n (pc := 2) C dX4_remove_2 rfl 0 rfl ?_
      refine j_aload_n (pc := 3) C dX4_remove_3 rfl 1 rfl ?_
      refine j_get (pc := 4) (ci := 4) (v := .int q_size) C inw_4 0 rfl rfl 1 (by decide) wd_29 rfl rfl dX4_remove_4 ?_
      refine j_iconst (pc := 7) (v := 1) C dX4_remove_7 (by decide) ?_
      obtain ⟨v_2, ev_2⟩ : ∃ z : Int32, q_size - 1 = z := ⟨_, rfl⟩
      have el_1 : (1 : Int32).toInt = 1 := rfl
      have hv_2 : v_2.toInt = q_size.toInt - (1 : Int32).toInt := by rw [← ev_2]; exact fb_subI (by omega) (by omega)
      refine j_isub (pc := 8) (v := v_2) C dX4_remove_8 ev_2 ?_
      refine j_icmp_ge (pc := 9) (tgt := 32) C dX4_remove_9 (by decide) (fun c_3 => ?_) (fun c_3 => ?_)
      · skip
        rw [i_le] at c_3
        refine j_aload_n (pc := 32) C dX4_remove_32 rfl 1 rfl ?_
        refine j_dup (pc := 33) C dX4_remove_33 rfl ?_
        refine j_get (pc := 34) (ci := 4) (v := .int q_size) C inw_4 0 rfl rfl 1 (by decide) wd_29 rfl rfl dX4_remove_34 ?_
        refine j_iconst (pc := 37) (v := 1) C dX4_remove_37 (by decide) ?_
        obtain ⟨v_4, ev_4⟩ : ∃ z : Int32, q_size - 1 = z := ⟨_, rfl⟩
        have el_1 : (1 : Int32).toInt = 1 := rfl
        have hv_4 : v_4.toInt = q_size.toInt - (1 : Int32).toInt := by rw [← ev_4]; exact fb_subI (by omega) (by omega)
        refine j_isub (pc := 38) (v := v_4) C dX4_remove_38 ev_4 ?_
        refine j_put (pc := 39) (ci := 4) (v := .int v_4) (ws' := [(q0, .inr (4, [.ref q1, .int v_4])), (q1, .inl (cyI, 12, .inl g1_q1))]) C inw_4 0 rfl rfl 1 (by decide) wd_29 rfl tyX4_ok nmX4 rfl (tyX4_ok 1 (by decide)) rfl rfl (Nat.le_of_ble_eq_true rfl) dX4_remove_39 rfl ?_
        exact j_vret (pc := 42) C hr hk (fun i => [].getD i 0, fun i => [v_4].getD i 0, fun i => [g1_q1].getD i (fun _ => 0), fun i => [].getD i (fun _ => 0)) rfl (show (0 ≤ (v_4).toInt ∧ (v_4).toInt ≤ 11) ∧ (Iv 12 (0) (11) g1_q1) ∧ ((v_4).toInt = (q_size).toInt - 1) ∧ (IM ((p0).toInt < (q_size).toInt) (∀ p : Nat, (p : Int) < (q_size).toInt - 1 → g1_q1 p = q_ware (if (p : Int) < (p0).toInt then p else p + 1))) from ⟨by omega, hi_1_1, by omega, (fun z9 p hp => (hq_1_0 p (by omega)).1 (by omega))⟩) [0, 1] (by decide) rfl (by decide) (by decide) dX4_remove_42
      · skip
        rw [i_le] at c_3
        refine j_aload_n (pc := 12) C dX4_remove_12 rfl 1 rfl ?_
        refine j_get (pc := 13) (ci := 4) (v := .ref q1) C inw_4 0 rfl rfl 0 (by decide) wd_31 rfl rfl dX4_remove_13 ?_
        refine j_iload_n (pc := 16) C dX4_remove_16 rfl 0 rfl ?_
        refine j_aload_n (pc := 17) C dX4_remove_17 rfl 1 rfl ?_
        refine j_get (pc := 18) (ci := 4) (v := .ref q1) C inw_4 0 rfl rfl 0 (by decide) wd_31 rfl rfl dX4_remove_18 ?_
        refine j_iload_n (pc := 21) C dX4_remove_21 rfl 0 rfl ?_
        refine j_iconst (pc := 22) (v := 1) C dX4_remove_22 (by decide) ?_
        obtain ⟨v_5, ev_5⟩ : ∃ z : Int32, x1_2 + 1 = z := ⟨_, rfl⟩
        have el_1 : (1 : Int32).toInt = 1 := rfl
        have hv_5 : v_5.toInt = x1_2.toInt + (1 : Int32).toInt := by rw [← ev_5]; exact fb_addI (by omega) (by omega)
        refine j_iadd (pc := 23) (v := v_5) C dX4_remove_23 ev_5 ?_
        obtain ⟨v_6, ev_6⟩ : ∃ z, g1_q1 (v_5).toInt.toNat = z := ⟨_, rfl⟩
        have env_6 : (g1_q1 (v_5).toInt.toNat).toInt = v_6.toInt := by rw [ev_6]
        have hv_6 := hi_1_1 (v_5).toInt.toNat (i_lt_n (by omega) (by omega)); rw [ev_6] at hv_6
        refine j_iald (pc := 24) (v := v_6) (k := (v_5).toInt.toNat) C 1 1 rfl rfl (i_nn (by omega)) rfl (i_lt_n (by omega) (by omega)) ev_6 dX4_remove_24 ?_
        obtain ⟨f_7, ef_7⟩ : ∃ z, z = upd g1_q1 (x1_2).toInt.toNat v_6 := ⟨_, rfl⟩
        have hf_7 : Iv 12 (0) (11) f_7 := by rw [ef_7]; exact Iv.upd hi_1_1 (by omega) (by omega)
        refine j_iast (pc := 25) (k := (x1_2).toInt.toNat) (ws' := [(q0, .inr (4, [.ref q1, .int q_size])), (q1, .inl (cyI, 12, .inl f_7))]) C 1 1 rfl rfl (i_nn hi_1_0.1) rfl (i_lt_n hi_1_0.1 (by omega)) dX4_remove_25 (by rw [ef_7]; rfl) ?_
        obtain ⟨v_8, ev_8⟩ : ∃ z : Int32, x1_2 + 1 = z := ⟨_, rfl⟩
        have el_1 : (1 : Int32).toInt = 1 := rfl
        have hv_8 : v_8.toInt = x1_2.toInt + (1 : Int32).toInt := by rw [← ev_8]; exact fb_addI (by omega) (by omega)
        refine j_iinc (pc := 26) (v := v_8) (lv' := [(2, .int v_8), (0, .ref q0), (1, .int p0)]) C dX4_remove_26 0 rfl ev_8 (by decide) rfl ?_
        refine j_goto (pc := 29) (tgt := 2) C dX4_remove_29 (by decide) ?_
        exact j_lv [0, 1, 2] rfl (ih_1 v_8 f_7 (by omega) hf_7 (by omega) (fun p hp => by rw [ef_7]; by_cases ep : p = (x1_2).toInt.toNat; (rw [ep, pk_us]; refine ⟨fun _ => ?_, fun h => absurd h (by omega)⟩; rw [if_neg (by omega), ← ev_6, (hq_1_0 (v_5).toInt.toNat (by omega)).2 (by omega)]; congr 1; omega); (rw [pk_un ep]; exact ⟨fun h => (hq_1_0 p hp).1 (by omega), fun h => (hq_1_0 p hp).2 (by omega)⟩)) (by omega))
  exact j_lv [0, 1, 2] rfl (loop_1 4096 p0 q_ware (by omega) h_q_ware (by omega) (fun p hp => ⟨fun h => by rw [if_pos (by omega)], fun _ => rfl⟩) (by omega))
theorem wd_72 : Cond.constant RJ6 265 (1431655765) ∈ WALL := wl_in (by decide +kernel) (by decide +kernel)
theorem wd_73 : Cond.constant RJ6 266 (858993459) ∈ WALL := wl_in (by decide +kernel) (by decide +kernel)
theorem wd_74 : Cond.constant RJ6 267 (252645135) ∈ WALL := wl_in (by decide +kernel) (by decide +kernel)
theorem wd_75 : Cond.fieldLink RX3 24 "BowlShelf$Told" "wares" "I" ∈ WALL := wl_in (by decide +kernel) (by decide +kernel)
theorem wd_76 : Cond.fieldLink RX3 30 "BowlShelf$Order" "wares" "I" ∈ WALL := wl_in (by decide +kernel) (by decide +kernel)
theorem wd_77 : Cond.fieldLink RX3 31 "BowlShelf$Order" "known" "Z" ∈ WALL := wl_in (by decide +kernel) (by decide +kernel)
theorem wd_78 : Cond.fieldLink RX3 35 "BowlShelf$Told" "mayOn" "[I" ∈ WALL := wl_in (by decide +kernel) (by decide +kernel)
theorem wd_79 : Cond.fieldLink RX3 9 "BowlShelf$Order" "above" "[I" ∈ WALL := wl_in (by decide +kernel) (by decide +kernel)
theorem wd_80 : Cond.methodLink RX3 38 arraycopyName ∈ WALL := wl_in (by decide +kernel) (by decide +kernel)
theorem wd_81 : Cond.fieldLink RX3 15 "BowlShelf$Order" "kin" "[I" ∈ WALL := wl_in (by decide +kernel) (by decide +kernel)
theorem wd_82 : Cond.fieldLink RX3 60 "BowlShelf$Order" "fewest" "I" ∈ WALL := wl_in (by decide +kernel) (by decide +kernel)
theorem wd_83 : Cond.fieldLink RX3 63 "BowlShelf$Order" "apart" "I" ∈ WALL := wl_in (by decide +kernel) (by decide +kernel)
theorem wd_84 : Cond.code yJ6_bitCount_0f7a4 cJ6_bitCount_0f7a4 1 (some .int) ∈ WALL := wl_in (by decide +kernel) (by decide +kernel)
theorem wd_85 : Cond.initialized RJ6 ∈ WALL := wl_in (by decide +kernel) (by decide +kernel)
theorem wd_86 : Cond.methodLink RX3 66 yJ6_bitCount_0f7a4 ∈ WALL := wl_in (by decide +kernel) (by decide +kernel)
theorem wd_87 : Cond.static yJ6_bitCount_0f7a4 ∈ WALL := wl_in (by decide +kernel) (by decide +kernel)
theorem wd_88 : Cond.code yX3_isApart cX3_isApart 3 (some .boolean) ∈ WALL := wl_in (by decide +kernel) (by decide +kernel)
theorem wd_89 : Cond.initialized RX3 ∈ WALL := wl_in (by decide +kernel) (by decide +kernel)
theorem wd_90 : Cond.methodLink RX3 72 yX3_isApart ∈ WALL := wl_in (by decide +kernel) (by decide +kernel)
theorem wd_91 : Cond.instanceMethod yX3_isApart ∈ WALL := wl_in (by decide +kernel) (by decide +kernel)
theorem wd_92 : Cond.selects RX3 yX3_isApart yX3_isApart ∈ WALL := wl_in (by decide +kernel) (by decide +kernel)
theorem wd_93 : Cond.fieldLink RX3 21 "BowlShelf$Order" "members" "[I" ∈ WALL := wl_in (by decide +kernel) (by decide +kernel)
theorem wd_94 : Cond.fieldLink RX3 18 "BowlShelf$Order" "row" "[I" ∈ WALL := wl_in (by decide +kernel) (by decide +kernel)
theorem wd_95 : Cond.methodLink RX3 76 Lib.Math.max.name ∈ WALL := wl_in (by decide +kernel) (by decide +kernel)
theorem wd_96 : Cond.code yX3_give cX3_give 4 (some .boolean) ∈ WALL := wl_in (by decide +kernel) (by decide +kernel)
theorem wd_97 : Cond.methodLink RX3 56 yX3_give ∈ WALL := wl_in (by decide +kernel) (by decide +kernel)
theorem wd_98 : Cond.instanceMethod yX3_give ∈ WALL := wl_in (by decide +kernel) (by decide +kernel)
theorem wd_99 : Cond.selects RX3 yX3_give yX3_give ∈ WALL := wl_in (by decide +kernel) (by decide +kernel)
theorem wd_100 : Cond.code yX3_findKin cX3_findKin 3 none ∈ WALL := wl_in (by decide +kernel) (by decide +kernel)
theorem wd_101 : Cond.methodLink RX3 44 yX3_findKin ∈ WALL := wl_in (by decide +kernel) (by decide +kernel)
theorem wd_102 : Cond.instanceMethod yX3_findKin ∈ WALL := wl_in (by decide +kernel) (by decide +kernel)
theorem wd_103 : Cond.selects RX3 yX3_findKin yX3_findKin ∈ WALL := wl_in (by decide +kernel) (by decide +kernel)
theorem wd_104 : Cond.code yX3_findApart cX3_findApart 3 none ∈ WALL := wl_in (by decide +kernel) (by decide +kernel)
theorem wd_105 : Cond.methodLink RX3 47 yX3_findApart ∈ WALL := wl_in (by decide +kernel) (by decide +kernel)
theorem wd_106 : Cond.instanceMethod yX3_findApart ∈ WALL := wl_in (by decide +kernel) (by decide +kernel)
theorem wd_107 : Cond.selects RX3 yX3_findApart yX3_findApart ∈ WALL := wl_in (by decide +kernel) (by decide +kernel)
theorem wd_108 : Cond.methodLink RX3 50 yJ7_fill_53178 ∈ WALL := wl_in (by decide +kernel) (by decide +kernel)
theorem dJ6_bitCount_0f7a4_0 : decode cJ6_bitCount_0f7a4 0 = .ok (.iload_n 0, 1) := by decide +kernel
theorem dJ6_bitCount_0f7a4_1 : decode cJ6_bitCount_0f7a4 1 = .ok (.iload_n 0, 1) := by decide +kernel
theorem dJ6_bitCount_0f7a4_2 : decode cJ6_bitCount_0f7a4 2 = .ok (.iconst 1, 1) := by decide +kernel
theorem dJ6_bitCount_0f7a4_3 : decode cJ6_bitCount_0f7a4 3 = .ok (.iushr, 1) := by decide +kernel
theorem dJ6_bitCount_0f7a4_4 : decode cJ6_bitCount_0f7a4 4 = .ok (.ldc_w 265, 3) := by decide +kernel
theorem dJ6_bitCount_0f7a4_7 : decode cJ6_bitCount_0f7a4 7 = .ok (.iand, 1) := by decide +kernel
theorem dJ6_bitCount_0f7a4_8 : decode cJ6_bitCount_0f7a4 8 = .ok (.isub, 1) := by decide +kernel
theorem dJ6_bitCount_0f7a4_9 : decode cJ6_bitCount_0f7a4 9 = .ok (.istore_n 0, 1) := by decide +kernel
theorem dJ6_bitCount_0f7a4_10 : decode cJ6_bitCount_0f7a4 10 = .ok (.iload_n 0, 1) := by decide +kernel
theorem dJ6_bitCount_0f7a4_11 : decode cJ6_bitCount_0f7a4 11 = .ok (.ldc_w 266, 3) := by decide +kernel
theorem dJ6_bitCount_0f7a4_14 : decode cJ6_bitCount_0f7a4 14 = .ok (.iand, 1) := by decide +kernel
theorem dJ6_bitCount_0f7a4_15 : decode cJ6_bitCount_0f7a4 15 = .ok (.iload_n 0, 1) := by decide +kernel
theorem dJ6_bitCount_0f7a4_16 : decode cJ6_bitCount_0f7a4 16 = .ok (.iconst 2, 1) := by decide +kernel
theorem dJ6_bitCount_0f7a4_17 : decode cJ6_bitCount_0f7a4 17 = .ok (.iushr, 1) := by decide +kernel
theorem dJ6_bitCount_0f7a4_18 : decode cJ6_bitCount_0f7a4 18 = .ok (.ldc_w 266, 3) := by decide +kernel
theorem dJ6_bitCount_0f7a4_21 : decode cJ6_bitCount_0f7a4 21 = .ok (.iand, 1) := by decide +kernel
theorem dJ6_bitCount_0f7a4_22 : decode cJ6_bitCount_0f7a4 22 = .ok (.iadd, 1) := by decide +kernel
theorem dJ6_bitCount_0f7a4_23 : decode cJ6_bitCount_0f7a4 23 = .ok (.istore_n 0, 1) := by decide +kernel
theorem dJ6_bitCount_0f7a4_24 : decode cJ6_bitCount_0f7a4 24 = .ok (.iload_n 0, 1) := by decide +kernel
theorem dJ6_bitCount_0f7a4_25 : decode cJ6_bitCount_0f7a4 25 = .ok (.iload_n 0, 1) := by decide +kernel
theorem dJ6_bitCount_0f7a4_26 : decode cJ6_bitCount_0f7a4 26 = .ok (.iconst 4, 1) := by decide +kernel
theorem dJ6_bitCount_0f7a4_27 : decode cJ6_bitCount_0f7a4 27 = .ok (.iushr, 1) := by decide +kernel
theorem dJ6_bitCount_0f7a4_28 : decode cJ6_bitCount_0f7a4 28 = .ok (.iadd, 1) := by decide +kernel
theorem dJ6_bitCount_0f7a4_29 : decode cJ6_bitCount_0f7a4 29 = .ok (.ldc_w 267, 3) := by decide +kernel
theorem dJ6_bitCount_0f7a4_32 : decode cJ6_bitCount_0f7a4 32 = .ok (.iand, 1) := by decide +kernel
theorem dJ6_bitCount_0f7a4_33 : decode cJ6_bitCount_0f7a4 33 = .ok (.istore_n 0, 1) := by decide +kernel
theorem dJ6_bitCount_0f7a4_34 : decode cJ6_bitCount_0f7a4 34 = .ok (.iload_n 0, 1) := by decide +kernel
theorem dJ6_bitCount_0f7a4_35 : decode cJ6_bitCount_0f7a4 35 = .ok (.iload_n 0, 1) := by decide +kernel
theorem dJ6_bitCount_0f7a4_36 : decode cJ6_bitCount_0f7a4 36 = .ok (.bipush 8, 2) := by decide +kernel
theorem dJ6_bitCount_0f7a4_38 : decode cJ6_bitCount_0f7a4 38 = .ok (.iushr, 1) := by decide +kernel
theorem dJ6_bitCount_0f7a4_39 : decode cJ6_bitCount_0f7a4 39 = .ok (.iadd, 1) := by decide +kernel
theorem dJ6_bitCount_0f7a4_40 : decode cJ6_bitCount_0f7a4 40 = .ok (.istore_n 0, 1) := by decide +kernel
theorem dJ6_bitCount_0f7a4_41 : decode cJ6_bitCount_0f7a4 41 = .ok (.iload_n 0, 1) := by decide +kernel
theorem dJ6_bitCount_0f7a4_42 : decode cJ6_bitCount_0f7a4 42 = .ok (.iload_n 0, 1) := by decide +kernel
theorem dJ6_bitCount_0f7a4_43 : decode cJ6_bitCount_0f7a4 43 = .ok (.bipush 16, 2) := by decide +kernel
theorem dJ6_bitCount_0f7a4_45 : decode cJ6_bitCount_0f7a4 45 = .ok (.iushr, 1) := by decide +kernel
theorem dJ6_bitCount_0f7a4_46 : decode cJ6_bitCount_0f7a4 46 = .ok (.iadd, 1) := by decide +kernel
theorem dJ6_bitCount_0f7a4_47 : decode cJ6_bitCount_0f7a4 47 = .ok (.istore_n 0, 1) := by decide +kernel
theorem dJ6_bitCount_0f7a4_48 : decode cJ6_bitCount_0f7a4 48 = .ok (.iload_n 0, 1) := by decide +kernel
theorem dJ6_bitCount_0f7a4_49 : decode cJ6_bitCount_0f7a4 49 = .ok (.bipush 63, 2) := by decide +kernel
theorem dJ6_bitCount_0f7a4_51 : decode cJ6_bitCount_0f7a4 51 = .ok (.iand, 1) := by decide +kernel
theorem dJ6_bitCount_0f7a4_52 : decode cJ6_bitCount_0f7a4 52 = .ok (.ireturn, 1) := by decide +kernel
theorem dX3_chain_0 : decode cX3_chain 0 = .ok (.aload_n 0, 1) := by decide +kernel
theorem dX3_chain_1 : decode cX3_chain 1 = .ok (.aload_n 1, 1) := by decide +kernel
theorem dX3_chain_2 : decode cX3_chain 2 = .ok (.getfield 24, 3) := by decide +kernel
theorem dX3_chain_5 : decode cX3_chain 5 = .ok (.putfield 30, 3) := by decide +kernel
theorem dX3_chain_8 : decode cX3_chain 8 = .ok (.aload_n 0, 1) := by decide +kernel
theorem dX3_chain_9 : decode cX3_chain 9 = .ok (.iconst 0, 1) := by decide +kernel
theorem dX3_chain_10 : decode cX3_chain 10 = .ok (.putfield 31, 3) := by decide +kernel
theorem dX3_chain_13 : decode cX3_chain 13 = .ok (.aload_n 1, 1) := by decide +kernel
theorem dX3_chain_14 : decode cX3_chain 14 = .ok (.getfield 35, 3) := by decide +kernel
theorem dX3_chain_17 : decode cX3_chain 17 = .ok (.iconst 0, 1) := by decide +kernel
theorem dX3_chain_18 : decode cX3_chain 18 = .ok (.aload_n 0, 1) := by decide +kernel
theorem dX3_chain_19 : decode cX3_chain 19 = .ok (.getfield 9, 3) := by decide +kernel
theorem dX3_chain_22 : decode cX3_chain 22 = .ok (.iconst 0, 1) := by decide +kernel
theorem dX3_chain_23 : decode cX3_chain 23 = .ok (.bipush 12, 2) := by decide +kernel
theorem dX3_chain_25 : decode cX3_chain 25 = .ok (.invokestatic 38, 3) := by decide +kernel
theorem dX3_chain_28 : decode cX3_chain 28 = .ok (.iconst 0, 1) := by decide +kernel
theorem dX3_chain_29 : decode cX3_chain 29 = .ok (.istore_n 2, 1) := by decide +kernel
theorem dX3_chain_30 : decode cX3_chain 30 = .ok (.iload_n 2, 1) := by decide +kernel
theorem dX3_chain_31 : decode cX3_chain 31 = .ok (.aload_n 0, 1) := by decide +kernel
theorem dX3_chain_32 : decode cX3_chain 32 = .ok (.getfield 30, 3) := by decide +kernel
theorem dX3_chain_35 : decode cX3_chain 35 = .ok (.if_icmp .ge 54, 3) := by decide +kernel
theorem dX3_chain_38 : decode cX3_chain 38 = .ok (.iconst 0, 1) := by decide +kernel
theorem dX3_chain_39 : decode cX3_chain 39 = .ok (.istore_n 3, 1) := by decide +kernel
theorem dX3_chain_40 : decode cX3_chain 40 = .ok (.iload_n 3, 1) := by decide +kernel
theorem dX3_chain_41 : decode cX3_chain 41 = .ok (.aload_n 0, 1) := by decide +kernel
theorem dX3_chain_42 : decode cX3_chain 42 = .ok (.getfield 30, 3) := by decide +kernel
theorem dX3_chain_45 : decode cX3_chain 45 = .ok (.if_icmp .ge 38, 3) := by decide +kernel
theorem dX3_chain_48 : decode cX3_chain 48 = .ok (.aload_n 0, 1) := by decide +kernel
theorem dX3_chain_49 : decode cX3_chain 49 = .ok (.getfield 9, 3) := by decide +kernel
theorem dX3_chain_52 : decode cX3_chain 52 = .ok (.iload_n 3, 1) := by decide +kernel
theorem dX3_chain_53 : decode cX3_chain 53 = .ok (.iaload, 1) := by decide +kernel
theorem dX3_chain_54 : decode cX3_chain 54 = .ok (.iload_n 2, 1) := by decide +kernel
theorem dX3_chain_55 : decode cX3_chain 55 = .ok (.iushr, 1) := by decide +kernel
theorem dX3_chain_56 : decode cX3_chain 56 = .ok (.iconst 1, 1) := by decide +kernel
theorem dX3_chain_57 : decode cX3_chain 57 = .ok (.iand, 1) := by decide +kernel
theorem dX3_chain_58 : decode cX3_chain 58 = .ok (.iconst 1, 1) := by decide +kernel
theorem dX3_chain_59 : decode cX3_chain 59 = .ok (.if_icmp .ne 18, 3) := by decide +kernel
theorem dX3_chain_62 : decode cX3_chain 62 = .ok (.aload_n 0, 1) := by decide +kernel
theorem dX3_chain_63 : decode cX3_chain 63 = .ok (.getfield 9, 3) := by decide +kernel
theorem dX3_chain_66 : decode cX3_chain 66 = .ok (.iload_n 3, 1) := by decide +kernel
theorem dX3_chain_67 : decode cX3_chain 67 = .ok (.dup2, 1) := by decide +kernel
theorem dX3_chain_68 : decode cX3_chain 68 = .ok (.iaload, 1) := by decide +kernel
theorem dX3_chain_69 : decode cX3_chain 69 = .ok (.aload_n 0, 1) := by decide +kernel
theorem dX3_chain_70 : decode cX3_chain 70 = .ok (.getfield 9, 3) := by decide +kernel
theorem dX3_chain_73 : decode cX3_chain 73 = .ok (.iload_n 2, 1) := by decide +kernel
theorem dX3_chain_74 : decode cX3_chain 74 = .ok (.iaload, 1) := by decide +kernel
theorem dX3_chain_75 : decode cX3_chain 75 = .ok (.ior, 1) := by decide +kernel
theorem dX3_chain_76 : decode cX3_chain 76 = .ok (.iastore, 1) := by decide +kernel
theorem dX3_chain_77 : decode cX3_chain 77 = .ok (.iinc 3 1, 3) := by decide +kernel
theorem dX3_chain_80 : decode cX3_chain 80 = .ok (.goto (-40), 3) := by decide +kernel
theorem dX3_chain_83 : decode cX3_chain 83 = .ok (.iinc 2 1, 3) := by decide +kernel
theorem dX3_chain_86 : decode cX3_chain 86 = .ok (.goto (-56), 3) := by decide +kernel
theorem dX3_chain_89 : decode cX3_chain 89 = .ok (.return_, 1) := by decide +kernel
theorem dX3_isRound_0 : decode cX3_isRound 0 = .ok (.iconst 0, 1) := by decide +kernel
theorem dX3_isRound_1 : decode cX3_isRound 1 = .ok (.istore_n 1, 1) := by decide +kernel
theorem dX3_isRound_2 : decode cX3_isRound 2 = .ok (.iload_n 1, 1) := by decide +kernel
theorem dX3_isRound_3 : decode cX3_isRound 3 = .ok (.aload_n 0, 1) := by decide +kernel
theorem dX3_isRound_4 : decode cX3_isRound 4 = .ok (.getfield 30, 3) := by decide +kernel
theorem dX3_isRound_7 : decode cX3_isRound 7 = .ok (.if_icmp .ge 25, 3) := by decide +kernel
theorem dX3_isRound_10 : decode cX3_isRound 10 = .ok (.aload_n 0, 1) := by decide +kernel
theorem dX3_isRound_11 : decode cX3_isRound 11 = .ok (.getfield 9, 3) := by decide +kernel
theorem dX3_isRound_14 : decode cX3_isRound 14 = .ok (.iload_n 1, 1) := by decide +kernel
theorem dX3_isRound_15 : decode cX3_isRound 15 = .ok (.iaload, 1) := by decide +kernel
theorem dX3_isRound_16 : decode cX3_isRound 16 = .ok (.iload_n 1, 1) := by decide +kernel
theorem dX3_isRound_17 : decode cX3_isRound 17 = .ok (.iushr, 1) := by decide +kernel
theorem dX3_isRound_18 : decode cX3_isRound 18 = .ok (.iconst 1, 1) := by decide +kernel
theorem dX3_isRound_19 : decode cX3_isRound 19 = .ok (.iand, 1) := by decide +kernel
theorem dX3_isRound_20 : decode cX3_isRound 20 = .ok (.iconst 1, 1) := by decide +kernel
theorem dX3_isRound_21 : decode cX3_isRound 21 = .ok (.if_icmp .ne 5, 3) := by decide +kernel
theorem dX3_isRound_24 : decode cX3_isRound 24 = .ok (.iconst 1, 1) := by decide +kernel
theorem dX3_isRound_25 : decode cX3_isRound 25 = .ok (.ireturn, 1) := by decide +kernel
theorem dX3_isRound_26 : decode cX3_isRound 26 = .ok (.iinc 1 1, 3) := by decide +kernel
theorem dX3_isRound_29 : decode cX3_isRound 29 = .ok (.goto (-27), 3) := by decide +kernel
theorem dX3_isRound_32 : decode cX3_isRound 32 = .ok (.iconst 0, 1) := by decide +kernel
theorem dX3_isRound_33 : decode cX3_isRound 33 = .ok (.ireturn, 1) := by decide +kernel
theorem dX3_findKin_0 : decode cX3_findKin 0 = .ok (.aload_n 0, 1) := by decide +kernel
theorem dX3_findKin_1 : decode cX3_findKin 1 = .ok (.getfield 9, 3) := by decide +kernel
theorem dX3_findKin_4 : decode cX3_findKin 4 = .ok (.iconst 0, 1) := by decide +kernel
theorem dX3_findKin_5 : decode cX3_findKin 5 = .ok (.aload_n 0, 1) := by decide +kernel
theorem dX3_findKin_6 : decode cX3_findKin 6 = .ok (.getfield 15, 3) := by decide +kernel
theorem dX3_findKin_9 : decode cX3_findKin 9 = .ok (.iconst 0, 1) := by decide +kernel
theorem dX3_findKin_10 : decode cX3_findKin 10 = .ok (.bipush 12, 2) := by decide +kernel
theorem dX3_findKin_12 : decode cX3_findKin 12 = .ok (.invokestatic 38, 3) := by decide +kernel
theorem dX3_findKin_15 : decode cX3_findKin 15 = .ok (.iconst 0, 1) := by decide +kernel
theorem dX3_findKin_16 : decode cX3_findKin 16 = .ok (.istore_n 1, 1) := by decide +kernel
theorem dX3_findKin_17 : decode cX3_findKin 17 = .ok (.iload_n 1, 1) := by decide +kernel
theorem dX3_findKin_18 : decode cX3_findKin 18 = .ok (.aload_n 0, 1) := by decide +kernel
theorem dX3_findKin_19 : decode cX3_findKin 19 = .ok (.getfield 30, 3) := by decide +kernel
theorem dX3_findKin_22 : decode cX3_findKin 22 = .ok (.if_icmp .ge 46, 3) := by decide +kernel
theorem dX3_findKin_25 : decode cX3_findKin 25 = .ok (.iconst 0, 1) := by decide +kernel
theorem dX3_findKin_26 : decode cX3_findKin 26 = .ok (.istore_n 2, 1) := by decide +kernel
theorem dX3_findKin_27 : decode cX3_findKin 27 = .ok (.iload_n 2, 1) := by decide +kernel
theorem dX3_findKin_28 : decode cX3_findKin 28 = .ok (.aload_n 0, 1) := by decide +kernel
theorem dX3_findKin_29 : decode cX3_findKin 29 = .ok (.getfield 30, 3) := by decide +kernel
theorem dX3_findKin_32 : decode cX3_findKin 32 = .ok (.if_icmp .ge 30, 3) := by decide +kernel
theorem dX3_findKin_35 : decode cX3_findKin 35 = .ok (.aload_n 0, 1) := by decide +kernel
theorem dX3_findKin_36 : decode cX3_findKin 36 = .ok (.getfield 15, 3) := by decide +kernel
theorem dX3_findKin_39 : decode cX3_findKin 39 = .ok (.iload_n 2, 1) := by decide +kernel
theorem dX3_findKin_40 : decode cX3_findKin 40 = .ok (.dup2, 1) := by decide +kernel
theorem dX3_findKin_41 : decode cX3_findKin 41 = .ok (.iaload, 1) := by decide +kernel
theorem dX3_findKin_42 : decode cX3_findKin 42 = .ok (.aload_n 0, 1) := by decide +kernel
theorem dX3_findKin_43 : decode cX3_findKin 43 = .ok (.getfield 9, 3) := by decide +kernel
theorem dX3_findKin_46 : decode cX3_findKin 46 = .ok (.iload_n 1, 1) := by decide +kernel
theorem dX3_findKin_47 : decode cX3_findKin 47 = .ok (.iaload, 1) := by decide +kernel
theorem dX3_findKin_48 : decode cX3_findKin 48 = .ok (.iload_n 2, 1) := by decide +kernel
theorem dX3_findKin_49 : decode cX3_findKin 49 = .ok (.iushr, 1) := by decide +kernel
theorem dX3_findKin_50 : decode cX3_findKin 50 = .ok (.iconst 1, 1) := by decide +kernel
theorem dX3_findKin_51 : decode cX3_findKin 51 = .ok (.iand, 1) := by decide +kernel
theorem dX3_findKin_52 : decode cX3_findKin 52 = .ok (.iload_n 1, 1) := by decide +kernel
theorem dX3_findKin_53 : decode cX3_findKin 53 = .ok (.ishl, 1) := by decide +kernel
theorem dX3_findKin_54 : decode cX3_findKin 54 = .ok (.ior, 1) := by decide +kernel
theorem dX3_findKin_55 : decode cX3_findKin 55 = .ok (.iastore, 1) := by decide +kernel
theorem dX3_findKin_56 : decode cX3_findKin 56 = .ok (.iinc 2 1, 3) := by decide +kernel
theorem dX3_findKin_59 : decode cX3_findKin 59 = .ok (.goto (-32), 3) := by decide +kernel
theorem dX3_findKin_62 : decode cX3_findKin 62 = .ok (.iinc 1 1, 3) := by decide +kernel
theorem dX3_findKin_65 : decode cX3_findKin 65 = .ok (.goto (-48), 3) := by decide +kernel
theorem dX3_findKin_68 : decode cX3_findKin 68 = .ok (.return_, 1) := by decide +kernel
theorem dX3_isApart_0 : decode cX3_isApart 0 = .ok (.iconst 0, 1) := by decide +kernel
theorem dX3_isApart_1 : decode cX3_isApart 1 = .ok (.istore_n 2, 1) := by decide +kernel
theorem dX3_isApart_2 : decode cX3_isApart 2 = .ok (.iload_n 2, 1) := by decide +kernel
theorem dX3_isApart_3 : decode cX3_isApart 3 = .ok (.aload_n 0, 1) := by decide +kernel
theorem dX3_isApart_4 : decode cX3_isApart 4 = .ok (.getfield 30, 3) := by decide +kernel
theorem dX3_isApart_7 : decode cX3_isApart 7 = .ok (.if_icmp .ge 31, 3) := by decide +kernel
theorem dX3_isApart_10 : decode cX3_isApart 10 = .ok (.iload_n 1, 1) := by decide +kernel
theorem dX3_isApart_11 : decode cX3_isApart 11 = .ok (.iload_n 2, 1) := by decide +kernel
theorem dX3_isApart_12 : decode cX3_isApart 12 = .ok (.iushr, 1) := by decide +kernel
theorem dX3_isApart_13 : decode cX3_isApart 13 = .ok (.iconst 1, 1) := by decide +kernel
theorem dX3_isApart_14 : decode cX3_isApart 14 = .ok (.iand, 1) := by decide +kernel
theorem dX3_isApart_15 : decode cX3_isApart 15 = .ok (.iconst 1, 1) := by decide +kernel
theorem dX3_isApart_16 : decode cX3_isApart 16 = .ok (.if_icmp .ne 16, 3) := by decide +kernel
theorem dX3_isApart_19 : decode cX3_isApart 19 = .ok (.aload_n 0, 1) := by decide +kernel
theorem dX3_isApart_20 : decode cX3_isApart 20 = .ok (.getfield 15, 3) := by decide +kernel
theorem dX3_isApart_23 : decode cX3_isApart 23 = .ok (.iload_n 2, 1) := by decide +kernel
theorem dX3_isApart_24 : decode cX3_isApart 24 = .ok (.iaload, 1) := by decide +kernel
theorem dX3_isApart_25 : decode cX3_isApart 25 = .ok (.iload_n 1, 1) := by decide +kernel
theorem dX3_isApart_26 : decode cX3_isApart 26 = .ok (.iand, 1) := by decide +kernel
theorem dX3_isApart_27 : decode cX3_isApart 27 = .ok (.ifCond .eq 5, 3) := by decide +kernel
theorem dX3_isApart_30 : decode cX3_isApart 30 = .ok (.iconst 0, 1) := by decide +kernel
theorem dX3_isApart_31 : decode cX3_isApart 31 = .ok (.ireturn, 1) := by decide +kernel
theorem dX3_isApart_32 : decode cX3_isApart 32 = .ok (.iinc 2 1, 3) := by decide +kernel
theorem dX3_isApart_35 : decode cX3_isApart 35 = .ok (.goto (-33), 3) := by decide +kernel
theorem dX3_isApart_38 : decode cX3_isApart 38 = .ok (.iconst 1, 1) := by decide +kernel
theorem dX3_isApart_39 : decode cX3_isApart 39 = .ok (.ireturn, 1) := by decide +kernel
theorem dX3_findApart_0 : decode cX3_findApart 0 = .ok (.aload_n 0, 1) := by decide +kernel
theorem dX3_findApart_1 : decode cX3_findApart 1 = .ok (.iconst 0, 1) := by decide +kernel
theorem dX3_findApart_2 : decode cX3_findApart 2 = .ok (.putfield 60, 3) := by decide +kernel
theorem dX3_findApart_5 : decode cX3_findApart 5 = .ok (.aload_n 0, 1) := by decide +kernel
theorem dX3_findApart_6 : decode cX3_findApart 6 = .ok (.iconst 0, 1) := by decide +kernel
theorem dX3_findApart_7 : decode cX3_findApart 7 = .ok (.putfield 63, 3) := by decide +kernel
theorem dX3_findApart_10 : decode cX3_findApart 10 = .ok (.iconst 1, 1) := by decide +kernel
theorem dX3_findApart_11 : decode cX3_findApart 11 = .ok (.istore_n 1, 1) := by decide +kernel
theorem dX3_findApart_12 : decode cX3_findApart 12 = .ok (.iload_n 1, 1) := by decide +kernel
theorem dX3_findApart_13 : decode cX3_findApart 13 = .ok (.iconst 1, 1) := by decide +kernel
theorem dX3_findApart_14 : decode cX3_findApart 14 = .ok (.aload_n 0, 1) := by decide +kernel
theorem dX3_findApart_15 : decode cX3_findApart 15 = .ok (.getfield 30, 3) := by decide +kernel
theorem dX3_findApart_18 : decode cX3_findApart 18 = .ok (.ishl, 1) := by decide +kernel
theorem dX3_findApart_19 : decode cX3_findApart 19 = .ok (.if_icmp .ge 40, 3) := by decide +kernel
theorem dX3_findApart_22 : decode cX3_findApart 22 = .ok (.iload_n 1, 1) := by decide +kernel
theorem dX3_findApart_23 : decode cX3_findApart 23 = .ok (.invokestatic 66, 3) := by decide +kernel
theorem dX3_findApart_26 : decode cX3_findApart 26 = .ok (.istore_n 2, 1) := by decide +kernel
theorem dX3_findApart_27 : decode cX3_findApart 27 = .ok (.iload_n 2, 1) := by decide +kernel
theorem dX3_findApart_28 : decode cX3_findApart 28 = .ok (.aload_n 0, 1) := by decide +kernel
theorem dX3_findApart_29 : decode cX3_findApart 29 = .ok (.getfield 60, 3) := by decide +kernel
theorem dX3_findApart_32 : decode cX3_findApart 32 = .ok (.if_icmp .le 21, 3) := by decide +kernel
theorem dX3_findApart_35 : decode cX3_findApart 35 = .ok (.aload_n 0, 1) := by decide +kernel
theorem dX3_findApart_36 : decode cX3_findApart 36 = .ok (.iload_n 1, 1) := by decide +kernel
theorem dX3_findApart_37 : decode cX3_findApart 37 = .ok (.invokevirtual 72, 3) := by decide +kernel
theorem dX3_findApart_40 : decode cX3_findApart 40 = .ok (.ifCond .eq 13, 3) := by decide +kernel
theorem dX3_findApart_43 : decode cX3_findApart 43 = .ok (.aload_n 0, 1) := by decide +kernel
theorem dX3_findApart_44 : decode cX3_findApart 44 = .ok (.iload_n 2, 1) := by decide +kernel
theorem dX3_findApart_45 : decode cX3_findApart 45 = .ok (.putfield 60, 3) := by decide +kernel
theorem dX3_findApart_48 : decode cX3_findApart 48 = .ok (.aload_n 0, 1) := by decide +kernel
theorem dX3_findApart_49 : decode cX3_findApart 49 = .ok (.iload_n 1, 1) := by decide +kernel
theorem dX3_findApart_50 : decode cX3_findApart 50 = .ok (.putfield 63, 3) := by decide +kernel
theorem dX3_findApart_53 : decode cX3_findApart 53 = .ok (.iinc 1 1, 3) := by decide +kernel
theorem dX3_findApart_56 : decode cX3_findApart 56 = .ok (.goto (-44), 3) := by decide +kernel
theorem dX3_findApart_59 : decode cX3_findApart 59 = .ok (.return_, 1) := by decide +kernel
theorem dX3_give_0 : decode cX3_give 0 = .ok (.iload_n 1, 1) := by decide +kernel
theorem dX3_give_1 : decode cX3_give 1 = .ok (.aload_n 0, 1) := by decide +kernel
theorem dX3_give_2 : decode cX3_give 2 = .ok (.getfield 30, 3) := by decide +kernel
theorem dX3_give_5 : decode cX3_give 5 = .ok (.if_icmp .lt 5, 3) := by decide +kernel
theorem dX3_give_8 : decode cX3_give 8 = .ok (.iconst 1, 1) := by decide +kernel
theorem dX3_give_9 : decode cX3_give 9 = .ok (.ireturn, 1) := by decide +kernel
theorem dX3_give_10 : decode cX3_give 10 = .ok (.iconst 0, 1) := by decide +kernel
theorem dX3_give_11 : decode cX3_give 11 = .ok (.istore_n 3, 1) := by decide +kernel
theorem dX3_give_12 : decode cX3_give 12 = .ok (.iload_n 3, 1) := by decide +kernel
theorem dX3_give_13 : decode cX3_give 13 = .ok (.iload_n 2, 1) := by decide +kernel
theorem dX3_give_14 : decode cX3_give 14 = .ok (.if_icmp .gt 85, 3) := by decide +kernel
theorem dX3_give_17 : decode cX3_give 17 = .ok (.iload_n 3, 1) := by decide +kernel
theorem dX3_give_18 : decode cX3_give 18 = .ok (.aload_n 0, 1) := by decide +kernel
theorem dX3_give_19 : decode cX3_give 19 = .ok (.getfield 60, 3) := by decide +kernel
theorem dX3_give_22 : decode cX3_give 22 = .ok (.if_icmp .ge 77, 3) := by decide +kernel
theorem dX3_give_25 : decode cX3_give 25 = .ok (.aload_n 0, 1) := by decide +kernel
theorem dX3_give_26 : decode cX3_give 26 = .ok (.getfield 21, 3) := by decide +kernel
theorem dX3_give_29 : decode cX3_give 29 = .ok (.iload_n 3, 1) := by decide +kernel
theorem dX3_give_30 : decode cX3_give 30 = .ok (.iaload, 1) := by decide +kernel
theorem dX3_give_31 : decode cX3_give 31 = .ok (.aload_n 0, 1) := by decide +kernel
theorem dX3_give_32 : decode cX3_give 32 = .ok (.getfield 15, 3) := by decide +kernel
theorem dX3_give_35 : decode cX3_give 35 = .ok (.iload_n 1, 1) := by decide +kernel
theorem dX3_give_36 : decode cX3_give 36 = .ok (.iaload, 1) := by decide +kernel
theorem dX3_give_37 : decode cX3_give 37 = .ok (.iconst (-1), 1) := by decide +kernel
theorem dX3_give_38 : decode cX3_give 38 = .ok (.ixor, 1) := by decide +kernel
theorem dX3_give_39 : decode cX3_give 39 = .ok (.iand, 1) := by decide +kernel
theorem dX3_give_40 : decode cX3_give 40 = .ok (.ifCond .ne 53, 3) := by decide +kernel
theorem dX3_give_43 : decode cX3_give 43 = .ok (.aload_n 0, 1) := by decide +kernel
theorem dX3_give_44 : decode cX3_give 44 = .ok (.getfield 21, 3) := by decide +kernel
theorem dX3_give_47 : decode cX3_give 47 = .ok (.iload_n 3, 1) := by decide +kernel
theorem dX3_give_48 : decode cX3_give 48 = .ok (.dup2, 1) := by decide +kernel
theorem dX3_give_49 : decode cX3_give 49 = .ok (.iaload, 1) := by decide +kernel
theorem dX3_give_50 : decode cX3_give 50 = .ok (.iconst 1, 1) := by decide +kernel
theorem dX3_give_51 : decode cX3_give 51 = .ok (.iload_n 1, 1) := by decide +kernel
theorem dX3_give_52 : decode cX3_give 52 = .ok (.ishl, 1) := by decide +kernel
theorem dX3_give_53 : decode cX3_give 53 = .ok (.ior, 1) := by decide +kernel
theorem dX3_give_54 : decode cX3_give 54 = .ok (.iastore, 1) := by decide +kernel
theorem dX3_give_55 : decode cX3_give 55 = .ok (.aload_n 0, 1) := by decide +kernel
theorem dX3_give_56 : decode cX3_give 56 = .ok (.getfield 18, 3) := by decide +kernel
theorem dX3_give_59 : decode cX3_give 59 = .ok (.iload_n 1, 1) := by decide +kernel
theorem dX3_give_60 : decode cX3_give 60 = .ok (.iload_n 3, 1) := by decide +kernel
theorem dX3_give_61 : decode cX3_give 61 = .ok (.iastore, 1) := by decide +kernel
theorem dX3_give_62 : decode cX3_give 62 = .ok (.aload_n 0, 1) := by decide +kernel
theorem dX3_give_63 : decode cX3_give 63 = .ok (.iload_n 1, 1) := by decide +kernel
theorem dX3_give_64 : decode cX3_give 64 = .ok (.iconst 1, 1) := by decide +kernel
theorem dX3_give_65 : decode cX3_give 65 = .ok (.iadd, 1) := by decide +kernel
theorem dX3_give_66 : decode cX3_give 66 = .ok (.iload_n 2, 1) := by decide +kernel
theorem dX3_give_67 : decode cX3_give 67 = .ok (.iload_n 3, 1) := by decide +kernel
theorem dX3_give_68 : decode cX3_give 68 = .ok (.iconst 1, 1) := by decide +kernel
theorem dX3_give_69 : decode cX3_give 69 = .ok (.iadd, 1) := by decide +kernel
theorem dX3_give_70 : decode cX3_give 70 = .ok (.invokestatic 76, 3) := by decide +kernel
theorem dX3_give_73 : decode cX3_give 73 = .ok (.invokevirtual 56, 3) := by decide +kernel
theorem dX3_give_76 : decode cX3_give 76 = .ok (.ifCond .eq 5, 3) := by decide +kernel
theorem dX3_give_79 : decode cX3_give 79 = .ok (.iconst 1, 1) := by decide +kernel
theorem dX3_give_80 : decode cX3_give 80 = .ok (.ireturn, 1) := by decide +kernel
theorem dX3_give_81 : decode cX3_give 81 = .ok (.aload_n 0, 1) := by decide +kernel
theorem dX3_give_82 : decode cX3_give 82 = .ok (.getfield 21, 3) := by decide +kernel
theorem dX3_give_85 : decode cX3_give 85 = .ok (.iload_n 3, 1) := by decide +kernel
theorem dX3_give_86 : decode cX3_give 86 = .ok (.dup2, 1) := by decide +kernel
theorem dX3_give_87 : decode cX3_give 87 = .ok (.iaload, 1) := by decide +kernel
theorem dX3_give_88 : decode cX3_give 88 = .ok (.iconst 1, 1) := by decide +kernel
theorem dX3_give_89 : decode cX3_give 89 = .ok (.iload_n 1, 1) := by decide +kernel
theorem dX3_give_90 : decode cX3_give 90 = .ok (.ishl, 1) := by decide +kernel
theorem dX3_give_91 : decode cX3_give 91 = .ok (.ixor, 1) := by decide +kernel
theorem dX3_give_92 : decode cX3_give 92 = .ok (.iastore, 1) := by decide +kernel
theorem dX3_give_93 : decode cX3_give 93 = .ok (.iinc 3 1, 3) := by decide +kernel
theorem dX3_give_96 : decode cX3_give 96 = .ok (.goto (-84), 3) := by decide +kernel
theorem dX3_give_99 : decode cX3_give 99 = .ok (.iconst 0, 1) := by decide +kernel
theorem dX3_give_100 : decode cX3_give 100 = .ok (.ireturn, 1) := by decide +kernel
theorem dX3_settle_0 : decode cX3_settle 0 = .ok (.aload_n 0, 1) := by decide +kernel
theorem dX3_settle_1 : decode cX3_settle 1 = .ok (.getfield 31, 3) := by decide +kernel
theorem dX3_settle_4 : decode cX3_settle 4 = .ok (.ifCond .eq 4, 3) := by decide +kernel
theorem dX3_settle_7 : decode cX3_settle 7 = .ok (.return_, 1) := by decide +kernel
theorem dX3_settle_8 : decode cX3_settle 8 = .ok (.aload_n 0, 1) := by decide +kernel
theorem dX3_settle_9 : decode cX3_settle 9 = .ok (.iconst 1, 1) := by decide +kernel
theorem dX3_settle_10 : decode cX3_settle 10 = .ok (.putfield 31, 3) := by decide +kernel
theorem dX3_settle_13 : decode cX3_settle 13 = .ok (.aload_n 0, 1) := by decide +kernel
theorem dX3_settle_14 : decode cX3_settle 14 = .ok (.invokevirtual 44, 3) := by decide +kernel
theorem dX3_settle_17 : decode cX3_settle 17 = .ok (.aload_n 0, 1) := by decide +kernel
theorem dX3_settle_18 : decode cX3_settle 18 = .ok (.invokevirtual 47, 3) := by decide +kernel
theorem dX3_settle_21 : decode cX3_settle 21 = .ok (.aload_n 0, 1) := by decide +kernel
theorem dX3_settle_22 : decode cX3_settle 22 = .ok (.getfield 21, 3) := by decide +kernel
theorem dX3_settle_25 : decode cX3_settle 25 = .ok (.iconst 0, 1) := by decide +kernel
theorem dX3_settle_26 : decode cX3_settle 26 = .ok (.invokestatic 50, 3) := by decide +kernel
theorem dX3_settle_29 : decode cX3_settle 29 = .ok (.aload_n 0, 1) := by decide +kernel
theorem dX3_settle_30 : decode cX3_settle 30 = .ok (.iconst 0, 1) := by decide +kernel
theorem dX3_settle_31 : decode cX3_settle 31 = .ok (.iconst 0, 1) := by decide +kernel
theorem dX3_settle_32 : decode cX3_settle 32 = .ok (.invokevirtual 56, 3) := by decide +kernel
theorem dX3_settle_35 : decode cX3_settle 35 = .ok (.pop, 1) := by decide +kernel
theorem dX3_settle_36 : decode cX3_settle 36 = .ok (.return_, 1) := by decide +kernel
set_option maxHeartbeats 4000000 in
set_option maxRecDepth 100000 in
theorem c_J6_bitCount_0f7a4 (l : Launch) (D : DG) (cyC cyI cyJ cyZ cyO : ClassId) (p0 : Int32) : KK l D (TY cyC cyI cyJ cyZ cyO) yJ6_bitCount_0f7a4 cJ6_bitCount_0f7a4 1 (some .int) ({ frames := 0, cells := 0, slots := 0, locals := 0 } : Room) 0 0 [.int p0] [] (fun u => some (.int (u.2.1 0))) (fun u => (0 ≤ (u.2.1 0).toInt ∧ (u.2.1 0).toInt ≤ 63)) (fun u => []) := by
  refine KK.of (lv0 := [(0, .int p0)]) (by decide) rfl (Nat.le_of_ble_eq_true rfl) ?_
  intro p e s m args below meth c A C hr hk hin
  refine j_iload_n (pc := 0) C dJ6_bitCount_0f7a4_0 rfl 0 rfl ?_
  refine j_iload_n (pc := 1) C dJ6_bitCount_0f7a4_1 rfl 0 rfl ?_
  refine j_iconst (pc := 2) (v := 1) C dJ6_bitCount_0f7a4_2 (by decide) ?_
  obtain ⟨v_1, ev_1⟩ : ∃ z : Int32, ((p0 : Int32).toUInt32 >>> ((1 : Int32).toUInt32 &&& Int32.toUInt32 31)).toInt32 = z := ⟨_, rfl⟩
  have el_1 : (1 : Int32).toInt = 1 := rfl
  refine j_iushr (pc := 3) (v := v_1) C dJ6_bitCount_0f7a4_3 ev_1 ?_
  refine j_ldcw (pc := 4) C wd_72 dJ6_bitCount_0f7a4_4 ?_
  obtain ⟨v_2, ev_2⟩ : ∃ z : Int32, v_1 &&& 1431655765 = z := ⟨_, rfl⟩
  have el_1431655765 : (1431655765 : Int32).toInt = 1431655765 := rfl
  have hv_2 : 0 ≤ v_2.toInt ∧ v_2.toInt ≤ (1431655765 : Int32).toInt := by rw [← ev_2]; exact andb_r (by omega)
  refine j_iand (pc := 7) (v := v_2) C dJ6_bitCount_0f7a4_7 ev_2 ?_
  obtain ⟨v_3, ev_3⟩ : ∃ z : Int32, p0 - v_2 = z := ⟨_, rfl⟩
  refine j_isub (pc := 8) (v := v_3) C dJ6_bitCount_0f7a4_8 ev_3 ?_
  refine j_istore_n (pc := 9) (lv' := [(0, .int v_3)]) C dJ6_bitCount_0f7a4_9 rfl (by decide) rfl ?_
  refine j_iload_n (pc := 10) C dJ6_bitCount_0f7a4_10 rfl 0 rfl ?_
  refine j_ldcw (pc := 11) C wd_73 dJ6_bitCount_0f7a4_11 ?_
  obtain ⟨v_4, ev_4⟩ : ∃ z : Int32, v_3 &&& 858993459 = z := ⟨_, rfl⟩
  have el_858993459 : (858993459 : Int32).toInt = 858993459 := rfl
  have hv_4 : 0 ≤ v_4.toInt ∧ v_4.toInt ≤ (858993459 : Int32).toInt := by rw [← ev_4]; exact andb_r (by omega)
  refine j_iand (pc := 14) (v := v_4) C dJ6_bitCount_0f7a4_14 ev_4 ?_
  refine j_iload_n (pc := 15) C dJ6_bitCount_0f7a4_15 rfl 0 rfl ?_
  refine j_iconst (pc := 16) (v := 2) C dJ6_bitCount_0f7a4_16 (by decide) ?_
  obtain ⟨v_5, ev_5⟩ : ∃ z : Int32, ((v_3 : Int32).toUInt32 >>> ((2 : Int32).toUInt32 &&& Int32.toUInt32 31)).toInt32 = z := ⟨_, rfl⟩
  have el_2 : (2 : Int32).toInt = 2 := rfl
  refine j_iushr (pc := 17) (v := v_5) C dJ6_bitCount_0f7a4_17 ev_5 ?_
  refine j_ldcw (pc := 18) C wd_73 dJ6_bitCount_0f7a4_18 ?_
  obtain ⟨v_6, ev_6⟩ : ∃ z : Int32, v_5 &&& 858993459 = z := ⟨_, rfl⟩
  have el_858993459 : (858993459 : Int32).toInt = 858993459 := rfl
  have hv_6 : 0 ≤ v_6.toInt ∧ v_6.toInt ≤ (858993459 : Int32).toInt := by rw [← ev_6]; exact andb_r (by omega)
  refine j_iand (pc := 21) (v := v_6) C dJ6_bitCount_0f7a4_21 ev_6 ?_
  obtain ⟨v_7, ev_7⟩ : ∃ z : Int32, v_4 + v_6 = z := ⟨_, rfl⟩
  have hv_7 : v_7.toInt = v_4.toInt + v_6.toInt := by rw [← ev_7]; exact fb_addI (by omega) (by omega)
  refine j_iadd (pc := 22) (v := v_7) C dJ6_bitCount_0f7a4_22 ev_7 ?_
  refine j_istore_n (pc := 23) (lv' := [(0, .int v_7)]) C dJ6_bitCount_0f7a4_23 rfl (by decide) rfl ?_
  refine j_iload_n (pc := 24) C dJ6_bitCount_0f7a4_24 rfl 0 rfl ?_
  refine j_iload_n (pc := 25) C dJ6_bitCount_0f7a4_25 rfl 0 rfl ?_
  refine j_iconst (pc := 26) (v := 4) C dJ6_bitCount_0f7a4_26 (by decide) ?_
  obtain ⟨v_8, ev_8⟩ : ∃ z : Int32, ((v_7 : Int32).toUInt32 >>> ((4 : Int32).toUInt32 &&& Int32.toUInt32 31)).toInt32 = z := ⟨_, rfl⟩
  have el_4 : (4 : Int32).toInt = 4 := rfl
  refine j_iushr (pc := 27) (v := v_8) C dJ6_bitCount_0f7a4_27 ev_8 ?_
  obtain ⟨v_9, ev_9⟩ : ∃ z : Int32, v_7 + v_8 = z := ⟨_, rfl⟩
  refine j_iadd (pc := 28) (v := v_9) C dJ6_bitCount_0f7a4_28 ev_9 ?_
  refine j_ldcw (pc := 29) C wd_74 dJ6_bitCount_0f7a4_29 ?_
  obtain ⟨v_10, ev_10⟩ : ∃ z : Int32, v_9 &&& 252645135 = z := ⟨_, rfl⟩
  have el_252645135 : (252645135 : Int32).toInt = 252645135 := rfl
  have hv_10 : 0 ≤ v_10.toInt ∧ v_10.toInt ≤ (252645135 : Int32).toInt := by rw [← ev_10]; exact andb_r (by omega)
  refine j_iand (pc := 32) (v := v_10) C dJ6_bitCount_0f7a4_32 ev_10 ?_
  refine j_istore_n (pc := 33) (lv' := [(0, .int v_10)]) C dJ6_bitCount_0f7a4_33 rfl (by decide) rfl ?_
  refine j_iload_n (pc := 34) C dJ6_bitCount_0f7a4_34 rfl 0 rfl ?_
  refine j_iload_n (pc := 35) C dJ6_bitCount_0f7a4_35 rfl 0 rfl ?_
  refine j_bipush (pc := 36) (v := 8) C dJ6_bitCount_0f7a4_36 (by decide) ?_
  obtain ⟨v_11, ev_11⟩ : ∃ z : Int32, ((v_10 : Int32).toUInt32 >>> ((8 : Int32).toUInt32 &&& Int32.toUInt32 31)).toInt32 = z := ⟨_, rfl⟩
  have el_8 : (8 : Int32).toInt = 8 := rfl
  refine j_iushr (pc := 38) (v := v_11) C dJ6_bitCount_0f7a4_38 ev_11 ?_
  obtain ⟨v_12, ev_12⟩ : ∃ z : Int32, v_10 + v_11 = z := ⟨_, rfl⟩
  refine j_iadd (pc := 39) (v := v_12) C dJ6_bitCount_0f7a4_39 ev_12 ?_
  refine j_istore_n (pc := 40) (lv' := [(0, .int v_12)]) C dJ6_bitCount_0f7a4_40 rfl (by decide) rfl ?_
  refine j_iload_n (pc := 41) C dJ6_bitCount_0f7a4_41 rfl 0 rfl ?_
  refine j_iload_n (pc := 42) C dJ6_bitCount_0f7a4_42 rfl 0 rfl ?_
  refine j_bipush (pc := 43) (v := 16) C dJ6_bitCount_0f7a4_43 (by decide) ?_
  obtain ⟨v_13, ev_13⟩ : ∃ z : Int32, ((v_12 : Int32).toUInt32 >>> ((16 : Int32).toUInt32 &&& Int32.toUInt32 31)).toInt32 = z := ⟨_, rfl⟩
  have el_16 : (16 : Int32).toInt = 16 := rfl
  refine j_iushr (pc := 45) (v := v_13) C dJ6_bitCount_0f7a4_45 ev_13 ?_
  obtain ⟨v_14, ev_14⟩ : ∃ z : Int32, v_12 + v_13 = z := ⟨_, rfl⟩
  refine j_iadd (pc := 46) (v := v_14) C dJ6_bitCount_0f7a4_46 ev_14 ?_
  refine j_istore_n (pc := 47) (lv' := [(0, .int v_14)]) C dJ6_bitCount_0f7a4_47 rfl (by decide) rfl ?_
  refine j_iload_n (pc := 48) C dJ6_bitCount_0f7a4_48 rfl 0 rfl ?_
  refine j_bipush (pc := 49) (v := 63) C dJ6_bitCount_0f7a4_49 (by decide) ?_
  obtain ⟨v_15, ev_15⟩ : ∃ z : Int32, v_14 &&& 63 = z := ⟨_, rfl⟩
  have el_63 : (63 : Int32).toInt = 63 := rfl
  have hv_15 : 0 ≤ v_15.toInt ∧ v_15.toInt ≤ 63 := by rw [← ev_15]; exact andm_r _ 6 (by decide) (by decide)
  refine j_iand (pc := 51) (v := v_15) C dJ6_bitCount_0f7a4_51 ev_15 ?_
  exact j_iret (pc := 52) C hr hk (fun i => [].getD i 0, fun i => [v_15].getD i 0, fun i => [].getD i (fun _ => 0), fun i => [].getD i (fun _ => 0)) rfl (show (0 ≤ (v_15).toInt ∧ (v_15).toInt ≤ 63) from (by omega)) [] (by decide) rfl (by decide) (by decide) dJ6_bitCount_0f7a4_52
set_option maxHeartbeats 4000000 in
set_option maxRecDepth 100000 in
theorem c_X3_chain (l : Launch) (D : DG) (cyC cyI cyJ cyZ cyO : ClassId) (o0 : Nat) (o1 : Nat) (a0 : Nat) (a7 : Nat) (o2 : Nat) (o3 : Nat) (o4 : Nat) (a1 : Nat) (a2 : Nat) (a3 : Nat) (a4 : Nat) (a5 : Nat) (a6 : Nat) (a8 : Nat) (a9 : Nat) (a10 : Nat) (o_wares : Int32) (o_known : Int32) (o_fewest : Int32) (o_apart : Int32) (a_wares : Int32) (a_shelves : Int32) (a_nests : Int32) (a_lids : Int32) (a_tops : Int32) (o_above : Nat → Int32) (a_mayOn : Nat → Int32) (h_o_wares : 0 ≤ (o_wares).toInt ∧ (o_wares).toInt ≤ 12) (h_o_known : 0 ≤ (o_known).toInt ∧ (o_known).toInt ≤ 1) (h_a_wares : 0 ≤ (a_wares).toInt ∧ (a_wares).toInt ≤ 12) (h_a_shelves : 0 ≤ (a_shelves).toInt ∧ (a_shelves).toInt ≤ 4) (h_a_nests : 0 ≤ (a_nests).toInt ∧ (a_nests).toInt ≤ 4) : KK l D (TY cyC cyI cyJ cyZ cyO) yX3_chain cX3_chain 4 none ({ frames := 1, cells := 0, slots := 0, locals := 18 } : Room) 0 0 [.ref o0, .ref a0] [(o0, .inr (3, [.int o_wares, .ref o1, .ref o2, .int o_known, .int o_fewest, .int o_apart, .ref o3, .ref o4])), (o1, .inl (cyI, 12, .inl o_above)), (a0, .inr (9, [.int a_wares, .int a_shelves, .int a_nests, .ref a1, .ref a2, .ref a3, .ref a4, .ref a5, .ref a6, .int a_lids, .int a_tops, .ref a7, .ref a8, .ref a9, .ref a10])), (a7, .inl (cyI, 12, .inl a_mayOn))] (fun u => none) (fun u => True) (fun u => [(o0, .inr (3, [.int a_wares, .ref o1, .ref o2, .int 0, .int o_fewest, .int o_apart, .ref o3, .ref o4])), (o1, .inl (cyI, 12, .inl (u.2.2.1 0))), (a0, .inr (9, [.int a_wares, .int a_shelves, .int a_nests, .ref a1, .ref a2, .ref a3, .ref a4, .ref a5, .ref a6, .int a_lids, .int a_tops, .ref a7, .ref a8, .ref a9, .ref a10])), (a7, .inl (cyI, 12, .inl a_mayOn))]) := by
  refine KK.of (lv0 := [(0, .ref o0), (1, .ref a0)]) (by decide) rfl (Nat.le_of_ble_eq_true rfl) ?_
  intro p e s m args below meth c A C hr hk hin
  refine j_aload_n (pc := 0) C dX3_chain_0 rfl 0 rfl ?_
  refine j_aload_n (pc := 1) C dX3_chain_1 rfl 1 rfl ?_
  refine j_get (pc := 2) (ci := 9) (v := .int a_wares) C inw_9 2 rfl rfl 0 (by decide) wd_75 rfl rfl dX3_chain_2 ?_
  refine j_put (pc := 5) (ci := 3) (v := .int a_wares) (ws' := [(o0, .inr (3, [.int a_wares, .ref o1, .ref o2, .int o_known, .int o_fewest, .int o_apart, .ref o3, .ref o4])), (o1, .inl (cyI, 12, .inl o_above)), (a0, .inr (9, [.int a_wares, .int a_shelves, .int a_nests, .ref a1, .ref a2, .ref a3, .ref a4, .ref a5, .ref a6, .int a_lids, .int a_tops, .ref a7, .ref a8, .ref a9, .ref a10])), (a7, .inl (cyI, 12, .inl a_mayOn))]) C inw_3 0 rfl rfl 0 (by decide) wd_76 rfl tyX3_ok nmX3 rfl (tyX3_ok 0 (by decide)) rfl rfl (Nat.le_of_ble_eq_true rfl) dX3_chain_5 rfl ?_
  refine j_aload_n (pc := 8) C dX3_chain_8 rfl 0 rfl ?_
  refine j_iconst (pc := 9) (v := 0) C dX3_chain_9 (by decide) ?_
  refine j_put (pc := 10) (ci := 3) (v := .int 0) (ws' := [(o0, .inr (3, [.int a_wares, .ref o1, .ref o2, .int 0, .int o_fewest, .int o_apart, .ref o3, .ref o4])), (o1, .inl (cyI, 12, .inl o_above)), (a0, .inr (9, [.int a_wares, .int a_shelves, .int a_nests, .ref a1, .ref a2, .ref a3, .ref a4, .ref a5, .ref a6, .int a_lids, .int a_tops, .ref a7, .ref a8, .ref a9, .ref a10])), (a7, .inl (cyI, 12, .inl a_mayOn))]) C inw_3 0 rfl rfl 3 (by decide) wd_77 rfl tyX3_ok nmX3 rfl (tyX3_ok 3 (by decide)) rfl rfl (Nat.le_of_ble_eq_true rfl) dX3_chain_10 rfl ?_
  refine j_aload_n (pc := 13) C dX3_chain_13 rfl 1 rfl ?_
  refine j_get (pc := 14) (ci := 9) (v := .ref a7) C inw_9 2 rfl rfl 11 (by decide) wd_78 rfl rfl dX3_chain_14 ?_
  refine j_iconst (pc := 17) (v := 0) C dX3_chain_17 (by decide) ?_
  refine j_aload_n (pc := 18) C dX3_chain_18 rfl 0 rfl ?_
  refine j_get (pc := 19) (ci := 3) (v := .ref o1) C inw_3 0 rfl rfl 1 (by decide) wd_79 rfl rfl dX3_chain_19 ?_
  refine j_iconst (pc := 22) (v := 0) C dX3_chain_22 (by decide) ?_
  refine j_bipush (pc := 23) (v := 12) C dX3_chain_23 (by decide) ?_
  obtain ⟨f_1, ef_1⟩ : ∃ z, z = va_cpy a_mayOn o_above 0 0 12 := ⟨_, rfl⟩
  refine j_acpy (pc := 25) (ks := 0) (kd := 0) (kn := 12) (ws' := [(o0, .inr (3, [.int a_wares, .ref o1, .ref o2, .int 0, .int o_fewest, .int o_apart, .ref o3, .ref o4])), (o1, .inl (cyI, 12, .inl f_1)), (a0, .inr (9, [.int a_wares, .int a_shelves, .int a_nests, .ref a1, .ref a2, .ref a3, .ref a4, .ref a5, .ref a6, .int a_lids, .int a_tops, .ref a7, .ref a8, .ref a9, .ref a10])), (a7, .inl (cyI, 12, .inl a_mayOn))]) C wd_80 wd_25 wd_26 wd_27 3 1 1 rfl rfl rfl (by decide) (by decide) (by decide) (by decide) (by decide) (by decide) (by decide) (by decide) (by decide) (Nat.le_of_ble_eq_true rfl) dX3_chain_25 (by rw [ef_1]; rfl) ?_
  refine j_arrc (q0 := 1) (g := a_mayOn) (ws' := [(o0, .inr (3, [.int a_wares, .ref o1, .ref o2, .int 0, .int o_fewest, .int o_apart, .ref o3, .ref o4])), (o1, .inl (cyI, 12, .inl a_mayOn)), (a0, .inr (9, [.int a_wares, .int a_shelves, .int a_nests, .ref a1, .ref a2, .ref a3, .ref a4, .ref a5, .ref a6, .int a_lids, .int a_tops, .ref a7, .ref a8, .ref a9, .ref a10])), (a7, .inl (cyI, 12, .inl a_mayOn))]) rfl (fun j hj => by rw [ef_1]; exact cpy_full hj) rfl ?_
  refine j_iconst (pc := 28) (v := 0) C dX3_chain_28 (by decide) ?_
  refine j_istore_n (pc := 29) (lv' := [(2, .int 0), (0, .ref o0), (1, .ref a0)]) C dX3_chain_29 rfl (by decide) rfl ?_
  have loop_2 : ∀ (k_2 : Nat) (x2_2 : Int32) (g2_o1 : Nat → Int32), (0 ≤ (x2_2).toInt ∧ (x2_2).toInt ≤ 12) → (12 - x2_2.toInt).toNat < k_2 → J p l e ({ frames := 1, cells := 0, slots := 0, locals := 18 } : Room) s m args below meth c D A 4 0 0 (QX below D (TY cyC cyI cyJ cyZ cyO) A (fun u => none) (fun u => True) (fun u => [(o0, .inr (3, [.int a_wares, .ref o1, .ref o2, .int 0, .int o_fewest, .int o_apart, .ref o3, .ref o4])), (o1, .inl (cyI, 12, .inl (u.2.2.1 0))), (a0, .inr (9, [.int a_wares, .int a_shelves, .int a_nests, .ref a1, .ref a2, .ref a3, .ref a4, .ref a5, .ref a6, .int a_lids, .int a_tops, .ref a7, .ref a8, .ref a9, .ref a10])), (a7, .inl (cyI, 12, .inl a_mayOn))]) args s 0 0) [(o0, .inr (3, [.int a_wares, .ref o1, .ref o2, .int 0, .int o_fewest, .int o_apart, .ref o3, .ref o4])), (o1, .inl (cyI, 12, .inl g2_o1)), (a0, .inr (9, [.int a_wares, .int a_shelves, .int a_nests, .ref a1, .ref a2, .ref a3, .ref a4, .ref a5, .ref a6, .int a_lids, .int a_tops, .ref a7, .ref a8, .ref a9, .ref a10])), (a7, .inl (cyI, 12, .inl a_mayOn))] 30 [(2, .int x2_2), (0, .ref o0), (1, .ref a0)] [] := by
    intro k_2
    induction k_2 with
    | zero =>
      intro x2_2 g2_o1 hi_2_0 hm_2
      exact absurd hm_2 (Nat.not_lt_zero _)
    | succ k_2 ih_2 =>
      intro x2_2 g2_o1 hi_2_0 hm_2
      refine j_iload_n (pc := 30) C dX3_chain_30 rfl 0 rfl ?_
      refine j_aload_n (pc := 31) C dX3_chain_31 rfl 1 rfl ?_
      refine j_get (pc := 32) (ci := 3) (v := .int a_wares) C inw_3 0 rfl rfl 0 (by decide) wd_76 rfl rfl dX3_chain_32 ?_
      refine j_icmp_ge (pc := 35) (tgt := 89) C dX3_chain_35 (by decide) (fun c_3 => ?_) (fun c_3 => ?_)
      · skip
        rw [i_le] at c_3
        exact j_vret (pc := 89) C hr hk (fun i => [].getD i 0, fun i => [].getD i 0, fun i => [g2_o1].getD i (fun _ => 0), fun i => [].getD i (fun _ => 0)) rfl trivial [0, 1, 2, 3] (by decide) rfl (by decide) (by decide) dX3_chain_89
      · skip
        rw [i_le] at c_3
        refine j_iconst (pc := 38) (v := 0) C dX3_chain_38 (by decide) ?_
        refine j_istore_n (pc := 39) (lv' := [(3, .int 0), (2, .int x2_2), (0, .ref o0), (1, .ref a0)]) C dX3_chain_39 rfl (by decide) rfl ?_
        have loop_4 : ∀ (k_4 : Nat) (x4_3 : Int32) (g4_o1 : Nat → Int32), (0 ≤ (x4_3).toInt ∧ (x4_3).toInt ≤ 12) → (12 - x4_3.toInt).toNat < k_4 → J p l e ({ frames := 1, cells := 0, slots := 0, locals := 18 } : Room) s m args below meth c D A 4 0 0 (QX below D (TY cyC cyI cyJ cyZ cyO) A (fun u => none) (fun u => True) (fun u => [(o0, .inr (3, [.int a_wares, .ref o1, .ref o2, .int 0, .int o_fewest, .int o_apart, .ref o3, .ref o4])), (o1, .inl (cyI, 12, .inl (u.2.2.1 0))), (a0, .inr (9, [.int a_wares, .int a_shelves, .int a_nests, .ref a1, .ref a2, .ref a3, .ref a4, .ref a5, .ref a6, .int a_lids, .int a_tops, .ref a7, .ref a8, .ref a9, .ref a10])), (a7, .inl (cyI, 12, .inl a_mayOn))]) args s 0 0) [(o0, .inr (3, [.int a_wares, .ref o1, .ref o2, .int 0, .int o_fewest, .int o_apart, .ref o3, .ref o4])), (o1, .inl (cyI, 12, .inl g4_o1)), (a0, .inr (9, [.int a_wares, .int a_shelves, .int a_nests, .ref a1, .ref a2, .ref a3, .ref a4, .ref a5, .ref a6, .int a_lids, .int a_tops, .ref a7, .ref a8, .ref a9, .ref a10])), (a7, .inl (cyI, 12, .inl a_mayOn))] 40 [(3, .int x4_3), (2, .int x2_2), (0, .ref o0), (1, .ref a0)] [] := by
          intro k_4
          induction k_4 with
          | zero =>
            intro x4_3 g4_o1 hi_4_0 hm_4
            exact absurd hm_4 (Nat.not_lt_zero _)
          | succ k_4 ih_4 =>
            intro x4_3 g4_o1 hi_4_0 hm_4
            refine j_iload_n (pc := 40) C dX3_chain_40 rfl 0 rfl ?_
            refine j_aload_n (pc := 41) C dX3_chain_41 rfl 2 rfl ?_
            refine j_get (pc := 42) (ci := 3) (v := .int a_wares) C inw_3 0 rfl rfl 0 (by decide) wd_76 rfl rfl dX3_chain_42 ?_
            refine j_icmp_ge (pc := 45) (tgt := 83) C dX3_chain_45 (by decide) (fun c_5 => ?_) (fun c_5 => ?_)
            · skip
              rw [i_le] at c_5
              obtain ⟨v_6, ev_6⟩ : ∃ z : Int32, x2_2 + 1 = z := ⟨_, rfl⟩
              have el_1 : (1 : Int32).toInt = 1 := rfl
              have hv_6 : v_6.toInt = x2_2.toInt + (1 : Int32).toInt := by rw [← ev_6]; exact fb_addI (by omega) (by omega)
              refine j_iinc (pc := 83) (v := v_6) (lv' := [(2, .int v_6), (3, .int x4_3), (0, .ref o0), (1, .ref a0)]) C dX3_chain_83 1 rfl ev_6 (by decide) rfl ?_
              refine j_goto (pc := 86) (tgt := 30) C dX3_chain_86 (by decide) ?_
              exact j_lv [0, 2, 3] rfl (ih_2 v_6 g4_o1 (by omega) (by omega))
            · skip
              rw [i_le] at c_5
              refine j_aload_n (pc := 48) C dX3_chain_48 rfl 2 rfl ?_
              refine j_get (pc := 49) (ci := 3) (v := .ref o1) C inw_3 0 rfl rfl 1 (by decide) wd_79 rfl rfl dX3_chain_49 ?_
              refine j_iload_n (pc := 52) C dX3_chain_52 rfl 0 rfl ?_
              obtain ⟨v_7, ev_7⟩ : ∃ z, g4_o1 (x4_3).toInt.toNat = z := ⟨_, rfl⟩
              have env_7 : (g4_o1 (x4_3).toInt.toNat).toInt = v_7.toInt := by rw [ev_7]
              refine j_iald (pc := 53) (v := v_7) (k := (x4_3).toInt.toNat) C 1 1 rfl rfl (i_nn hi_4_0.1) rfl (i_lt_n hi_4_0.1 (by omega)) ev_7 dX3_chain_53 ?_
              refine j_iload_n (pc := 54) C dX3_chain_54 rfl 1 rfl ?_
              obtain ⟨v_8, ev_8⟩ : ∃ z : Int32, ((v_7 : Int32).toUInt32 >>> ((x2_2 : Int32).toUInt32 &&& Int32.toUInt32 31)).toInt32 = z := ⟨_, rfl⟩
              refine j_iushr (pc := 55) (v := v_8) C dX3_chain_55 ev_8 ?_
              refine j_iconst (pc := 56) (v := 1) C dX3_chain_56 (by decide) ?_
              obtain ⟨v_9, ev_9⟩ : ∃ z : Int32, v_8 &&& 1 = z := ⟨_, rfl⟩
              have el_1 : (1 : Int32).toInt = 1 := rfl
              have hv_9 : 0 ≤ v_9.toInt ∧ v_9.toInt ≤ 1 := by rw [← ev_9]; exact and1_r _
              refine j_iand (pc := 57) (v := v_9) C dX3_chain_57 ev_9 ?_
              refine j_iconst (pc := 58) (v := 1) C dX3_chain_58 (by decide) ?_
              refine j_icmp_ne (pc := 59) (tgt := 77) C dX3_chain_59 (by decide) (fun c_10 => ?_) (fun c_10 => ?_)
              · skip
                have el_1 : (1 : Int32).toInt = 1 := rfl
                rw [i_eq] at c_10
                have k0c_10 : v_9.toInt = 0 := by omega
                obtain ⟨v_11, ev_11⟩ : ∃ z : Int32, x4_3 + 1 = z := ⟨_, rfl⟩
                have el_1 : (1 : Int32).toInt = 1 := rfl
                have hv_11 : v_11.toInt = x4_3.toInt + (1 : Int32).toInt := by rw [← ev_11]; exact fb_addI (by omega) (by omega)
                refine j_iinc (pc := 77) (v := v_11) (lv' := [(3, .int v_11), (2, .int x2_2), (0, .ref o0), (1, .ref a0)]) C dX3_chain_77 0 rfl ev_11 (by decide) rfl ?_
                refine j_goto (pc := 80) (tgt := 40) C dX3_chain_80 (by decide) ?_
                exact j_lv [0, 1, 2, 3] rfl (ih_4 v_11 g4_o1 (by omega) (by omega))
              · skip
                have el_1 : (1 : Int32).toInt = 1 := rfl
                rw [i_eq] at c_10
                refine j_aload_n (pc := 62) C dX3_chain_62 rfl 2 rfl ?_
                refine j_get (pc := 63) (ci := 3) (v := .ref o1) C inw_3 0 rfl rfl 1 (by decide) wd_79 rfl rfl dX3_chain_63 ?_
                refine j_iload_n (pc := 66) C dX3_chain_66 rfl 0 rfl ?_
                refine j_dup2 (pc := 67) C dX3_chain_67 rfl rfl ?_
                refine j_iald (pc := 68) (v := v_7) (k := (x4_3).toInt.toNat) C 1 1 rfl rfl (i_nn hi_4_0.1) rfl (i_lt_n hi_4_0.1 (by omega)) ev_7 dX3_chain_68 ?_
                refine j_aload_n (pc := 69) C dX3_chain_69 rfl 2 rfl ?_
                refine j_get (pc := 70) (ci := 3) (v := .ref o1) C inw_3 0 rfl rfl 1 (by decide) wd_79 rfl rfl dX3_chain_70 ?_
                refine j_iload_n (pc := 73) C dX3_chain_73 rfl 1 rfl ?_
                obtain ⟨v_12, ev_12⟩ : ∃ z, g4_o1 (x2_2).toInt.toNat = z := ⟨_, rfl⟩
                have env_12 : (g4_o1 (x2_2).toInt.toNat).toInt = v_12.toInt := by rw [ev_12]
                refine j_iald (pc := 74) (v := v_12) (k := (x2_2).toInt.toNat) C 1 1 rfl rfl (i_nn hi_2_0.1) rfl (i_lt_n hi_2_0.1 (by omega)) ev_12 dX3_chain_74 ?_
                obtain ⟨v_13, ev_13⟩ : ∃ z : Int32, v_7 ||| v_12 = z := ⟨_, rfl⟩
                refine j_ior (pc := 75) (v := v_13) C dX3_chain_75 ev_13 ?_
                obtain ⟨f_14, ef_14⟩ : ∃ z, z = upd g4_o1 (x4_3).toInt.toNat v_13 := ⟨_, rfl⟩
                refine j_iast (pc := 76) (k := (x4_3).toInt.toNat) (ws' := [(o0, .inr (3, [.int a_wares, .ref o1, .ref o2, .int 0, .int o_fewest, .int o_apart, .ref o3, .ref o4])), (o1, .inl (cyI, 12, .inl f_14)), (a0, .inr (9, [.int a_wares, .int a_shelves, .int a_nests, .ref a1, .ref a2, .ref a3, .ref a4, .ref a5, .ref a6, .int a_lids, .int a_tops, .ref a7, .ref a8, .ref a9, .ref a10])), (a7, .inl (cyI, 12, .inl a_mayOn))]) C 1 1 rfl rfl (i_nn hi_4_0.1) rfl (i_lt_n hi_4_0.1 (by omega)) dX3_chain_76 (by rw [ef_14]; rfl) ?_
                obtain ⟨v_15, ev_15⟩ : ∃ z : Int32, x4_3 + 1 = z := ⟨_, rfl⟩
                have el_1 : (1 : Int32).toInt = 1 := rfl
                have hv_15 : v_15.toInt = x4_3.toInt + (1 : Int32).toInt := by rw [← ev_15]; exact fb_addI (by omega) (by omega)
                refine j_iinc (pc := 77) (v := v_15) (lv' := [(3, .int v_15), (2, .int x2_2), (0, .ref o0), (1, .ref a0)]) C dX3_chain_77 0 rfl ev_15 (by decide) rfl ?_
                refine j_goto (pc := 80) (tgt := 40) C dX3_chain_80 (by decide) ?_
                exact j_lv [0, 1, 2, 3] rfl (ih_4 v_15 f_14 (by omega) (by omega))
        have el_0 : (0 : Int32).toInt = 0 := rfl
        exact j_lv [0, 1, 2, 3] rfl (loop_4 4096 0 g2_o1 (by decide) (by omega))
  have el_0 : (0 : Int32).toInt = 0 := rfl
  exact j_lv [0, 1, 2] rfl (loop_2 4096 0 a_mayOn (by decide) (by omega))
set_option maxHeartbeats 4000000 in
set_option maxRecDepth 100000 in
theorem c_X3_isRound (l : Launch) (D : DG) (cyC cyI cyJ cyZ cyO : ClassId) (o0 : Nat) (o1 : Nat) (o2 : Nat) (o3 : Nat) (o4 : Nat) (o_wares : Int32) (o_known : Int32) (o_fewest : Int32) (o_apart : Int32) (o_above : Nat → Int32) (h_o_wares : 0 ≤ (o_wares).toInt ∧ (o_wares).toInt ≤ 12) (h_o_known : 0 ≤ (o_known).toInt ∧ (o_known).toInt ≤ 1) : KK l D (TY cyC cyI cyJ cyZ cyO) yX3_isRound cX3_isRound 2 (some .boolean) ({ frames := 0, cells := 0, slots := 0, locals := 0 } : Room) 0 0 [.ref o0] [(o0, .inr (3, [.int o_wares, .ref o1, .ref o2, .int o_known, .int o_fewest, .int o_apart, .ref o3, .ref o4])), (o1, .inl (cyI, 12, .inl o_above))] (fun u => some (.int (u.2.1 0))) (fun u => (0 ≤ (u.2.1 0).toInt ∧ (u.2.1 0).toInt ≤ 1)) (fun u => [(o0, .inr (3, [.int o_wares, .ref o1, .ref o2, .int o_known, .int o_fewest, .int o_apart, .ref o3, .ref o4])), (o1, .inl (cyI, 12, .inl o_above))]) := by
  refine KK.of (lv0 := [(0, .ref o0)]) (by decide) rfl (Nat.le_of_ble_eq_true rfl) ?_
  intro p e s m args below meth c A C hr hk hin
  refine j_iconst (pc := 0) (v := 0) C dX3_isRound_0 (by decide) ?_
  refine j_istore_n (pc := 1) (lv' := [(1, .int 0), (0, .ref o0)]) C dX3_isRound_1 rfl (by decide) rfl ?_
  have loop_1 : ∀ (k_1 : Nat) (x1_1 : Int32), (0 ≤ (x1_1).toInt ∧ (x1_1).toInt ≤ 12) → (12 - x1_1.toInt).toNat < k_1 → J p l e ({ frames := 0, cells := 0, slots := 0, locals := 0 } : Room) s m args below meth c D A 2 0 0 (QX below D (TY cyC cyI cyJ cyZ cyO) A (fun u => some (.int (u.2.1 0))) (fun u => (0 ≤ (u.2.1 0).toInt ∧ (u.2.1 0).toInt ≤ 1)) (fun u => [(o0, .inr (3, [.int o_wares, .ref o1, .ref o2, .int o_known, .int o_fewest, .int o_apart, .ref o3, .ref o4])), (o1, .inl (cyI, 12, .inl o_above))]) args s 0 0) [(o0, .inr (3, [.int o_wares, .ref o1, .ref o2, .int o_known, .int o_fewest, .int o_apart, .ref o3, .ref o4])), (o1, .inl (cyI, 12, .inl o_above))] 2 [(1, .int x1_1), (0, .ref o0)] [] := by
    intro k_1
    induction k_1 with
    | zero =>
      intro x1_1 hi_1_0 hm_1
      exact absurd hm_1 (Nat.not_lt_zero _)
    | succ k_1 ih_1 =>
      intro x1_1 hi_1_0 hm_1
      refine j_iload_n (pc := 2) C dX3_isRound_2 rfl 0 rfl ?_
      refine j_aload_n (pc := 3) C dX3_isRound_3 rfl 1 rfl ?_
      refine j_get (pc := 4) (ci := 3) (v := .int o_wares) C inw_3 0 rfl rfl 0 (by decide) wd_76 rfl rfl dX3_isRound_4 ?_
      refine j_icmp_ge (pc := 7) (tgt := 32) C dX3_isRound_7 (by decide) (fun c_2 => ?_) (fun c_2 => ?_)
      · skip
        rw [i_le] at c_2
        refine j_iconst (pc := 32) (v := 0) C dX3_isRound_32 (by decide) ?_
        have el_0 : (0 : Int32).toInt = 0 := rfl
        exact j_zret (pc := 33) C hr rfl hk (fun i => [].getD i 0, fun i => [0].getD i 0, fun i => [].getD i (fun _ => 0), fun i => [].getD i (fun _ => 0)) rfl (show (0 ≤ ((0 : Int32)).toInt ∧ ((0 : Int32)).toInt ≤ 1) from (by omega)) [0, 1] (by decide) rfl (by decide) (by decide) dX3_isRound_33
      · skip
        rw [i_le] at c_2
        refine j_aload_n (pc := 10) C dX3_isRound_10 rfl 1 rfl ?_
        refine j_get (pc := 11) (ci := 3) (v := .ref o1) C inw_3 0 rfl rfl 1 (by decide) wd_79 rfl rfl dX3_isRound_11 ?_
        refine j_iload_n (pc := 14) C dX3_isRound_14 rfl 0 rfl ?_
        obtain ⟨v_3, ev_3⟩ : ∃ z, o_above (x1_1).toInt.toNat = z := ⟨_, rfl⟩
        have env_3 : (o_above (x1_1).toInt.toNat).toInt = v_3.toInt := by rw [ev_3]
        refine j_iald (pc := 15) (v := v_3) (k := (x1_1).toInt.toNat) C 1 1 rfl rfl (i_nn hi_1_0.1) rfl (i_lt_n hi_1_0.1 (by omega)) ev_3 dX3_isRound_15 ?_
        refine j_iload_n (pc := 16) C dX3_isRound_16 rfl 0 rfl ?_
        obtain ⟨v_4, ev_4⟩ : ∃ z : Int32, ((v_3 : Int32).toUInt32 >>> ((x1_1 : Int32).toUInt32 &&& Int32.toUInt32 31)).toInt32 = z := ⟨_, rfl⟩
        refine j_iushr (pc := 17) (v := v_4) C dX3_isRound_17 ev_4 ?_
        refine j_iconst (pc := 18) (v := 1) C dX3_isRound_18 (by decide) ?_
        obtain ⟨v_5, ev_5⟩ : ∃ z : Int32, v_4 &&& 1 = z := ⟨_, rfl⟩
        have el_1 : (1 : Int32).toInt = 1 := rfl
        have hv_5 : 0 ≤ v_5.toInt ∧ v_5.toInt ≤ 1 := by rw [← ev_5]; exact and1_r _
        refine j_iand (pc := 19) (v := v_5) C dX3_isRound_19 ev_5 ?_
        refine j_iconst (pc := 20) (v := 1) C dX3_isRound_20 (by decide) ?_
        refine j_icmp_ne (pc := 21) (tgt := 26) C dX3_isRound_21 (by decide) (fun c_6 => ?_) (fun c_6 => ?_)
        · skip
          have el_1 : (1 : Int32).toInt = 1 := rfl
          rw [i_eq] at c_6
          have k0c_6 : v_5.toInt = 0 := by omega
          obtain ⟨v_7, ev_7⟩ : ∃ z : Int32, x1_1 + 1 = z := ⟨_, rfl⟩
          have el_1 : (1 : Int32).toInt = 1 := rfl
          have hv_7 : v_7.toInt = x1_1.toInt + (1 : Int32).toInt := by rw [← ev_7]; exact fb_addI (by omega) (by omega)
          refine j_iinc (pc := 26) (v := v_7) (lv' := [(1, .int v_7), (0, .ref o0)]) C dX3_isRound_26 0 rfl ev_7 (by decide) rfl ?_
          refine j_goto (pc := 29) (tgt := 2) C dX3_isRound_29 (by decide) ?_
          exact j_lv [0, 1] rfl (ih_1 v_7 (by omega) (by omega))
        · skip
          have el_1 : (1 : Int32).toInt = 1 := rfl
          rw [i_eq] at c_6
          refine j_iconst (pc := 24) (v := 1) C dX3_isRound_24 (by decide) ?_
          have el_1 : (1 : Int32).toInt = 1 := rfl
          exact j_zret (pc := 25) C hr rfl hk (fun i => [].getD i 0, fun i => [1].getD i 0, fun i => [].getD i (fun _ => 0), fun i => [].getD i (fun _ => 0)) rfl (show (0 ≤ ((1 : Int32)).toInt ∧ ((1 : Int32)).toInt ≤ 1) from (by omega)) [0, 1] (by decide) rfl (by decide) (by decide) dX3_isRound_25
  have el_0 : (0 : Int32).toInt = 0 := rfl
  exact j_lv [0, 1] rfl (loop_1 4096 0 (by decide) (by omega))
set_option maxHeartbeats 4000000 in
set_option maxRecDepth 100000 in
theorem c_X3_findKin (l : Launch) (D : DG) (cyC cyI cyJ cyZ cyO : ClassId) (o0 : Nat) (o1 : Nat) (o2 : Nat) (o3 : Nat) (o4 : Nat) (o_wares : Int32) (o_known : Int32) (o_fewest : Int32) (o_apart : Int32) (o_above : Nat → Int32) (o_kin : Nat → Int32) (h_o_wares : 0 ≤ (o_wares).toInt ∧ (o_wares).toInt ≤ 12) (h_o_known : 0 ≤ (o_known).toInt ∧ (o_known).toInt ≤ 1) : KK l D (TY cyC cyI cyJ cyZ cyO) yX3_findKin cX3_findKin 3 none ({ frames := 1, cells := 0, slots := 0, locals := 18 } : Room) 0 0 [.ref o0] [(o0, .inr (3, [.int o_wares, .ref o1, .ref o2, .int o_known, .int o_fewest, .int o_apart, .ref o3, .ref o4])), (o1, .inl (cyI, 12, .inl o_above)), (o2, .inl (cyI, 12, .inl o_kin))] (fun u => none) (fun u => True) (fun u => [(o0, .inr (3, [.int o_wares, .ref o1, .ref o2, .int o_known, .int o_fewest, .int o_apart, .ref o3, .ref o4])), (o1, .inl (cyI, 12, .inl o_above)), (o2, .inl (cyI, 12, .inl (u.2.2.1 0)))]) := by
  refine KK.of (lv0 := [(0, .ref o0)]) (by decide) rfl (Nat.le_of_ble_eq_true rfl) ?_
  intro p e s m args below meth c A C hr hk hin
  refine j_aload_n (pc := 0) C dX3_findKin_0 rfl 0 rfl ?_
  refine j_get (pc := 1) (ci := 3) (v := .ref o1) C inw_3 0 rfl rfl 1 (by decide) wd_79 rfl rfl dX3_findKin_1 ?_
  refine j_iconst (pc := 4) (v := 0) C dX3_findKin_4 (by decide) ?_
  refine j_aload_n (pc := 5) C dX3_findKin_5 rfl 0 rfl ?_
  refine j_get (pc := 6) (ci := 3) (v := .ref o2) C inw_3 0 rfl rfl 2 (by decide) wd_81 rfl rfl dX3_findKin_6 ?_
  refine j_iconst (pc := 9) (v := 0) C dX3_findKin_9 (by decide) ?_
  refine j_bipush (pc := 10) (v := 12) C dX3_findKin_10 (by decide) ?_
  obtain ⟨f_1, ef_1⟩ : ∃ z, z = va_cpy o_above o_kin 0 0 12 := ⟨_, rfl⟩
  refine j_acpy (pc := 12) (ks := 0) (kd := 0) (kn := 12) (ws' := [(o0, .inr (3, [.int o_wares, .ref o1, .ref o2, .int o_known, .int o_fewest, .int o_apart, .ref o3, .ref o4])), (o1, .inl (cyI, 12, .inl o_above)), (o2, .inl (cyI, 12, .inl f_1))]) C wd_80 wd_25 wd_26 wd_27 1 2 1 rfl rfl rfl (by decide) (by decide) (by decide) (by decide) (by decide) (by decide) (by decide) (by decide) (by decide) (Nat.le_of_ble_eq_true rfl) dX3_findKin_12 (by rw [ef_1]; rfl) ?_
  refine j_arrc (q0 := 2) (g := o_above) (ws' := [(o0, .inr (3, [.int o_wares, .ref o1, .ref o2, .int o_known, .int o_fewest, .int o_apart, .ref o3, .ref o4])), (o1, .inl (cyI, 12, .inl o_above)), (o2, .inl (cyI, 12, .inl o_above))]) rfl (fun j hj => by rw [ef_1]; exact cpy_full hj) rfl ?_
  refine j_iconst (pc := 15) (v := 0) C dX3_findKin_15 (by decide) ?_
  refine j_istore_n (pc := 16) (lv' := [(1, .int 0), (0, .ref o0)]) C dX3_findKin_16 rfl (by decide) rfl ?_
  have loop_2 : ∀ (k_2 : Nat) (x2_1 : Int32) (g2_o2 : Nat → Int32), (0 ≤ (x2_1).toInt ∧ (x2_1).toInt ≤ 12) → (12 - x2_1.toInt).toNat < k_2 → J p l e ({ frames := 1, cells := 0, slots := 0, locals := 18 } : Room) s m args below meth c D A 3 0 0 (QX below D (TY cyC cyI cyJ cyZ cyO) A (fun u => none) (fun u => True) (fun u => [(o0, .inr (3, [.int o_wares, .ref o1, .ref o2, .int o_known, .int o_fewest, .int o_apart, .ref o3, .ref o4])), (o1, .inl (cyI, 12, .inl o_above)), (o2, .inl (cyI, 12, .inl (u.2.2.1 0)))]) args s 0 0) [(o0, .inr (3, [.int o_wares, .ref o1, .ref o2, .int o_known, .int o_fewest, .int o_apart, .ref o3, .ref o4])), (o1, .inl (cyI, 12, .inl o_above)), (o2, .inl (cyI, 12, .inl g2_o2))] 17 [(1, .int x2_1), (0, .ref o0)] [] := by
    intro k_2
    induction k_2 with
    | zero =>
      intro x2_1 g2_o2 hi_2_0 hm_2
      exact absurd hm_2 (Nat.not_lt_zero _)
    | succ k_2 ih_2 =>
      intro x2_1 g2_o2 hi_2_0 hm_2
      refine j_iload_n (pc := 17) C dX3_findKin_17 rfl 0 rfl ?_
      refine j_aload_n (pc := 18) C dX3_findKin_18 rfl 1 rfl ?_
      refine j_get (pc := 19) (ci := 3) (v := .int o_wares) C inw_3 0 rfl rfl 0 (by decide) wd_76 rfl rfl dX3_findKin_19 ?_
      refine j_icmp_ge (pc := 22) (tgt := 68) C dX3_findKin_22 (by decide) (fun c_3 => ?_) (fun c_3 => ?_)
      · skip
        rw [i_le] at c_3
        exact j_vret (pc := 68) C hr hk (fun i => [].getD i 0, fun i => [].getD i 0, fun i => [g2_o2].getD i (fun _ => 0), fun i => [].getD i (fun _ => 0)) rfl trivial [0, 1, 2] (by decide) rfl (by decide) (by decide) dX3_findKin_68
      · skip
        rw [i_le] at c_3
        refine j_iconst (pc := 25) (v := 0) C dX3_findKin_25 (by decide) ?_
        refine j_istore_n (pc := 26) (lv' := [(2, .int 0), (1, .int x2_1), (0, .ref o0)]) C dX3_findKin_26 rfl (by decide) rfl ?_
        have loop_4 : ∀ (k_4 : Nat) (x4_2 : Int32) (g4_o2 : Nat → Int32), (0 ≤ (x4_2).toInt ∧ (x4_2).toInt ≤ 12) → (12 - x4_2.toInt).toNat < k_4 → J p l e ({ frames := 1, cells := 0, slots := 0, locals := 18 } : Room) s m args below meth c D A 3 0 0 (QX below D (TY cyC cyI cyJ cyZ cyO) A (fun u => none) (fun u => True) (fun u => [(o0, .inr (3, [.int o_wares, .ref o1, .ref o2, .int o_known, .int o_fewest, .int o_apart, .ref o3, .ref o4])), (o1, .inl (cyI, 12, .inl o_above)), (o2, .inl (cyI, 12, .inl (u.2.2.1 0)))]) args s 0 0) [(o0, .inr (3, [.int o_wares, .ref o1, .ref o2, .int o_known, .int o_fewest, .int o_apart, .ref o3, .ref o4])), (o1, .inl (cyI, 12, .inl o_above)), (o2, .inl (cyI, 12, .inl g4_o2))] 27 [(2, .int x4_2), (1, .int x2_1), (0, .ref o0)] [] := by
          intro k_4
          induction k_4 with
          | zero =>
            intro x4_2 g4_o2 hi_4_0 hm_4
            exact absurd hm_4 (Nat.not_lt_zero _)
          | succ k_4 ih_4 =>
            intro x4_2 g4_o2 hi_4_0 hm_4
            refine j_iload_n (pc := 27) C dX3_findKin_27 rfl 0 rfl ?_
            refine j_aload_n (pc := 28) C dX3_findKin_28 rfl 2 rfl ?_
            refine j_get (pc := 29) (ci := 3) (v := .int o_wares) C inw_3 0 rfl rfl 0 (by decide) wd_76 rfl rfl dX3_findKin_29 ?_
            refine j_icmp_ge (pc := 32) (tgt := 62) C dX3_findKin_32 (by decide) (fun c_5 => ?_) (fun c_5 => ?_)
            · skip
              rw [i_le] at c_5
              obtain ⟨v_6, ev_6⟩ : ∃ z : Int32, x2_1 + 1 = z := ⟨_, rfl⟩
              have el_1 : (1 : Int32).toInt = 1 := rfl
              have hv_6 : v_6.toInt = x2_1.toInt + (1 : Int32).toInt := by rw [← ev_6]; exact fb_addI (by omega) (by omega)
              refine j_iinc (pc := 62) (v := v_6) (lv' := [(1, .int v_6), (2, .int x4_2), (0, .ref o0)]) C dX3_findKin_62 1 rfl ev_6 (by decide) rfl ?_
              refine j_goto (pc := 65) (tgt := 17) C dX3_findKin_65 (by decide) ?_
              exact j_lv [0, 2] rfl (ih_2 v_6 g4_o2 (by omega) (by omega))
            · skip
              rw [i_le] at c_5
              refine j_aload_n (pc := 35) C dX3_findKin_35 rfl 2 rfl ?_
              refine j_get (pc := 36) (ci := 3) (v := .ref o2) C inw_3 0 rfl rfl 2 (by decide) wd_81 rfl rfl dX3_findKin_36 ?_
              refine j_iload_n (pc := 39) C dX3_findKin_39 rfl 0 rfl ?_
              refine j_dup2 (pc := 40) C dX3_findKin_40 rfl rfl ?_
              obtain ⟨v_7, ev_7⟩ : ∃ z, g4_o2 (x4_2).toInt.toNat = z := ⟨_, rfl⟩
              have env_7 : (g4_o2 (x4_2).toInt.toNat).toInt = v_7.toInt := by rw [ev_7]
              refine j_iald (pc := 41) (v := v_7) (k := (x4_2).toInt.toNat) C 2 1 rfl rfl (i_nn hi_4_0.1) rfl (i_lt_n hi_4_0.1 (by omega)) ev_7 dX3_findKin_41 ?_
              refine j_aload_n (pc := 42) C dX3_findKin_42 rfl 2 rfl ?_
              refine j_get (pc := 43) (ci := 3) (v := .ref o1) C inw_3 0 rfl rfl 1 (by decide) wd_79 rfl rfl dX3_findKin_43 ?_
              refine j_iload_n (pc := 46) C dX3_findKin_46 rfl 1 rfl ?_
              obtain ⟨v_8, ev_8⟩ : ∃ z, o_above (x2_1).toInt.toNat = z := ⟨_, rfl⟩
              have env_8 : (o_above (x2_1).toInt.toNat).toInt = v_8.toInt := by rw [ev_8]
              refine j_iald (pc := 47) (v := v_8) (k := (x2_1).toInt.toNat) C 1 1 rfl rfl (i_nn hi_2_0.1) rfl (i_lt_n hi_2_0.1 (by omega)) ev_8 dX3_findKin_47 ?_
              refine j_iload_n (pc := 48) C dX3_findKin_48 rfl 0 rfl ?_
              obtain ⟨v_9, ev_9⟩ : ∃ z : Int32, ((v_8 : Int32).toUInt32 >>> ((x4_2 : Int32).toUInt32 &&& Int32.toUInt32 31)).toInt32 = z := ⟨_, rfl⟩
              refine j_iushr (pc := 49) (v := v_9) C dX3_findKin_49 ev_9 ?_
              refine j_iconst (pc := 50) (v := 1) C dX3_findKin_50 (by decide) ?_
              obtain ⟨v_10, ev_10⟩ : ∃ z : Int32, v_9 &&& 1 = z := ⟨_, rfl⟩
              have el_1 : (1 : Int32).toInt = 1 := rfl
              have hv_10 : 0 ≤ v_10.toInt ∧ v_10.toInt ≤ 1 := by rw [← ev_10]; exact and1_r _
              refine j_iand (pc := 51) (v := v_10) C dX3_findKin_51 ev_10 ?_
              refine j_iload_n (pc := 52) C dX3_findKin_52 rfl 1 rfl ?_
              obtain ⟨v_11, ev_11⟩ : ∃ z : Int32, v_10 <<< (x2_1 &&& 31) = z := ⟨_, rfl⟩
              have hv_11 := i_bd v_11
              refine j_ishl (pc := 53) (v := v_11) C dX3_findKin_53 ev_11 ?_
              obtain ⟨v_12, ev_12⟩ : ∃ z : Int32, v_7 ||| v_11 = z := ⟨_, rfl⟩
              refine j_ior (pc := 54) (v := v_12) C dX3_findKin_54 ev_12 ?_
              obtain ⟨f_13, ef_13⟩ : ∃ z, z = upd g4_o2 (x4_2).toInt.toNat v_12 := ⟨_, rfl⟩
              refine j_iast (pc := 55) (k := (x4_2).toInt.toNat) (ws' := [(o0, .inr (3, [.int o_wares, .ref o1, .ref o2, .int o_known, .int o_fewest, .int o_apart, .ref o3, .ref o4])), (o1, .inl (cyI, 12, .inl o_above)), (o2, .inl (cyI, 12, .inl f_13))]) C 2 1 rfl rfl (i_nn hi_4_0.1) rfl (i_lt_n hi_4_0.1 (by omega)) dX3_findKin_55 (by rw [ef_13]; rfl) ?_
              obtain ⟨v_14, ev_14⟩ : ∃ z : Int32, x4_2 + 1 = z := ⟨_, rfl⟩
              have el_1 : (1 : Int32).toInt = 1 := rfl
              have hv_14 : v_14.toInt = x4_2.toInt + (1 : Int32).toInt := by rw [← ev_14]; exact fb_addI (by omega) (by omega)
              refine j_iinc (pc := 56) (v := v_14) (lv' := [(2, .int v_14), (1, .int x2_1), (0, .ref o0)]) C dX3_findKin_56 0 rfl ev_14 (by decide) rfl ?_
              refine j_goto (pc := 59) (tgt := 27) C dX3_findKin_59 (by decide) ?_
              exact j_lv [0, 1, 2] rfl (ih_4 v_14 f_13 (by omega) (by omega))
        have el_0 : (0 : Int32).toInt = 0 := rfl
        exact j_lv [0, 1, 2] rfl (loop_4 4096 0 g2_o2 (by decide) (by omega))
  have el_0 : (0 : Int32).toInt = 0 := rfl
  exact j_lv [0, 1] rfl (loop_2 4096 0 o_above (by decide) (by omega))
set_option maxHeartbeats 4000000 in
set_option maxRecDepth 100000 in
theorem c_X3_isApart (l : Launch) (D : DG) (cyC cyI cyJ cyZ cyO : ClassId) (o0 : Nat) (o2 : Nat) (o1 : Nat) (o3 : Nat) (o4 : Nat) (p0 : Int32) (o_wares : Int32) (o_known : Int32) (o_fewest : Int32) (o_apart : Int32) (o_kin : Nat → Int32) (h_o_wares : 0 ≤ (o_wares).toInt ∧ (o_wares).toInt ≤ 12) (h_o_known : 0 ≤ (o_known).toInt ∧ (o_known).toInt ≤ 1) : KK l D (TY cyC cyI cyJ cyZ cyO) yX3_isApart cX3_isApart 3 (some .boolean) ({ frames := 0, cells := 0, slots := 0, locals := 0 } : Room) 0 0 [.ref o0, .int p0] [(o0, .inr (3, [.int o_wares, .ref o1, .ref o2, .int o_known, .int o_fewest, .int o_apart, .ref o3, .ref o4])), (o2, .inl (cyI, 12, .inl o_kin))] (fun u => some (.int (u.2.1 0))) (fun u => (0 ≤ (u.2.1 0).toInt ∧ (u.2.1 0).toInt ≤ 1)) (fun u => [(o0, .inr (3, [.int o_wares, .ref o1, .ref o2, .int o_known, .int o_fewest, .int o_apart, .ref o3, .ref o4])), (o2, .inl (cyI, 12, .inl o_kin))]) := by
  refine KK.of (lv0 := [(0, .ref o0), (1, .int p0)]) (by decide) rfl (Nat.le_of_ble_eq_true rfl) ?_
  intro p e s m args below meth c A C hr hk hin
  refine j_iconst (pc := 0) (v := 0) C dX3_isApart_0 (by decide) ?_
  refine j_istore_n (pc := 1) (lv' := [(2, .int 0), (0, .ref o0), (1, .int p0)]) C dX3_isApart_1 rfl (by decide) rfl ?_
  have loop_1 : ∀ (k_1 : Nat) (x1_2 : Int32), (0 ≤ (x1_2).toInt ∧ (x1_2).toInt ≤ 12) → (12 - x1_2.toInt).toNat < k_1 → J p l e ({ frames := 0, cells := 0, slots := 0, locals := 0 } : Room) s m args below meth c D A 3 0 0 (QX below D (TY cyC cyI cyJ cyZ cyO) A (fun u => some (.int (u.2.1 0))) (fun u => (0 ≤ (u.2.1 0).toInt ∧ (u.2.1 0).toInt ≤ 1)) (fun u => [(o0, .inr (3, [.int o_wares, .ref o1, .ref o2, .int o_known, .int o_fewest, .int o_apart, .ref o3, .ref o4])), (o2, .inl (cyI, 12, .inl o_kin))]) args s 0 0) [(o0, .inr (3, [.int o_wares, .ref o1, .ref o2, .int o_known, .int o_fewest, .int o_apart, .ref o3, .ref o4])), (o2, .inl (cyI, 12, .inl o_kin))] 2 [(2, .int x1_2), (0, .ref o0), (1, .int p0)] [] := by
    intro k_1
    induction k_1 with
    | zero =>
      intro x1_2 hi_1_0 hm_1
      exact absurd hm_1 (Nat.not_lt_zero _)
    | succ k_1 ih_1 =>
      intro x1_2 hi_1_0 hm_1
      refine j_iload_n (pc := 2) C dX3_isApart_2 rfl 0 rfl ?_
      refine j_aload_n (pc := 3) C dX3_isApart_3 rfl 1 rfl ?_
      refine j_get (pc := 4) (ci := 3) (v := .int o_wares) C inw_3 0 rfl rfl 0 (by decide) wd_76 rfl rfl dX3_isApart_4 ?_
      refine j_icmp_ge (pc := 7) (tgt := 38) C dX3_isApart_7 (by decide) (fun c_2 => ?_) (fun c_2 => ?_)
      · skip
        rw [i_le] at c_2
        refine j_iconst (pc := 38) (v := 1) C dX3_isApart_38 (by decide) ?_
        have el_1 : (1 : Int32).toInt = 1 := rfl
        exact j_zret (pc := 39) C hr rfl hk (fun i => [].getD i 0, fun i => [1].getD i 0, fun i => [].getD i (fun _ => 0), fun i => [].getD i (fun _ => 0)) rfl (show (0 ≤ ((1 : Int32)).toInt ∧ ((1 : Int32)).toInt ≤ 1) from (by omega)) [0, 1] (by decide) rfl (by decide) (by decide) dX3_isApart_39
      · skip
        rw [i_le] at c_2
        refine j_iload_n (pc := 10) C dX3_isApart_10 rfl 2 rfl ?_
        refine j_iload_n (pc := 11) C dX3_isApart_11 rfl 0 rfl ?_
        obtain ⟨v_3, ev_3⟩ : ∃ z : Int32, ((p0 : Int32).toUInt32 >>> ((x1_2 : Int32).toUInt32 &&& Int32.toUInt32 31)).toInt32 = z := ⟨_, rfl⟩
        refine j_iushr (pc := 12) (v := v_3) C dX3_isApart_12 ev_3 ?_
        refine j_iconst (pc := 13) (v := 1) C dX3_isApart_13 (by decide) ?_
        obtain ⟨v_4, ev_4⟩ : ∃ z : Int32, v_3 &&& 1 = z := ⟨_, rfl⟩
        have el_1 : (1 : Int32).toInt = 1 := rfl
        have hv_4 : 0 ≤ v_4.toInt ∧ v_4.toInt ≤ 1 := by rw [← ev_4]; exact and1_r _
        refine j_iand (pc := 14) (v := v_4) C dX3_isApart_14 ev_4 ?_
        refine j_iconst (pc := 15) (v := 1) C dX3_isApart_15 (by decide) ?_
        refine j_icmp_ne (pc := 16) (tgt := 32) C dX3_isApart_16 (by decide) (fun c_5 => ?_) (fun c_5 => ?_)
        · skip
          have el_1 : (1 : Int32).toInt = 1 := rfl
          rw [i_eq] at c_5
          have k0c_5 : v_4.toInt = 0 := by omega
          obtain ⟨v_6, ev_6⟩ : ∃ z : Int32, x1_2 + 1 = z := ⟨_, rfl⟩
          have el_1 : (1 : Int32).toInt = 1 := rfl
          have hv_6 : v_6.toInt = x1_2.toInt + (1 : Int32).toInt := by rw [← ev_6]; exact fb_addI (by omega) (by omega)
          refine j_iinc (pc := 32) (v := v_6) (lv' := [(2, .int v_6), (0, .ref o0), (1, .int p0)]) C dX3_isApart_32 0 rfl ev_6 (by decide) rfl ?_
          refine j_goto (pc := 35) (tgt := 2) C dX3_isApart_35 (by decide) ?_
          exact j_lv [0, 1, 2] rfl (ih_1 v_6 (by omega) (by omega))
        · skip
          have el_1 : (1 : Int32).toInt = 1 := rfl
          rw [i_eq] at c_5
          refine j_aload_n (pc := 19) C dX3_isApart_19 rfl 1 rfl ?_
          refine j_get (pc := 20) (ci := 3) (v := .ref o2) C inw_3 0 rfl rfl 2 (by decide) wd_81 rfl rfl dX3_isApart_20 ?_
          refine j_iload_n (pc := 23) C dX3_isApart_23 rfl 0 rfl ?_
          obtain ⟨v_7, ev_7⟩ : ∃ z, o_kin (x1_2).toInt.toNat = z := ⟨_, rfl⟩
          have env_7 : (o_kin (x1_2).toInt.toNat).toInt = v_7.toInt := by rw [ev_7]
          refine j_iald (pc := 24) (v := v_7) (k := (x1_2).toInt.toNat) C 1 1 rfl rfl (i_nn hi_1_0.1) rfl (i_lt_n hi_1_0.1 (by omega)) ev_7 dX3_isApart_24 ?_
          refine j_iload_n (pc := 25) C dX3_isApart_25 rfl 2 rfl ?_
          obtain ⟨v_8, ev_8⟩ : ∃ z : Int32, v_7 &&& p0 = z := ⟨_, rfl⟩
          refine j_iand (pc := 26) (v := v_8) C dX3_isApart_26 ev_8 ?_
          refine j_if_eq (pc := 27) (tgt := 32) C dX3_isApart_27 (by decide) (fun c_9 => ?_) (fun c_9 => ?_)
          · skip
            have el_0 : (0 : Int32).toInt = 0 := rfl
            rw [i_eq] at c_9
            obtain ⟨v_10, ev_10⟩ : ∃ z : Int32, x1_2 + 1 = z := ⟨_, rfl⟩
            have el_1 : (1 : Int32).toInt = 1 := rfl
            have hv_10 : v_10.toInt = x1_2.toInt + (1 : Int32).toInt := by rw [← ev_10]; exact fb_addI (by omega) (by omega)
            refine j_iinc (pc := 32) (v := v_10) (lv' := [(2, .int v_10), (0, .ref o0), (1, .int p0)]) C dX3_isApart_32 0 rfl ev_10 (by decide) rfl ?_
            refine j_goto (pc := 35) (tgt := 2) C dX3_isApart_35 (by decide) ?_
            exact j_lv [0, 1, 2] rfl (ih_1 v_10 (by omega) (by omega))
          · skip
            have el_0 : (0 : Int32).toInt = 0 := rfl
            rw [i_eq] at c_9
            refine j_iconst (pc := 30) (v := 0) C dX3_isApart_30 (by decide) ?_
            have el_0 : (0 : Int32).toInt = 0 := rfl
            exact j_zret (pc := 31) C hr rfl hk (fun i => [].getD i 0, fun i => [0].getD i 0, fun i => [].getD i (fun _ => 0), fun i => [].getD i (fun _ => 0)) rfl (show (0 ≤ ((0 : Int32)).toInt ∧ ((0 : Int32)).toInt ≤ 1) from (by omega)) [0, 1] (by decide) rfl (by decide) (by decide) dX3_isApart_31
  have el_0 : (0 : Int32).toInt = 0 := rfl
  exact j_lv [0, 1, 2] rfl (loop_1 4096 0 (by decide) (by omega))
set_option maxHeartbeats 4000000 in
set_option maxRecDepth 100000 in
theorem c_X3_findApart (l : Launch) (D : DG) (cyC cyI cyJ cyZ cyO : ClassId) (o0 : Nat) (o2 : Nat) (o1 : Nat) (o3 : Nat) (o4 : Nat) (o_wares : Int32) (o_known : Int32) (o_fewest : Int32) (o_apart : Int32) (o_kin : Nat → Int32) (h_o_wares : 0 ≤ (o_wares).toInt ∧ (o_wares).toInt ≤ 12) (h_o_known : 0 ≤ (o_known).toInt ∧ (o_known).toInt ≤ 1) : KK l D (TY cyC cyI cyJ cyZ cyO) yX3_findApart cX3_findApart 3 none ({ frames := 1, cells := 0, slots := 0, locals := 22 } : Room) 0 0 [.ref o0] [(o0, .inr (3, [.int o_wares, .ref o1, .ref o2, .int o_known, .int o_fewest, .int o_apart, .ref o3, .ref o4])), (o2, .inl (cyI, 12, .inl o_kin))] (fun u => none) (fun u => True) (fun u => [(o0, .inr (3, [.int o_wares, .ref o1, .ref o2, .int o_known, .int (u.2.1 0), .int (u.2.1 1), .ref o3, .ref o4])), (o2, .inl (cyI, 12, .inl o_kin))]) := by
  refine KK.of (lv0 := [(0, .ref o0)]) (by decide) rfl (Nat.le_of_ble_eq_true rfl) ?_
  intro p e s m args below meth c A C hr hk hin
  refine j_aload_n (pc := 0) C dX3_findApart_0 rfl 0 rfl ?_
  refine j_iconst (pc := 1) (v := 0) C dX3_findApart_1 (by decide) ?_
  refine j_put (pc := 2) (ci := 3) (v := .int 0) (ws' := [(o0, .inr (3, [.int o_wares, .ref o1, .ref o2, .int o_known, .int 0, .int o_apart, .ref o3, .ref o4])), (o2, .inl (cyI, 12, .inl o_kin))]) C inw_3 0 rfl rfl 4 (by decide) wd_82 rfl tyX3_ok nmX3 rfl (tyX3_ok 4 (by decide)) rfl rfl (Nat.le_of_ble_eq_true rfl) dX3_findApart_2 rfl ?_
  refine j_aload_n (pc := 5) C dX3_findApart_5 rfl 0 rfl ?_
  refine j_iconst (pc := 6) (v := 0) C dX3_findApart_6 (by decide) ?_
  refine j_put (pc := 7) (ci := 3) (v := .int 0) (ws' := [(o0, .inr (3, [.int o_wares, .ref o1, .ref o2, .int o_known, .int 0, .int 0, .ref o3, .ref o4])), (o2, .inl (cyI, 12, .inl o_kin))]) C inw_3 0 rfl rfl 5 (by decide) wd_83 rfl tyX3_ok nmX3 rfl (tyX3_ok 5 (by decide)) rfl rfl (Nat.le_of_ble_eq_true rfl) dX3_findApart_7 rfl ?_
  refine j_iconst (pc := 10) (v := 1) C dX3_findApart_10 (by decide) ?_
  refine j_istore_n (pc := 11) (lv' := [(1, .int 1), (0, .ref o0)]) C dX3_findApart_11 rfl (by decide) rfl ?_
  have loop_1 : ∀ (k_1 : Nat) (x1_1 : Int32) (y1_o0_4 : Int32) (y1_o0_5 : Int32), (1 ≤ (x1_1).toInt ∧ (x1_1).toInt ≤ 4096) → (4096 - x1_1.toInt).toNat < k_1 → J p l e ({ frames := 1, cells := 0, slots := 0, locals := 22 } : Room) s m args below meth c D A 3 0 0 (QX below D (TY cyC cyI cyJ cyZ cyO) A (fun u => none) (fun u => True) (fun u => [(o0, .inr (3, [.int o_wares, .ref o1, .ref o2, .int o_known, .int (u.2.1 0), .int (u.2.1 1), .ref o3, .ref o4])), (o2, .inl (cyI, 12, .inl o_kin))]) args s 0 0) [(o0, .inr (3, [.int o_wares, .ref o1, .ref o2, .int o_known, .int y1_o0_4, .int y1_o0_5, .ref o3, .ref o4])), (o2, .inl (cyI, 12, .inl o_kin))] 12 [(1, .int x1_1), (0, .ref o0)] [] := by
    intro k_1
    induction k_1 with
    | zero =>
      intro x1_1 y1_o0_4 y1_o0_5 hi_1_0 hm_1
      exact absurd hm_1 (Nat.not_lt_zero _)
    | succ k_1 ih_1 =>
      intro x1_1 y1_o0_4 y1_o0_5 hi_1_0 hm_1
      refine j_iload_n (pc := 12) C dX3_findApart_12 rfl 0 rfl ?_
      refine j_iconst (pc := 13) (v := 1) C dX3_findApart_13 (by decide) ?_
      refine j_aload_n (pc := 14) C dX3_findApart_14 rfl 1 rfl ?_
      refine j_get (pc := 15) (ci := 3) (v := .int o_wares) C inw_3 0 rfl rfl 0 (by decide) wd_76 rfl rfl dX3_findApart_15 ?_
      obtain ⟨v_2, ev_2⟩ : ∃ z : Int32, 1 <<< (o_wares &&& 31) = z := ⟨_, rfl⟩
      have el_1 : (1 : Int32).toInt = 1 := rfl
      have hv_2 : 1 ≤ v_2.toInt ∧ v_2.toInt ≤ 4096 := by rw [← ev_2]; exact shl1_iv 0 12 (by omega) (by omega) (by omega)
      refine j_ishl (pc := 18) (v := v_2) C dX3_findApart_18 ev_2 ?_
      refine j_icmp_ge (pc := 19) (tgt := 59) C dX3_findApart_19 (by decide) (fun c_3 => ?_) (fun c_3 => ?_)
      · skip
        rw [i_le] at c_3
        exact j_vret (pc := 59) C hr hk (fun i => [].getD i 0, fun i => [y1_o0_4, y1_o0_5].getD i 0, fun i => [].getD i (fun _ => 0), fun i => [].getD i (fun _ => 0)) rfl trivial [0, 1] (by decide) rfl (by decide) (by decide) dX3_findApart_59
      · skip
        rw [i_le] at c_3
        refine j_iload_n (pc := 22) C dX3_findApart_22 rfl 0 rfl ?_
        refine j_callS (pc := 23) (As := [.int x1_1]) (rest := []) (wr := [(o0, .inr (3, [.int o_wares, .ref o1, .ref o2, .int o_known, .int y1_o0_4, .int y1_o0_5, .ref o3, .ref o4])), (o2, .inl (cyI, 12, .inl o_kin))]) C (c_J6_bitCount_0f7a4 l D cyC cyI cyJ cyZ cyO x1_1) wd_84 wd_85 wd_86 wd_87 ⟨by decide, by decide, rfl⟩ rfl ⟨rfl, rfl, by decide, by decide⟩ ⟨by decide, by decide⟩ [] [0, 1] rfl rfl ⟨by decide, by decide, by decide⟩ rfl (Nat.le_of_ble_eq_true rfl) dX3_findApart_23 (fun u_4 hw_5 => ?_)
        refine j_eq (ws2 := [(o0, .inr (3, [.int o_wares, .ref o1, .ref o2, .int o_known, .int y1_o0_4, .int y1_o0_5, .ref o3, .ref o4])), (o2, .inl (cyI, 12, .inl o_kin))]) (pc2 := 26) (lv2 := [(1, .int x1_1), (0, .ref o0)]) (st2 := [.int (u_4.2.1 0)]) rfl rfl rfl rfl ?_
        have hw_5_0 : 0 ≤ (u_4.2.1 0).toInt ∧ (u_4.2.1 0).toInt ≤ 63 := hw_5
        refine j_istore_n (pc := 26) (lv' := [(2, .int (u_4.2.1 0)), (1, .int x1_1), (0, .ref o0)]) C dX3_findApart_26 rfl (by decide) rfl ?_
        refine j_iload_n (pc := 27) C dX3_findApart_27 rfl 0 rfl ?_
        refine j_aload_n (pc := 28) C dX3_findApart_28 rfl 2 rfl ?_
        refine j_get (pc := 29) (ci := 3) (v := .int y1_o0_4) C inw_3 0 rfl rfl 4 (by decide) wd_82 rfl rfl dX3_findApart_29 ?_
        refine j_icmp_le (pc := 32) (tgt := 53) C dX3_findApart_32 (by decide) (fun c_6 => ?_) (fun c_6 => ?_)
        · skip
          rw [i_le] at c_6
          obtain ⟨v_7, ev_7⟩ : ∃ z : Int32, x1_1 + 1 = z := ⟨_, rfl⟩
          have el_1 : (1 : Int32).toInt = 1 := rfl
          have hv_7 : v_7.toInt = x1_1.toInt + (1 : Int32).toInt := by rw [← ev_7]; exact fb_addI (by omega) (by omega)
          refine j_iinc (pc := 53) (v := v_7) (lv' := [(1, .int v_7), (2, .int (u_4.2.1 0)), (0, .ref o0)]) C dX3_findApart_53 1 rfl ev_7 (by decide) rfl ?_
          refine j_goto (pc := 56) (tgt := 12) C dX3_findApart_56 (by decide) ?_
          exact j_lv [0, 2] rfl (ih_1 v_7 y1_o0_4 y1_o0_5 (by omega) (by omega))
        · skip
          rw [i_le] at c_6
          refine j_aload_n (pc := 35) C dX3_findApart_35 rfl 2 rfl ?_
          refine j_iload_n (pc := 36) C dX3_findApart_36 rfl 1 rfl ?_
          refine j_callV (pc := 37) (As := [.int x1_1]) (rest := []) (wr := []) C (c_X3_isApart l D cyC cyI cyJ cyZ cyO o0 o2 o1 o3 o4 x1_1 o_wares o_known y1_o0_4 y1_o0_5 o_kin h_o_wares h_o_known) wd_88 wd_89 wd_90 wd_91 wd_92 ⟨by decide, by decide, rfl⟩ rfl ⟨rfl, rfl, by decide, by decide⟩ ⟨by decide, by decide⟩ [0, 1] [] rfl rfl ⟨by decide, by decide, by decide⟩ 0 rfl rfl rfl (Nat.le_of_ble_eq_true rfl) dX3_findApart_37 (fun u_8 hw_9 => ?_)
          refine j_eq (ws2 := [(o0, .inr (3, [.int o_wares, .ref o1, .ref o2, .int o_known, .int y1_o0_4, .int y1_o0_5, .ref o3, .ref o4])), (o2, .inl (cyI, 12, .inl o_kin))]) (pc2 := 40) (lv2 := [(2, .int (u_4.2.1 0)), (1, .int x1_1), (0, .ref o0)]) (st2 := [.int (u_8.2.1 0)]) rfl rfl rfl rfl ?_
          have hw_9_0 : 0 ≤ (u_8.2.1 0).toInt ∧ (u_8.2.1 0).toInt ≤ 1 := hw_9
          refine j_if_eq (pc := 40) (tgt := 53) C dX3_findApart_40 (by decide) (fun c_10 => ?_) (fun c_10 => ?_)
          · skip
            have el_0 : (0 : Int32).toInt = 0 := rfl
            rw [i_eq] at c_10
            obtain ⟨v_11, ev_11⟩ : ∃ z : Int32, x1_1 + 1 = z := ⟨_, rfl⟩
            have el_1 : (1 : Int32).toInt = 1 := rfl
            have hv_11 : v_11.toInt = x1_1.toInt + (1 : Int32).toInt := by rw [← ev_11]; exact fb_addI (by omega) (by omega)
            refine j_iinc (pc := 53) (v := v_11) (lv' := [(1, .int v_11), (2, .int (u_4.2.1 0)), (0, .ref o0)]) C dX3_findApart_53 1 rfl ev_11 (by decide) rfl ?_
            refine j_goto (pc := 56) (tgt := 12) C dX3_findApart_56 (by decide) ?_
            exact j_lv [0, 2] rfl (ih_1 v_11 y1_o0_4 y1_o0_5 (by omega) (by omega))
          · skip
            have el_0 : (0 : Int32).toInt = 0 := rfl
            rw [i_eq] at c_10
            have k0c_10 : ((u_8.2.1 0)).toInt = 1 := by omega
            refine j_aload_n (pc := 43) C dX3_findApart_43 rfl 2 rfl ?_
            refine j_iload_n (pc := 44) C dX3_findApart_44 rfl 0 rfl ?_
            refine j_put (pc := 45) (ci := 3) (v := .int (u_4.2.1 0)) (ws' := [(o0, .inr (3, [.int o_wares, .ref o1, .ref o2, .int o_known, .int (u_4.2.1 0), .int y1_o0_5, .ref o3, .ref o4])), (o2, .inl (cyI, 12, .inl o_kin))]) C inw_3 0 rfl rfl 4 (by decide) wd_82 rfl tyX3_ok nmX3 rfl (tyX3_ok 4 (by decide)) rfl rfl (Nat.le_of_ble_eq_true rfl) dX3_findApart_45 rfl ?_
            refine j_aload_n (pc := 48) C dX3_findApart_48 rfl 2 rfl ?_
            refine j_iload_n (pc := 49) C dX3_findApart_49 rfl 1 rfl ?_
            refine j_put (pc := 50) (ci := 3) (v := .int x1_1) (ws' := [(o0, .inr (3, [.int o_wares, .ref o1, .ref o2, .int o_known, .int (u_4.2.1 0), .int x1_1, .ref o3, .ref o4])), (o2, .inl (cyI, 12, .inl o_kin))]) C inw_3 0 rfl rfl 5 (by decide) wd_83 rfl tyX3_ok nmX3 rfl (tyX3_ok 5 (by decide)) rfl rfl (Nat.le_of_ble_eq_true rfl) dX3_findApart_50 rfl ?_
            obtain ⟨v_12, ev_12⟩ : ∃ z : Int32, x1_1 + 1 = z := ⟨_, rfl⟩
            have el_1 : (1 : Int32).toInt = 1 := rfl
            have hv_12 : v_12.toInt = x1_1.toInt + (1 : Int32).toInt := by rw [← ev_12]; exact fb_addI (by omega) (by omega)
            refine j_iinc (pc := 53) (v := v_12) (lv' := [(1, .int v_12), (2, .int (u_4.2.1 0)), (0, .ref o0)]) C dX3_findApart_53 1 rfl ev_12 (by decide) rfl ?_
            refine j_goto (pc := 56) (tgt := 12) C dX3_findApart_56 (by decide) ?_
            exact j_lv [0, 2] rfl (ih_1 v_12 (u_4.2.1 0) x1_1 (by omega) (by omega))
  have el_1 : (1 : Int32).toInt = 1 := rfl
  have el_0 : (0 : Int32).toInt = 0 := rfl
  have el_0 : (0 : Int32).toInt = 0 := rfl
  exact j_lv [0, 1] rfl (loop_1 5000 1 0 0 (by decide) (by omega))
set_option maxHeartbeats 4000000 in
set_option maxRecDepth 100000 in
theorem c_X3_give_z (l : Launch) (D : DG) (cyC cyI cyJ cyZ cyO : ClassId) (o0 : Nat) (o2 : Nat) (o3 : Nat) (o4 : Nat) (o1 : Nat) (p0 : Int32) (p1 : Int32) (o_wares : Int32) (o_known : Int32) (o_fewest : Int32) (o_apart : Int32) (o_kin : Nat → Int32) (o_row : Nat → Int32) (o_members : Nat → Int32) (h_o_wares : 0 ≤ (o_wares).toInt ∧ (o_wares).toInt ≤ 12) (h_o_known : 0 ≤ (o_known).toInt ∧ (o_known).toInt ≤ 1) (h_p1 : 0 ≤ (p1).toInt ∧ (p1).toInt ≤ 12) (hu9 : (p1).toInt ≤ (p0).toInt) (hdp9 : (p0).toInt = 12 - ((0 : Nat) : Int)) : KK l D (TY cyC cyI cyJ cyZ cyO) yX3_give cX3_give 4 (some .boolean) ({ frames := 0, cells := 0, slots := 0, locals := 0 } : Room) 0 0 [.ref o0, .int p0, .int p1] [(o0, .inr (3, [.int o_wares, .ref o1, .ref o2, .int o_known, .int o_fewest, .int o_apart, .ref o3, .ref o4])), (o2, .inl (cyI, 12, .inl o_kin)), (o3, .inl (cyI, 12, .inl o_row)), (o4, .inl (cyI, 12, .inl o_members))] (fun u => some (.int (u.2.1 0))) (fun u => (0 ≤ (u.2.1 0).toInt ∧ (u.2.1 0).toInt ≤ 1)) (fun u => [(o0, .inr (3, [.int o_wares, .ref o1, .ref o2, .int o_known, .int o_fewest, .int o_apart, .ref o3, .ref o4])), (o2, .inl (cyI, 12, .inl o_kin)), (o3, .inl (cyI, 12, .inl (u.2.2.1 0))), (o4, .inl (cyI, 12, .inl (u.2.2.1 1)))]) := by
  refine KK.of (lv0 := [(0, .ref o0), (1, .int p0), (2, .int p1)]) (by decide) rfl (Nat.le_of_ble_eq_true rfl) ?_
  intro p e s m args below meth c A C hr hk hin
  refine j_iload_n (pc := 0) C dX3_give_0 rfl 1 rfl ?_
  refine j_aload_n (pc := 1) C dX3_give_1 rfl 0 rfl ?_
  refine j_get (pc := 2) (ci := 3) (v := .int o_wares) C inw_3 0 rfl rfl 0 (by decide) wd_76 rfl rfl dX3_give_2 ?_
  refine j_icmp_lt_f (pc := 5) (tgt := 10) C dX3_give_5 (by decide) (by rw [i_lt]; omega) ?_
  refine j_iconst (pc := 8) (v := 1) C dX3_give_8 (by decide) ?_
  have el_1 : (1 : Int32).toInt = 1 := rfl
  exact j_zret (pc := 9) C hr rfl hk (fun i => [].getD i 0, fun i => [1].getD i 0, fun i => [o_row, o_members].getD i (fun _ => 0), fun i => [].getD i (fun _ => 0)) rfl (show (0 ≤ ((1 : Int32)).toInt ∧ ((1 : Int32)).toInt ≤ 1) from (by omega)) [0, 1, 2, 3] (by decide) rfl (by decide) (by decide) dX3_give_9
set_option maxHeartbeats 4000000 in
set_option maxRecDepth 100000 in
def S_c_X3_give (n9 : Nat) : Prop := ∀ (l : Launch) (D : DG) (cyC cyI cyJ cyZ cyO : ClassId) (o0 : Nat) (o2 : Nat) (o3 : Nat) (o4 : Nat) (o1 : Nat) (p0 : Int32) (p1 : Int32) (o_wares : Int32) (o_known : Int32) (o_fewest : Int32) (o_apart : Int32) (o_kin : Nat → Int32) (o_row : Nat → Int32) (o_members : Nat → Int32) (h_o_wares : 0 ≤ (o_wares).toInt ∧ (o_wares).toInt ≤ 12) (h_o_known : 0 ≤ (o_known).toInt ∧ (o_known).toInt ≤ 1) (h_p1 : 0 ≤ (p1).toInt ∧ (p1).toInt ≤ 12) (hu9 : (p1).toInt ≤ (p0).toInt) (hdp9 : (p0).toInt = 12 - ((n9 : Nat) : Int)), KK l D (TY cyC cyI cyJ cyZ cyO) yX3_give cX3_give 4 (some .boolean) ({ frames := 0 + 1 * n9, cells := 0, slots := 0, locals := 0 + 23 * n9 } : Room) 0 0 [.ref o0, .int p0, .int p1] [(o0, .inr (3, [.int o_wares, .ref o1, .ref o2, .int o_known, .int o_fewest, .int o_apart, .ref o3, .ref o4])), (o2, .inl (cyI, 12, .inl o_kin)), (o3, .inl (cyI, 12, .inl o_row)), (o4, .inl (cyI, 12, .inl o_members))] (fun u => some (.int (u.2.1 0))) (fun u => (0 ≤ (u.2.1 0).toInt ∧ (u.2.1 0).toInt ≤ 1)) (fun u => [(o0, .inr (3, [.int o_wares, .ref o1, .ref o2, .int o_known, .int o_fewest, .int o_apart, .ref o3, .ref o4])), (o2, .inl (cyI, 12, .inl o_kin)), (o3, .inl (cyI, 12, .inl (u.2.2.1 0))), (o4, .inl (cyI, 12, .inl (u.2.2.1 1)))])
set_option maxHeartbeats 4000000 in
set_option maxRecDepth 100000 in
theorem c_X3_give_s (l : Launch) (D : DG) (cyC cyI cyJ cyZ cyO : ClassId) (o0 : Nat) (o2 : Nat) (o3 : Nat) (o4 : Nat) (o1 : Nat) (p0 : Int32) (p1 : Int32) (o_wares : Int32) (o_known : Int32) (o_fewest : Int32) (o_apart : Int32) (o_kin : Nat → Int32) (o_row : Nat → Int32) (o_members : Nat → Int32) (n9 : Nat) (h_o_wares : 0 ≤ (o_wares).toInt ∧ (o_wares).toInt ≤ 12) (h_o_known : 0 ≤ (o_known).toInt ∧ (o_known).toInt ≤ 1) (h_p1 : 0 ≤ (p1).toInt ∧ (p1).toInt ≤ 12) (hu9 : (p1).toInt ≤ (p0).toInt) (hdp9 : (p0).toInt = 12 - (((n9 + 1) : Nat) : Int)) (h9 : n9 < 12) (hA9 : S_c_X3_give n9) : KK l D (TY cyC cyI cyJ cyZ cyO) yX3_give cX3_give 4 (some .boolean) ({ frames := 0 + 1 * (n9 + 1), cells := 0, slots := 0, locals := 0 + 23 * (n9 + 1) } : Room) 0 0 [.ref o0, .int p0, .int p1] [(o0, .inr (3, [.int o_wares, .ref o1, .ref o2, .int o_known, .int o_fewest, .int o_apart, .ref o3, .ref o4])), (o2, .inl (cyI, 12, .inl o_kin)), (o3, .inl (cyI, 12, .inl o_row)), (o4, .inl (cyI, 12, .inl o_members))] (fun u => some (.int (u.2.1 0))) (fun u => (0 ≤ (u.2.1 0).toInt ∧ (u.2.1 0).toInt ≤ 1)) (fun u => [(o0, .inr (3, [.int o_wares, .ref o1, .ref o2, .int o_known, .int o_fewest, .int o_apart, .ref o3, .ref o4])), (o2, .inl (cyI, 12, .inl o_kin)), (o3, .inl (cyI, 12, .inl (u.2.2.1 0))), (o4, .inl (cyI, 12, .inl (u.2.2.1 1)))]) := by
  refine KK.of (lv0 := [(0, .ref o0), (1, .int p0), (2, .int p1)]) (by decide) rfl (Nat.le_of_ble_eq_true rfl) ?_
  intro p e s m args below meth c A C hr hk hin
  refine j_iload_n (pc := 0) C dX3_give_0 rfl 1 rfl ?_
  refine j_aload_n (pc := 1) C dX3_give_1 rfl 0 rfl ?_
  refine j_get (pc := 2) (ci := 3) (v := .int o_wares) C inw_3 0 rfl rfl 0 (by decide) wd_76 rfl rfl dX3_give_2 ?_
  refine j_icmp_lt (pc := 5) (tgt := 10) C dX3_give_5 (by decide) (fun c_1 => ?_) (fun c_1 => ?_)
  · skip
    rw [i_lt] at c_1
    refine j_iconst (pc := 10) (v := 0) C dX3_give_10 (by decide) ?_
    refine j_istore_n (pc := 11) (lv' := [(3, .int 0), (0, .ref o0), (1, .int p0), (2, .int p1)]) C dX3_give_11 rfl (by decide) rfl ?_
    have loop_2 : ∀ (k_2 : Nat) (x2_3 : Int32) (g2_o3 : Nat → Int32) (g2_o4 : Nat → Int32), (0 ≤ (x2_3).toInt ∧ (x2_3).toInt ≤ 12) → (20 - x2_3.toInt).toNat < k_2 → J p l e ({ frames := 0 + 1 * (n9 + 1), cells := 0, slots := 0, locals := 0 + 23 * (n9 + 1) } : Room) s m args below meth c D A 4 0 0 (QX below D (TY cyC cyI cyJ cyZ cyO) A (fun u => some (.int (u.2.1 0))) (fun u => (0 ≤ (u.2.1 0).toInt ∧ (u.2.1 0).toInt ≤ 1)) (fun u => [(o0, .inr (3, [.int o_wares, .ref o1, .ref o2, .int o_known, .int o_fewest, .int o_apart, .ref o3, .ref o4])), (o2, .inl (cyI, 12, .inl o_kin)), (o3, .inl (cyI, 12, .inl (u.2.2.1 0))), (o4, .inl (cyI, 12, .inl (u.2.2.1 1)))]) args s 0 0) [(o0, .inr (3, [.int o_wares, .ref o1, .ref o2, .int o_known, .int o_fewest, .int o_apart, .ref o3, .ref o4])), (o2, .inl (cyI, 12, .inl o_kin)), (o3, .inl (cyI, 12, .inl g2_o3)), (o4, .inl (cyI, 12, .inl g2_o4))] 12 [(3, .int x2_3), (0, .ref o0), (1, .int p0), (2, .int p1)] [] := by
      intro k_2
      induction k_2 with
      | zero =>
        intro x2_3 g2_o3 g2_o4 hi_2_0 hm_2
        exact absurd hm_2 (Nat.not_lt_zero _)
      | succ k_2 ih_2 =>
        intro x2_3 g2_o3 g2_o4 hi_2_0 hm_2
        refine j_iload_n (pc := 12) C dX3_give_12 rfl 0 rfl ?_
        refine j_iload_n (pc := 13) C dX3_give_13 rfl 3 rfl ?_
        refine j_icmp_gt (pc := 14) (tgt := 99) C dX3_give_14 (by decide) (fun c_3 => ?_) (fun c_3 => ?_)
        · skip
          rw [i_lt] at c_3
          refine j_iconst (pc := 99) (v := 0) C dX3_give_99 (by decide) ?_
          have el_0 : (0 : Int32).toInt = 0 := rfl
          exact j_zret (pc := 100) C hr rfl hk (fun i => [].getD i 0, fun i => [0].getD i 0, fun i => [g2_o3, g2_o4].getD i (fun _ => 0), fun i => [].getD i (fun _ => 0)) rfl (show (0 ≤ ((0 : Int32)).toInt ∧ ((0 : Int32)).toInt ≤ 1) from (by omega)) [0, 1, 2, 3] (by decide) rfl (by decide) (by decide) dX3_give_100
        · skip
          rw [i_lt] at c_3
          refine j_iload_n (pc := 17) C dX3_give_17 rfl 0 rfl ?_
          refine j_aload_n (pc := 18) C dX3_give_18 rfl 1 rfl ?_
          refine j_get (pc := 19) (ci := 3) (v := .int o_fewest) C inw_3 0 rfl rfl 4 (by decide) wd_82 rfl rfl dX3_give_19 ?_
          refine j_icmp_ge (pc := 22) (tgt := 99) C dX3_give_22 (by decide) (fun c_4 => ?_) (fun c_4 => ?_)
          · skip
            rw [i_le] at c_4
            refine j_iconst (pc := 99) (v := 0) C dX3_give_99 (by decide) ?_
            have el_0 : (0 : Int32).toInt = 0 := rfl
            exact j_zret (pc := 100) C hr rfl hk (fun i => [].getD i 0, fun i => [0].getD i 0, fun i => [g2_o3, g2_o4].getD i (fun _ => 0), fun i => [].getD i (fun _ => 0)) rfl (show (0 ≤ ((0 : Int32)).toInt ∧ ((0 : Int32)).toInt ≤ 1) from (by omega)) [0, 1, 2, 3] (by decide) rfl (by decide) (by decide) dX3_give_100
          · skip
            rw [i_le] at c_4
            refine j_aload_n (pc := 25) C dX3_give_25 rfl 1 rfl ?_
            refine j_get (pc := 26) (ci := 3) (v := .ref o4) C inw_3 0 rfl rfl 7 (by decide) wd_93 rfl rfl dX3_give_26 ?_
            refine j_iload_n (pc := 29) C dX3_give_29 rfl 0 rfl ?_
            obtain ⟨v_5, ev_5⟩ : ∃ z, g2_o4 (x2_3).toInt.toNat = z := ⟨_, rfl⟩
            have env_5 : (g2_o4 (x2_3).toInt.toNat).toInt = v_5.toInt := by rw [ev_5]
            refine j_iald (pc := 30) (v := v_5) (k := (x2_3).toInt.toNat) C 3 1 rfl rfl (i_nn hi_2_0.1) rfl (i_lt_n hi_2_0.1 (by omega)) ev_5 dX3_give_30 ?_
            refine j_aload_n (pc := 31) C dX3_give_31 rfl 1 rfl ?_
            refine j_get (pc := 32) (ci := 3) (v := .ref o2) C inw_3 0 rfl rfl 2 (by decide) wd_81 rfl rfl dX3_give_32 ?_
            refine j_iload_n (pc := 35) C dX3_give_35 rfl 2 rfl ?_
            obtain ⟨v_6, ev_6⟩ : ∃ z, o_kin (p0).toInt.toNat = z := ⟨_, rfl⟩
            have env_6 : (o_kin (p0).toInt.toNat).toInt = v_6.toInt := by rw [ev_6]
            refine j_iald (pc := 36) (v := v_6) (k := (p0).toInt.toNat) C 1 1 rfl rfl (i_nn (by omega)) rfl (i_lt_n (by omega) (by omega)) ev_6 dX3_give_36 ?_
            refine j_iconst (pc := 37) (v := (-1)) C dX3_give_37 (by decide) ?_
            obtain ⟨v_7, ev_7⟩ : ∃ z : Int32, v_6 ^^^ (-1) = z := ⟨_, rfl⟩
            have el_m1 : ((-1) : Int32).toInt = (-1) := rfl
            refine j_ixor (pc := 38) (v := v_7) C dX3_give_38 ev_7 ?_
            obtain ⟨v_8, ev_8⟩ : ∃ z : Int32, v_5 &&& v_7 = z := ⟨_, rfl⟩
            refine j_iand (pc := 39) (v := v_8) C dX3_give_39 ev_8 ?_
            refine j_if_ne (pc := 40) (tgt := 93) C dX3_give_40 (by decide) (fun c_9 => ?_) (fun c_9 => ?_)
            · skip
              have el_0 : (0 : Int32).toInt = 0 := rfl
              rw [i_eq] at c_9
              obtain ⟨v_10, ev_10⟩ : ∃ z : Int32, x2_3 + 1 = z := ⟨_, rfl⟩
              have el_1 : (1 : Int32).toInt = 1 := rfl
              have hv_10 : v_10.toInt = x2_3.toInt + (1 : Int32).toInt := by rw [← ev_10]; exact fb_addI (by omega) (by omega)
              refine j_iinc (pc := 93) (v := v_10) (lv' := [(3, .int v_10), (0, .ref o0), (1, .int p0), (2, .int p1)]) C dX3_give_93 0 rfl ev_10 (by decide) rfl ?_
              refine j_goto (pc := 96) (tgt := 12) C dX3_give_96 (by decide) ?_
              exact j_lv [0, 1, 2, 3] rfl (ih_2 v_10 g2_o3 g2_o4 (by omega) (by omega))
            · skip
              have el_0 : (0 : Int32).toInt = 0 := rfl
              rw [i_eq] at c_9
              refine j_aload_n (pc := 43) C dX3_give_43 rfl 1 rfl ?_
              refine j_get (pc := 44) (ci := 3) (v := .ref o4) C inw_3 0 rfl rfl 7 (by decide) wd_93 rfl rfl dX3_give_44 ?_
              refine j_iload_n (pc := 47) C dX3_give_47 rfl 0 rfl ?_
              refine j_dup2 (pc := 48) C dX3_give_48 rfl rfl ?_
              refine j_iald (pc := 49) (v := v_5) (k := (x2_3).toInt.toNat) C 3 1 rfl rfl (i_nn hi_2_0.1) rfl (i_lt_n hi_2_0.1 (by omega)) ev_5 dX3_give_49 ?_
              refine j_iconst (pc := 50) (v := 1) C dX3_give_50 (by decide) ?_
              refine j_iload_n (pc := 51) C dX3_give_51 rfl 2 rfl ?_
              obtain ⟨v_11, ev_11⟩ : ∃ z : Int32, 1 <<< (p0 &&& 31) = z := ⟨_, rfl⟩
              have el_1 : (1 : Int32).toInt = 1 := rfl
              have hv_11 : 1 ≤ v_11.toInt ∧ v_11.toInt ≤ 2048 := by rw [← ev_11]; exact shl1_iv 0 11 (by omega) (by omega) (by omega)
              refine j_ishl (pc := 52) (v := v_11) C dX3_give_52 ev_11 ?_
              obtain ⟨v_12, ev_12⟩ : ∃ z : Int32, v_5 ||| v_11 = z := ⟨_, rfl⟩
              refine j_ior (pc := 53) (v := v_12) C dX3_give_53 ev_12 ?_
              obtain ⟨f_13, ef_13⟩ : ∃ z, z = upd g2_o4 (x2_3).toInt.toNat v_12 := ⟨_, rfl⟩
              refine j_iast (pc := 54) (k := (x2_3).toInt.toNat) (ws' := [(o0, .inr (3, [.int o_wares, .ref o1, .ref o2, .int o_known, .int o_fewest, .int o_apart, .ref o3, .ref o4])), (o2, .inl (cyI, 12, .inl o_kin)), (o3, .inl (cyI, 12, .inl g2_o3)), (o4, .inl (cyI, 12, .inl f_13))]) C 3 1 rfl rfl (i_nn hi_2_0.1) rfl (i_lt_n hi_2_0.1 (by omega)) dX3_give_54 (by rw [ef_13]; rfl) ?_
              refine j_aload_n (pc := 55) C dX3_give_55 rfl 1 rfl ?_
              refine j_get (pc := 56) (ci := 3) (v := .ref o3) C inw_3 0 rfl rfl 6 (by decide) wd_94 rfl rfl dX3_give_56 ?_
              refine j_iload_n (pc := 59) C dX3_give_59 rfl 2 rfl ?_
              refine j_iload_n (pc := 60) C dX3_give_60 rfl 0 rfl ?_
              obtain ⟨f_14, ef_14⟩ : ∃ z, z = upd g2_o3 (p0).toInt.toNat x2_3 := ⟨_, rfl⟩
              refine j_iast (pc := 61) (k := (p0).toInt.toNat) (ws' := [(o0, .inr (3, [.int o_wares, .ref o1, .ref o2, .int o_known, .int o_fewest, .int o_apart, .ref o3, .ref o4])), (o2, .inl (cyI, 12, .inl o_kin)), (o3, .inl (cyI, 12, .inl f_14)), (o4, .inl (cyI, 12, .inl f_13))]) C 2 1 rfl rfl (i_nn (by omega)) rfl (i_lt_n (by omega) (by omega)) dX3_give_61 (by rw [ef_14]; rfl) ?_
              refine j_aload_n (pc := 62) C dX3_give_62 rfl 1 rfl ?_
              refine j_iload_n (pc := 63) C dX3_give_63 rfl 2 rfl ?_
              refine j_iconst (pc := 64) (v := 1) C dX3_give_64 (by decide) ?_
              obtain ⟨v_15, ev_15⟩ : ∃ z : Int32, p0 + 1 = z := ⟨_, rfl⟩
              have el_1 : (1 : Int32).toInt = 1 := rfl
              have hv_15 : v_15.toInt = p0.toInt + (1 : Int32).toInt := by rw [← ev_15]; exact fb_addI (by omega) (by omega)
              refine j_iadd (pc := 65) (v := v_15) C dX3_give_65 ev_15 ?_
              refine j_iload_n (pc := 66) C dX3_give_66 rfl 3 rfl ?_
              refine j_iload_n (pc := 67) C dX3_give_67 rfl 0 rfl ?_
              refine j_iconst (pc := 68) (v := 1) C dX3_give_68 (by decide) ?_
              obtain ⟨v_16, ev_16⟩ : ∃ z : Int32, x2_3 + 1 = z := ⟨_, rfl⟩
              have el_1 : (1 : Int32).toInt = 1 := rfl
              have hv_16 : v_16.toInt = x2_3.toInt + (1 : Int32).toInt := by rw [← ev_16]; exact fb_addI (by omega) (by omega)
              refine j_iadd (pc := 69) (v := v_16) C dX3_give_69 ev_16 ?_
              obtain ⟨v_17, ev_17⟩ : ∃ z : Int32, (if (p1 : Int32) < v_16 then v_16 else p1) = z := ⟨_, rfl⟩
              have hv_17 : v_17.toInt = max p1.toInt v_16.toInt := by rw [← ev_17]; exact mmax_I _ _
              refine j_mmax (pc := 70) (v := v_17) C wd_95 wd_5 wd_6 wd_7 (by show 1 ≤ (0 + 1 * (n9 + 1) : Nat); omega) (by show 15 ≤ (0 + 23 * (n9 + 1) : Nat); omega) (Nat.le_of_ble_eq_true rfl) (Nat.le_of_ble_eq_true rfl) ev_17 dX3_give_70 ?_
              refine j_callV (pc := 73) (As := [.int v_15, .int v_17]) (rest := []) (wr := []) C (hA9 l D cyC cyI cyJ cyZ cyO o0 o2 o3 o4 o1 v_15 v_17 o_wares o_known o_fewest o_apart o_kin f_14 f_13 h_o_wares h_o_known (by omega) (by omega) (by omega)) wd_96 wd_89 wd_97 wd_98 wd_99 ⟨by decide, by decide, rfl⟩ rfl ⟨rfl, rfl, (by show (0 + 1 * n9 : Nat) + 1 ≤ 0 + 1 * (n9 + 1); omega), (by show 8 + (4 + 11) + (0 + 23 * n9 : Nat) ≤ 0 + 23 * (n9 + 1); omega)⟩ ⟨Nat.le_of_ble_eq_true rfl, Nat.le_of_ble_eq_true rfl⟩ [0, 1, 2, 3] [] rfl rfl ⟨by decide, by decide, by decide⟩ 0 rfl rfl rfl (Nat.le_of_ble_eq_true rfl) dX3_give_73 (fun u_18 hw_19 => ?_)
              refine j_eq (ws2 := [(o0, .inr (3, [.int o_wares, .ref o1, .ref o2, .int o_known, .int o_fewest, .int o_apart, .ref o3, .ref o4])), (o2, .inl (cyI, 12, .inl o_kin)), (o3, .inl (cyI, 12, .inl (u_18.2.2.1 0))), (o4, .inl (cyI, 12, .inl (u_18.2.2.1 1)))]) (pc2 := 76) (lv2 := [(3, .int x2_3), (0, .ref o0), (1, .int p0), (2, .int p1)]) (st2 := [.int (u_18.2.1 0)]) rfl rfl rfl rfl ?_
              have hw_19_0 : 0 ≤ (u_18.2.1 0).toInt ∧ (u_18.2.1 0).toInt ≤ 1 := hw_19
              refine j_if_eq (pc := 76) (tgt := 81) C dX3_give_76 (by decide) (fun c_20 => ?_) (fun c_20 => ?_)
              · skip
                have el_0 : (0 : Int32).toInt = 0 := rfl
                rw [i_eq] at c_20
                refine j_aload_n (pc := 81) C dX3_give_81 rfl 1 rfl ?_
                refine j_get (pc := 82) (ci := 3) (v := .ref o4) C inw_3 0 rfl rfl 7 (by decide) wd_93 rfl rfl dX3_give_82 ?_
                refine j_iload_n (pc := 85) C dX3_give_85 rfl 0 rfl ?_
                refine j_dup2 (pc := 86) C dX3_give_86 rfl rfl ?_
                obtain ⟨v_21, ev_21⟩ : ∃ z, (u_18.2.2.1 1) (x2_3).toInt.toNat = z := ⟨_, rfl⟩
                have env_21 : ((u_18.2.2.1 1) (x2_3).toInt.toNat).toInt = v_21.toInt := by rw [ev_21]
                refine j_iald (pc := 87) (v := v_21) (k := (x2_3).toInt.toNat) C 3 1 rfl rfl (i_nn hi_2_0.1) rfl (i_lt_n hi_2_0.1 (by omega)) ev_21 dX3_give_87 ?_
                refine j_iconst (pc := 88) (v := 1) C dX3_give_88 (by decide) ?_
                refine j_iload_n (pc := 89) C dX3_give_89 rfl 2 rfl ?_
                obtain ⟨v_22, ev_22⟩ : ∃ z : Int32, 1 <<< (p0 &&& 31) = z := ⟨_, rfl⟩
                have el_1 : (1 : Int32).toInt = 1 := rfl
                have hv_22 : 1 ≤ v_22.toInt ∧ v_22.toInt ≤ 2048 := by rw [← ev_22]; exact shl1_iv 0 11 (by omega) (by omega) (by omega)
                refine j_ishl (pc := 90) (v := v_22) C dX3_give_90 ev_22 ?_
                obtain ⟨v_23, ev_23⟩ : ∃ z : Int32, v_21 ^^^ v_22 = z := ⟨_, rfl⟩
                refine j_ixor (pc := 91) (v := v_23) C dX3_give_91 ev_23 ?_
                obtain ⟨f_24, ef_24⟩ : ∃ z, z = upd (u_18.2.2.1 1) (x2_3).toInt.toNat v_23 := ⟨_, rfl⟩
                refine j_iast (pc := 92) (k := (x2_3).toInt.toNat) (ws' := [(o0, .inr (3, [.int o_wares, .ref o1, .ref o2, .int o_known, .int o_fewest, .int o_apart, .ref o3, .ref o4])), (o2, .inl (cyI, 12, .inl o_kin)), (o3, .inl (cyI, 12, .inl (u_18.2.2.1 0))), (o4, .inl (cyI, 12, .inl f_24))]) C 3 1 rfl rfl (i_nn hi_2_0.1) rfl (i_lt_n hi_2_0.1 (by omega)) dX3_give_92 (by rw [ef_24]; rfl) ?_
                obtain ⟨v_25, ev_25⟩ : ∃ z : Int32, x2_3 + 1 = z := ⟨_, rfl⟩
                have el_1 : (1 : Int32).toInt = 1 := rfl
                have hv_25 : v_25.toInt = x2_3.toInt + (1 : Int32).toInt := by rw [← ev_25]; exact fb_addI (by omega) (by omega)
                refine j_iinc (pc := 93) (v := v_25) (lv' := [(3, .int v_25), (0, .ref o0), (1, .int p0), (2, .int p1)]) C dX3_give_93 0 rfl ev_25 (by decide) rfl ?_
                refine j_goto (pc := 96) (tgt := 12) C dX3_give_96 (by decide) ?_
                exact j_lv [0, 1, 2, 3] rfl (ih_2 v_25 (u_18.2.2.1 0) f_24 (by omega) (by omega))
              · skip
                have el_0 : (0 : Int32).toInt = 0 := rfl
                rw [i_eq] at c_20
                have k0c_20 : ((u_18.2.1 0)).toInt = 1 := by omega
                refine j_iconst (pc := 79) (v := 1) C dX3_give_79 (by decide) ?_
                have el_1 : (1 : Int32).toInt = 1 := rfl
                exact j_zret (pc := 80) C hr rfl hk (fun i => [].getD i 0, fun i => [1].getD i 0, fun i => [(u_18.2.2.1 0), (u_18.2.2.1 1)].getD i (fun _ => 0), fun i => [].getD i (fun _ => 0)) rfl (show (0 ≤ ((1 : Int32)).toInt ∧ ((1 : Int32)).toInt ≤ 1) from (by omega)) [0, 1, 2, 3] (by decide) rfl (by decide) (by decide) dX3_give_80
    have el_0 : (0 : Int32).toInt = 0 := rfl
    exact j_lv [0, 1, 2, 3] rfl (loop_2 4096 0 o_row o_members (by decide) (by omega))
  · skip
    rw [i_lt] at c_1
    refine j_iconst (pc := 8) (v := 1) C dX3_give_8 (by decide) ?_
    have el_1 : (1 : Int32).toInt = 1 := rfl
    exact j_zret (pc := 9) C hr rfl hk (fun i => [].getD i 0, fun i => [1].getD i 0, fun i => [o_row, o_members].getD i (fun _ => 0), fun i => [].getD i (fun _ => 0)) rfl (show (0 ≤ ((1 : Int32)).toInt ∧ ((1 : Int32)).toInt ≤ 1) from (by omega)) [0, 1, 2, 3] (by decide) rfl (by decide) (by decide) dX3_give_9
set_option maxHeartbeats 4000000 in
set_option maxRecDepth 100000 in
theorem S_fam_c_X3_give : ∀ n9 : Nat, n9 ≤ 12 → S_c_X3_give n9 := by
  intro n9
  induction n9 with
  | zero => exact fun _ => c_X3_give_z
  | succ n9 ih =>
    intro h
    have i := ih (by omega)
    exact (fun l D cyC cyI cyJ cyZ cyO o0 o2 o3 o4 o1 p0 p1 o_wares o_known o_fewest o_apart o_kin o_row o_members h_o_wares h_o_known h_p1 hu9 hdp9 => c_X3_give_s l D cyC cyI cyJ cyZ cyO o0 o2 o3 o4 o1 p0 p1 o_wares o_known o_fewest o_apart o_kin o_row o_members n9 h_o_wares h_o_known h_p1 hu9 hdp9 (by omega) i)
set_option maxHeartbeats 4000000 in
set_option maxRecDepth 100000 in
theorem c_X3_give_0 (l : Launch) (D : DG) (cyC cyI cyJ cyZ cyO : ClassId) (o0 : Nat) (o2 : Nat) (o3 : Nat) (o4 : Nat) (o1 : Nat) (p0 : Int32) (p1 : Int32) (o_wares : Int32) (o_known : Int32) (o_fewest : Int32) (o_apart : Int32) (o_kin : Nat → Int32) (o_row : Nat → Int32) (o_members : Nat → Int32) (h_o_wares : 0 ≤ (o_wares).toInt ∧ (o_wares).toInt ≤ 12) (h_o_known : 0 ≤ (o_known).toInt ∧ (o_known).toInt ≤ 1) (h_p1 : 0 ≤ (p1).toInt ∧ (p1).toInt ≤ 12) (hu9 : (p1).toInt ≤ (p0).toInt) (hdp9 : (p0).toInt = 12 - ((12 : Nat) : Int)) : KK l D (TY cyC cyI cyJ cyZ cyO) yX3_give cX3_give 4 (some .boolean) ({ frames := 12, cells := 0, slots := 0, locals := 276 } : Room) 0 0 [.ref o0, .int p0, .int p1] [(o0, .inr (3, [.int o_wares, .ref o1, .ref o2, .int o_known, .int o_fewest, .int o_apart, .ref o3, .ref o4])), (o2, .inl (cyI, 12, .inl o_kin)), (o3, .inl (cyI, 12, .inl o_row)), (o4, .inl (cyI, 12, .inl o_members))] (fun u => some (.int (u.2.1 0))) (fun u => (0 ≤ (u.2.1 0).toInt ∧ (u.2.1 0).toInt ≤ 1)) (fun u => [(o0, .inr (3, [.int o_wares, .ref o1, .ref o2, .int o_known, .int o_fewest, .int o_apart, .ref o3, .ref o4])), (o2, .inl (cyI, 12, .inl o_kin)), (o3, .inl (cyI, 12, .inl (u.2.2.1 0))), (o4, .inl (cyI, 12, .inl (u.2.2.1 1)))]) := (S_fam_c_X3_give 12 (Nat.le_refl _)) l D cyC cyI cyJ cyZ cyO o0 o2 o3 o4 o1 p0 p1 o_wares o_known o_fewest o_apart o_kin o_row o_members h_o_wares h_o_known h_p1 hu9 hdp9
set_option maxHeartbeats 4000000 in
set_option maxRecDepth 100000 in
theorem c_X3_settle (l : Launch) (D : DG) (cyC cyI cyJ cyZ cyO : ClassId) (o0 : Nat) (o1 : Nat) (o2 : Nat) (o3 : Nat) (o4 : Nat) (o_wares : Int32) (o_known : Int32) (o_fewest : Int32) (o_apart : Int32) (o_above : Nat → Int32) (o_kin : Nat → Int32) (o_row : Nat → Int32) (o_members : Nat → Int32) (h_o_wares : 0 ≤ (o_wares).toInt ∧ (o_wares).toInt ≤ 12) (h_o_known : 0 ≤ (o_known).toInt ∧ (o_known).toInt ≤ 1) : KK l D (TY cyC cyI cyJ cyZ cyO) yX3_settle cX3_settle 1 none ({ frames := 13, cells := 0, slots := 0, locals := 299 } : Room) 0 0 [.ref o0] [(o0, .inr (3, [.int o_wares, .ref o1, .ref o2, .int o_known, .int o_fewest, .int o_apart, .ref o3, .ref o4])), (o1, .inl (cyI, 12, .inl o_above)), (o2, .inl (cyI, 12, .inl o_kin)), (o3, .inl (cyI, 12, .inl o_row)), (o4, .inl (cyI, 12, .inl o_members))] (fun u => none) (fun u => (0 ≤ (u.2.1 0).toInt ∧ (u.2.1 0).toInt ≤ 1)) (fun u => [(o0, .inr (3, [.int o_wares, .ref o1, .ref o2, .int (u.2.1 0), .int (u.2.1 1), .int (u.2.1 2), .ref o3, .ref o4])), (o1, .inl (cyI, 12, .inl o_above)), (o2, .inl (cyI, 12, .inl (u.2.2.1 0))), (o3, .inl (cyI, 12, .inl (u.2.2.1 1))), (o4, .inl (cyI, 12, .inl (u.2.2.1 2)))]) := by
  refine KK.of (lv0 := [(0, .ref o0)]) (by decide) rfl (Nat.le_of_ble_eq_true rfl) ?_
  intro p e s m args below meth c A C hr hk hin
  refine j_aload_n (pc := 0) C dX3_settle_0 rfl 0 rfl ?_
  refine j_get (pc := 1) (ci := 3) (v := .int o_known) C inw_3 0 rfl rfl 3 (by decide) wd_77 rfl rfl dX3_settle_1 ?_
  refine j_if_eq (pc := 4) (tgt := 8) C dX3_settle_4 (by decide) (fun c_1 => ?_) (fun c_1 => ?_)
  · skip
    have el_0 : (0 : Int32).toInt = 0 := rfl
    rw [i_eq] at c_1
    refine j_aload_n (pc := 8) C dX3_settle_8 rfl 0 rfl ?_
    refine j_iconst (pc := 9) (v := 1) C dX3_settle_9 (by decide) ?_
    refine j_put (pc := 10) (ci := 3) (v := .int 1) (ws' := [(o0, .inr (3, [.int o_wares, .ref o1, .ref o2, .int 1, .int o_fewest, .int o_apart, .ref o3, .ref o4])), (o1, .inl (cyI, 12, .inl o_above)), (o2, .inl (cyI, 12, .inl o_kin)), (o3, .inl (cyI, 12, .inl o_row)), (o4, .inl (cyI, 12, .inl o_members))]) C inw_3 0 rfl rfl 3 (by decide) wd_77 rfl tyX3_ok nmX3 rfl (tyX3_ok 3 (by decide)) rfl rfl (Nat.le_of_ble_eq_true rfl) dX3_settle_10 rfl ?_
    refine j_aload_n (pc := 13) C dX3_settle_13 rfl 0 rfl ?_
    refine j_callV (pc := 14) (As := []) (rest := []) (wr := [(o3, .inl (cyI, 12, .inl o_row)), (o4, .inl (cyI, 12, .inl o_members))]) C (c_X3_findKin l D cyC cyI cyJ cyZ cyO o0 o1 o2 o3 o4 o_wares 1 o_fewest o_apart o_above o_kin h_o_wares (by decide)) wd_100 wd_89 wd_101 wd_102 wd_103 ⟨by decide, by decide, rfl⟩ rfl ⟨rfl, rfl, by decide, by decide⟩ ⟨by decide, by decide⟩ [0, 1, 2] [3, 4] rfl rfl ⟨by decide, by decide, by decide⟩ 0 rfl rfl rfl (Nat.le_of_ble_eq_true rfl) dX3_settle_14 (fun u_2 hw_3 => ?_)
    refine j_eq (ws2 := [(o3, .inl (cyI, 12, .inl o_row)), (o4, .inl (cyI, 12, .inl o_members)), (o0, .inr (3, [.int o_wares, .ref o1, .ref o2, .int 1, .int o_fewest, .int o_apart, .ref o3, .ref o4])), (o1, .inl (cyI, 12, .inl o_above)), (o2, .inl (cyI, 12, .inl (u_2.2.2.1 0)))]) (pc2 := 17) (lv2 := [(0, .ref o0)]) (st2 := []) rfl rfl rfl rfl ?_
    refine j_aload_n (pc := 17) C dX3_settle_17 rfl 0 rfl ?_
    refine j_callV (pc := 18) (As := []) (rest := []) (wr := [(o3, .inl (cyI, 12, .inl o_row)), (o4, .inl (cyI, 12, .inl o_members)), (o1, .inl (cyI, 12, .inl o_above))]) C (c_X3_findApart l D cyC cyI cyJ cyZ cyO o0 o2 o1 o3 o4 o_wares 1 o_fewest o_apart (u_2.2.2.1 0) h_o_wares (by decide)) wd_104 wd_89 wd_105 wd_106 wd_107 ⟨by decide, by decide, rfl⟩ rfl ⟨rfl, rfl, by decide, by decide⟩ ⟨by decide, by decide⟩ [2, 4] [0, 1, 3] rfl rfl ⟨by decide, by decide, by decide⟩ 2 rfl rfl rfl (Nat.le_of_ble_eq_true rfl) dX3_settle_18 (fun u_4 hw_5 => ?_)
    refine j_eq (ws2 := [(o3, .inl (cyI, 12, .inl o_row)), (o4, .inl (cyI, 12, .inl o_members)), (o1, .inl (cyI, 12, .inl o_above)), (o0, .inr (3, [.int o_wares, .ref o1, .ref o2, .int 1, .int (u_4.2.1 0), .int (u_4.2.1 1), .ref o3, .ref o4])), (o2, .inl (cyI, 12, .inl (u_2.2.2.1 0)))]) (pc2 := 21) (lv2 := [(0, .ref o0)]) (st2 := []) rfl rfl rfl rfl ?_
    refine j_aload_n (pc := 21) C dX3_settle_21 rfl 0 rfl ?_
    refine j_get (pc := 22) (ci := 3) (v := .ref o4) C inw_3 3 rfl rfl 7 (by decide) wd_93 rfl rfl dX3_settle_22 ?_
    refine j_iconst (pc := 25) (v := 0) C dX3_settle_25 (by decide) ?_
    refine j_callS (pc := 26) (As := [.ref o4, .int 0]) (rest := []) (wr := [(o3, .inl (cyI, 12, .inl o_row)), (o1, .inl (cyI, 12, .inl o_above)), (o0, .inr (3, [.int o_wares, .ref o1, .ref o2, .int 1, .int (u_4.2.1 0), .int (u_4.2.1 1), .ref o3, .ref o4])), (o2, .inl (cyI, 12, .inl (u_2.2.2.1 0)))]) C (c_fill l D cyC cyI cyJ cyZ cyO o4 0 o_members) wd_50 wd_51 wd_108 wd_53 ⟨by decide, by decide, rfl⟩ rfl ⟨rfl, rfl, by decide, by decide⟩ ⟨by decide, by decide⟩ [1] [0, 2, 3, 4] rfl rfl ⟨by decide, by decide, by decide⟩ rfl (Nat.le_of_ble_eq_true rfl) dX3_settle_26 (fun u_6 hw_7 => ?_)
    refine j_eq (ws2 := [(o3, .inl (cyI, 12, .inl o_row)), (o1, .inl (cyI, 12, .inl o_above)), (o0, .inr (3, [.int o_wares, .ref o1, .ref o2, .int 1, .int (u_4.2.1 0), .int (u_4.2.1 1), .ref o3, .ref o4])), (o2, .inl (cyI, 12, .inl (u_2.2.2.1 0))), (o4, .inl (cyI, 12, .inl (fun _ => 0)))]) (pc2 := 29) (lv2 := [(0, .ref o0)]) (st2 := []) rfl rfl rfl rfl ?_
    refine j_aload_n (pc := 29) C dX3_settle_29 rfl 0 rfl ?_
    refine j_iconst (pc := 30) (v := 0) C dX3_settle_30 (by decide) ?_
    refine j_iconst (pc := 31) (v := 0) C dX3_settle_31 (by decide) ?_
    refine j_callV (pc := 32) (As := [.int 0, .int 0]) (rest := []) (wr := [(o1, .inl (cyI, 12, .inl o_above))]) C (c_X3_give_0 l D cyC cyI cyJ cyZ cyO o0 o2 o3 o4 o1 0 0 o_wares 1 (u_4.2.1 0) (u_4.2.1 1) (u_2.2.2.1 0) o_row (fun _ => 0) h_o_wares (by decide) (by decide) (by omega) (by decide)) wd_96 wd_89 wd_97 wd_98 wd_99 ⟨by decide, by decide, rfl⟩ rfl ⟨rfl, rfl, by decide, by decide⟩ ⟨by decide, by decide⟩ [2, 3, 0, 4] [1] rfl rfl ⟨by decide, by decide, by decide⟩ 2 rfl rfl rfl (Nat.le_of_ble_eq_true rfl) dX3_settle_32 (fun u_8 hw_9 => ?_)
    refine j_eq (ws2 := [(o1, .inl (cyI, 12, .inl o_above)), (o0, .inr (3, [.int o_wares, .ref o1, .ref o2, .int 1, .int (u_4.2.1 0), .int (u_4.2.1 1), .ref o3, .ref o4])), (o2, .inl (cyI, 12, .inl (u_2.2.2.1 0))), (o3, .inl (cyI, 12, .inl (u_8.2.2.1 0))), (o4, .inl (cyI, 12, .inl (u_8.2.2.1 1)))]) (pc2 := 35) (lv2 := [(0, .ref o0)]) (st2 := [.int (u_8.2.1 0)]) rfl rfl rfl rfl ?_
    have hw_9_0 : 0 ≤ (u_8.2.1 0).toInt ∧ (u_8.2.1 0).toInt ≤ 1 := hw_9
    refine j_pop (pc := 35) C dX3_settle_35 rfl ?_
    have el_1 : (1 : Int32).toInt = 1 := rfl
    exact j_vret (pc := 36) C hr hk (fun i => [].getD i 0, fun i => [1, (u_4.2.1 0), (u_4.2.1 1)].getD i 0, fun i => [(u_2.2.2.1 0), (u_8.2.2.1 0), (u_8.2.2.1 1)].getD i (fun _ => 0), fun i => [].getD i (fun _ => 0)) rfl (show (0 ≤ ((1 : Int32)).toInt ∧ ((1 : Int32)).toInt ≤ 1) from (by omega)) [1, 0, 2, 3, 4] (by decide) rfl (by decide) (by decide) dX3_settle_36
  · skip
    have el_0 : (0 : Int32).toInt = 0 := rfl
    rw [i_eq] at c_1
    have k0c_1 : o_known.toInt = 1 := by omega
    exact j_vret (pc := 7) C hr hk (fun i => [].getD i 0, fun i => [o_known, o_fewest, o_apart].getD i 0, fun i => [o_kin, o_row, o_members].getD i (fun _ => 0), fun i => [].getD i (fun _ => 0)) rfl (show (0 ≤ (o_known).toInt ∧ (o_known).toInt ≤ 1) from (h_o_known)) [0, 1, 2, 3, 4] (by decide) rfl (by decide) (by decide) dX3_settle_7
