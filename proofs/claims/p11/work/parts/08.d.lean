theorem wd_29 : Cond.fieldLink RX4 15 "BowlShelf$Pile" "size" "I" ∈ WALL := wl_in (by decide +kernel) (by decide +kernel)
theorem wd_30 : Cond.fieldLink RX4 28 "BowlShelf$Told" "weight" "[I" ∈ WALL := wl_in (by decide +kernel) (by decide +kernel)
theorem wd_31 : Cond.fieldLink RX4 9 "BowlShelf$Pile" "ware" "[I" ∈ WALL := wl_in (by decide +kernel) (by decide +kernel)
theorem wd_32 : Cond.code yX9_rise cX9_rise 4 (some .int) ∈ WALL := wl_in (by decide +kernel) (by decide +kernel)
theorem wd_33 : Cond.initialized RX9 ∈ WALL := wl_in (by decide +kernel) (by decide +kernel)
theorem wd_34 : Cond.methodLink RX4 33 yX9_rise ∈ WALL := wl_in (by decide +kernel) (by decide +kernel)
theorem wd_35 : Cond.instanceMethod yX9_rise ∈ WALL := wl_in (by decide +kernel) (by decide +kernel)
theorem wd_36 : Cond.selects RX9 yX9_rise yX9_rise ∈ WALL := wl_in (by decide +kernel) (by decide +kernel)
theorem wd_37 : Cond.fieldLink RX4 37 "BowlShelf$Told" "deep" "[I" ∈ WALL := wl_in (by decide +kernel) (by decide +kernel)
theorem wd_38 : Cond.methodLink RX4 40 Lib.Math.max.name ∈ WALL := wl_in (by decide +kernel) (by decide +kernel)
theorem wd_39 : Cond.code yX4_weightFrom cX4_weightFrom 5 (some .int) ∈ WALL := wl_in (by decide +kernel) (by decide +kernel)
theorem wd_40 : Cond.initialized RX4 ∈ WALL := wl_in (by decide +kernel) (by decide +kernel)
theorem wd_41 : Cond.methodLink RX4 45 yX4_weightFrom ∈ WALL := wl_in (by decide +kernel) (by decide +kernel)
theorem wd_42 : Cond.instanceMethod yX4_weightFrom ∈ WALL := wl_in (by decide +kernel) (by decide +kernel)
theorem wd_43 : Cond.selects RX4 yX4_weightFrom yX4_weightFrom ∈ WALL := wl_in (by decide +kernel) (by decide +kernel)
theorem wd_44 : Cond.code yX4_highestRim cX4_highestRim 5 (some .int) ∈ WALL := wl_in (by decide +kernel) (by decide +kernel)
theorem wd_45 : Cond.methodLink RX4 55 yX4_highestRim ∈ WALL := wl_in (by decide +kernel) (by decide +kernel)
theorem wd_46 : Cond.instanceMethod yX4_highestRim ∈ WALL := wl_in (by decide +kernel) (by decide +kernel)
theorem wd_47 : Cond.selects RX4 yX4_highestRim yX4_highestRim ∈ WALL := wl_in (by decide +kernel) (by decide +kernel)
theorem wd_48 : Cond.fieldLink RX4 52 "BowlShelf$Told" "bears" "[I" ∈ WALL := wl_in (by decide +kernel) (by decide +kernel)
theorem wd_49 : Cond.fieldLink RX4 49 "BowlShelf$Told" "mayOn" "[I" ∈ WALL := wl_in (by decide +kernel) (by decide +kernel)
theorem dX4_weightFrom_0 : decode cX4_weightFrom 0 = .ok (.iconst 0, 1) := by decide +kernel
theorem dX4_weightFrom_1 : decode cX4_weightFrom 1 = .ok (.istore_n 3, 1) := by decide +kernel
theorem dX4_weightFrom_2 : decode cX4_weightFrom 2 = .ok (.iload_n 2, 1) := by decide +kernel
theorem dX4_weightFrom_3 : decode cX4_weightFrom 3 = .ok (.istore 4, 2) := by decide +kernel
theorem dX4_weightFrom_5 : decode cX4_weightFrom 5 = .ok (.iload 4, 2) := by decide +kernel
theorem dX4_weightFrom_7 : decode cX4_weightFrom 7 = .ok (.aload_n 0, 1) := by decide +kernel
theorem dX4_weightFrom_8 : decode cX4_weightFrom 8 = .ok (.getfield 15, 3) := by decide +kernel
theorem dX4_weightFrom_11 : decode cX4_weightFrom 11 = .ok (.if_icmp .ge 24, 3) := by decide +kernel
theorem dX4_weightFrom_14 : decode cX4_weightFrom 14 = .ok (.iload_n 3, 1) := by decide +kernel
theorem dX4_weightFrom_15 : decode cX4_weightFrom 15 = .ok (.aload_n 1, 1) := by decide +kernel
theorem dX4_weightFrom_16 : decode cX4_weightFrom 16 = .ok (.getfield 28, 3) := by decide +kernel
theorem dX4_weightFrom_19 : decode cX4_weightFrom 19 = .ok (.aload_n 0, 1) := by decide +kernel
theorem dX4_weightFrom_20 : decode cX4_weightFrom 20 = .ok (.getfield 9, 3) := by decide +kernel
theorem dX4_weightFrom_23 : decode cX4_weightFrom 23 = .ok (.iload 4, 2) := by decide +kernel
theorem dX4_weightFrom_25 : decode cX4_weightFrom 25 = .ok (.iaload, 1) := by decide +kernel
theorem dX4_weightFrom_26 : decode cX4_weightFrom 26 = .ok (.iaload, 1) := by decide +kernel
theorem dX4_weightFrom_27 : decode cX4_weightFrom 27 = .ok (.iadd, 1) := by decide +kernel
theorem dX4_weightFrom_28 : decode cX4_weightFrom 28 = .ok (.istore_n 3, 1) := by decide +kernel
theorem dX4_weightFrom_29 : decode cX4_weightFrom 29 = .ok (.iinc 4 1, 3) := by decide +kernel
theorem dX4_weightFrom_32 : decode cX4_weightFrom 32 = .ok (.goto (-27), 3) := by decide +kernel
theorem dX4_weightFrom_35 : decode cX4_weightFrom 35 = .ok (.iload_n 3, 1) := by decide +kernel
theorem dX4_weightFrom_36 : decode cX4_weightFrom 36 = .ok (.ireturn, 1) := by decide +kernel
theorem dX4_foot_0 : decode cX4_foot 0 = .ok (.iconst 0, 1) := by decide +kernel
theorem dX4_foot_1 : decode cX4_foot 1 = .ok (.istore_n 3, 1) := by decide +kernel
theorem dX4_foot_2 : decode cX4_foot 2 = .ok (.iconst 1, 1) := by decide +kernel
theorem dX4_foot_3 : decode cX4_foot 3 = .ok (.istore 4, 2) := by decide +kernel
theorem dX4_foot_5 : decode cX4_foot 5 = .ok (.iload 4, 2) := by decide +kernel
theorem dX4_foot_7 : decode cX4_foot 7 = .ok (.iload_n 2, 1) := by decide +kernel
theorem dX4_foot_8 : decode cX4_foot 8 = .ok (.if_icmp .gt 41, 3) := by decide +kernel
theorem dX4_foot_11 : decode cX4_foot 11 = .ok (.iload 4, 2) := by decide +kernel
theorem dX4_foot_13 : decode cX4_foot 13 = .ok (.aload_n 0, 1) := by decide +kernel
theorem dX4_foot_14 : decode cX4_foot 14 = .ok (.getfield 15, 3) := by decide +kernel
theorem dX4_foot_17 : decode cX4_foot 17 = .ok (.if_icmp .ge 32, 3) := by decide +kernel
theorem dX4_foot_20 : decode cX4_foot 20 = .ok (.iload_n 3, 1) := by decide +kernel
theorem dX4_foot_21 : decode cX4_foot 21 = .ok (.aload_n 1, 1) := by decide +kernel
theorem dX4_foot_22 : decode cX4_foot 22 = .ok (.aload_n 0, 1) := by decide +kernel
theorem dX4_foot_23 : decode cX4_foot 23 = .ok (.getfield 9, 3) := by decide +kernel
theorem dX4_foot_26 : decode cX4_foot 26 = .ok (.iload 4, 2) := by decide +kernel
theorem dX4_foot_28 : decode cX4_foot 28 = .ok (.iaload, 1) := by decide +kernel
theorem dX4_foot_29 : decode cX4_foot 29 = .ok (.aload_n 0, 1) := by decide +kernel
theorem dX4_foot_30 : decode cX4_foot 30 = .ok (.getfield 9, 3) := by decide +kernel
theorem dX4_foot_33 : decode cX4_foot 33 = .ok (.iload 4, 2) := by decide +kernel
theorem dX4_foot_35 : decode cX4_foot 35 = .ok (.iconst 1, 1) := by decide +kernel
theorem dX4_foot_36 : decode cX4_foot 36 = .ok (.isub, 1) := by decide +kernel
theorem dX4_foot_37 : decode cX4_foot 37 = .ok (.iaload, 1) := by decide +kernel
theorem dX4_foot_38 : decode cX4_foot 38 = .ok (.invokevirtual 33, 3) := by decide +kernel
theorem dX4_foot_41 : decode cX4_foot 41 = .ok (.iadd, 1) := by decide +kernel
theorem dX4_foot_42 : decode cX4_foot 42 = .ok (.istore_n 3, 1) := by decide +kernel
theorem dX4_foot_43 : decode cX4_foot 43 = .ok (.iinc 4 1, 3) := by decide +kernel
theorem dX4_foot_46 : decode cX4_foot 46 = .ok (.goto (-41), 3) := by decide +kernel
theorem dX4_foot_49 : decode cX4_foot 49 = .ok (.iload_n 3, 1) := by decide +kernel
theorem dX4_foot_50 : decode cX4_foot 50 = .ok (.ireturn, 1) := by decide +kernel
theorem dX4_highestRim_0 : decode cX4_highestRim 0 = .ok (.iconst 0, 1) := by decide +kernel
theorem dX4_highestRim_1 : decode cX4_highestRim 1 = .ok (.istore_n 2, 1) := by decide +kernel
theorem dX4_highestRim_2 : decode cX4_highestRim 2 = .ok (.iconst 0, 1) := by decide +kernel
theorem dX4_highestRim_3 : decode cX4_highestRim 3 = .ok (.istore_n 3, 1) := by decide +kernel
theorem dX4_highestRim_4 : decode cX4_highestRim 4 = .ok (.iconst 0, 1) := by decide +kernel
theorem dX4_highestRim_5 : decode cX4_highestRim 5 = .ok (.istore 4, 2) := by decide +kernel
theorem dX4_highestRim_7 : decode cX4_highestRim 7 = .ok (.iload 4, 2) := by decide +kernel
theorem dX4_highestRim_9 : decode cX4_highestRim 9 = .ok (.aload_n 0, 1) := by decide +kernel
theorem dX4_highestRim_10 : decode cX4_highestRim 10 = .ok (.getfield 15, 3) := by decide +kernel
theorem dX4_highestRim_13 : decode cX4_highestRim 13 = .ok (.if_icmp .ge 60, 3) := by decide +kernel
theorem dX4_highestRim_16 : decode cX4_highestRim 16 = .ok (.iload_n 3, 1) := by decide +kernel
theorem dX4_highestRim_17 : decode cX4_highestRim 17 = .ok (.iload 4, 2) := by decide +kernel
theorem dX4_highestRim_19 : decode cX4_highestRim 19 = .ok (.ifCond .ne 7, 3) := by decide +kernel
theorem dX4_highestRim_22 : decode cX4_highestRim 22 = .ok (.iconst 0, 1) := by decide +kernel
theorem dX4_highestRim_23 : decode cX4_highestRim 23 = .ok (.goto 23, 3) := by decide +kernel
theorem dX4_highestRim_26 : decode cX4_highestRim 26 = .ok (.aload_n 1, 1) := by decide +kernel
theorem dX4_highestRim_27 : decode cX4_highestRim 27 = .ok (.aload_n 0, 1) := by decide +kernel
theorem dX4_highestRim_28 : decode cX4_highestRim 28 = .ok (.getfield 9, 3) := by decide +kernel
theorem dX4_highestRim_31 : decode cX4_highestRim 31 = .ok (.iload 4, 2) := by decide +kernel
theorem dX4_highestRim_33 : decode cX4_highestRim 33 = .ok (.iaload, 1) := by decide +kernel
theorem dX4_highestRim_34 : decode cX4_highestRim 34 = .ok (.aload_n 0, 1) := by decide +kernel
theorem dX4_highestRim_35 : decode cX4_highestRim 35 = .ok (.getfield 9, 3) := by decide +kernel
theorem dX4_highestRim_38 : decode cX4_highestRim 38 = .ok (.iload 4, 2) := by decide +kernel
theorem dX4_highestRim_40 : decode cX4_highestRim 40 = .ok (.iconst 1, 1) := by decide +kernel
theorem dX4_highestRim_41 : decode cX4_highestRim 41 = .ok (.isub, 1) := by decide +kernel
theorem dX4_highestRim_42 : decode cX4_highestRim 42 = .ok (.iaload, 1) := by decide +kernel
theorem dX4_highestRim_43 : decode cX4_highestRim 43 = .ok (.invokevirtual 33, 3) := by decide +kernel
theorem dX4_highestRim_46 : decode cX4_highestRim 46 = .ok (.iadd, 1) := by decide +kernel
theorem dX4_highestRim_47 : decode cX4_highestRim 47 = .ok (.istore_n 3, 1) := by decide +kernel
theorem dX4_highestRim_48 : decode cX4_highestRim 48 = .ok (.iload_n 2, 1) := by decide +kernel
theorem dX4_highestRim_49 : decode cX4_highestRim 49 = .ok (.iload_n 3, 1) := by decide +kernel
theorem dX4_highestRim_50 : decode cX4_highestRim 50 = .ok (.aload_n 1, 1) := by decide +kernel
theorem dX4_highestRim_51 : decode cX4_highestRim 51 = .ok (.getfield 37, 3) := by decide +kernel
theorem dX4_highestRim_54 : decode cX4_highestRim 54 = .ok (.aload_n 0, 1) := by decide +kernel
theorem dX4_highestRim_55 : decode cX4_highestRim 55 = .ok (.getfield 9, 3) := by decide +kernel
theorem dX4_highestRim_58 : decode cX4_highestRim 58 = .ok (.iload 4, 2) := by decide +kernel
theorem dX4_highestRim_60 : decode cX4_highestRim 60 = .ok (.iaload, 1) := by decide +kernel
theorem dX4_highestRim_61 : decode cX4_highestRim 61 = .ok (.iaload, 1) := by decide +kernel
theorem dX4_highestRim_62 : decode cX4_highestRim 62 = .ok (.iadd, 1) := by decide +kernel
theorem dX4_highestRim_63 : decode cX4_highestRim 63 = .ok (.invokestatic 40, 3) := by decide +kernel
theorem dX4_highestRim_66 : decode cX4_highestRim 66 = .ok (.istore_n 2, 1) := by decide +kernel
theorem dX4_highestRim_67 : decode cX4_highestRim 67 = .ok (.iinc 4 1, 3) := by decide +kernel
theorem dX4_highestRim_70 : decode cX4_highestRim 70 = .ok (.goto (-63), 3) := by decide +kernel
theorem dX4_highestRim_73 : decode cX4_highestRim 73 = .ok (.iload_n 2, 1) := by decide +kernel
theorem dX4_highestRim_74 : decode cX4_highestRim 74 = .ok (.ireturn, 1) := by decide +kernel
theorem dX4_price_0 : decode cX4_price 0 = .ok (.aload_n 1, 1) := by decide +kernel
theorem dX4_price_1 : decode cX4_price 1 = .ok (.getfield 28, 3) := by decide +kernel
theorem dX4_price_4 : decode cX4_price 4 = .ok (.aload_n 0, 1) := by decide +kernel
theorem dX4_price_5 : decode cX4_price 5 = .ok (.getfield 9, 3) := by decide +kernel
theorem dX4_price_8 : decode cX4_price 8 = .ok (.iload_n 2, 1) := by decide +kernel
theorem dX4_price_9 : decode cX4_price 9 = .ok (.iaload, 1) := by decide +kernel
theorem dX4_price_10 : decode cX4_price 10 = .ok (.iaload, 1) := by decide +kernel
theorem dX4_price_11 : decode cX4_price 11 = .ok (.iload_n 3, 1) := by decide +kernel
theorem dX4_price_12 : decode cX4_price 12 = .ok (.iadd, 1) := by decide +kernel
theorem dX4_price_13 : decode cX4_price 13 = .ok (.istore 4, 2) := by decide +kernel
theorem dX4_price_15 : decode cX4_price 15 = .ok (.iload 4, 2) := by decide +kernel
theorem dX4_price_17 : decode cX4_price 17 = .ok (.iconst 2, 1) := by decide +kernel
theorem dX4_price_18 : decode cX4_price 18 = .ok (.aload_n 0, 1) := by decide +kernel
theorem dX4_price_19 : decode cX4_price 19 = .ok (.aload_n 1, 1) := by decide +kernel
theorem dX4_price_20 : decode cX4_price 20 = .ok (.iload_n 2, 1) := by decide +kernel
theorem dX4_price_21 : decode cX4_price 21 = .ok (.iconst 1, 1) := by decide +kernel
theorem dX4_price_22 : decode cX4_price 22 = .ok (.iadd, 1) := by decide +kernel
theorem dX4_price_23 : decode cX4_price 23 = .ok (.invokevirtual 45, 3) := by decide +kernel
theorem dX4_price_26 : decode cX4_price 26 = .ok (.iload_n 3, 1) := by decide +kernel
theorem dX4_price_27 : decode cX4_price 27 = .ok (.aload_n 0, 1) := by decide +kernel
theorem dX4_price_28 : decode cX4_price 28 = .ok (.getfield 15, 3) := by decide +kernel
theorem dX4_price_31 : decode cX4_price 31 = .ok (.iconst 1, 1) := by decide +kernel
theorem dX4_price_32 : decode cX4_price 32 = .ok (.isub, 1) := by decide +kernel
theorem dX4_price_33 : decode cX4_price 33 = .ok (.iload_n 2, 1) := by decide +kernel
theorem dX4_price_34 : decode cX4_price 34 = .ok (.isub, 1) := by decide +kernel
theorem dX4_price_35 : decode cX4_price 35 = .ok (.imul, 1) := by decide +kernel
theorem dX4_price_36 : decode cX4_price 36 = .ok (.iadd, 1) := by decide +kernel
theorem dX4_price_37 : decode cX4_price 37 = .ok (.imul, 1) := by decide +kernel
theorem dX4_price_38 : decode cX4_price 38 = .ok (.iadd, 1) := by decide +kernel
theorem dX4_price_39 : decode cX4_price 39 = .ok (.ireturn, 1) := by decide +kernel
theorem dX4_refusal_0 : decode cX4_refusal 0 = .ok (.iconst 1, 1) := by decide +kernel
theorem dX4_refusal_1 : decode cX4_refusal 1 = .ok (.istore_n 3, 1) := by decide +kernel
theorem dX4_refusal_2 : decode cX4_refusal 2 = .ok (.iload_n 3, 1) := by decide +kernel
theorem dX4_refusal_3 : decode cX4_refusal 3 = .ok (.aload_n 0, 1) := by decide +kernel
theorem dX4_refusal_4 : decode cX4_refusal 4 = .ok (.getfield 15, 3) := by decide +kernel
theorem dX4_refusal_7 : decode cX4_refusal 7 = .ok (.if_icmp .ge 36, 3) := by decide +kernel
theorem dX4_refusal_10 : decode cX4_refusal 10 = .ok (.aload_n 1, 1) := by decide +kernel
theorem dX4_refusal_11 : decode cX4_refusal 11 = .ok (.getfield 49, 3) := by decide +kernel
theorem dX4_refusal_14 : decode cX4_refusal 14 = .ok (.aload_n 0, 1) := by decide +kernel
theorem dX4_refusal_15 : decode cX4_refusal 15 = .ok (.getfield 9, 3) := by decide +kernel
theorem dX4_refusal_18 : decode cX4_refusal 18 = .ok (.iload_n 3, 1) := by decide +kernel
theorem dX4_refusal_19 : decode cX4_refusal 19 = .ok (.iconst 1, 1) := by decide +kernel
theorem dX4_refusal_20 : decode cX4_refusal 20 = .ok (.isub, 1) := by decide +kernel
theorem dX4_refusal_21 : decode cX4_refusal 21 = .ok (.iaload, 1) := by decide +kernel
theorem dX4_refusal_22 : decode cX4_refusal 22 = .ok (.iaload, 1) := by decide +kernel
theorem dX4_refusal_23 : decode cX4_refusal 23 = .ok (.aload_n 0, 1) := by decide +kernel
theorem dX4_refusal_24 : decode cX4_refusal 24 = .ok (.getfield 9, 3) := by decide +kernel
theorem dX4_refusal_27 : decode cX4_refusal 27 = .ok (.iload_n 3, 1) := by decide +kernel
theorem dX4_refusal_28 : decode cX4_refusal 28 = .ok (.iaload, 1) := by decide +kernel
theorem dX4_refusal_29 : decode cX4_refusal 29 = .ok (.iushr, 1) := by decide +kernel
theorem dX4_refusal_30 : decode cX4_refusal 30 = .ok (.iconst 1, 1) := by decide +kernel
theorem dX4_refusal_31 : decode cX4_refusal 31 = .ok (.iand, 1) := by decide +kernel
theorem dX4_refusal_32 : decode cX4_refusal 32 = .ok (.ifCond .ne 5, 3) := by decide +kernel
theorem dX4_refusal_35 : decode cX4_refusal 35 = .ok (.iconst 4, 1) := by decide +kernel
theorem dX4_refusal_36 : decode cX4_refusal 36 = .ok (.ireturn, 1) := by decide +kernel
theorem dX4_refusal_37 : decode cX4_refusal 37 = .ok (.iinc 3 1, 3) := by decide +kernel
theorem dX4_refusal_40 : decode cX4_refusal 40 = .ok (.goto (-38), 3) := by decide +kernel
theorem dX4_refusal_43 : decode cX4_refusal 43 = .ok (.iconst 0, 1) := by decide +kernel
theorem dX4_refusal_44 : decode cX4_refusal 44 = .ok (.istore_n 3, 1) := by decide +kernel
theorem dX4_refusal_45 : decode cX4_refusal 45 = .ok (.iload_n 3, 1) := by decide +kernel
theorem dX4_refusal_46 : decode cX4_refusal 46 = .ok (.aload_n 0, 1) := by decide +kernel
theorem dX4_refusal_47 : decode cX4_refusal 47 = .ok (.getfield 15, 3) := by decide +kernel
theorem dX4_refusal_50 : decode cX4_refusal 50 = .ok (.if_icmp .ge 33, 3) := by decide +kernel
theorem dX4_refusal_53 : decode cX4_refusal 53 = .ok (.aload_n 0, 1) := by decide +kernel
theorem dX4_refusal_54 : decode cX4_refusal 54 = .ok (.aload_n 1, 1) := by decide +kernel
theorem dX4_refusal_55 : decode cX4_refusal 55 = .ok (.iload_n 3, 1) := by decide +kernel
theorem dX4_refusal_56 : decode cX4_refusal 56 = .ok (.iconst 1, 1) := by decide +kernel
theorem dX4_refusal_57 : decode cX4_refusal 57 = .ok (.iadd, 1) := by decide +kernel
theorem dX4_refusal_58 : decode cX4_refusal 58 = .ok (.invokevirtual 45, 3) := by decide +kernel
theorem dX4_refusal_61 : decode cX4_refusal 61 = .ok (.aload_n 1, 1) := by decide +kernel
theorem dX4_refusal_62 : decode cX4_refusal 62 = .ok (.getfield 52, 3) := by decide +kernel
theorem dX4_refusal_65 : decode cX4_refusal 65 = .ok (.aload_n 0, 1) := by decide +kernel
theorem dX4_refusal_66 : decode cX4_refusal 66 = .ok (.getfield 9, 3) := by decide +kernel
theorem dX4_refusal_69 : decode cX4_refusal 69 = .ok (.iload_n 3, 1) := by decide +kernel
theorem dX4_refusal_70 : decode cX4_refusal 70 = .ok (.iaload, 1) := by decide +kernel
theorem dX4_refusal_71 : decode cX4_refusal 71 = .ok (.iaload, 1) := by decide +kernel
theorem dX4_refusal_72 : decode cX4_refusal 72 = .ok (.if_icmp .le 5, 3) := by decide +kernel
theorem dX4_refusal_75 : decode cX4_refusal 75 = .ok (.iconst 5, 1) := by decide +kernel
theorem dX4_refusal_76 : decode cX4_refusal 76 = .ok (.ireturn, 1) := by decide +kernel
theorem dX4_refusal_77 : decode cX4_refusal 77 = .ok (.iinc 3 1, 3) := by decide +kernel
theorem dX4_refusal_80 : decode cX4_refusal 80 = .ok (.goto (-35), 3) := by decide +kernel
theorem dX4_refusal_83 : decode cX4_refusal 83 = .ok (.aload_n 0, 1) := by decide +kernel
theorem dX4_refusal_84 : decode cX4_refusal 84 = .ok (.aload_n 1, 1) := by decide +kernel
theorem dX4_refusal_85 : decode cX4_refusal 85 = .ok (.invokevirtual 55, 3) := by decide +kernel
theorem dX4_refusal_88 : decode cX4_refusal 88 = .ok (.iload_n 2, 1) := by decide +kernel
theorem dX4_refusal_89 : decode cX4_refusal 89 = .ok (.if_icmp .le 8, 3) := by decide +kernel
theorem dX4_refusal_92 : decode cX4_refusal 92 = .ok (.bipush 6, 2) := by decide +kernel
theorem dX4_refusal_94 : decode cX4_refusal 94 = .ok (.goto 4, 3) := by decide +kernel
theorem dX4_refusal_97 : decode cX4_refusal 97 = .ok (.iconst 0, 1) := by decide +kernel
theorem dX4_refusal_98 : decode cX4_refusal 98 = .ok (.ireturn, 1) := by decide +kernel
theorem dX4_add_0 : decode cX4_add 0 = .ok (.aload_n 0, 1) := by decide +kernel
theorem dX4_add_1 : decode cX4_add 1 = .ok (.getfield 15, 3) := by decide +kernel
theorem dX4_add_4 : decode cX4_add 4 = .ok (.bipush 12, 2) := by decide +kernel
theorem dX4_add_6 : decode cX4_add 6 = .ok (.if_icmp .ge 23, 3) := by decide +kernel
theorem dX4_add_9 : decode cX4_add 9 = .ok (.aload_n 0, 1) := by decide +kernel
theorem dX4_add_10 : decode cX4_add 10 = .ok (.getfield 9, 3) := by decide +kernel
theorem dX4_add_13 : decode cX4_add 13 = .ok (.aload_n 0, 1) := by decide +kernel
theorem dX4_add_14 : decode cX4_add 14 = .ok (.getfield 15, 3) := by decide +kernel
theorem dX4_add_17 : decode cX4_add 17 = .ok (.iload_n 1, 1) := by decide +kernel
theorem dX4_add_18 : decode cX4_add 18 = .ok (.iastore, 1) := by decide +kernel
theorem dX4_add_19 : decode cX4_add 19 = .ok (.aload_n 0, 1) := by decide +kernel
theorem dX4_add_20 : decode cX4_add 20 = .ok (.dup, 1) := by decide +kernel
theorem dX4_add_21 : decode cX4_add 21 = .ok (.getfield 15, 3) := by decide +kernel
theorem dX4_add_24 : decode cX4_add 24 = .ok (.iconst 1, 1) := by decide +kernel
theorem dX4_add_25 : decode cX4_add 25 = .ok (.iadd, 1) := by decide +kernel
theorem dX4_add_26 : decode cX4_add 26 = .ok (.putfield 15, 3) := by decide +kernel
theorem dX4_add_29 : decode cX4_add 29 = .ok (.return_, 1) := by decide +kernel
set_option maxHeartbeats 4000000 in
set_option maxRecDepth 100000 in
theorem c_X4_weightFrom (l : Launch) (D : DG) (cyC cyI cyJ cyZ cyO : ClassId) (q0 : Nat) (q1 : Nat) (a0 : Nat) (a3 : Nat) (a1 : Nat) (a2 : Nat) (a4 : Nat) (a5 : Nat) (a6 : Nat) (a7 : Nat) (a8 : Nat) (a9 : Nat) (a10 : Nat) (p0 : Int32) (q_size : Int32) (a_wares : Int32) (a_shelves : Int32) (a_nests : Int32) (a_lids : Int32) (a_tops : Int32) (q_ware : Nat → Int32) (a_weight : Nat → Int32) (h_q_size : 0 ≤ (q_size).toInt ∧ (q_size).toInt ≤ 12) (h_a_wares : 0 ≤ (a_wares).toInt ∧ (a_wares).toInt ≤ 12) (h_a_shelves : 0 ≤ (a_shelves).toInt ∧ (a_shelves).toInt ≤ 4) (h_a_nests : 0 ≤ (a_nests).toInt ∧ (a_nests).toInt ≤ 4) (h_p0 : 0 ≤ (p0).toInt ∧ (p0).toInt ≤ 13) (h_q_ware : Iv 12 (0) (11) q_ware) : KK l D (TY cyC cyI cyJ cyZ cyO) yX4_weightFrom cX4_weightFrom 5 (some .int) ({ frames := 0, cells := 0, slots := 0, locals := 0 } : Room) 0 0 [.ref q0, .ref a0, .int p0] [(q0, .inr (4, [.ref q1, .int q_size])), (q1, .inl (cyI, 12, .inl q_ware)), (a0, .inr (9, [.int a_wares, .int a_shelves, .int a_nests, .ref a1, .ref a2, .ref a3, .ref a4, .ref a5, .ref a6, .int a_lids, .int a_tops, .ref a7, .ref a8, .ref a9, .ref a10])), (a3, .inl (cyI, 12, .inl a_weight))] (fun u => some (.int (u.2.1 0))) (fun u => ((u.2.1 0) = wtF a_weight q_ware (p0).toInt.toNat (q_size).toInt.toNat)) (fun u => [(q0, .inr (4, [.ref q1, .int q_size])), (q1, .inl (cyI, 12, .inl q_ware)), (a0, .inr (9, [.int a_wares, .int a_shelves, .int a_nests, .ref a1, .ref a2, .ref a3, .ref a4, .ref a5, .ref a6, .int a_lids, .int a_tops, .ref a7, .ref a8, .ref a9, .ref a10])), (a3, .inl (cyI, 12, .inl a_weight))]) := by
  refine KK.of (lv0 := [(0, .ref q0), (1, .ref a0), (2, .int p0)]) (by decide) rfl (Nat.le_of_ble_eq_true rfl) ?_
  intro p e s m args below meth c A C hr hk hin
  refine j_iconst (pc := 0) (v := 0) C dX4_weightFrom_0 (by decide) ?_
  refine j_istore_n (pc := 1) (lv' := [(3, .int 0), (0, .ref q0), (1, .ref a0), (2, .int p0)]) C dX4_weightFrom_1 rfl (by decide) rfl ?_
  refine j_iload_n (pc := 2) C dX4_weightFrom_2 rfl 3 rfl ?_
  refine j_istore (pc := 3) (lv' := [(4, .int p0), (3, .int 0), (0, .ref q0), (1, .ref a0), (2, .int p0)]) C dX4_weightFrom_3 (by decide) rfl ?_
  have loop_1 : ∀ (k_1 : Nat) (x1_4 : Int32) (x1_3 : Int32), (0 ≤ (x1_4).toInt ∧ (x1_4).toInt ≤ 13) → ((p0).toInt ≤ x1_4.toInt ∧ (x1_4.toInt ≤ (q_size).toInt ∨ x1_4.toInt = (p0).toInt)) → (x1_3 = wtF a_weight q_ware (p0).toInt.toNat (x1_4.toInt).toNat) → (13 - x1_4.toInt).toNat < k_1 → J p l e ({ frames := 0, cells := 0, slots := 0, locals := 0 } : Room) s m args below meth c D A 5 0 0 (QX below D (TY cyC cyI cyJ cyZ cyO) A (fun u => some (.int (u.2.1 0))) (fun u => ((u.2.1 0) = wtF a_weight q_ware (p0).toInt.toNat (q_size).toInt.toNat)) (fun u => [(q0, .inr (4, [.ref q1, .int q_size])), (q1, .inl (cyI, 12, .inl q_ware)), (a0, .inr (9, [.int a_wares, .int a_shelves, .int a_nests, .ref a1, .ref a2, .ref a3, .ref a4, .ref a5, .ref a6, .int a_lids, .int a_tops, .ref a7, .ref a8, .ref a9, .ref a10])), (a3, .inl (cyI, 12, .inl a_weight))]) args s 0 0) [(q0, .inr (4, [.ref q1, .int q_size])), (q1, .inl (cyI, 12, .inl q_ware)), (a0, .inr (9, [.int a_wares, .int a_shelves, .int a_nests, .ref a1, .ref a2, .ref a3, .ref a4, .ref a5, .ref a6, .int a_lids, .int a_tops, .ref a7, .ref a8, .ref a9, .ref a10])), (a3, .inl (cyI, 12, .inl a_weight))] 5 [(4, .int x1_4), (3, .int x1_3), (0, .ref q0), (1, .ref a0), (2, .int p0)] [] := by
    intro k_1
    induction k_1 with
    | zero =>
      intro x1_4 x1_3 hi_1_0 hr_1 hq_1_0 hm_1
      exact absurd hm_1 (Nat.not_lt_zero _)
    | succ k_1 ih_1 =>
      intro x1_4 x1_3 hi_1_0 hr_1 hq_1_0 hm_1
      refine j_iload (pc := 5) C dX4_weightFrom_5 0 rfl ?_
      refine j_aload_n (pc := 7) C dX4_weightFrom_7 rfl 2 rfl ?_
      refine j_get (pc := 8) (ci := 4) (v := .int q_size) C inw_4 0 rfl rfl 1 (by decide) wd_29 rfl rfl dX4_weightFrom_8 ?_
      refine j_icmp_ge (pc := 11) (tgt := 35) C dX4_weightFrom_11 (by decide) (fun c_2 => ?_) (fun c_2 => ?_)
      · skip
        rw [i_le] at c_2
        refine j_iload_n (pc := 35) C dX4_weightFrom_35 rfl 1 rfl ?_
        exact j_iret (pc := 36) C hr hk (fun i => [].getD i 0, fun i => [x1_3].getD i 0, fun i => [].getD i (fun _ => 0), fun i => [].getD i (fun _ => 0)) rfl (show (x1_3 = wtF a_weight q_ware (p0).toInt.toNat (q_size).toInt.toNat) from ((by rcases (by omega : (x1_4).toInt = (q_size).toInt ∨ (x1_4).toInt = (p0).toInt ∧ (q_size).toInt ≤ (p0).toInt) with z | z; (rw [show (q_size).toInt.toNat = (x1_4).toInt.toNat from (by omega)]; exact hq_1_0); (rw [hq_1_0, show (x1_4).toInt.toNat = (p0).toInt.toNat from (by omega), wtF_0 _ _ (Nat.le_refl _), wtF_0 _ _ (by omega)])))) [0, 1, 2, 3] (by decide) rfl (by decide) (by decide) dX4_weightFrom_36
      · skip
        rw [i_le] at c_2
        refine j_iload_n (pc := 14) C dX4_weightFrom_14 rfl 1 rfl ?_
        refine j_aload_n (pc := 15) C dX4_weightFrom_15 rfl 3 rfl ?_
        refine j_get (pc := 16) (ci := 9) (v := .ref a3) C inw_9 2 rfl rfl 5 (by decide) wd_30 rfl rfl dX4_weightFrom_16 ?_
        refine j_aload_n (pc := 19) C dX4_weightFrom_19 rfl 2 rfl ?_
        refine j_get (pc := 20) (ci := 4) (v := .ref q1) C inw_4 0 rfl rfl 0 (by decide) wd_31 rfl rfl dX4_weightFrom_20 ?_
        refine j_iload (pc := 23) C dX4_weightFrom_23 0 rfl ?_
        obtain ⟨v_3, ev_3⟩ : ∃ z, q_ware (x1_4).toInt.toNat = z := ⟨_, rfl⟩
        have env_3 : (q_ware (x1_4).toInt.toNat).toInt = v_3.toInt := by rw [ev_3]
        have hv_3 := h_q_ware (x1_4).toInt.toNat (i_lt_n hi_1_0.1 (by omega)); rw [ev_3] at hv_3
        refine j_iald (pc := 25) (v := v_3) (k := (x1_4).toInt.toNat) C 1 1 rfl rfl (i_nn hi_1_0.1) rfl (i_lt_n hi_1_0.1 (by omega)) ev_3 dX4_weightFrom_25 ?_
        obtain ⟨v_4, ev_4⟩ : ∃ z, a_weight (v_3).toInt.toNat = z := ⟨_, rfl⟩
        have env_4 : (a_weight (v_3).toInt.toNat).toInt = v_4.toInt := by rw [ev_4]
        refine j_iald (pc := 26) (v := v_4) (k := (v_3).toInt.toNat) C 3 1 rfl rfl (i_nn hv_3.1) rfl (i_lt_n hv_3.1 (Int.lt_of_le_of_lt hv_3.2 (by decide))) ev_4 dX4_weightFrom_26 ?_
        obtain ⟨v_5, ev_5⟩ : ∃ z : Int32, x1_3 + v_4 = z := ⟨_, rfl⟩
        refine j_iadd (pc := 27) (v := v_5) C dX4_weightFrom_27 ev_5 ?_
        refine j_istore_n (pc := 28) (lv' := [(3, .int v_5), (4, .int x1_4), (0, .ref q0), (1, .ref a0), (2, .int p0)]) C dX4_weightFrom_28 rfl (by decide) rfl ?_
        obtain ⟨v_6, ev_6⟩ : ∃ z : Int32, x1_4 + 1 = z := ⟨_, rfl⟩
        have el_1 : (1 : Int32).toInt = 1 := rfl
        have hv_6 : v_6.toInt = x1_4.toInt + (1 : Int32).toInt := by rw [← ev_6]; exact fb_addI (by omega) (by omega)
        refine j_iinc (pc := 29) (v := v_6) (lv' := [(4, .int v_6), (3, .int v_5), (0, .ref q0), (1, .ref a0), (2, .int p0)]) C dX4_weightFrom_29 1 rfl ev_6 (by decide) rfl ?_
        refine j_goto (pc := 32) (tgt := 5) C dX4_weightFrom_32 (by decide) ?_
        exact j_lv [0, 1, 2, 3, 4] rfl (ih_1 v_6 v_5 (by omega) (by omega) (by rw [show (v_6.toInt).toNat = (x1_4).toInt.toNat + 1 from (by omega), wtF_top _ _ _ (by omega), ← hq_1_0, ev_3, ev_4]; exact ev_5.symm) (by omega))
  have el_0 : (0 : Int32).toInt = 0 := rfl
  exact j_lv [0, 1, 2, 3, 4] rfl (loop_1 4096 p0 0 h_p0 (by omega) (wtF_0 _ _ (Nat.le_refl _)).symm (by omega))
set_option maxHeartbeats 4000000 in
set_option maxRecDepth 100000 in
theorem c_X4_foot (l : Launch) (D : DG) (cyC cyI cyJ cyZ cyO : ClassId) (q0 : Nat) (q1 : Nat) (a0 : Nat) (a1 : Nat) (a2 : Nat) (a3 : Nat) (a4 : Nat) (a5 : Nat) (a6 : Nat) (a7 : Nat) (a8 : Nat) (a9 : Nat) (a10 : Nat) (p0 : Int32) (q_size : Int32) (a_wares : Int32) (a_shelves : Int32) (a_nests : Int32) (a_lids : Int32) (a_tops : Int32) (q_ware : Nat → Int32) (a_wide : Nat → Int32) (a_deep : Nat → Int32) (h_q_size : 0 ≤ (q_size).toInt ∧ (q_size).toInt ≤ 12) (h_a_wares : 0 ≤ (a_wares).toInt ∧ (a_wares).toInt ≤ 12) (h_a_shelves : 0 ≤ (a_shelves).toInt ∧ (a_shelves).toInt ≤ 4) (h_a_nests : 0 ≤ (a_nests).toInt ∧ (a_nests).toInt ≤ 4) (h_p0 : 0 ≤ (p0).toInt ∧ (p0).toInt ≤ 11) (h_q_ware : Iv 12 (0) (11) q_ware) : KK l D (TY cyC cyI cyJ cyZ cyO) yX4_foot cX4_foot 5 (some .int) ({ frames := 1, cells := 0, slots := 0, locals := 23 } : Room) 0 0 [.ref q0, .ref a0, .int p0] [(q0, .inr (4, [.ref q1, .int q_size])), (q1, .inl (cyI, 12, .inl q_ware)), (a0, .inr (9, [.int a_wares, .int a_shelves, .int a_nests, .ref a1, .ref a2, .ref a3, .ref a4, .ref a5, .ref a6, .int a_lids, .int a_tops, .ref a7, .ref a8, .ref a9, .ref a10])), (a1, .inl (cyI, 12, .inl a_wide)), (a2, .inl (cyI, 12, .inl a_deep))] (fun u => some (.int (u.2.1 0))) (fun u => (IM ((p0).toInt < (q_size).toInt) ((u.2.1 0) = ftF (rsC a_wide a_deep a_lids) q_ware (p0).toInt.toNat))) (fun u => [(q0, .inr (4, [.ref q1, .int q_size])), (q1, .inl (cyI, 12, .inl q_ware)), (a0, .inr (9, [.int a_wares, .int a_shelves, .int a_nests, .ref a1, .ref a2, .ref a3, .ref a4, .ref a5, .ref a6, .int a_lids, .int a_tops, .ref a7, .ref a8, .ref a9, .ref a10])), (a1, .inl (cyI, 12, .inl a_wide)), (a2, .inl (cyI, 12, .inl a_deep))]) := by
  refine KK.of (lv0 := [(0, .ref q0), (1, .ref a0), (2, .int p0)]) (by decide) rfl (Nat.le_of_ble_eq_true rfl) ?_
  intro p e s m args below meth c A C hr hk hin
  refine j_iconst (pc := 0) (v := 0) C dX4_foot_0 (by decide) ?_
  refine j_istore_n (pc := 1) (lv' := [(3, .int 0), (0, .ref q0), (1, .ref a0), (2, .int p0)]) C dX4_foot_1 rfl (by decide) rfl ?_
  refine j_iconst (pc := 2) (v := 1) C dX4_foot_2 (by decide) ?_
  refine j_istore (pc := 3) (lv' := [(4, .int 1), (3, .int 0), (0, .ref q0), (1, .ref a0), (2, .int p0)]) C dX4_foot_3 (by decide) rfl ?_
  have loop_1 : ∀ (k_1 : Nat) (x1_4 : Int32) (x1_3 : Int32), (1 ≤ (x1_4).toInt ∧ (x1_4).toInt ≤ 12) → (x1_4.toInt ≤ (p0).toInt + 1) → (x1_3 = ftF (rsC a_wide a_deep a_lids) q_ware (x1_4.toInt - 1).toNat) → (12 - x1_4.toInt).toNat < k_1 → J p l e ({ frames := 1, cells := 0, slots := 0, locals := 23 } : Room) s m args below meth c D A 5 0 0 (QX below D (TY cyC cyI cyJ cyZ cyO) A (fun u => some (.int (u.2.1 0))) (fun u => (IM ((p0).toInt < (q_size).toInt) ((u.2.1 0) = ftF (rsC a_wide a_deep a_lids) q_ware (p0).toInt.toNat))) (fun u => [(q0, .inr (4, [.ref q1, .int q_size])), (q1, .inl (cyI, 12, .inl q_ware)), (a0, .inr (9, [.int a_wares, .int a_shelves, .int a_nests, .ref a1, .ref a2, .ref a3, .ref a4, .ref a5, .ref a6, .int a_lids, .int a_tops, .ref a7, .ref a8, .ref a9, .ref a10])), (a1, .inl (cyI, 12, .inl a_wide)), (a2, .inl (cyI, 12, .inl a_deep))]) args s 0 0) [(q0, .inr (4, [.ref q1, .int q_size])), (q1, .inl (cyI, 12, .inl q_ware)), (a0, .inr (9, [.int a_wares, .int a_shelves, .int a_nests, .ref a1, .ref a2, .ref a3, .ref a4, .ref a5, .ref a6, .int a_lids, .int a_tops, .ref a7, .ref a8, .ref a9, .ref a10])), (a1, .inl (cyI, 12, .inl a_wide)), (a2, .inl (cyI, 12, .inl a_deep))] 5 [(4, .int x1_4), (3, .int x1_3), (0, .ref q0), (1, .ref a0), (2, .int p0)] [] := by
    intro k_1
    induction k_1 with
    | zero =>
      intro x1_4 x1_3 hi_1_0 hr_1 hq_1_0 hm_1
      exact absurd hm_1 (Nat.not_lt_zero _)
    | succ k_1 ih_1 =>
      intro x1_4 x1_3 hi_1_0 hr_1 hq_1_0 hm_1
      refine j_iload (pc := 5) C dX4_foot_5 0 rfl ?_
      refine j_iload_n (pc := 7) C dX4_foot_7 rfl 4 rfl ?_
      refine j_icmp_gt (pc := 8) (tgt := 49) C dX4_foot_8 (by decide) (fun c_2 => ?_) (fun c_2 => ?_)
      · skip
        rw [i_lt] at c_2
        refine j_iload_n (pc := 49) C dX4_foot_49 rfl 1 rfl ?_
        exact j_iret (pc := 50) C hr hk (fun i => [].getD i 0, fun i => [x1_3].getD i 0, fun i => [].getD i (fun _ => 0), fun i => [].getD i (fun _ => 0)) rfl (show (IM ((p0).toInt < (q_size).toInt) (x1_3 = ftF (rsC a_wide a_deep a_lids) q_ware (p0).toInt.toNat)) from ((fun z9 => by rw [show (p0).toInt.toNat = ((x1_4).toInt - 1).toNat from (by omega)]; exact hq_1_0))) [0, 1, 2, 3, 4] (by decide) rfl (by decide) (by decide) dX4_foot_50
      · skip
        rw [i_lt] at c_2
        refine j_iload (pc := 11) C dX4_foot_11 0 rfl ?_
        refine j_aload_n (pc := 13) C dX4_foot_13 rfl 2 rfl ?_
        refine j_get (pc := 14) (ci := 4) (v := .int q_size) C inw_4 0 rfl rfl 1 (by decide) wd_29 rfl rfl dX4_foot_14 ?_
        refine j_icmp_ge (pc := 17) (tgt := 49) C dX4_foot_17 (by decide) (fun c_3 => ?_) (fun c_3 => ?_)
        · skip
          rw [i_le] at c_3
          refine j_iload_n (pc := 49) C dX4_foot_49 rfl 1 rfl ?_
          exact j_iret (pc := 50) C hr hk (fun i => [].getD i 0, fun i => [x1_3].getD i 0, fun i => [].getD i (fun _ => 0), fun i => [].getD i (fun _ => 0)) rfl (show (IM ((p0).toInt < (q_size).toInt) (x1_3 = ftF (rsC a_wide a_deep a_lids) q_ware (p0).toInt.toNat)) from ((fun z9 => by rw [show (p0).toInt.toNat = ((x1_4).toInt - 1).toNat from (by omega)]; exact hq_1_0))) [0, 1, 2, 3, 4] (by decide) rfl (by decide) (by decide) dX4_foot_50
        · skip
          rw [i_le] at c_3
          refine j_iload_n (pc := 20) C dX4_foot_20 rfl 1 rfl ?_
          refine j_aload_n (pc := 21) C dX4_foot_21 rfl 3 rfl ?_
          refine j_aload_n (pc := 22) C dX4_foot_22 rfl 2 rfl ?_
          refine j_get (pc := 23) (ci := 4) (v := .ref q1) C inw_4 0 rfl rfl 0 (by decide) wd_31 rfl rfl dX4_foot_23 ?_
          refine j_iload (pc := 26) C dX4_foot_26 0 rfl ?_
          obtain ⟨v_4, ev_4⟩ : ∃ z, q_ware (x1_4).toInt.toNat = z := ⟨_, rfl⟩
          have env_4 : (q_ware (x1_4).toInt.toNat).toInt = v_4.toInt := by rw [ev_4]
          have hv_4 := h_q_ware (x1_4).toInt.toNat (i_lt_n (Int.le_trans (by decide) hi_1_0.1) (by omega)); rw [ev_4] at hv_4
          refine j_iald (pc := 28) (v := v_4) (k := (x1_4).toInt.toNat) C 1 1 rfl rfl (i_nn (Int.le_trans (by decide) hi_1_0.1)) rfl (i_lt_n (Int.le_trans (by decide) hi_1_0.1) (by omega)) ev_4 dX4_foot_28 ?_
          refine j_aload_n (pc := 29) C dX4_foot_29 rfl 2 rfl ?_
          refine j_get (pc := 30) (ci := 4) (v := .ref q1) C inw_4 0 rfl rfl 0 (by decide) wd_31 rfl rfl dX4_foot_30 ?_
          refine j_iload (pc := 33) C dX4_foot_33 0 rfl ?_
          refine j_iconst (pc := 35) (v := 1) C dX4_foot_35 (by decide) ?_
          obtain ⟨v_5, ev_5⟩ : ∃ z : Int32, x1_4 - 1 = z := ⟨_, rfl⟩
          have el_1 : (1 : Int32).toInt = 1 := rfl
          have hv_5 : v_5.toInt = x1_4.toInt - (1 : Int32).toInt := by rw [← ev_5]; exact fb_subI (by omega) (by omega)
          refine j_isub (pc := 36) (v := v_5) C dX4_foot_36 ev_5 ?_
          obtain ⟨v_6, ev_6⟩ : ∃ z, q_ware (v_5).toInt.toNat = z := ⟨_, rfl⟩
          have env_6 : (q_ware (v_5).toInt.toNat).toInt = v_6.toInt := by rw [ev_6]
          have hv_6 := h_q_ware (v_5).toInt.toNat (i_lt_n (by omega) (by omega)); rw [ev_6] at hv_6
          refine j_iald (pc := 37) (v := v_6) (k := (v_5).toInt.toNat) C 1 1 rfl rfl (i_nn (by omega)) rfl (i_lt_n (by omega) (by omega)) ev_6 dX4_foot_37 ?_
          refine j_callV (pc := 38) (As := [.int v_4, .int v_6]) (rest := [.int x1_3]) (wr := [(q0, .inr (4, [.ref q1, .int q_size])), (q1, .inl (cyI, 12, .inl q_ware))]) C (c_X9_rise l D cyC cyI cyJ cyZ cyO a0 a1 a2 a3 a4 a5 a6 a7 a8 a9 a10 v_4 v_6 a_wares a_shelves a_nests a_lids a_tops a_wide a_deep h_a_wares h_a_shelves h_a_nests hv_4 hv_6) wd_32 wd_33 wd_34 wd_35 wd_36 ⟨by decide, by decide, rfl⟩ rfl ⟨rfl, rfl, by decide, by decide⟩ ⟨by decide, by decide⟩ [2, 3, 4] [0, 1] rfl rfl ⟨by decide, by decide, by decide⟩ 2 rfl rfl rfl (Nat.le_of_ble_eq_true rfl) dX4_foot_38 (fun u_7 hw_8 => ?_)
          refine j_eq (ws2 := [(q0, .inr (4, [.ref q1, .int q_size])), (q1, .inl (cyI, 12, .inl q_ware)), (a0, .inr (9, [.int a_wares, .int a_shelves, .int a_nests, .ref a1, .ref a2, .ref a3, .ref a4, .ref a5, .ref a6, .int a_lids, .int a_tops, .ref a7, .ref a8, .ref a9, .ref a10])), (a1, .inl (cyI, 12, .inl a_wide)), (a2, .inl (cyI, 12, .inl a_deep))]) (pc2 := 41) (lv2 := [(4, .int x1_4), (3, .int x1_3), (0, .ref q0), (1, .ref a0), (2, .int p0)]) (st2 := [.int (u_7.2.1 0), .int x1_3]) rfl rfl rfl rfl ?_
          have hw_8_0 : (u_7.2.1 0) = (rsC a_wide a_deep a_lids) (v_4).toInt.toNat (v_6).toInt.toNat := hw_8
          obtain ⟨v_9, ev_9⟩ : ∃ z : Int32, x1_3 + (u_7.2.1 0) = z := ⟨_, rfl⟩
          refine j_iadd (pc := 41) (v := v_9) C dX4_foot_41 ev_9 ?_
          refine j_istore_n (pc := 42) (lv' := [(3, .int v_9), (4, .int x1_4), (0, .ref q0), (1, .ref a0), (2, .int p0)]) C dX4_foot_42 rfl (by decide) rfl ?_
          obtain ⟨v_10, ev_10⟩ : ∃ z : Int32, x1_4 + 1 = z := ⟨_, rfl⟩
          have el_1 : (1 : Int32).toInt = 1 := rfl
          have hv_10 : v_10.toInt = x1_4.toInt + (1 : Int32).toInt := by rw [← ev_10]; exact fb_addI (by omega) (by omega)
          refine j_iinc (pc := 43) (v := v_10) (lv' := [(4, .int v_10), (3, .int v_9), (0, .ref q0), (1, .ref a0), (2, .int p0)]) C dX4_foot_43 1 rfl ev_10 (by decide) rfl ?_
          refine j_goto (pc := 46) (tgt := 5) C dX4_foot_46 (by decide) ?_
          exact j_lv [0, 1, 2, 3, 4] rfl (ih_1 v_10 v_9 (by omega) (by omega) (by rw [show (v_10.toInt - 1).toNat = ((x1_4).toInt - 1).toNat + 1 from (by omega), ftF_s, ← hq_1_0, show ((x1_4).toInt - 1).toNat + 1 = (x1_4).toInt.toNat from (by omega), show ((x1_4).toInt - 1).toNat = (v_5).toInt.toNat from (by omega), ev_4, ev_6, ← hw_8_0]; exact ev_9.symm) (by omega))
  have el_1 : (1 : Int32).toInt = 1 := rfl
  have el_0 : (0 : Int32).toInt = 0 := rfl
  exact j_lv [0, 1, 2, 3, 4] rfl (loop_1 4096 1 0 (by decide) (by omega) rfl (by omega))
set_option maxHeartbeats 4000000 in
set_option maxRecDepth 100000 in
theorem c_X4_highestRim (l : Launch) (D : DG) (cyC cyI cyJ cyZ cyO : ClassId) (q0 : Nat) (q1 : Nat) (a0 : Nat) (a1 : Nat) (a2 : Nat) (a3 : Nat) (a4 : Nat) (a5 : Nat) (a6 : Nat) (a7 : Nat) (a8 : Nat) (a9 : Nat) (a10 : Nat) (q_size : Int32) (a_wares : Int32) (a_shelves : Int32) (a_nests : Int32) (a_lids : Int32) (a_tops : Int32) (q_ware : Nat → Int32) (a_wide : Nat → Int32) (a_deep : Nat → Int32) (h_q_size : 0 ≤ (q_size).toInt ∧ (q_size).toInt ≤ 12) (h_a_wares : 0 ≤ (a_wares).toInt ∧ (a_wares).toInt ≤ 12) (h_a_shelves : 0 ≤ (a_shelves).toInt ∧ (a_shelves).toInt ≤ 4) (h_a_nests : 0 ≤ (a_nests).toInt ∧ (a_nests).toInt ≤ 4) (h_q_ware : Iv 12 (0) (11) q_ware) : KK l D (TY cyC cyI cyJ cyZ cyO) yX4_highestRim cX4_highestRim 5 (some .int) ({ frames := 1, cells := 0, slots := 0, locals := 23 } : Room) 0 0 [.ref q0, .ref a0] [(q0, .inr (4, [.ref q1, .int q_size])), (q1, .inl (cyI, 12, .inl q_ware)), (a0, .inr (9, [.int a_wares, .int a_shelves, .int a_nests, .ref a1, .ref a2, .ref a3, .ref a4, .ref a5, .ref a6, .int a_lids, .int a_tops, .ref a7, .ref a8, .ref a9, .ref a10])), (a1, .inl (cyI, 12, .inl a_wide)), (a2, .inl (cyI, 12, .inl a_deep))] (fun u => some (.int (u.2.1 0))) (fun u => ((u.2.1 0) = hiF (rsC a_wide a_deep a_lids) a_deep q_ware (q_size).toInt.toNat)) (fun u => [(q0, .inr (4, [.ref q1, .int q_size])), (q1, .inl (cyI, 12, .inl q_ware)), (a0, .inr (9, [.int a_wares, .int a_shelves, .int a_nests, .ref a1, .ref a2, .ref a3, .ref a4, .ref a5, .ref a6, .int a_lids, .int a_tops, .ref a7, .ref a8, .ref a9, .ref a10])), (a1, .inl (cyI, 12, .inl a_wide)), (a2, .inl (cyI, 12, .inl a_deep))]) := by
  refine KK.of (lv0 := [(0, .ref q0), (1, .ref a0)]) (by decide) rfl (Nat.le_of_ble_eq_true rfl) ?_
  intro p e s m args below meth c A C hr hk hin
  refine j_iconst (pc := 0) (v := 0) C dX4_highestRim_0 (by decide) ?_
  refine j_istore_n (pc := 1) (lv' := [(2, .int 0), (0, .ref q0), (1, .ref a0)]) C dX4_highestRim_1 rfl (by decide) rfl ?_
  refine j_iconst (pc := 2) (v := 0) C dX4_highestRim_2 (by decide) ?_
  refine j_istore_n (pc := 3) (lv' := [(3, .int 0), (2, .int 0), (0, .ref q0), (1, .ref a0)]) C dX4_highestRim_3 rfl (by decide) rfl ?_
  refine j_iconst (pc := 4) (v := 0) C dX4_highestRim_4 (by decide) ?_
  refine j_istore (pc := 5) (lv' := [(4, .int 0), (3, .int 0), (2, .int 0), (0, .ref q0), (1, .ref a0)]) C dX4_highestRim_5 (by decide) rfl ?_
  have loop_1 : ∀ (k_1 : Nat) (x1_4 : Int32) (x1_3 : Int32) (x1_2 : Int32), (0 ≤ (x1_4).toInt ∧ (x1_4).toInt ≤ 12) → (x1_4.toInt ≤ (q_size).toInt) → (x1_3 = ftF (rsC a_wide a_deep a_lids) q_ware (x1_4.toInt - 1).toNat) → (x1_2 = hiF (rsC a_wide a_deep a_lids) a_deep q_ware (x1_4.toInt).toNat) → (12 - x1_4.toInt).toNat < k_1 → J p l e ({ frames := 1, cells := 0, slots := 0, locals := 23 } : Room) s m args below meth c D A 5 0 0 (QX below D (TY cyC cyI cyJ cyZ cyO) A (fun u => some (.int (u.2.1 0))) (fun u => ((u.2.1 0) = hiF (rsC a_wide a_deep a_lids) a_deep q_ware (q_size).toInt.toNat)) (fun u => [(q0, .inr (4, [.ref q1, .int q_size])), (q1, .inl (cyI, 12, .inl q_ware)), (a0, .inr (9, [.int a_wares, .int a_shelves, .int a_nests, .ref a1, .ref a2, .ref a3, .ref a4, .ref a5, .ref a6, .int a_lids, .int a_tops, .ref a7, .ref a8, .ref a9, .ref a10])), (a1, .inl (cyI, 12, .inl a_wide)), (a2, .inl (cyI, 12, .inl a_deep))]) args s 0 0) [(q0, .inr (4, [.ref q1, .int q_size])), (q1, .inl (cyI, 12, .inl q_ware)), (a0, .inr (9, [.int a_wares, .int a_shelves, .int a_nests, .ref a1, .ref a2, .ref a3, .ref a4, .ref a5, .ref a6, .int a_lids, .int a_tops, .ref a7, .ref a8, .ref a9, .ref a10])), (a1, .inl (cyI, 12, .inl a_wide)), (a2, .inl (cyI, 12, .inl a_deep))] 7 [(4, .int x1_4), (3, .int x1_3), (2, .int x1_2), (0, .ref q0), (1, .ref a0)] [] := by
    intro k_1
    induction k_1 with
    | zero =>
      intro x1_4 x1_3 x1_2 hi_1_0 hr_1 hq_1_0 hq_1_1 hm_1
      exact absurd hm_1 (Nat.not_lt_zero _)
    | succ k_1 ih_1 =>
      intro x1_4 x1_3 x1_2 hi_1_0 hr_1 hq_1_0 hq_1_1 hm_1
      refine j_iload (pc := 7) C dX4_highestRim_7 0 rfl ?_
      refine j_aload_n (pc := 9) C dX4_highestRim_9 rfl 3 rfl ?_
      refine j_get (pc := 10) (ci := 4) (v := .int q_size) C inw_4 0 rfl rfl 1 (by decide) wd_29 rfl rfl dX4_highestRim_10 ?_
      refine j_icmp_ge (pc := 13) (tgt := 73) C dX4_highestRim_13 (by decide) (fun c_2 => ?_) (fun c_2 => ?_)
      · skip
        rw [i_le] at c_2
        refine j_iload_n (pc := 73) C dX4_highestRim_73 rfl 2 rfl ?_
        exact j_iret (pc := 74) C hr hk (fun i => [].getD i 0, fun i => [x1_2].getD i 0, fun i => [].getD i (fun _ => 0), fun i => [].getD i (fun _ => 0)) rfl (show (x1_2 = hiF (rsC a_wide a_deep a_lids) a_deep q_ware (q_size).toInt.toNat) from ((by rw [show (q_size).toInt.toNat = (x1_4).toInt.toNat from (by omega)]; exact hq_1_1))) [0, 1, 2, 3, 4] (by decide) rfl (by decide) (by decide) dX4_highestRim_74
      · skip
        rw [i_le] at c_2
        refine j_iload_n (pc := 16) C dX4_highestRim_16 rfl 1 rfl ?_
        refine j_iload (pc := 17) C dX4_highestRim_17 0 rfl ?_
        refine j_if_ne (pc := 19) (tgt := 26) C dX4_highestRim_19 (by decide) (fun c_3 => ?_) (fun c_3 => ?_)
        · skip
          have el_0 : (0 : Int32).toInt = 0 := rfl
          rw [i_eq] at c_3
          refine j_aload_n (pc := 26) C dX4_highestRim_26 rfl 4 rfl ?_
          refine j_aload_n (pc := 27) C dX4_highestRim_27 rfl 3 rfl ?_
          refine j_get (pc := 28) (ci := 4) (v := .ref q1) C inw_4 0 rfl rfl 0 (by decide) wd_31 rfl rfl dX4_highestRim_28 ?_
          refine j_iload (pc := 31) C dX4_highestRim_31 0 rfl ?_
          obtain ⟨v_4, ev_4⟩ : ∃ z, q_ware (x1_4).toInt.toNat = z := ⟨_, rfl⟩
          have env_4 : (q_ware (x1_4).toInt.toNat).toInt = v_4.toInt := by rw [ev_4]
          have hv_4 := h_q_ware (x1_4).toInt.toNat (i_lt_n hi_1_0.1 (by omega)); rw [ev_4] at hv_4
          refine j_iald (pc := 33) (v := v_4) (k := (x1_4).toInt.toNat) C 1 1 rfl rfl (i_nn hi_1_0.1) rfl (i_lt_n hi_1_0.1 (by omega)) ev_4 dX4_highestRim_33 ?_
          refine j_aload_n (pc := 34) C dX4_highestRim_34 rfl 3 rfl ?_
          refine j_get (pc := 35) (ci := 4) (v := .ref q1) C inw_4 0 rfl rfl 0 (by decide) wd_31 rfl rfl dX4_highestRim_35 ?_
          refine j_iload (pc := 38) C dX4_highestRim_38 0 rfl ?_
          refine j_iconst (pc := 40) (v := 1) C dX4_highestRim_40 (by decide) ?_
          obtain ⟨v_5, ev_5⟩ : ∃ z : Int32, x1_4 - 1 = z := ⟨_, rfl⟩
          have el_1 : (1 : Int32).toInt = 1 := rfl
          have hv_5 : v_5.toInt = x1_4.toInt - (1 : Int32).toInt := by rw [← ev_5]; exact fb_subI (by omega) (by omega)
          refine j_isub (pc := 41) (v := v_5) C dX4_highestRim_41 ev_5 ?_
          obtain ⟨v_6, ev_6⟩ : ∃ z, q_ware (v_5).toInt.toNat = z := ⟨_, rfl⟩
          have env_6 : (q_ware (v_5).toInt.toNat).toInt = v_6.toInt := by rw [ev_6]
          have hv_6 := h_q_ware (v_5).toInt.toNat (i_lt_n (by omega) (by omega)); rw [ev_6] at hv_6
          refine j_iald (pc := 42) (v := v_6) (k := (v_5).toInt.toNat) C 1 1 rfl rfl (i_nn (by omega)) rfl (i_lt_n (by omega) (by omega)) ev_6 dX4_highestRim_42 ?_
          refine j_callV (pc := 43) (As := [.int v_4, .int v_6]) (rest := [.int x1_3]) (wr := [(q0, .inr (4, [.ref q1, .int q_size])), (q1, .inl (cyI, 12, .inl q_ware))]) C (c_X9_rise l D cyC cyI cyJ cyZ cyO a0 a1 a2 a3 a4 a5 a6 a7 a8 a9 a10 v_4 v_6 a_wares a_shelves a_nests a_lids a_tops a_wide a_deep h_a_wares h_a_shelves h_a_nests hv_4 hv_6) wd_32 wd_33 wd_34 wd_35 wd_36 ⟨by decide, by decide, rfl⟩ rfl ⟨rfl, rfl, by decide, by decide⟩ ⟨by decide, by decide⟩ [2, 3, 4] [0, 1] rfl rfl ⟨by decide, by decide, by decide⟩ 2 rfl rfl rfl (Nat.le_of_ble_eq_true rfl) dX4_highestRim_43 (fun u_7 hw_8 => ?_)
          refine j_eq (ws2 := [(q0, .inr (4, [.ref q1, .int q_size])), (q1, .inl (cyI, 12, .inl q_ware)), (a0, .inr (9, [.int a_wares, .int a_shelves, .int a_nests, .ref a1, .ref a2, .ref a3, .ref a4, .ref a5, .ref a6, .int a_lids, .int a_tops, .ref a7, .ref a8, .ref a9, .ref a10])), (a1, .inl (cyI, 12, .inl a_wide)), (a2, .inl (cyI, 12, .inl a_deep))]) (pc2 := 46) (lv2 := [(4, .int x1_4), (3, .int x1_3), (2, .int x1_2), (0, .ref q0), (1, .ref a0)]) (st2 := [.int (u_7.2.1 0), .int x1_3]) rfl rfl rfl rfl ?_
          have hw_8_0 : (u_7.2.1 0) = (rsC a_wide a_deep a_lids) (v_4).toInt.toNat (v_6).toInt.toNat := hw_8
          obtain ⟨v_9, ev_9⟩ : ∃ z : Int32, x1_3 + (u_7.2.1 0) = z := ⟨_, rfl⟩
          refine j_iadd (pc := 46) (v := v_9) C dX4_highestRim_46 ev_9 ?_
          refine j_istore_n (pc := 47) (lv' := [(3, .int v_9), (4, .int x1_4), (2, .int x1_2), (0, .ref q0), (1, .ref a0)]) C dX4_highestRim_47 rfl (by decide) rfl ?_
          have hft9 : v_9 = ftF (rsC a_wide a_deep a_lids) q_ware (x1_4).toInt.toNat := by rw [show (x1_4).toInt.toNat = ((x1_4).toInt - 1).toNat + 1 from (by omega), ftF_s, ← hq_1_0, show ((x1_4).toInt - 1).toNat + 1 = (x1_4).toInt.toNat from (by omega), show ((x1_4).toInt - 1).toNat = (v_5).toInt.toNat from (by omega), ev_4, ev_6, ← hw_8_0]; exact ev_9.symm
          refine j_iload_n (pc := 48) C dX4_highestRim_48 rfl 2 rfl ?_
          refine j_iload_n (pc := 49) C dX4_highestRim_49 rfl 0 rfl ?_
          refine j_aload_n (pc := 50) C dX4_highestRim_50 rfl 4 rfl ?_
          refine j_get (pc := 51) (ci := 9) (v := .ref a2) C inw_9 2 rfl rfl 4 (by decide) wd_37 rfl rfl dX4_highestRim_51 ?_
          refine j_aload_n (pc := 54) C dX4_highestRim_54 rfl 3 rfl ?_
          refine j_get (pc := 55) (ci := 4) (v := .ref q1) C inw_4 0 rfl rfl 0 (by decide) wd_31 rfl rfl dX4_highestRim_55 ?_
          refine j_iload (pc := 58) C dX4_highestRim_58 1 rfl ?_
          refine j_iald (pc := 60) (v := v_4) (k := (x1_4).toInt.toNat) C 1 1 rfl rfl (i_nn hi_1_0.1) rfl (i_lt_n hi_1_0.1 (by omega)) ev_4 dX4_highestRim_60 ?_
          obtain ⟨v_10, ev_10⟩ : ∃ z, a_deep (v_4).toInt.toNat = z := ⟨_, rfl⟩
          have env_10 : (a_deep (v_4).toInt.toNat).toInt = v_10.toInt := by rw [ev_10]
          refine j_iald (pc := 61) (v := v_10) (k := (v_4).toInt.toNat) C 4 1 rfl rfl (i_nn hv_4.1) rfl (i_lt_n hv_4.1 (Int.lt_of_le_of_lt hv_4.2 (by decide))) ev_10 dX4_highestRim_61 ?_
          obtain ⟨v_11, ev_11⟩ : ∃ z : Int32, v_9 + v_10 = z := ⟨_, rfl⟩
          refine j_iadd (pc := 62) (v := v_11) C dX4_highestRim_62 ev_11 ?_
          obtain ⟨v_12, ev_12⟩ : ∃ z : Int32, (if (x1_2 : Int32) < v_11 then v_11 else x1_2) = z := ⟨_, rfl⟩
          refine j_mmax (pc := 63) (v := v_12) C wd_38 wd_5 wd_6 wd_7 (by decide) (Nat.le_of_ble_eq_true rfl) (by decide) (by decide) ev_12 dX4_highestRim_63 ?_
          refine j_istore_n (pc := 66) (lv' := [(2, .int v_12), (3, .int v_9), (4, .int x1_4), (0, .ref q0), (1, .ref a0)]) C dX4_highestRim_66 rfl (by decide) rfl ?_
          obtain ⟨v_13, ev_13⟩ : ∃ z : Int32, x1_4 + 1 = z := ⟨_, rfl⟩
          have el_1 : (1 : Int32).toInt = 1 := rfl
          have hv_13 : v_13.toInt = x1_4.toInt + (1 : Int32).toInt := by rw [← ev_13]; exact fb_addI (by omega) (by omega)
          refine j_iinc (pc := 67) (v := v_13) (lv' := [(4, .int v_13), (2, .int v_12), (3, .int v_9), (0, .ref q0), (1, .ref a0)]) C dX4_highestRim_67 2 rfl ev_13 (by decide) rfl ?_
          refine j_goto (pc := 70) (tgt := 7) C dX4_highestRim_70 (by decide) ?_
          exact j_lv [0, 2, 1, 3, 4] rfl (ih_1 v_13 v_9 v_12 (by omega) (by omega) (by rw [show (v_13.toInt - 1).toNat = (x1_4).toInt.toNat from (by omega)]; exact hft9) (by rw [show (v_13.toInt).toNat = (x1_4).toInt.toNat + 1 from (by omega), hiF_s, ← hq_1_1, ← hft9, ev_4, ev_10, ev_11]; exact ev_12.symm) (by omega))
        · skip
          have el_0 : (0 : Int32).toInt = 0 := rfl
          rw [i_eq] at c_3
          refine j_iconst (pc := 22) (v := 0) C dX4_highestRim_22 (by decide) ?_
          refine j_goto (pc := 23) (tgt := 46) C dX4_highestRim_23 (by decide) ?_
          obtain ⟨v_14, ev_14⟩ : ∃ z : Int32, x1_3 + 0 = z := ⟨_, rfl⟩
          have el_0 : (0 : Int32).toInt = 0 := rfl
          refine j_iadd (pc := 46) (v := v_14) C dX4_highestRim_46 ev_14 ?_
          refine j_istore_n (pc := 47) (lv' := [(3, .int v_14), (4, .int x1_4), (2, .int x1_2), (0, .ref q0), (1, .ref a0)]) C dX4_highestRim_47 rfl (by decide) rfl ?_
          have hft9 : v_14 = ftF (rsC a_wide a_deep a_lids) q_ware (x1_4).toInt.toNat := by rw [← ev_14, hq_1_0, show ((x1_4).toInt - 1).toNat = 0 from (by omega), show (x1_4).toInt.toNat = 0 from (by omega)]; rfl
          refine j_iload_n (pc := 48) C dX4_highestRim_48 rfl 2 rfl ?_
          refine j_iload_n (pc := 49) C dX4_highestRim_49 rfl 0 rfl ?_
          refine j_aload_n (pc := 50) C dX4_highestRim_50 rfl 4 rfl ?_
          refine j_get (pc := 51) (ci := 9) (v := .ref a2) C inw_9 2 rfl rfl 4 (by decide) wd_37 rfl rfl dX4_highestRim_51 ?_
          refine j_aload_n (pc := 54) C dX4_highestRim_54 rfl 3 rfl ?_
          refine j_get (pc := 55) (ci := 4) (v := .ref q1) C inw_4 0 rfl rfl 0 (by decide) wd_31 rfl rfl dX4_highestRim_55 ?_
          refine j_iload (pc := 58) C dX4_highestRim_58 1 rfl ?_
          obtain ⟨v_15, ev_15⟩ : ∃ z, q_ware (x1_4).toInt.toNat = z := ⟨_, rfl⟩
          have env_15 : (q_ware (x1_4).toInt.toNat).toInt = v_15.toInt := by rw [ev_15]
          have hv_15 := h_q_ware (x1_4).toInt.toNat (i_lt_n hi_1_0.1 (by omega)); rw [ev_15] at hv_15
          refine j_iald (pc := 60) (v := v_15) (k := (x1_4).toInt.toNat) C 1 1 rfl rfl (i_nn hi_1_0.1) rfl (i_lt_n hi_1_0.1 (by omega)) ev_15 dX4_highestRim_60 ?_
          obtain ⟨v_16, ev_16⟩ : ∃ z, a_deep (v_15).toInt.toNat = z := ⟨_, rfl⟩
          have env_16 : (a_deep (v_15).toInt.toNat).toInt = v_16.toInt := by rw [ev_16]
          refine j_iald (pc := 61) (v := v_16) (k := (v_15).toInt.toNat) C 4 1 rfl rfl (i_nn hv_15.1) rfl (i_lt_n hv_15.1 (Int.lt_of_le_of_lt hv_15.2 (by decide))) ev_16 dX4_highestRim_61 ?_
          obtain ⟨v_17, ev_17⟩ : ∃ z : Int32, v_14 + v_16 = z := ⟨_, rfl⟩
          refine j_iadd (pc := 62) (v := v_17) C dX4_highestRim_62 ev_17 ?_
          obtain ⟨v_18, ev_18⟩ : ∃ z : Int32, (if (x1_2 : Int32) < v_17 then v_17 else x1_2) = z := ⟨_, rfl⟩
          refine j_mmax (pc := 63) (v := v_18) C wd_38 wd_5 wd_6 wd_7 (by decide) (Nat.le_of_ble_eq_true rfl) (by decide) (by decide) ev_18 dX4_highestRim_63 ?_
          refine j_istore_n (pc := 66) (lv' := [(2, .int v_18), (3, .int v_14), (4, .int x1_4), (0, .ref q0), (1, .ref a0)]) C dX4_highestRim_66 rfl (by decide) rfl ?_
          obtain ⟨v_19, ev_19⟩ : ∃ z : Int32, x1_4 + 1 = z := ⟨_, rfl⟩
          have el_1 : (1 : Int32).toInt = 1 := rfl
          have hv_19 : v_19.toInt = x1_4.toInt + (1 : Int32).toInt := by rw [← ev_19]; exact fb_addI (by omega) (by omega)
          refine j_iinc (pc := 67) (v := v_19) (lv' := [(4, .int v_19), (2, .int v_18), (3, .int v_14), (0, .ref q0), (1, .ref a0)]) C dX4_highestRim_67 2 rfl ev_19 (by decide) rfl ?_
          refine j_goto (pc := 70) (tgt := 7) C dX4_highestRim_70 (by decide) ?_
          exact j_lv [0, 2, 1, 3, 4] rfl (ih_1 v_19 v_14 v_18 (by omega) (by omega) (by rw [show (v_19.toInt - 1).toNat = (x1_4).toInt.toNat from (by omega)]; exact hft9) (by rw [show (v_19.toInt).toNat = (x1_4).toInt.toNat + 1 from (by omega), hiF_s, ← hq_1_1, ← hft9, ev_15, ev_16, ev_17]; exact ev_18.symm) (by omega))
  have el_0 : (0 : Int32).toInt = 0 := rfl
  have el_0 : (0 : Int32).toInt = 0 := rfl
  have el_0 : (0 : Int32).toInt = 0 := rfl
  exact j_lv [0, 1, 2, 3, 4] rfl (loop_1 4096 0 0 0 (by decide) (by omega) rfl rfl (by omega))
set_option maxHeartbeats 4000000 in
set_option maxRecDepth 100000 in
theorem c_X4_price (l : Launch) (D : DG) (cyC cyI cyJ cyZ cyO : ClassId) (q0 : Nat) (q1 : Nat) (a0 : Nat) (a3 : Nat) (a1 : Nat) (a2 : Nat) (a4 : Nat) (a5 : Nat) (a6 : Nat) (a7 : Nat) (a8 : Nat) (a9 : Nat) (a10 : Nat) (p0 : Int32) (p1 : Int32) (q_size : Int32) (a_wares : Int32) (a_shelves : Int32) (a_nests : Int32) (a_lids : Int32) (a_tops : Int32) (q_ware : Nat → Int32) (a_weight : Nat → Int32) (h_q_size : 0 ≤ (q_size).toInt ∧ (q_size).toInt ≤ 12) (h_a_wares : 0 ≤ (a_wares).toInt ∧ (a_wares).toInt ≤ 12) (h_a_shelves : 0 ≤ (a_shelves).toInt ∧ (a_shelves).toInt ≤ 4) (h_a_nests : 0 ≤ (a_nests).toInt ∧ (a_nests).toInt ≤ 4) (h_p0 : 0 ≤ (p0).toInt ∧ (p0).toInt ≤ 11) (h_q_ware : Iv 12 (0) (11) q_ware) : KK l D (TY cyC cyI cyJ cyZ cyO) yX4_price cX4_price 5 (some .int) ({ frames := 1, cells := 0, slots := 0, locals := 24 } : Room) 0 0 [.ref q0, .ref a0, .int p0, .int p1] [(q0, .inr (4, [.ref q1, .int q_size])), (q1, .inl (cyI, 12, .inl q_ware)), (a0, .inr (9, [.int a_wares, .int a_shelves, .int a_nests, .ref a1, .ref a2, .ref a3, .ref a4, .ref a5, .ref a6, .int a_lids, .int a_tops, .ref a7, .ref a8, .ref a9, .ref a10])), (a3, .inl (cyI, 12, .inl a_weight))] (fun u => some (.int (u.2.1 0))) (fun u => ((u.2.1 0) = prC a_weight q_ware p0 q_size p1)) (fun u => [(q0, .inr (4, [.ref q1, .int q_size])), (q1, .inl (cyI, 12, .inl q_ware)), (a0, .inr (9, [.int a_wares, .int a_shelves, .int a_nests, .ref a1, .ref a2, .ref a3, .ref a4, .ref a5, .ref a6, .int a_lids, .int a_tops, .ref a7, .ref a8, .ref a9, .ref a10])), (a3, .inl (cyI, 12, .inl a_weight))]) := by
  refine KK.of (lv0 := [(0, .ref q0), (1, .ref a0), (2, .int p0), (3, .int p1)]) (by decide) rfl (Nat.le_of_ble_eq_true rfl) ?_
  intro p e s m args below meth c A C hr hk hin
  refine j_aload_n (pc := 0) C dX4_price_0 rfl 1 rfl ?_
  refine j_get (pc := 1) (ci := 9) (v := .ref a3) C inw_9 2 rfl rfl 5 (by decide) wd_30 rfl rfl dX4_price_1 ?_
  refine j_aload_n (pc := 4) C dX4_price_4 rfl 0 rfl ?_
  refine j_get (pc := 5) (ci := 4) (v := .ref q1) C inw_4 0 rfl rfl 0 (by decide) wd_31 rfl rfl dX4_price_5 ?_
  refine j_iload_n (pc := 8) C dX4_price_8 rfl 2 rfl ?_
  obtain ⟨v_1, ev_1⟩ : ∃ z, q_ware (p0).toInt.toNat = z := ⟨_, rfl⟩
  have env_1 : (q_ware (p0).toInt.toNat).toInt = v_1.toInt := by rw [ev_1]
  have hv_1 := h_q_ware (p0).toInt.toNat (i_lt_n h_p0.1 (Int.lt_of_le_of_lt h_p0.2 (by decide))); rw [ev_1] at hv_1
  refine j_iald (pc := 9) (v := v_1) (k := (p0).toInt.toNat) C 1 1 rfl rfl (i_nn h_p0.1) rfl (i_lt_n h_p0.1 (Int.lt_of_le_of_lt h_p0.2 (by decide))) ev_1 dX4_price_9 ?_
  obtain ⟨v_2, ev_2⟩ : ∃ z, a_weight (v_1).toInt.toNat = z := ⟨_, rfl⟩
  have env_2 : (a_weight (v_1).toInt.toNat).toInt = v_2.toInt := by rw [ev_2]
  refine j_iald (pc := 10) (v := v_2) (k := (v_1).toInt.toNat) C 3 1 rfl rfl (i_nn hv_1.1) rfl (i_lt_n hv_1.1 (Int.lt_of_le_of_lt hv_1.2 (by decide))) ev_2 dX4_price_10 ?_
  refine j_iload_n (pc := 11) C dX4_price_11 rfl 3 rfl ?_
  obtain ⟨v_3, ev_3⟩ : ∃ z : Int32, v_2 + p1 = z := ⟨_, rfl⟩
  refine j_iadd (pc := 12) (v := v_3) C dX4_price_12 ev_3 ?_
  refine j_istore (pc := 13) (lv' := [(4, .int v_3), (0, .ref q0), (1, .ref a0), (2, .int p0), (3, .int p1)]) C dX4_price_13 (by decide) rfl ?_
  refine j_iload (pc := 15) C dX4_price_15 0 rfl ?_
  refine j_iconst (pc := 17) (v := 2) C dX4_price_17 (by decide) ?_
  refine j_aload_n (pc := 18) C dX4_price_18 rfl 1 rfl ?_
  refine j_aload_n (pc := 19) C dX4_price_19 rfl 2 rfl ?_
  refine j_iload_n (pc := 20) C dX4_price_20 rfl 3 rfl ?_
  refine j_iconst (pc := 21) (v := 1) C dX4_price_21 (by decide) ?_
  obtain ⟨v_4, ev_4⟩ : ∃ z : Int32, p0 + 1 = z := ⟨_, rfl⟩
  have el_1 : (1 : Int32).toInt = 1 := rfl
  have hv_4 : v_4.toInt = p0.toInt + (1 : Int32).toInt := by rw [← ev_4]; exact fb_addI (by omega) (by omega)
  refine j_iadd (pc := 22) (v := v_4) C dX4_price_22 ev_4 ?_
  refine j_callV (pc := 23) (As := [.ref a0, .int v_4]) (rest := [.int 2, .int v_3]) (wr := []) C (c_X4_weightFrom l D cyC cyI cyJ cyZ cyO q0 q1 a0 a3 a1 a2 a4 a5 a6 a7 a8 a9 a10 v_4 q_size a_wares a_shelves a_nests a_lids a_tops q_ware a_weight h_q_size h_a_wares h_a_shelves h_a_nests (by omega) h_q_ware) wd_39 wd_40 wd_41 wd_42 wd_43 ⟨by decide, by decide, rfl⟩ rfl ⟨rfl, rfl, by decide, by decide⟩ ⟨by decide, by decide⟩ [0, 1, 2, 3] [] rfl rfl ⟨by decide, by decide, by decide⟩ 0 rfl rfl rfl (Nat.le_of_ble_eq_true rfl) dX4_price_23 (fun u_5 hw_6 => ?_)
  refine j_eq (ws2 := [(q0, .inr (4, [.ref q1, .int q_size])), (q1, .inl (cyI, 12, .inl q_ware)), (a0, .inr (9, [.int a_wares, .int a_shelves, .int a_nests, .ref a1, .ref a2, .ref a3, .ref a4, .ref a5, .ref a6, .int a_lids, .int a_tops, .ref a7, .ref a8, .ref a9, .ref a10])), (a3, .inl (cyI, 12, .inl a_weight))]) (pc2 := 26) (lv2 := [(4, .int v_3), (0, .ref q0), (1, .ref a0), (2, .int p0), (3, .int p1)]) (st2 := [.int (u_5.2.1 0), .int 2, .int v_3]) rfl rfl rfl rfl ?_
  have hw_6_0 : (u_5.2.1 0) = wtF a_weight q_ware (v_4).toInt.toNat (q_size).toInt.toNat := hw_6
  refine j_iload_n (pc := 26) C dX4_price_26 rfl 4 rfl ?_
  refine j_aload_n (pc := 27) C dX4_price_27 rfl 1 rfl ?_
  refine j_get (pc := 28) (ci := 4) (v := .int q_size) C inw_4 0 rfl rfl 1 (by decide) wd_29 rfl rfl dX4_price_28 ?_
  refine j_iconst (pc := 31) (v := 1) C dX4_price_31 (by decide) ?_
  obtain ⟨v_7, ev_7⟩ : ∃ z : Int32, q_size - 1 = z := ⟨_, rfl⟩
  have el_1 : (1 : Int32).toInt = 1 := rfl
  have hv_7 : v_7.toInt = q_size.toInt - (1 : Int32).toInt := by rw [← ev_7]; exact fb_subI (by omega) (by omega)
  refine j_isub (pc := 32) (v := v_7) C dX4_price_32 ev_7 ?_
  refine j_iload_n (pc := 33) C dX4_price_33 rfl 3 rfl ?_
  obtain ⟨v_8, ev_8⟩ : ∃ z : Int32, v_7 - p0 = z := ⟨_, rfl⟩
  have hv_8 : v_8.toInt = v_7.toInt - p0.toInt := by rw [← ev_8]; exact fb_subI (by omega) (by omega)
  refine j_isub (pc := 34) (v := v_8) C dX4_price_34 ev_8 ?_
  obtain ⟨v_9, ev_9⟩ : ∃ z : Int32, p1 * v_8 = z := ⟨_, rfl⟩
  refine j_imul (pc := 35) (v := v_9) C dX4_price_35 ev_9 ?_
  obtain ⟨v_10, ev_10⟩ : ∃ z : Int32, (u_5.2.1 0) + v_9 = z := ⟨_, rfl⟩
  refine j_iadd (pc := 36) (v := v_10) C dX4_price_36 ev_10 ?_
  obtain ⟨v_11, ev_11⟩ : ∃ z : Int32, 2 * v_10 = z := ⟨_, rfl⟩
  have el_2 : (2 : Int32).toInt = 2 := rfl
  refine j_imul (pc := 37) (v := v_11) C dX4_price_37 ev_11 ?_
  obtain ⟨v_12, ev_12⟩ : ∃ z : Int32, v_3 + v_11 = z := ⟨_, rfl⟩
  refine j_iadd (pc := 38) (v := v_12) C dX4_price_38 ev_12 ?_
  exact j_iret (pc := 39) C hr hk (fun i => [].getD i 0, fun i => [v_12].getD i 0, fun i => [].getD i (fun _ => 0), fun i => [].getD i (fun _ => 0)) rfl (show (v_12 = prC a_weight q_ware p0 q_size p1) from ((by have y9 := hw_6_0; rw [show (v_4).toInt.toNat = (p0).toInt.toNat + 1 from (by omega)] at y9; unfold prC; rw [← ev_12, ← ev_11, ← ev_10, ← ev_9, ← ev_8, ← ev_7, ← ev_3, ← ev_2, ← ev_1, y9]))) [0, 1, 2, 3] (by decide) rfl (by decide) (by decide) dX4_price_39
set_option maxHeartbeats 4000000 in
set_option maxRecDepth 100000 in
theorem c_X4_refusal (l : Launch) (D : DG) (cyC cyI cyJ cyZ cyO : ClassId) (q0 : Nat) (q1 : Nat) (a0 : Nat) (a1 : Nat) (a2 : Nat) (a3 : Nat) (a4 : Nat) (a7 : Nat) (a5 : Nat) (a6 : Nat) (a8 : Nat) (a9 : Nat) (a10 : Nat) (p0 : Int32) (q_size : Int32) (a_wares : Int32) (a_shelves : Int32) (a_nests : Int32) (a_lids : Int32) (a_tops : Int32) (q_ware : Nat → Int32) (a_wide : Nat → Int32) (a_deep : Nat → Int32) (a_weight : Nat → Int32) (a_bears : Nat → Int32) (a_mayOn : Nat → Int32) (h_q_size : 0 ≤ (q_size).toInt ∧ (q_size).toInt ≤ 12) (h_a_wares : 0 ≤ (a_wares).toInt ∧ (a_wares).toInt ≤ 12) (h_a_shelves : 0 ≤ (a_shelves).toInt ∧ (a_shelves).toInt ≤ 4) (h_a_nests : 0 ≤ (a_nests).toInt ∧ (a_nests).toInt ≤ 4) (h_q_ware : Iv 12 (0) (11) q_ware) : KK l D (TY cyC cyI cyJ cyZ cyO) yX4_refusal cX4_refusal 4 (some .int) ({ frames := 2, cells := 0, slots := 0, locals := 47 } : Room) 0 0 [.ref q0, .ref a0, .int p0] [(q0, .inr (4, [.ref q1, .int q_size])), (q1, .inl (cyI, 12, .inl q_ware)), (a0, .inr (9, [.int a_wares, .int a_shelves, .int a_nests, .ref a1, .ref a2, .ref a3, .ref a4, .ref a5, .ref a6, .int a_lids, .int a_tops, .ref a7, .ref a8, .ref a9, .ref a10])), (a1, .inl (cyI, 12, .inl a_wide)), (a2, .inl (cyI, 12, .inl a_deep)), (a3, .inl (cyI, 12, .inl a_weight)), (a4, .inl (cyI, 12, .inl a_bears)), (a7, .inl (cyI, 12, .inl a_mayOn))] (fun u => some (.int (u.2.1 0))) (fun u => (0 ≤ (u.2.1 0).toInt ∧ (u.2.1 0).toInt ≤ 6) ∧ (RFZ (fun u l => BT (a_mayOn l) u) a_weight a_bears a_deep (rsC a_wide a_deep a_lids) q_ware (q_size).toInt.toNat p0 ((u.2.1 0)).toInt)) (fun u => [(q0, .inr (4, [.ref q1, .int q_size])), (q1, .inl (cyI, 12, .inl q_ware)), (a0, .inr (9, [.int a_wares, .int a_shelves, .int a_nests, .ref a1, .ref a2, .ref a3, .ref a4, .ref a5, .ref a6, .int a_lids, .int a_tops, .ref a7, .ref a8, .ref a9, .ref a10])), (a1, .inl (cyI, 12, .inl a_wide)), (a2, .inl (cyI, 12, .inl a_deep)), (a3, .inl (cyI, 12, .inl a_weight)), (a4, .inl (cyI, 12, .inl a_bears)), (a7, .inl (cyI, 12, .inl a_mayOn))]) := by
  refine KK.of (lv0 := [(0, .ref q0), (1, .ref a0), (2, .int p0)]) (by decide) rfl (Nat.le_of_ble_eq_true rfl) ?_
  intro p e s m args below meth c A C hr hk hin
  refine j_iconst (pc := 0) (v := 1) C dX4_refusal_0 (by decide) ?_
  refine j_istore_n (pc := 1) (lv' := [(3, .int 1), (0, .ref q0), (1, .ref a0), (2, .int p0)]) C dX4_refusal_1 rfl (by decide) rfl ?_
  have loop_1 : ∀ (k_1 : Nat) (x1_3 : Int32), (1 ≤ (x1_3).toInt ∧ (x1_3).toInt ≤ 12) → (∀ i : Nat, 1 ≤ i → (i : Int) < x1_3.toInt → (fun u l => BT (a_mayOn l) u) (q_ware i).toInt.toNat (q_ware (i - 1)).toInt.toNat = true) → (12 - x1_3.toInt).toNat < k_1 → J p l e ({ frames := 2, cells := 0, slots := 0, locals := 47 } : Room) s m args below meth c D A 4 0 0 (QX below D (TY cyC cyI cyJ cyZ cyO) A (fun u => some (.int (u.2.1 0))) (fun u => (0 ≤ (u.2.1 0).toInt ∧ (u.2.1 0).toInt ≤ 6) ∧ (RFZ (fun u l => BT (a_mayOn l) u) a_weight a_bears a_deep (rsC a_wide a_deep a_lids) q_ware (q_size).toInt.toNat p0 ((u.2.1 0)).toInt)) (fun u => [(q0, .inr (4, [.ref q1, .int q_size])), (q1, .inl (cyI, 12, .inl q_ware)), (a0, .inr (9, [.int a_wares, .int a_shelves, .int a_nests, .ref a1, .ref a2, .ref a3, .ref a4, .ref a5, .ref a6, .int a_lids, .int a_tops, .ref a7, .ref a8, .ref a9, .ref a10])), (a1, .inl (cyI, 12, .inl a_wide)), (a2, .inl (cyI, 12, .inl a_deep)), (a3, .inl (cyI, 12, .inl a_weight)), (a4, .inl (cyI, 12, .inl a_bears)), (a7, .inl (cyI, 12, .inl a_mayOn))]) args s 0 0) [(q0, .inr (4, [.ref q1, .int q_size])), (q1, .inl (cyI, 12, .inl q_ware)), (a0, .inr (9, [.int a_wares, .int a_shelves, .int a_nests, .ref a1, .ref a2, .ref a3, .ref a4, .ref a5, .ref a6, .int a_lids, .int a_tops, .ref a7, .ref a8, .ref a9, .ref a10])), (a1, .inl (cyI, 12, .inl a_wide)), (a2, .inl (cyI, 12, .inl a_deep)), (a3, .inl (cyI, 12, .inl a_weight)), (a4, .inl (cyI, 12, .inl a_bears)), (a7, .inl (cyI, 12, .inl a_mayOn))] 2 [(3, .int x1_3), (0, .ref q0), (1, .ref a0), (2, .int p0)] [] := by
    intro k_1
    induction k_1 with
    | zero =>
      intro x1_3 hi_1_0 hq_1_0 hm_1
      exact absurd hm_1 (Nat.not_lt_zero _)
    | succ k_1 ih_1 =>
      intro x1_3 hi_1_0 hq_1_0 hm_1
      refine j_iload_n (pc := 2) C dX4_refusal_2 rfl 0 rfl ?_
      refine j_aload_n (pc := 3) C dX4_refusal_3 rfl 1 rfl ?_
      refine j_get (pc := 4) (ci := 4) (v := .int q_size) C inw_4 0 rfl rfl 1 (by decide) wd_29 rfl rfl dX4_refusal_4 ?_
      refine j_icmp_ge (pc := 7) (tgt := 43) C dX4_refusal_7 (by decide) (fun c_2 => ?_) (fun c_2 => ?_)
      · skip
        rw [i_le] at c_2
        have hM9 : myF (fun u l => BT (a_mayOn l) u) q_ware (q_size).toInt.toNat := fun i h1 h2 => hq_1_0 i h1 (by omega)
        refine j_iconst (pc := 43) (v := 0) C dX4_refusal_43 (by decide) ?_
        refine j_istore_n (pc := 44) (lv' := [(3, .int 0), (0, .ref q0), (1, .ref a0), (2, .int p0)]) C dX4_refusal_44 rfl (by decide) rfl ?_
        have loop_3 : ∀ (k_3 : Nat) (x3_3 : Int32), (0 ≤ (x3_3).toInt ∧ (x3_3).toInt ≤ 12) → (∀ i : Nat, (i : Int) < x3_3.toInt → ¬ a_bears (q_ware i).toInt.toNat < wtF a_weight q_ware (i + 1) (q_size).toInt.toNat) → (12 - x3_3.toInt).toNat < k_3 → J p l e ({ frames := 2, cells := 0, slots := 0, locals := 47 } : Room) s m args below meth c D A 4 0 0 (QX below D (TY cyC cyI cyJ cyZ cyO) A (fun u => some (.int (u.2.1 0))) (fun u => (0 ≤ (u.2.1 0).toInt ∧ (u.2.1 0).toInt ≤ 6) ∧ (RFZ (fun u l => BT (a_mayOn l) u) a_weight a_bears a_deep (rsC a_wide a_deep a_lids) q_ware (q_size).toInt.toNat p0 ((u.2.1 0)).toInt)) (fun u => [(q0, .inr (4, [.ref q1, .int q_size])), (q1, .inl (cyI, 12, .inl q_ware)), (a0, .inr (9, [.int a_wares, .int a_shelves, .int a_nests, .ref a1, .ref a2, .ref a3, .ref a4, .ref a5, .ref a6, .int a_lids, .int a_tops, .ref a7, .ref a8, .ref a9, .ref a10])), (a1, .inl (cyI, 12, .inl a_wide)), (a2, .inl (cyI, 12, .inl a_deep)), (a3, .inl (cyI, 12, .inl a_weight)), (a4, .inl (cyI, 12, .inl a_bears)), (a7, .inl (cyI, 12, .inl a_mayOn))]) args s 0 0) [(q0, .inr (4, [.ref q1, .int q_size])), (q1, .inl (cyI, 12, .inl q_ware)), (a0, .inr (9, [.int a_wares, .int a_shelves, .int a_nests, .ref a1, .ref a2, .ref a3, .ref a4, .ref a5, .ref a6, .int a_lids, .int a_tops, .ref a7, .ref a8, .ref a9, .ref a10])), (a1, .inl (cyI, 12, .inl a_wide)), (a2, .inl (cyI, 12, .inl a_deep)), (a3, .inl (cyI, 12, .inl a_weight)), (a4, .inl (cyI, 12, .inl a_bears)), (a7, .inl (cyI, 12, .inl a_mayOn))] 45 [(3, .int x3_3), (0, .ref q0), (1, .ref a0), (2, .int p0)] [] := by
          intro k_3
          induction k_3 with
          | zero =>
            intro x3_3 hi_3_0 hq_3_0 hm_3
            exact absurd hm_3 (Nat.not_lt_zero _)
          | succ k_3 ih_3 =>
            intro x3_3 hi_3_0 hq_3_0 hm_3
            refine j_iload_n (pc := 45) C dX4_refusal_45 rfl 0 rfl ?_
            refine j_aload_n (pc := 46) C dX4_refusal_46 rfl 1 rfl ?_
            refine j_get (pc := 47) (ci := 4) (v := .int q_size) C inw_4 0 rfl rfl 1 (by decide) wd_29 rfl rfl dX4_refusal_47 ?_
            refine j_icmp_ge (pc := 50) (tgt := 83) C dX4_refusal_50 (by decide) (fun c_4 => ?_) (fun c_4 => ?_)
            · skip
              rw [i_le] at c_4
              have hB9 : brF a_weight a_bears q_ware (q_size).toInt.toNat := fun i h2 => hq_3_0 i (by omega)
              refine j_aload_n (pc := 83) C dX4_refusal_83 rfl 1 rfl ?_
              refine j_aload_n (pc := 84) C dX4_refusal_84 rfl 2 rfl ?_
              refine j_callV (pc := 85) (As := [.ref a0]) (rest := []) (wr := [(a3, .inl (cyI, 12, .inl a_weight)), (a4, .inl (cyI, 12, .inl a_bears)), (a7, .inl (cyI, 12, .inl a_mayOn))]) C (c_X4_highestRim l D cyC cyI cyJ cyZ cyO q0 q1 a0 a1 a2 a3 a4 a5 a6 a7 a8 a9 a10 q_size a_wares a_shelves a_nests a_lids a_tops q_ware a_wide a_deep h_q_size h_a_wares h_a_shelves h_a_nests h_q_ware) wd_44 wd_40 wd_45 wd_46 wd_47 ⟨by decide, by decide, rfl⟩ rfl ⟨rfl, rfl, by decide, by decide⟩ ⟨by decide, by decide⟩ [0, 1, 2, 3, 4] [5, 6, 7] rfl rfl ⟨by decide, by decide, by decide⟩ 0 rfl rfl rfl (Nat.le_of_ble_eq_true rfl) dX4_refusal_85 (fun u_5 hw_6 => ?_)
              refine j_eq (ws2 := [(a3, .inl (cyI, 12, .inl a_weight)), (a4, .inl (cyI, 12, .inl a_bears)), (a7, .inl (cyI, 12, .inl a_mayOn)), (q0, .inr (4, [.ref q1, .int q_size])), (q1, .inl (cyI, 12, .inl q_ware)), (a0, .inr (9, [.int a_wares, .int a_shelves, .int a_nests, .ref a1, .ref a2, .ref a3, .ref a4, .ref a5, .ref a6, .int a_lids, .int a_tops, .ref a7, .ref a8, .ref a9, .ref a10])), (a1, .inl (cyI, 12, .inl a_wide)), (a2, .inl (cyI, 12, .inl a_deep))]) (pc2 := 88) (lv2 := [(3, .int x3_3), (0, .ref q0), (1, .ref a0), (2, .int p0)]) (st2 := [.int (u_5.2.1 0)]) rfl rfl rfl rfl ?_
              have hw_6_0 : (u_5.2.1 0) = hiF (rsC a_wide a_deep a_lids) a_deep q_ware (q_size).toInt.toNat := hw_6
              refine j_iload_n (pc := 88) C dX4_refusal_88 rfl 3 rfl ?_
              refine j_icmp_le (pc := 89) (tgt := 97) C dX4_refusal_89 (by decide) (fun c_7 => ?_) (fun c_7 => ?_)
              · skip
                rw [i_le] at c_7
                refine j_iconst (pc := 97) (v := 0) C dX4_refusal_97 (by decide) ?_
                have el_0 : (0 : Int32).toInt = 0 := rfl
                have el_0 : (0 : Int32).toInt = 0 := rfl
                have el_6 : (6 : Int32).toInt = 6 := rfl
                have el_0 : (0 : Int32).toInt = 0 := rfl
                exact j_iret (pc := 98) C hr hk (fun i => [].getD i 0, fun i => [0].getD i 0, fun i => [].getD i (fun _ => 0), fun i => [].getD i (fun _ => 0)) rfl (show (0 ≤ ((0 : Int32)).toInt ∧ ((0 : Int32)).toInt ≤ 6) ∧ (RFZ (fun u l => BT (a_mayOn l) u) a_weight a_bears a_deep (rsC a_wide a_deep a_lids) q_ware (q_size).toInt.toNat p0 ((0 : Int32)).toInt) from ⟨by omega, (Or.inr ⟨hM9, Or.inr ⟨hB9, Or.inr ⟨rfl, by rw [← hw_6_0, i_lt]; omega⟩⟩⟩)⟩) [3, 4, 5, 6, 7, 0, 1, 2] (by decide) rfl (by decide) (by decide) dX4_refusal_98
              · skip
                rw [i_le] at c_7
                refine j_bipush (pc := 92) (v := 6) C dX4_refusal_92 (by decide) ?_
                refine j_goto (pc := 94) (tgt := 98) C dX4_refusal_94 (by decide) ?_
                have el_6 : (6 : Int32).toInt = 6 := rfl
                have el_6 : (6 : Int32).toInt = 6 := rfl
                have el_6 : (6 : Int32).toInt = 6 := rfl
                have el_0 : (0 : Int32).toInt = 0 := rfl
                exact j_iret (pc := 98) C hr hk (fun i => [].getD i 0, fun i => [6].getD i 0, fun i => [].getD i (fun _ => 0), fun i => [].getD i (fun _ => 0)) rfl (show (0 ≤ ((6 : Int32)).toInt ∧ ((6 : Int32)).toInt ≤ 6) ∧ (RFZ (fun u l => BT (a_mayOn l) u) a_weight a_bears a_deep (rsC a_wide a_deep a_lids) q_ware (q_size).toInt.toNat p0 ((6 : Int32)).toInt) from ⟨by omega, (Or.inr ⟨hM9, Or.inr ⟨hB9, Or.inl ⟨rfl, by rw [← hw_6_0, i_lt]; omega⟩⟩⟩)⟩) [3, 4, 5, 6, 7, 0, 1, 2] (by decide) rfl (by decide) (by decide) dX4_refusal_98
            · skip
              rw [i_le] at c_4
              refine j_aload_n (pc := 53) C dX4_refusal_53 rfl 1 rfl ?_
              refine j_aload_n (pc := 54) C dX4_refusal_54 rfl 2 rfl ?_
              refine j_iload_n (pc := 55) C dX4_refusal_55 rfl 0 rfl ?_
              refine j_iconst (pc := 56) (v := 1) C dX4_refusal_56 (by decide) ?_
              obtain ⟨v_8, ev_8⟩ : ∃ z : Int32, x3_3 + 1 = z := ⟨_, rfl⟩
              have el_1 : (1 : Int32).toInt = 1 := rfl
              have hv_8 : v_8.toInt = x3_3.toInt + (1 : Int32).toInt := by rw [← ev_8]; exact fb_addI (by omega) (by omega)
              refine j_iadd (pc := 57) (v := v_8) C dX4_refusal_57 ev_8 ?_
              refine j_callV (pc := 58) (As := [.ref a0, .int v_8]) (rest := []) (wr := [(a1, .inl (cyI, 12, .inl a_wide)), (a2, .inl (cyI, 12, .inl a_deep)), (a4, .inl (cyI, 12, .inl a_bears)), (a7, .inl (cyI, 12, .inl a_mayOn))]) C (c_X4_weightFrom l D cyC cyI cyJ cyZ cyO q0 q1 a0 a3 a1 a2 a4 a5 a6 a7 a8 a9 a10 v_8 q_size a_wares a_shelves a_nests a_lids a_tops q_ware a_weight h_q_size h_a_wares h_a_shelves h_a_nests (by omega) h_q_ware) wd_39 wd_40 wd_41 wd_42 wd_43 ⟨by decide, by decide, rfl⟩ rfl ⟨rfl, rfl, by decide, by decide⟩ ⟨by decide, by decide⟩ [0, 1, 2, 5] [3, 4, 6, 7] rfl rfl ⟨by decide, by decide, by decide⟩ 0 rfl rfl rfl (Nat.le_of_ble_eq_true rfl) dX4_refusal_58 (fun u_9 hw_10 => ?_)
              refine j_eq (ws2 := [(a1, .inl (cyI, 12, .inl a_wide)), (a2, .inl (cyI, 12, .inl a_deep)), (a4, .inl (cyI, 12, .inl a_bears)), (a7, .inl (cyI, 12, .inl a_mayOn)), (q0, .inr (4, [.ref q1, .int q_size])), (q1, .inl (cyI, 12, .inl q_ware)), (a0, .inr (9, [.int a_wares, .int a_shelves, .int a_nests, .ref a1, .ref a2, .ref a3, .ref a4, .ref a5, .ref a6, .int a_lids, .int a_tops, .ref a7, .ref a8, .ref a9, .ref a10])), (a3, .inl (cyI, 12, .inl a_weight))]) (pc2 := 61) (lv2 := [(3, .int x3_3), (0, .ref q0), (1, .ref a0), (2, .int p0)]) (st2 := [.int (u_9.2.1 0)]) rfl rfl rfl rfl ?_
              have hw_10_0 : (u_9.2.1 0) = wtF a_weight q_ware (v_8).toInt.toNat (q_size).toInt.toNat := hw_10
              refine j_aload_n (pc := 61) C dX4_refusal_61 rfl 2 rfl ?_
              refine j_get (pc := 62) (ci := 9) (v := .ref a4) C inw_9 6 rfl rfl 6 (by decide) wd_48 rfl rfl dX4_refusal_62 ?_
              refine j_aload_n (pc := 65) C dX4_refusal_65 rfl 1 rfl ?_
              refine j_get (pc := 66) (ci := 4) (v := .ref q1) C inw_4 4 rfl rfl 0 (by decide) wd_31 rfl rfl dX4_refusal_66 ?_
              refine j_iload_n (pc := 69) C dX4_refusal_69 rfl 0 rfl ?_
              obtain ⟨v_11, ev_11⟩ : ∃ z, q_ware (x3_3).toInt.toNat = z := ⟨_, rfl⟩
              have env_11 : (q_ware (x3_3).toInt.toNat).toInt = v_11.toInt := by rw [ev_11]
              have hv_11 := h_q_ware (x3_3).toInt.toNat (i_lt_n hi_3_0.1 (by omega)); rw [ev_11] at hv_11
              refine j_iald (pc := 70) (v := v_11) (k := (x3_3).toInt.toNat) C 5 1 rfl rfl (i_nn hi_3_0.1) rfl (i_lt_n hi_3_0.1 (by omega)) ev_11 dX4_refusal_70 ?_
              obtain ⟨v_12, ev_12⟩ : ∃ z, a_bears (v_11).toInt.toNat = z := ⟨_, rfl⟩
              have env_12 : (a_bears (v_11).toInt.toNat).toInt = v_12.toInt := by rw [ev_12]
              refine j_iald (pc := 71) (v := v_12) (k := (v_11).toInt.toNat) C 2 1 rfl rfl (i_nn hv_11.1) rfl (i_lt_n hv_11.1 (Int.lt_of_le_of_lt hv_11.2 (by decide))) ev_12 dX4_refusal_71 ?_
              refine j_icmp_le (pc := 72) (tgt := 77) C dX4_refusal_72 (by decide) (fun c_13 => ?_) (fun c_13 => ?_)
              · skip
                rw [i_le] at c_13
                obtain ⟨v_14, ev_14⟩ : ∃ z : Int32, x3_3 + 1 = z := ⟨_, rfl⟩
                have el_1 : (1 : Int32).toInt = 1 := rfl
                have hv_14 : v_14.toInt = x3_3.toInt + (1 : Int32).toInt := by rw [← ev_14]; exact fb_addI (by omega) (by omega)
                refine j_iinc (pc := 77) (v := v_14) (lv' := [(3, .int v_14), (0, .ref q0), (1, .ref a0), (2, .int p0)]) C dX4_refusal_77 0 rfl ev_14 (by decide) rfl ?_
                refine j_goto (pc := 80) (tgt := 45) C dX4_refusal_80 (by decide) ?_
                refine j_subG (ws' := [(q0, .inr (4, [.ref q1, .int q_size])), (q1, .inl (cyI, 12, .inl q_ware)), (a0, .inr (9, [.int a_wares, .int a_shelves, .int a_nests, .ref a1, .ref a2, .ref a3, .ref a4, .ref a5, .ref a6, .int a_lids, .int a_tops, .ref a7, .ref a8, .ref a9, .ref a10])), (a1, .inl (cyI, 12, .inl a_wide)), (a2, .inl (cyI, 12, .inl a_deep)), (a3, .inl (cyI, 12, .inl a_weight)), (a4, .inl (cyI, 12, .inl a_bears)), (a7, .inl (cyI, 12, .inl a_mayOn))]) [4, 5, 6, 0, 1, 7, 2, 3] (by decide) rfl ?_
                exact j_lv [0, 1, 2, 3] rfl (ih_3 v_14 (by omega) (fun i h2 => by rcases Int.lt_or_le (i : Int) (x3_3).toInt with q | q; (exact hq_3_0 i q); (rw [show i = (x3_3).toInt.toNat from (by omega), ev_11, ev_12, i_lt]; have y9 := congrArg Int32.toInt hw_10_0; rw [show (v_8).toInt.toNat = (x3_3).toInt.toNat + 1 from (by omega)] at y9; omega)) (by omega))
              · skip
                rw [i_le] at c_13
                refine j_iconst (pc := 75) (v := 5) C dX4_refusal_75 (by decide) ?_
                have el_5 : (5 : Int32).toInt = 5 := rfl
                have el_5 : (5 : Int32).toInt = 5 := rfl
                exact j_iret (pc := 76) C hr hk (fun i => [].getD i 0, fun i => [5].getD i 0, fun i => [].getD i (fun _ => 0), fun i => [].getD i (fun _ => 0)) rfl (show (0 ≤ ((5 : Int32)).toInt ∧ ((5 : Int32)).toInt ≤ 6) ∧ (RFZ (fun u l => BT (a_mayOn l) u) a_weight a_bears a_deep (rsC a_wide a_deep a_lids) q_ware (q_size).toInt.toNat p0 ((5 : Int32)).toInt) from ⟨by omega, (Or.inr ⟨hM9, Or.inl ⟨rfl, fun z => by have z9 := z (x3_3).toInt.toNat (by omega); rw [ev_11, ev_12, i_lt] at z9; have y9 := congrArg Int32.toInt hw_10_0; rw [show (v_8).toInt.toNat = (x3_3).toInt.toNat + 1 from (by omega)] at y9; omega⟩⟩)⟩) [4, 5, 6, 0, 1, 7, 2, 3] (by decide) rfl (by decide) (by decide) dX4_refusal_76
        have el_0 : (0 : Int32).toInt = 0 := rfl
        exact j_lv [0, 1, 2, 3] rfl (loop_3 4096 0 (by decide) (fun i h2 => absurd h2 (by omega)) (by omega))
      · skip
        rw [i_le] at c_2
        refine j_aload_n (pc := 10) C dX4_refusal_10 rfl 2 rfl ?_
        refine j_get (pc := 11) (ci := 9) (v := .ref a7) C inw_9 2 rfl rfl 11 (by decide) wd_49 rfl rfl dX4_refusal_11 ?_
        refine j_aload_n (pc := 14) C dX4_refusal_14 rfl 1 rfl ?_
        refine j_get (pc := 15) (ci := 4) (v := .ref q1) C inw_4 0 rfl rfl 0 (by decide) wd_31 rfl rfl dX4_refusal_15 ?_
        refine j_iload_n (pc := 18) C dX4_refusal_18 rfl 0 rfl ?_
        refine j_iconst (pc := 19) (v := 1) C dX4_refusal_19 (by decide) ?_
        obtain ⟨v_15, ev_15⟩ : ∃ z : Int32, x1_3 - 1 = z := ⟨_, rfl⟩
        have el_1 : (1 : Int32).toInt = 1 := rfl
        have hv_15 : v_15.toInt = x1_3.toInt - (1 : Int32).toInt := by rw [← ev_15]; exact fb_subI (by omega) (by omega)
        refine j_isub (pc := 20) (v := v_15) C dX4_refusal_20 ev_15 ?_
        obtain ⟨v_16, ev_16⟩ : ∃ z, q_ware (v_15).toInt.toNat = z := ⟨_, rfl⟩
        have env_16 : (q_ware (v_15).toInt.toNat).toInt = v_16.toInt := by rw [ev_16]
        have hv_16 := h_q_ware (v_15).toInt.toNat (i_lt_n (by omega) (by omega)); rw [ev_16] at hv_16
        refine j_iald (pc := 21) (v := v_16) (k := (v_15).toInt.toNat) C 1 1 rfl rfl (i_nn (by omega)) rfl (i_lt_n (by omega) (by omega)) ev_16 dX4_refusal_21 ?_
        obtain ⟨v_17, ev_17⟩ : ∃ z, a_mayOn (v_16).toInt.toNat = z := ⟨_, rfl⟩
        have env_17 : (a_mayOn (v_16).toInt.toNat).toInt = v_17.toInt := by rw [ev_17]
        refine j_iald (pc := 22) (v := v_17) (k := (v_16).toInt.toNat) C 7 1 rfl rfl (i_nn hv_16.1) rfl (i_lt_n hv_16.1 (Int.lt_of_le_of_lt hv_16.2 (by decide))) ev_17 dX4_refusal_22 ?_
        refine j_aload_n (pc := 23) C dX4_refusal_23 rfl 1 rfl ?_
        refine j_get (pc := 24) (ci := 4) (v := .ref q1) C inw_4 0 rfl rfl 0 (by decide) wd_31 rfl rfl dX4_refusal_24 ?_
        refine j_iload_n (pc := 27) C dX4_refusal_27 rfl 0 rfl ?_
        obtain ⟨v_18, ev_18⟩ : ∃ z, q_ware (x1_3).toInt.toNat = z := ⟨_, rfl⟩
        have env_18 : (q_ware (x1_3).toInt.toNat).toInt = v_18.toInt := by rw [ev_18]
        have hv_18 := h_q_ware (x1_3).toInt.toNat (i_lt_n (Int.le_trans (by decide) hi_1_0.1) (by omega)); rw [ev_18] at hv_18
        refine j_iald (pc := 28) (v := v_18) (k := (x1_3).toInt.toNat) C 1 1 rfl rfl (i_nn (Int.le_trans (by decide) hi_1_0.1)) rfl (i_lt_n (Int.le_trans (by decide) hi_1_0.1) (by omega)) ev_18 dX4_refusal_28 ?_
        obtain ⟨v_19, ev_19⟩ : ∃ z : Int32, ((v_17 : Int32).toUInt32 >>> ((v_18 : Int32).toUInt32 &&& Int32.toUInt32 31)).toInt32 = z := ⟨_, rfl⟩
        refine j_iushr (pc := 29) (v := v_19) C dX4_refusal_29 ev_19 ?_
        refine j_iconst (pc := 30) (v := 1) C dX4_refusal_30 (by decide) ?_
        obtain ⟨v_20, ev_20⟩ : ∃ z : Int32, v_19 &&& 1 = z := ⟨_, rfl⟩
        have el_1 : (1 : Int32).toInt = 1 := rfl
        have hv_20 : 0 ≤ v_20.toInt ∧ v_20.toInt ≤ 1 := by rw [← ev_20]; exact and1_r _
        refine j_iand (pc := 31) (v := v_20) C dX4_refusal_31 ev_20 ?_
        have hb9 : v_20.toInt = if BT (a_mayOn (q_ware ((x1_3).toInt.toNat - 1)).toInt.toNat) (q_ware (x1_3).toInt.toNat).toInt.toNat = true then 1 else 0 := by rw [show (x1_3).toInt.toNat - 1 = (v_15).toInt.toNat from (by omega), ev_16, ev_17, ev_18, ← ev_20, ← ev_19]; exact bt_rd (by omega) (by omega)
        refine j_if_ne (pc := 32) (tgt := 37) C dX4_refusal_32 (by decide) (fun c_21 => ?_) (fun c_21 => ?_)
        · skip
          have el_0 : (0 : Int32).toInt = 0 := rfl
          rw [i_eq] at c_21
          have k0c_21 : v_20.toInt = 1 := by omega
          obtain ⟨v_22, ev_22⟩ : ∃ z : Int32, x1_3 + 1 = z := ⟨_, rfl⟩
          have el_1 : (1 : Int32).toInt = 1 := rfl
          have hv_22 : v_22.toInt = x1_3.toInt + (1 : Int32).toInt := by rw [← ev_22]; exact fb_addI (by omega) (by omega)
          refine j_iinc (pc := 37) (v := v_22) (lv' := [(3, .int v_22), (0, .ref q0), (1, .ref a0), (2, .int p0)]) C dX4_refusal_37 0 rfl ev_22 (by decide) rfl ?_
          refine j_goto (pc := 40) (tgt := 2) C dX4_refusal_40 (by decide) ?_
          exact j_lv [0, 1, 2, 3] rfl (ih_1 v_22 (by omega) (fun i h1 h2 => by rcases Int.lt_or_le (i : Int) (x1_3).toInt with q | q; (exact hq_1_0 i h1 q); (rw [show i = (x1_3).toInt.toNat from (by omega)]; show BT (a_mayOn (q_ware ((x1_3).toInt.toNat - 1)).toInt.toNat) (q_ware (x1_3).toInt.toNat).toInt.toNat = true; by_cases z : BT (a_mayOn (q_ware ((x1_3).toInt.toNat - 1)).toInt.toNat) (q_ware (x1_3).toInt.toNat).toInt.toNat = true; (exact z); (rw [if_neg z] at hb9; exfalso; omega))) (by omega))
        · skip
          have el_0 : (0 : Int32).toInt = 0 := rfl
          rw [i_eq] at c_21
          refine j_iconst (pc := 35) (v := 4) C dX4_refusal_35 (by decide) ?_
          have el_4 : (4 : Int32).toInt = 4 := rfl
          have el_4 : (4 : Int32).toInt = 4 := rfl
          exact j_iret (pc := 36) C hr hk (fun i => [].getD i 0, fun i => [4].getD i 0, fun i => [].getD i (fun _ => 0), fun i => [].getD i (fun _ => 0)) rfl (show (0 ≤ ((4 : Int32)).toInt ∧ ((4 : Int32)).toInt ≤ 6) ∧ (RFZ (fun u l => BT (a_mayOn l) u) a_weight a_bears a_deep (rsC a_wide a_deep a_lids) q_ware (q_size).toInt.toNat p0 ((4 : Int32)).toInt) from ⟨by omega, (Or.inl ⟨rfl, fun z => by have z9 : BT (a_mayOn (q_ware ((x1_3).toInt.toNat - 1)).toInt.toNat) (q_ware (x1_3).toInt.toNat).toInt.toNat = true := z (x1_3).toInt.toNat (by omega) (by omega); rw [if_pos z9] at hb9; omega⟩)⟩) [0, 1, 2, 3, 4, 5, 6, 7] (by decide) rfl (by decide) (by decide) dX4_refusal_36
  have el_1 : (1 : Int32).toInt = 1 := rfl
  exact j_lv [0, 1, 2, 3] rfl (loop_1 4096 1 (by decide) (fun i h1 h2 => absurd h2 (by omega)) (by omega))
set_option maxHeartbeats 4000000 in
set_option maxRecDepth 100000 in
theorem c_X4_add (l : Launch) (D : DG) (cyC cyI cyJ cyZ cyO : ClassId) (q0 : Nat) (q1 : Nat) (p0 : Int32) (q_size : Int32) (q_ware : Nat → Int32) (h_q_size : 0 ≤ (q_size).toInt ∧ (q_size).toInt ≤ 12) (h_p0 : 0 ≤ (p0).toInt ∧ (p0).toInt ≤ 11) (h_q_ware : Iv 12 (0) (11) q_ware) : KK l D (TY cyC cyI cyJ cyZ cyO) yX4_add cX4_add 2 none ({ frames := 0, cells := 0, slots := 0, locals := 0 } : Room) 0 0 [.ref q0, .int p0] [(q0, .inr (4, [.ref q1, .int q_size])), (q1, .inl (cyI, 12, .inl q_ware))] (fun u => none) (fun u => (0 ≤ (u.2.1 0).toInt ∧ (u.2.1 0).toInt ≤ 12) ∧ (Iv 12 (0) (11) (u.2.2.1 0)) ∧ (IM ((q_size).toInt ≤ 11) (((u.2.1 0)).toInt = (q_size).toInt + 1 ∧ (u.2.2.1 0) = upd q_ware (q_size).toInt.toNat p0))) (fun u => [(q0, .inr (4, [.ref q1, .int (u.2.1 0)])), (q1, .inl (cyI, 12, .inl (u.2.2.1 0)))]) := by
  refine KK.of (lv0 := [(0, .ref q0), (1, .int p0)]) (by decide) rfl (Nat.le_of_ble_eq_true rfl) ?_
  intro p e s m args below meth c A C hr hk hin
  refine j_aload_n (pc := 0) C dX4_add_0 rfl 0 rfl ?_
  refine j_get (pc := 1) (ci := 4) (v := .int q_size) C inw_4 0 rfl rfl 1 (by decide) wd_29 rfl rfl dX4_add_1 ?_
  refine j_bipush (pc := 4) (v := 12) C dX4_add_4 (by decide) ?_
  refine j_icmp_ge (pc := 6) (tgt := 29) C dX4_add_6 (by decide) (fun c_1 => ?_) (fun c_1 => ?_)
  · skip
    have el_12 : (12 : Int32).toInt = 12 := rfl
    rw [i_le] at c_1
    have k0c_1 : q_size.toInt = 12 := by omega
    exact j_vret (pc := 29) C hr hk (fun i => [].getD i 0, fun i => [q_size].getD i 0, fun i => [q_ware].getD i (fun _ => 0), fun i => [].getD i (fun _ => 0)) rfl (show (0 ≤ (q_size).toInt ∧ (q_size).toInt ≤ 12) ∧ (Iv 12 (0) (11) q_ware) ∧ (IM ((q_size).toInt ≤ 11) ((q_size).toInt = (q_size).toInt + 1 ∧ q_ware = upd q_ware (q_size).toInt.toNat p0)) from ⟨h_q_size, h_q_ware, (fun z9 => by exfalso; omega)⟩) [0, 1] (by decide) rfl (by decide) (by decide) dX4_add_29
  · skip
    have el_12 : (12 : Int32).toInt = 12 := rfl
    rw [i_le] at c_1
    refine j_aload_n (pc := 9) C dX4_add_9 rfl 0 rfl ?_
    refine j_get (pc := 10) (ci := 4) (v := .ref q1) C inw_4 0 rfl rfl 0 (by decide) wd_31 rfl rfl dX4_add_10 ?_
    refine j_aload_n (pc := 13) C dX4_add_13 rfl 0 rfl ?_
    refine j_get (pc := 14) (ci := 4) (v := .int q_size) C inw_4 0 rfl rfl 1 (by decide) wd_29 rfl rfl dX4_add_14 ?_
    refine j_iload_n (pc := 17) C dX4_add_17 rfl 1 rfl ?_
    obtain ⟨f_2, ef_2⟩ : ∃ z, z = upd q_ware (q_size).toInt.toNat p0 := ⟨_, rfl⟩
    have hf_2 : Iv 12 (0) (11) f_2 := by rw [ef_2]; exact Iv.upd h_q_ware (by omega) (by omega)
    refine j_iast (pc := 18) (k := (q_size).toInt.toNat) (ws' := [(q0, .inr (4, [.ref q1, .int q_size])), (q1, .inl (cyI, 12, .inl f_2))]) C 1 1 rfl rfl (i_nn h_q_size.1) rfl (i_lt_n h_q_size.1 (by omega)) dX4_add_18 (by rw [ef_2]; rfl) ?_
    refine j_aload_n (pc := 19) C dX4_add_19 rfl 0 rfl ?_
    refine j_dup (pc := 20) C dX4_add_20 rfl ?_
    refine j_get (pc := 21) (ci := 4) (v := .int q_size) C inw_4 0 rfl rfl 1 (by decide) wd_29 rfl rfl dX4_add_21 ?_
    refine j_iconst (pc := 24) (v := 1) C dX4_add_24 (by decide) ?_
    obtain ⟨v_3, ev_3⟩ : ∃ z : Int32, q_size + 1 = z := ⟨_, rfl⟩
    have el_1 : (1 : Int32).toInt = 1 := rfl
    have hv_3 : v_3.toInt = q_size.toInt + (1 : Int32).toInt := by rw [← ev_3]; exact fb_addI (by omega) (by omega)
    refine j_iadd (pc := 25) (v := v_3) C dX4_add_25 ev_3 ?_
    refine j_put (pc := 26) (ci := 4) (v := .int v_3) (ws' := [(q0, .inr (4, [.ref q1, .int v_3])), (q1, .inl (cyI, 12, .inl f_2))]) C inw_4 0 rfl rfl 1 (by decide) wd_29 rfl tyX4_ok nmX4 rfl (tyX4_ok 1 (by decide)) rfl rfl (Nat.le_of_ble_eq_true rfl) dX4_add_26 rfl ?_
    exact j_vret (pc := 29) C hr hk (fun i => [].getD i 0, fun i => [v_3].getD i 0, fun i => [f_2].getD i (fun _ => 0), fun i => [].getD i (fun _ => 0)) rfl (show (0 ≤ (v_3).toInt ∧ (v_3).toInt ≤ 12) ∧ (Iv 12 (0) (11) f_2) ∧ (IM ((q_size).toInt ≤ 11) ((v_3).toInt = (q_size).toInt + 1 ∧ f_2 = upd q_ware (q_size).toInt.toNat p0)) from ⟨by omega, hf_2, (fun _ => ⟨by omega, ef_2⟩)⟩) [0, 1] (by decide) rfl (by decide) (by decide) dX4_add_29
