theorem wd_0 : Cond.methodLink RX8 3 objectInit ∈ WALL := wl_in (by decide +kernel) (by decide +kernel)
theorem wd_1 : Cond.instanceMethod objectInit ∈ WALL := wl_in (by decide +kernel) (by decide +kernel)
theorem wd_2 : Cond.code objectInit ⟨#[0xb1]⟩ 1 none ∈ WALL := wl_in (by decide +kernel) (by decide +kernel)
theorem wd_3 : Cond.arrayClass .char ∈ WALL := wl_in (by decide +kernel) (by decide +kernel)
theorem wd_4 : Cond.fieldLink RX8 9 "BowlShelf$Tape" "text" "[C" ∈ WALL := wl_in (by decide +kernel) (by decide +kernel)
theorem wd_5 : Cond.methodLink RX1 3 objectInit ∈ WALL := wl_in (by decide +kernel) (by decide +kernel)
theorem wd_6 : Cond.arrayClass .int ∈ WALL := wl_in (by decide +kernel) (by decide +kernel)
theorem wd_7 : Cond.fieldLink RX1 9 "BowlShelf$Nests" "steps" "[I" ∈ WALL := wl_in (by decide +kernel) (by decide +kernel)
theorem wd_8 : Cond.fieldLink RX1 15 "BowlShelf$Nests" "end" "[I" ∈ WALL := wl_in (by decide +kernel) (by decide +kernel)
theorem wd_9 : Cond.fieldLink RX1 18 "BowlShelf$Nests" "values" "[I" ∈ WALL := wl_in (by decide +kernel) (by decide +kernel)
theorem wd_10 : Cond.methodLink RX9 3 objectInit ∈ WALL := wl_in (by decide +kernel) (by decide +kernel)
theorem wd_11 : Cond.fieldLink RX9 9 "BowlShelf$Told" "wide" "[I" ∈ WALL := wl_in (by decide +kernel) (by decide +kernel)
theorem wd_12 : Cond.fieldLink RX9 15 "BowlShelf$Told" "deep" "[I" ∈ WALL := wl_in (by decide +kernel) (by decide +kernel)
theorem wd_13 : Cond.fieldLink RX9 18 "BowlShelf$Told" "weight" "[I" ∈ WALL := wl_in (by decide +kernel) (by decide +kernel)
theorem wd_14 : Cond.fieldLink RX9 21 "BowlShelf$Told" "bears" "[I" ∈ WALL := wl_in (by decide +kernel) (by decide +kernel)
theorem wd_15 : Cond.fieldLink RX9 24 "BowlShelf$Told" "breaks" "[I" ∈ WALL := wl_in (by decide +kernel) (by decide +kernel)
theorem wd_16 : Cond.fieldLink RX9 27 "BowlShelf$Told" "habit" "[I" ∈ WALL := wl_in (by decide +kernel) (by decide +kernel)
theorem wd_17 : Cond.fieldLink RX9 30 "BowlShelf$Told" "mayOn" "[I" ∈ WALL := wl_in (by decide +kernel) (by decide +kernel)
theorem wd_18 : Cond.fieldLink RX9 33 "BowlShelf$Told" "height" "[I" ∈ WALL := wl_in (by decide +kernel) (by decide +kernel)
theorem wd_19 : Cond.fieldLink RX9 36 "BowlShelf$Told" "reach" "[I" ∈ WALL := wl_in (by decide +kernel) (by decide +kernel)
theorem wd_20 : Cond.fieldLink RX9 39 "BowlShelf$Told" "room" "[I" ∈ WALL := wl_in (by decide +kernel) (by decide +kernel)
theorem wd_21 : Cond.methodLink RX5 3 objectInit ∈ WALL := wl_in (by decide +kernel) (by decide +kernel)
theorem wd_22 : Cond.classLink RX5 9 RX8 ∈ WALL := wl_in (by decide +kernel) (by decide +kernel)
theorem wd_23 : Cond.instantiable RX8 6 ∈ WALL := wl_in (by decide +kernel) (by decide +kernel)
theorem wd_24 : Cond.initialized RX8 ∈ WALL := wl_in (by decide +kernel) (by decide +kernel)
theorem wd_25 : Cond.code yX8_init cX8_init 1 none ∈ WALL := wl_in (by decide +kernel) (by decide +kernel)
theorem wd_26 : Cond.instanceMethod yX8_init ∈ WALL := wl_in (by decide +kernel) (by decide +kernel)
theorem wd_27 : Cond.fieldLink RX5 12 "BowlShelf$Reader" "tape" "LBowlShelf$Tape;" ∈ WALL := wl_in (by decide +kernel) (by decide +kernel)
theorem wd_28 : Cond.classLink RX5 18 RX1 ∈ WALL := wl_in (by decide +kernel) (by decide +kernel)
theorem wd_29 : Cond.instantiable RX1 5 ∈ WALL := wl_in (by decide +kernel) (by decide +kernel)
theorem wd_30 : Cond.initialized RX1 ∈ WALL := wl_in (by decide +kernel) (by decide +kernel)
theorem wd_31 : Cond.code yX1_init cX1_init 1 none ∈ WALL := wl_in (by decide +kernel) (by decide +kernel)
theorem wd_32 : Cond.instanceMethod yX1_init ∈ WALL := wl_in (by decide +kernel) (by decide +kernel)
theorem wd_33 : Cond.fieldLink RX5 21 "BowlShelf$Reader" "nests" "LBowlShelf$Nests;" ∈ WALL := wl_in (by decide +kernel) (by decide +kernel)
theorem wd_34 : Cond.arrayClass .long ∈ WALL := wl_in (by decide +kernel) (by decide +kernel)
theorem wd_35 : Cond.fieldLink RX5 25 "BowlShelf$Reader" "wareName" "[J" ∈ WALL := wl_in (by decide +kernel) (by decide +kernel)
theorem wd_36 : Cond.fieldLink RX5 29 "BowlShelf$Reader" "shelfName" "[J" ∈ WALL := wl_in (by decide +kernel) (by decide +kernel)
theorem wd_37 : Cond.classLink RX5 32 RX9 ∈ WALL := wl_in (by decide +kernel) (by decide +kernel)
theorem wd_38 : Cond.instantiable RX9 15 ∈ WALL := wl_in (by decide +kernel) (by decide +kernel)
theorem wd_39 : Cond.initialized RX9 ∈ WALL := wl_in (by decide +kernel) (by decide +kernel)
theorem wd_40 : Cond.code yX9_init cX9_init 1 none ∈ WALL := wl_in (by decide +kernel) (by decide +kernel)
theorem wd_41 : Cond.instanceMethod yX9_init ∈ WALL := wl_in (by decide +kernel) (by decide +kernel)
theorem wd_42 : Cond.fieldLink RX5 35 "BowlShelf$Reader" "told" "LBowlShelf$Told;" ∈ WALL := wl_in (by decide +kernel) (by decide +kernel)
theorem wd_43 : Cond.methodLink RX7 3 objectInit ∈ WALL := wl_in (by decide +kernel) (by decide +kernel)
theorem wd_44 : Cond.fieldLink RX7 9 "BowlShelf$Standing" "shelf" "[I" ∈ WALL := wl_in (by decide +kernel) (by decide +kernel)
theorem wd_45 : Cond.fieldLink RX7 15 "BowlShelf$Standing" "stack" "[I" ∈ WALL := wl_in (by decide +kernel) (by decide +kernel)
theorem wd_46 : Cond.fieldLink RX7 18 "BowlShelf$Standing" "level" "[I" ∈ WALL := wl_in (by decide +kernel) (by decide +kernel)
theorem wd_47 : Cond.fieldLink RX7 21 "BowlShelf$Standing" "asking" "[I" ∈ WALL := wl_in (by decide +kernel) (by decide +kernel)
theorem wd_48 : Cond.code yJ7_fill_53178 cJ7_fill_53178 4 none ∈ WALL := wl_in (by decide +kernel) (by decide +kernel)
theorem wd_49 : Cond.initialized RJ7 ∈ WALL := wl_in (by decide +kernel) (by decide +kernel)
theorem wd_50 : Cond.methodLink RX7 24 yJ7_fill_53178 ∈ WALL := wl_in (by decide +kernel) (by decide +kernel)
theorem wd_51 : Cond.static yJ7_fill_53178 ∈ WALL := wl_in (by decide +kernel) (by decide +kernel)
theorem wd_52 : Cond.methodLink RX4 3 objectInit ∈ WALL := wl_in (by decide +kernel) (by decide +kernel)
theorem wd_53 : Cond.fieldLink RX4 9 "BowlShelf$Pile" "ware" "[I" ∈ WALL := wl_in (by decide +kernel) (by decide +kernel)
theorem wd_54 : Cond.methodLink RX3 3 objectInit ∈ WALL := wl_in (by decide +kernel) (by decide +kernel)
theorem wd_55 : Cond.fieldLink RX3 9 "BowlShelf$Order" "above" "[I" ∈ WALL := wl_in (by decide +kernel) (by decide +kernel)
theorem wd_56 : Cond.fieldLink RX3 15 "BowlShelf$Order" "kin" "[I" ∈ WALL := wl_in (by decide +kernel) (by decide +kernel)
theorem wd_57 : Cond.fieldLink RX3 18 "BowlShelf$Order" "row" "[I" ∈ WALL := wl_in (by decide +kernel) (by decide +kernel)
theorem wd_58 : Cond.fieldLink RX3 21 "BowlShelf$Order" "members" "[I" ∈ WALL := wl_in (by decide +kernel) (by decide +kernel)
theorem wd_59 : Cond.methodLink RX0 3 objectInit ∈ WALL := wl_in (by decide +kernel) (by decide +kernel)
theorem wd_60 : Cond.fieldLink RX0 9 "BowlShelf$Heights" "leastRim" "[I" ∈ WALL := wl_in (by decide +kernel) (by decide +kernel)
theorem wd_61 : Cond.fieldLink RX0 15 "BowlShelf$Heights" "least" "[I" ∈ WALL := wl_in (by decide +kernel) (by decide +kernel)
theorem wd_62 : Cond.fieldLink RX0 18 "BowlShelf$Heights" "stacks" "[I" ∈ WALL := wl_in (by decide +kernel) (by decide +kernel)
theorem wd_63 : Cond.methodLink RX6 3 objectInit ∈ WALL := wl_in (by decide +kernel) (by decide +kernel)
theorem wd_64 : Cond.fieldLink RX6 11 "BowlShelf$Search" "order" "[I" ∈ WALL := wl_in (by decide +kernel) (by decide +kernel)
theorem wd_65 : Cond.fieldLink RX6 15 "BowlShelf$Search" "trial" "[I" ∈ WALL := wl_in (by decide +kernel) (by decide +kernel)
theorem wd_66 : Cond.fieldLink RX6 18 "BowlShelf$Search" "times" "[I" ∈ WALL := wl_in (by decide +kernel) (by decide +kernel)
theorem wd_67 : Cond.methodLink RX2 1 objectInit ∈ WALL := wl_in (by decide +kernel) (by decide +kernel)
theorem wd_68 : Cond.fieldLink RX2 9 "BowlShelf$Odds" "digits" "[J" ∈ WALL := wl_in (by decide +kernel) (by decide +kernel)
theorem dX8_init_0 : decode cX8_init 0 = .ok (.aload_n 0, 1) := by decide +kernel
theorem dX8_init_1 : decode cX8_init 1 = .ok (.invokespecial 3, 3) := by decide +kernel
theorem dX8_init_4 : decode cX8_init 4 = .ok (.aload_n 0, 1) := by decide +kernel
theorem dX8_init_5 : decode cX8_init 5 = .ok (.sipush 1000, 3) := by decide +kernel
theorem dX8_init_8 : decode cX8_init 8 = .ok (.newarray .char, 2) := by decide +kernel
theorem dX8_init_10 : decode cX8_init 10 = .ok (.putfield 9, 3) := by decide +kernel
theorem dX8_init_13 : decode cX8_init 13 = .ok (.return_, 1) := by decide +kernel
theorem dX1_init_0 : decode cX1_init 0 = .ok (.aload_n 0, 1) := by decide +kernel
theorem dX1_init_1 : decode cX1_init 1 = .ok (.invokespecial 3, 3) := by decide +kernel
theorem dX1_init_4 : decode cX1_init 4 = .ok (.aload_n 0, 1) := by decide +kernel
theorem dX1_init_5 : decode cX1_init 5 = .ok (.sipush 1000, 3) := by decide +kernel
theorem dX1_init_8 : decode cX1_init 8 = .ok (.newarray .int, 2) := by decide +kernel
theorem dX1_init_10 : decode cX1_init 10 = .ok (.putfield 9, 3) := by decide +kernel
theorem dX1_init_13 : decode cX1_init 13 = .ok (.aload_n 0, 1) := by decide +kernel
theorem dX1_init_14 : decode cX1_init 14 = .ok (.iconst 4, 1) := by decide +kernel
theorem dX1_init_15 : decode cX1_init 15 = .ok (.newarray .int, 2) := by decide +kernel
theorem dX1_init_17 : decode cX1_init 17 = .ok (.putfield 15, 3) := by decide +kernel
theorem dX1_init_20 : decode cX1_init 20 = .ok (.aload_n 0, 1) := by decide +kernel
theorem dX1_init_21 : decode cX1_init 21 = .ok (.bipush 32, 2) := by decide +kernel
theorem dX1_init_23 : decode cX1_init 23 = .ok (.newarray .int, 2) := by decide +kernel
theorem dX1_init_25 : decode cX1_init 25 = .ok (.putfield 18, 3) := by decide +kernel
theorem dX1_init_28 : decode cX1_init 28 = .ok (.return_, 1) := by decide +kernel
theorem dX9_init_0 : decode cX9_init 0 = .ok (.aload_n 0, 1) := by decide +kernel
theorem dX9_init_1 : decode cX9_init 1 = .ok (.invokespecial 3, 3) := by decide +kernel
theorem dX9_init_4 : decode cX9_init 4 = .ok (.aload_n 0, 1) := by decide +kernel
theorem dX9_init_5 : decode cX9_init 5 = .ok (.bipush 12, 2) := by decide +kernel
theorem dX9_init_7 : decode cX9_init 7 = .ok (.newarray .int, 2) := by decide +kernel
theorem dX9_init_9 : decode cX9_init 9 = .ok (.putfield 9, 3) := by decide +kernel
theorem dX9_init_12 : decode cX9_init 12 = .ok (.aload_n 0, 1) := by decide +kernel
theorem dX9_init_13 : decode cX9_init 13 = .ok (.bipush 12, 2) := by decide +kernel
theorem dX9_init_15 : decode cX9_init 15 = .ok (.newarray .int, 2) := by decide +kernel
theorem dX9_init_17 : decode cX9_init 17 = .ok (.putfield 15, 3) := by decide +kernel
theorem dX9_init_20 : decode cX9_init 20 = .ok (.aload_n 0, 1) := by decide +kernel
theorem dX9_init_21 : decode cX9_init 21 = .ok (.bipush 12, 2) := by decide +kernel
theorem dX9_init_23 : decode cX9_init 23 = .ok (.newarray .int, 2) := by decide +kernel
theorem dX9_init_25 : decode cX9_init 25 = .ok (.putfield 18, 3) := by decide +kernel
theorem dX9_init_28 : decode cX9_init 28 = .ok (.aload_n 0, 1) := by decide +kernel
theorem dX9_init_29 : decode cX9_init 29 = .ok (.bipush 12, 2) := by decide +kernel
theorem dX9_init_31 : decode cX9_init 31 = .ok (.newarray .int, 2) := by decide +kernel
theorem dX9_init_33 : decode cX9_init 33 = .ok (.putfield 21, 3) := by decide +kernel
theorem dX9_init_36 : decode cX9_init 36 = .ok (.aload_n 0, 1) := by decide +kernel
theorem dX9_init_37 : decode cX9_init 37 = .ok (.bipush 12, 2) := by decide +kernel
theorem dX9_init_39 : decode cX9_init 39 = .ok (.newarray .int, 2) := by decide +kernel
theorem dX9_init_41 : decode cX9_init 41 = .ok (.putfield 24, 3) := by decide +kernel
theorem dX9_init_44 : decode cX9_init 44 = .ok (.aload_n 0, 1) := by decide +kernel
theorem dX9_init_45 : decode cX9_init 45 = .ok (.bipush 12, 2) := by decide +kernel
theorem dX9_init_47 : decode cX9_init 47 = .ok (.newarray .int, 2) := by decide +kernel
theorem dX9_init_49 : decode cX9_init 49 = .ok (.putfield 27, 3) := by decide +kernel
theorem dX9_init_52 : decode cX9_init 52 = .ok (.aload_n 0, 1) := by decide +kernel
theorem dX9_init_53 : decode cX9_init 53 = .ok (.bipush 12, 2) := by decide +kernel
theorem dX9_init_55 : decode cX9_init 55 = .ok (.newarray .int, 2) := by decide +kernel
theorem dX9_init_57 : decode cX9_init 57 = .ok (.putfield 30, 3) := by decide +kernel
theorem dX9_init_60 : decode cX9_init 60 = .ok (.aload_n 0, 1) := by decide +kernel
theorem dX9_init_61 : decode cX9_init 61 = .ok (.iconst 4, 1) := by decide +kernel
theorem dX9_init_62 : decode cX9_init 62 = .ok (.newarray .int, 2) := by decide +kernel
theorem dX9_init_64 : decode cX9_init 64 = .ok (.putfield 33, 3) := by decide +kernel
theorem dX9_init_67 : decode cX9_init 67 = .ok (.aload_n 0, 1) := by decide +kernel
theorem dX9_init_68 : decode cX9_init 68 = .ok (.iconst 4, 1) := by decide +kernel
theorem dX9_init_69 : decode cX9_init 69 = .ok (.newarray .int, 2) := by decide +kernel
theorem dX9_init_71 : decode cX9_init 71 = .ok (.putfield 36, 3) := by decide +kernel
theorem dX9_init_74 : decode cX9_init 74 = .ok (.aload_n 0, 1) := by decide +kernel
theorem dX9_init_75 : decode cX9_init 75 = .ok (.iconst 4, 1) := by decide +kernel
theorem dX9_init_76 : decode cX9_init 76 = .ok (.newarray .int, 2) := by decide +kernel
theorem dX9_init_78 : decode cX9_init 78 = .ok (.putfield 39, 3) := by decide +kernel
theorem dX9_init_81 : decode cX9_init 81 = .ok (.return_, 1) := by decide +kernel
theorem dX5_init_0 : decode cX5_init 0 = .ok (.aload_n 0, 1) := by decide +kernel
theorem dX5_init_1 : decode cX5_init 1 = .ok (.invokespecial 3, 3) := by decide +kernel
theorem dX5_init_4 : decode cX5_init 4 = .ok (.aload_n 0, 1) := by decide +kernel
theorem dX5_init_5 : decode cX5_init 5 = .ok (.new 9, 3) := by decide +kernel
theorem dX5_init_8 : decode cX5_init 8 = .ok (.dup, 1) := by decide +kernel
theorem dX5_init_9 : decode cX5_init 9 = .ok (.invokespecial 11, 3) := by decide +kernel
theorem dX5_init_12 : decode cX5_init 12 = .ok (.putfield 12, 3) := by decide +kernel
theorem dX5_init_15 : decode cX5_init 15 = .ok (.aload_n 0, 1) := by decide +kernel
theorem dX5_init_16 : decode cX5_init 16 = .ok (.new 18, 3) := by decide +kernel
theorem dX5_init_19 : decode cX5_init 19 = .ok (.dup, 1) := by decide +kernel
theorem dX5_init_20 : decode cX5_init 20 = .ok (.invokespecial 20, 3) := by decide +kernel
theorem dX5_init_23 : decode cX5_init 23 = .ok (.putfield 21, 3) := by decide +kernel
theorem dX5_init_26 : decode cX5_init 26 = .ok (.aload_n 0, 1) := by decide +kernel
theorem dX5_init_27 : decode cX5_init 27 = .ok (.bipush 12, 2) := by decide +kernel
theorem dX5_init_29 : decode cX5_init 29 = .ok (.newarray .long, 2) := by decide +kernel
theorem dX5_init_31 : decode cX5_init 31 = .ok (.putfield 25, 3) := by decide +kernel
theorem dX5_init_34 : decode cX5_init 34 = .ok (.aload_n 0, 1) := by decide +kernel
theorem dX5_init_35 : decode cX5_init 35 = .ok (.iconst 4, 1) := by decide +kernel
theorem dX5_init_36 : decode cX5_init 36 = .ok (.newarray .long, 2) := by decide +kernel
theorem dX5_init_38 : decode cX5_init 38 = .ok (.putfield 29, 3) := by decide +kernel
theorem dX5_init_41 : decode cX5_init 41 = .ok (.aload_n 0, 1) := by decide +kernel
theorem dX5_init_42 : decode cX5_init 42 = .ok (.new 32, 3) := by decide +kernel
theorem dX5_init_45 : decode cX5_init 45 = .ok (.dup, 1) := by decide +kernel
theorem dX5_init_46 : decode cX5_init 46 = .ok (.invokespecial 34, 3) := by decide +kernel
theorem dX5_init_49 : decode cX5_init 49 = .ok (.putfield 35, 3) := by decide +kernel
theorem dX5_init_52 : decode cX5_init 52 = .ok (.return_, 1) := by decide +kernel
theorem dJ7_fill_53178_0 : decode cJ7_fill_53178 0 = .ok (.iconst 0, 1) := by decide +kernel
theorem dJ7_fill_53178_1 : decode cJ7_fill_53178 1 = .ok (.istore_n 2, 1) := by decide +kernel
theorem dJ7_fill_53178_2 : decode cJ7_fill_53178 2 = .ok (.aload_n 0, 1) := by decide +kernel
theorem dJ7_fill_53178_3 : decode cJ7_fill_53178 3 = .ok (.arraylength, 1) := by decide +kernel
theorem dJ7_fill_53178_4 : decode cJ7_fill_53178 4 = .ok (.istore_n 3, 1) := by decide +kernel
theorem dJ7_fill_53178_5 : decode cJ7_fill_53178 5 = .ok (.iload_n 2, 1) := by decide +kernel
theorem dJ7_fill_53178_6 : decode cJ7_fill_53178 6 = .ok (.iload_n 3, 1) := by decide +kernel
theorem dJ7_fill_53178_7 : decode cJ7_fill_53178 7 = .ok (.if_icmp .ge 13, 3) := by decide +kernel
theorem dJ7_fill_53178_10 : decode cJ7_fill_53178 10 = .ok (.aload_n 0, 1) := by decide +kernel
theorem dJ7_fill_53178_11 : decode cJ7_fill_53178 11 = .ok (.iload_n 2, 1) := by decide +kernel
theorem dJ7_fill_53178_12 : decode cJ7_fill_53178 12 = .ok (.iload_n 1, 1) := by decide +kernel
theorem dJ7_fill_53178_13 : decode cJ7_fill_53178 13 = .ok (.iastore, 1) := by decide +kernel
theorem dJ7_fill_53178_14 : decode cJ7_fill_53178 14 = .ok (.iinc 2 1, 3) := by decide +kernel
theorem dJ7_fill_53178_17 : decode cJ7_fill_53178 17 = .ok (.goto (-12), 3) := by decide +kernel
theorem dJ7_fill_53178_20 : decode cJ7_fill_53178 20 = .ok (.return_, 1) := by decide +kernel
theorem dX7_init_0 : decode cX7_init 0 = .ok (.aload_n 0, 1) := by decide +kernel
theorem dX7_init_1 : decode cX7_init 1 = .ok (.invokespecial 3, 3) := by decide +kernel
theorem dX7_init_4 : decode cX7_init 4 = .ok (.aload_n 0, 1) := by decide +kernel
theorem dX7_init_5 : decode cX7_init 5 = .ok (.bipush 12, 2) := by decide +kernel
theorem dX7_init_7 : decode cX7_init 7 = .ok (.newarray .int, 2) := by decide +kernel
theorem dX7_init_9 : decode cX7_init 9 = .ok (.putfield 9, 3) := by decide +kernel
theorem dX7_init_12 : decode cX7_init 12 = .ok (.aload_n 0, 1) := by decide +kernel
theorem dX7_init_13 : decode cX7_init 13 = .ok (.bipush 12, 2) := by decide +kernel
theorem dX7_init_15 : decode cX7_init 15 = .ok (.newarray .int, 2) := by decide +kernel
theorem dX7_init_17 : decode cX7_init 17 = .ok (.putfield 15, 3) := by decide +kernel
theorem dX7_init_20 : decode cX7_init 20 = .ok (.aload_n 0, 1) := by decide +kernel
theorem dX7_init_21 : decode cX7_init 21 = .ok (.bipush 12, 2) := by decide +kernel
theorem dX7_init_23 : decode cX7_init 23 = .ok (.newarray .int, 2) := by decide +kernel
theorem dX7_init_25 : decode cX7_init 25 = .ok (.putfield 18, 3) := by decide +kernel
theorem dX7_init_28 : decode cX7_init 28 = .ok (.aload_n 0, 1) := by decide +kernel
theorem dX7_init_29 : decode cX7_init 29 = .ok (.bipush 30, 2) := by decide +kernel
theorem dX7_init_31 : decode cX7_init 31 = .ok (.newarray .int, 2) := by decide +kernel
theorem dX7_init_33 : decode cX7_init 33 = .ok (.putfield 21, 3) := by decide +kernel
theorem dX7_init_36 : decode cX7_init 36 = .ok (.aload_n 0, 1) := by decide +kernel
theorem dX7_init_37 : decode cX7_init 37 = .ok (.getfield 9, 3) := by decide +kernel
theorem dX7_init_40 : decode cX7_init 40 = .ok (.iconst (-1), 1) := by decide +kernel
theorem dX7_init_41 : decode cX7_init 41 = .ok (.invokestatic 24, 3) := by decide +kernel
theorem dX7_init_44 : decode cX7_init 44 = .ok (.return_, 1) := by decide +kernel
theorem dX4_init_0 : decode cX4_init 0 = .ok (.aload_n 0, 1) := by decide +kernel
theorem dX4_init_1 : decode cX4_init 1 = .ok (.invokespecial 3, 3) := by decide +kernel
theorem dX4_init_4 : decode cX4_init 4 = .ok (.aload_n 0, 1) := by decide +kernel
theorem dX4_init_5 : decode cX4_init 5 = .ok (.bipush 12, 2) := by decide +kernel
theorem dX4_init_7 : decode cX4_init 7 = .ok (.newarray .int, 2) := by decide +kernel
theorem dX4_init_9 : decode cX4_init 9 = .ok (.putfield 9, 3) := by decide +kernel
theorem dX4_init_12 : decode cX4_init 12 = .ok (.return_, 1) := by decide +kernel
theorem dX3_init_0 : decode cX3_init 0 = .ok (.aload_n 0, 1) := by decide +kernel
theorem dX3_init_1 : decode cX3_init 1 = .ok (.invokespecial 3, 3) := by decide +kernel
theorem dX3_init_4 : decode cX3_init 4 = .ok (.aload_n 0, 1) := by decide +kernel
theorem dX3_init_5 : decode cX3_init 5 = .ok (.bipush 12, 2) := by decide +kernel
theorem dX3_init_7 : decode cX3_init 7 = .ok (.newarray .int, 2) := by decide +kernel
theorem dX3_init_9 : decode cX3_init 9 = .ok (.putfield 9, 3) := by decide +kernel
theorem dX3_init_12 : decode cX3_init 12 = .ok (.aload_n 0, 1) := by decide +kernel
theorem dX3_init_13 : decode cX3_init 13 = .ok (.bipush 12, 2) := by decide +kernel
theorem dX3_init_15 : decode cX3_init 15 = .ok (.newarray .int, 2) := by decide +kernel
theorem dX3_init_17 : decode cX3_init 17 = .ok (.putfield 15, 3) := by decide +kernel
theorem dX3_init_20 : decode cX3_init 20 = .ok (.aload_n 0, 1) := by decide +kernel
theorem dX3_init_21 : decode cX3_init 21 = .ok (.bipush 12, 2) := by decide +kernel
theorem dX3_init_23 : decode cX3_init 23 = .ok (.newarray .int, 2) := by decide +kernel
theorem dX3_init_25 : decode cX3_init 25 = .ok (.putfield 18, 3) := by decide +kernel
theorem dX3_init_28 : decode cX3_init 28 = .ok (.aload_n 0, 1) := by decide +kernel
theorem dX3_init_29 : decode cX3_init 29 = .ok (.bipush 12, 2) := by decide +kernel
theorem dX3_init_31 : decode cX3_init 31 = .ok (.newarray .int, 2) := by decide +kernel
theorem dX3_init_33 : decode cX3_init 33 = .ok (.putfield 21, 3) := by decide +kernel
theorem dX3_init_36 : decode cX3_init 36 = .ok (.return_, 1) := by decide +kernel
theorem dX0_init_0 : decode cX0_init 0 = .ok (.aload_n 0, 1) := by decide +kernel
theorem dX0_init_1 : decode cX0_init 1 = .ok (.invokespecial 3, 3) := by decide +kernel
theorem dX0_init_4 : decode cX0_init 4 = .ok (.aload_n 0, 1) := by decide +kernel
theorem dX0_init_5 : decode cX0_init 5 = .ok (.iconst 0, 1) := by decide +kernel
theorem dX0_init_6 : decode cX0_init 6 = .ok (.newarray .int, 2) := by decide +kernel
theorem dX0_init_8 : decode cX0_init 8 = .ok (.putfield 9, 3) := by decide +kernel
theorem dX0_init_11 : decode cX0_init 11 = .ok (.aload_n 0, 1) := by decide +kernel
theorem dX0_init_12 : decode cX0_init 12 = .ok (.iconst 0, 1) := by decide +kernel
theorem dX0_init_13 : decode cX0_init 13 = .ok (.newarray .int, 2) := by decide +kernel
theorem dX0_init_15 : decode cX0_init 15 = .ok (.putfield 15, 3) := by decide +kernel
theorem dX0_init_18 : decode cX0_init 18 = .ok (.aload_n 0, 1) := by decide +kernel
theorem dX0_init_19 : decode cX0_init 19 = .ok (.iconst 0, 1) := by decide +kernel
theorem dX0_init_20 : decode cX0_init 20 = .ok (.newarray .int, 2) := by decide +kernel
theorem dX0_init_22 : decode cX0_init 22 = .ok (.putfield 18, 3) := by decide +kernel
theorem dX0_init_25 : decode cX0_init 25 = .ok (.return_, 1) := by decide +kernel
theorem dX6_init_0 : decode cX6_init 0 = .ok (.aload_n 0, 1) := by decide +kernel
theorem dX6_init_1 : decode cX6_init 1 = .ok (.invokespecial 3, 3) := by decide +kernel
theorem dX6_init_4 : decode cX6_init 4 = .ok (.aload_n 0, 1) := by decide +kernel
theorem dX6_init_5 : decode cX6_init 5 = .ok (.bipush 7, 2) := by decide +kernel
theorem dX6_init_7 : decode cX6_init 7 = .ok (.newarray .int, 2) := by decide +kernel
theorem dX6_init_9 : decode cX6_init 9 = .ok (.putfield 11, 3) := by decide +kernel
theorem dX6_init_12 : decode cX6_init 12 = .ok (.aload_n 0, 1) := by decide +kernel
theorem dX6_init_13 : decode cX6_init 13 = .ok (.bipush 7, 2) := by decide +kernel
theorem dX6_init_15 : decode cX6_init 15 = .ok (.newarray .int, 2) := by decide +kernel
theorem dX6_init_17 : decode cX6_init 17 = .ok (.putfield 15, 3) := by decide +kernel
theorem dX6_init_20 : decode cX6_init 20 = .ok (.aload_n 0, 1) := by decide +kernel
theorem dX6_init_21 : decode cX6_init 21 = .ok (.bipush 12, 2) := by decide +kernel
theorem dX6_init_23 : decode cX6_init 23 = .ok (.newarray .int, 2) := by decide +kernel
theorem dX6_init_25 : decode cX6_init 25 = .ok (.putfield 18, 3) := by decide +kernel
theorem dX6_init_28 : decode cX6_init 28 = .ok (.return_, 1) := by decide +kernel
theorem dX2_init_0 : decode cX2_init 0 = .ok (.aload_n 0, 1) := by decide +kernel
theorem dX2_init_1 : decode cX2_init 1 = .ok (.invokespecial 1, 3) := by decide +kernel
theorem dX2_init_4 : decode cX2_init 4 = .ok (.aload_n 0, 1) := by decide +kernel
theorem dX2_init_5 : decode cX2_init 5 = .ok (.iconst 4, 1) := by decide +kernel
theorem dX2_init_6 : decode cX2_init 6 = .ok (.newarray .long, 2) := by decide +kernel
theorem dX2_init_8 : decode cX2_init 8 = .ok (.putfield 9, 3) := by decide +kernel
theorem dX2_init_11 : decode cX2_init 11 = .ok (.return_, 1) := by decide +kernel
theorem ndX0 : ∀ j, j < 5 → defaultValue (tyX0 j) = vp_V [.int 0, .int 0, .null, .null, .null] j := by decide +kernel
theorem ndX1 : ∀ j, j < 5 → defaultValue (tyX1 j) = vp_V [.int 0, .int 0, .null, .null, .null] j := by decide +kernel
theorem ndX2 : ∀ j, j < 1 → defaultValue (tyX2 j) = vp_V [.null] j := by decide +kernel
theorem ndX3 : ∀ j, j < 8 → defaultValue (tyX3 j) = vp_V [.int 0, .null, .null, .int 0, .int 0, .int 0, .null, .null] j := by decide +kernel
theorem ndX4 : ∀ j, j < 2 → defaultValue (tyX4 j) = vp_V [.null, .int 0] j := by decide +kernel
theorem ndX5 : ∀ j, j < 7 → defaultValue (tyX5 j) = vp_V [.null, .null, .null, .null, .null, .int 0, .int 0] j := by decide +kernel
theorem ndX6 : ∀ j, j < 8 → defaultValue (tyX6 j) = vp_V [.null, .int 0, .int 0, .int 0, .int 0, .int 0, .null, .null] j := by decide +kernel
theorem ndX7 : ∀ j, j < 7 → defaultValue (tyX7 j) = vp_V [.null, .null, .null, .null, .int 0, .int 0, .int 0] j := by decide +kernel
theorem ndX8 : ∀ j, j < 6 → defaultValue (tyX8 j) = vp_V [.null, .int 0, .int 0, .int 0, .int 0, .int 0] j := by decide +kernel
theorem ndX9 : ∀ j, j < 15 → defaultValue (tyX9 j) = vp_V [.int 0, .int 0, .int 0, .null, .null, .null, .null, .null, .null, .int 0, .int 0, .null, .null, .null, .null] j := by decide +kernel
theorem ndX10 : ∀ j, j < 10 → defaultValue (tyX10 j) = vp_V [.null, .null, .null, .null, .null, .null, .null, .null, .null, .null] j := by decide +kernel
theorem ndX11 : ∀ j, j < 43 → defaultValue (tyX11 j) = vp_V [.int 0, .null, .int 0, .int 0, .null, .null, .null, .int 0, .int 0, .null, .null, .null, .null, .int 0, .null, .null, .int 0, .null, .null, .null, .null, .null, .int 0, .int 0, .int 0, .null, .int 0, .null, .null, .null, .null, .null, .null, .int 0, .int 0, .int 0, .null, .null, .int 0, .int 0, .int 0, .int 0, .null] j := by decide +kernel
set_option maxHeartbeats 4000000 in
set_option maxRecDepth 100000 in
theorem c_X8_init (l : Launch) (D : va_G) (cyC cyI cyJ cyZ cyO : ClassId) (h0 : Nat) : KK l D (TY cyC cyI cyJ cyZ cyO) yX8_init cX8_init 1 none ({ frames := 1, cells := 1, slots := 1000, locals := 12 } : Room) 1 1000 [.ref h0] [(h0, .inr (8, [.null, .int 0, .int 0, .int 0, .int 0, .int 0]))] (fun u => none) (fun u => True) (fun u => [(h0, .inr (8, [.ref (u.1 0), .int 0, .int 0, .int 0, .int 0, .int 0])), ((u.1 0), .inl (cyC, 1000, .inl (fun _ => 0)))]) := by
  refine KK.of (lv0 := [(0, .ref h0)]) (by decide) rfl (Nat.le_of_ble_eq_true rfl) ?_
  intro p e s m args below meth c A C hr hk hin
  refine j_aload_n (pc := 0) C dX8_init_0 rfl 0 rfl ?_
  refine j_oinit (pc := 1) C wd_0 wd_1 wd_2 dX8_init_1 (by decide) (Nat.le_of_ble_eq_true rfl) ?_
  refine j_aload_n (pc := 4) C dX8_init_4 rfl 0 rfl ?_
  refine j_sipush (pc := 5) (v := 1000) C dX8_init_5 (by decide) ?_
  refine j_newa (pc := 8) (at1 := .char) (ty := .char) (N := 1000) (a0 := (1000, .inl (fun _ => 0))) C wd_3 rfl 0 rfl (fun _ _ h => h) (fun _ => rfl) (by decide) (by decide) (by decide) (by decide) (by decide) dX8_init_8 (fun q_1 => ?_)
  refine j_widen (k := 1) (n := 1000) (by decide) (by decide) ?_
  refine j_putF (pc := 10) (ci := 8) (v := .ref q_1) (ws' := [(h0, .inr (8, [.ref q_1, .int 0, .int 0, .int 0, .int 0, .int 0])), (q_1, .inl (cyC, 1000, .inl (fun _ => 0)))]) C inw_8 0 rfl rfl 0 (by decide) wd_4 rfl tyX8_ok nmX8 rfl hin rfl (tyX8_ok 0 (by decide)) rfl rfl (Nat.le_of_ble_eq_true rfl) dX8_init_10 rfl ?_
  exact j_vret (pc := 13) C hr hk (fun i => [q_1].getD i 0, fun _ => 0, fun _ _ => 0) rfl trivial [0, 1] (by decide) rfl (by decide) (by decide) dX8_init_13
set_option maxHeartbeats 4000000 in
set_option maxRecDepth 100000 in
theorem c_X1_init (l : Launch) (D : va_G) (cyC cyI cyJ cyZ cyO : ClassId) (h0 : Nat) : KK l D (TY cyC cyI cyJ cyZ cyO) yX1_init cX1_init 1 none ({ frames := 1, cells := 3, slots := 1036, locals := 12 } : Room) 3 1036 [.ref h0] [(h0, .inr (1, [.int 0, .int 0, .null, .null, .null]))] (fun u => none) (fun u => True) (fun u => [(h0, .inr (1, [.int 0, .int 0, .ref (u.1 0), .ref (u.1 1), .ref (u.1 2)])), ((u.1 0), .inl (cyI, 1000, .inl (fun _ => 0))), ((u.1 1), .inl (cyI, 4, .inl (fun _ => 0))), ((u.1 2), .inl (cyI, 32, .inl (fun _ => 0)))]) := by
  refine KK.of (lv0 := [(0, .ref h0)]) (by decide) rfl (Nat.le_of_ble_eq_true rfl) ?_
  intro p e s m args below meth c A C hr hk hin
  refine j_aload_n (pc := 0) C dX1_init_0 rfl 0 rfl ?_
  refine j_oinit (pc := 1) C wd_5 wd_1 wd_2 dX1_init_1 (by decide) (Nat.le_of_ble_eq_true rfl) ?_
  refine j_aload_n (pc := 4) C dX1_init_4 rfl 0 rfl ?_
  refine j_sipush (pc := 5) (v := 1000) C dX1_init_5 (by decide) ?_
  refine j_newa (pc := 8) (at1 := .int) (ty := .int) (N := 1000) (a0 := (1000, .inl (fun _ => 0))) C wd_6 rfl 1 rfl (fun _ _ h => h) (fun _ => rfl) (by decide) (by decide) (by decide) (by decide) (by decide) dX1_init_8 (fun q_1 => ?_)
  refine j_widen (k := 1) (n := 1000) (by decide) (by decide) ?_
  refine j_putF (pc := 10) (ci := 1) (v := .ref q_1) (ws' := [(h0, .inr (1, [.int 0, .int 0, .ref q_1, .null, .null])), (q_1, .inl (cyI, 1000, .inl (fun _ => 0)))]) C inw_1 0 rfl rfl 2 (by decide) wd_7 rfl tyX1_ok nmX1 rfl hin rfl (tyX1_ok 2 (by decide)) rfl rfl (Nat.le_of_ble_eq_true rfl) dX1_init_10 rfl ?_
  refine j_aload_n (pc := 13) C dX1_init_13 rfl 0 rfl ?_
  refine j_iconst (pc := 14) (v := 4) C dX1_init_14 (by decide) ?_
  refine j_newa (pc := 15) (at1 := .int) (ty := .int) (N := 4) (a0 := (4, .inl (fun _ => 0))) C wd_6 rfl 1 rfl (fun _ _ h => h) (fun _ => rfl) (by decide) (by decide) (by decide) (by decide) (by decide) dX1_init_15 (fun q_2 => ?_)
  refine j_widen (k := 2) (n := 1004) (by decide) (by decide) ?_
  refine j_putF (pc := 17) (ci := 1) (v := .ref q_2) (ws' := [(h0, .inr (1, [.int 0, .int 0, .ref q_1, .ref q_2, .null])), (q_1, .inl (cyI, 1000, .inl (fun _ => 0))), (q_2, .inl (cyI, 4, .inl (fun _ => 0)))]) C inw_1 0 rfl rfl 3 (by decide) wd_8 rfl tyX1_ok nmX1 rfl hin rfl (tyX1_ok 3 (by decide)) rfl rfl (Nat.le_of_ble_eq_true rfl) dX1_init_17 rfl ?_
  refine j_aload_n (pc := 20) C dX1_init_20 rfl 0 rfl ?_
  refine j_bipush (pc := 21) (v := 32) C dX1_init_21 (by decide) ?_
  refine j_newa (pc := 23) (at1 := .int) (ty := .int) (N := 32) (a0 := (32, .inl (fun _ => 0))) C wd_6 rfl 1 rfl (fun _ _ h => h) (fun _ => rfl) (by decide) (by decide) (by decide) (by decide) (by decide) dX1_init_23 (fun q_3 => ?_)
  refine j_widen (k := 3) (n := 1036) (by decide) (by decide) ?_
  refine j_putF (pc := 25) (ci := 1) (v := .ref q_3) (ws' := [(h0, .inr (1, [.int 0, .int 0, .ref q_1, .ref q_2, .ref q_3])), (q_1, .inl (cyI, 1000, .inl (fun _ => 0))), (q_2, .inl (cyI, 4, .inl (fun _ => 0))), (q_3, .inl (cyI, 32, .inl (fun _ => 0)))]) C inw_1 0 rfl rfl 4 (by decide) wd_9 rfl tyX1_ok nmX1 rfl hin rfl (tyX1_ok 4 (by decide)) rfl rfl (Nat.le_of_ble_eq_true rfl) dX1_init_25 rfl ?_
  exact j_vret (pc := 28) C hr hk (fun i => [q_1, q_2, q_3].getD i 0, fun _ => 0, fun _ _ => 0) rfl trivial [0, 1, 2, 3] (by decide) rfl (by decide) (by decide) dX1_init_28
set_option maxHeartbeats 4000000 in
set_option maxRecDepth 100000 in
theorem c_X9_init (l : Launch) (D : va_G) (cyC cyI cyJ cyZ cyO : ClassId) (h0 : Nat) : KK l D (TY cyC cyI cyJ cyZ cyO) yX9_init cX9_init 1 none ({ frames := 1, cells := 10, slots := 96, locals := 12 } : Room) 10 96 [.ref h0] [(h0, .inr (9, [.int 0, .int 0, .int 0, .null, .null, .null, .null, .null, .null, .int 0, .int 0, .null, .null, .null, .null]))] (fun u => none) (fun u => True) (fun u => [(h0, .inr (9, [.int 0, .int 0, .int 0, .ref (u.1 0), .ref (u.1 1), .ref (u.1 2), .ref (u.1 3), .ref (u.1 4), .ref (u.1 5), .int 0, .int 0, .ref (u.1 6), .ref (u.1 7), .ref (u.1 8), .ref (u.1 9)])), ((u.1 0), .inl (cyI, 12, .inl (fun _ => 0))), ((u.1 1), .inl (cyI, 12, .inl (fun _ => 0))), ((u.1 2), .inl (cyI, 12, .inl (fun _ => 0))), ((u.1 3), .inl (cyI, 12, .inl (fun _ => 0))), ((u.1 4), .inl (cyI, 12, .inl (fun _ => 0))), ((u.1 5), .inl (cyI, 12, .inl (fun _ => 0))), ((u.1 6), .inl (cyI, 12, .inl (fun _ => 0))), ((u.1 7), .inl (cyI, 4, .inl (fun _ => 0))), ((u.1 8), .inl (cyI, 4, .inl (fun _ => 0))), ((u.1 9), .inl (cyI, 4, .inl (fun _ => 0)))]) := by
  refine KK.of (lv0 := [(0, .ref h0)]) (by decide) rfl (Nat.le_of_ble_eq_true rfl) ?_
  intro p e s m args below meth c A C hr hk hin
  refine j_aload_n (pc := 0) C dX9_init_0 rfl 0 rfl ?_
  refine j_oinit (pc := 1) C wd_10 wd_1 wd_2 dX9_init_1 (by decide) (Nat.le_of_ble_eq_true rfl) ?_
  refine j_aload_n (pc := 4) C dX9_init_4 rfl 0 rfl ?_
  refine j_bipush (pc := 5) (v := 12) C dX9_init_5 (by decide) ?_
  refine j_newa (pc := 7) (at1 := .int) (ty := .int) (N := 12) (a0 := (12, .inl (fun _ => 0))) C wd_6 rfl 1 rfl (fun _ _ h => h) (fun _ => rfl) (by decide) (by decide) (by decide) (by decide) (by decide) dX9_init_7 (fun q_1 => ?_)
  refine j_widen (k := 1) (n := 12) (by decide) (by decide) ?_
  refine j_putF (pc := 9) (ci := 9) (v := .ref q_1) (ws' := [(h0, .inr (9, [.int 0, .int 0, .int 0, .ref q_1, .null, .null, .null, .null, .null, .int 0, .int 0, .null, .null, .null, .null])), (q_1, .inl (cyI, 12, .inl (fun _ => 0)))]) C inw_9 0 rfl rfl 3 (by decide) wd_11 rfl tyX9_ok nmX9 rfl hin rfl (tyX9_ok 3 (by decide)) rfl rfl (Nat.le_of_ble_eq_true rfl) dX9_init_9 rfl ?_
  refine j_aload_n (pc := 12) C dX9_init_12 rfl 0 rfl ?_
  refine j_bipush (pc := 13) (v := 12) C dX9_init_13 (by decide) ?_
  refine j_newa (pc := 15) (at1 := .int) (ty := .int) (N := 12) (a0 := (12, .inl (fun _ => 0))) C wd_6 rfl 1 rfl (fun _ _ h => h) (fun _ => rfl) (by decide) (by decide) (by decide) (by decide) (by decide) dX9_init_15 (fun q_2 => ?_)
  refine j_widen (k := 2) (n := 24) (by decide) (by decide) ?_
  refine j_putF (pc := 17) (ci := 9) (v := .ref q_2) (ws' := [(h0, .inr (9, [.int 0, .int 0, .int 0, .ref q_1, .ref q_2, .null, .null, .null, .null, .int 0, .int 0, .null, .null, .null, .null])), (q_1, .inl (cyI, 12, .inl (fun _ => 0))), (q_2, .inl (cyI, 12, .inl (fun _ => 0)))]) C inw_9 0 rfl rfl 4 (by decide) wd_12 rfl tyX9_ok nmX9 rfl hin rfl (tyX9_ok 4 (by decide)) rfl rfl (Nat.le_of_ble_eq_true rfl) dX9_init_17 rfl ?_
  refine j_aload_n (pc := 20) C dX9_init_20 rfl 0 rfl ?_
  refine j_bipush (pc := 21) (v := 12) C dX9_init_21 (by decide) ?_
  refine j_newa (pc := 23) (at1 := .int) (ty := .int) (N := 12) (a0 := (12, .inl (fun _ => 0))) C wd_6 rfl 1 rfl (fun _ _ h => h) (fun _ => rfl) (by decide) (by decide) (by decide) (by decide) (by decide) dX9_init_23 (fun q_3 => ?_)
  refine j_widen (k := 3) (n := 36) (by decide) (by decide) ?_
  refine j_putF (pc := 25) (ci := 9) (v := .ref q_3) (ws' := [(h0, .inr (9, [.int 0, .int 0, .int 0, .ref q_1, .ref q_2, .ref q_3, .null, .null, .null, .int 0, .int 0, .null, .null, .null, .null])), (q_1, .inl (cyI, 12, .inl (fun _ => 0))), (q_2, .inl (cyI, 12, .inl (fun _ => 0))), (q_3, .inl (cyI, 12, .inl (fun _ => 0)))]) C inw_9 0 rfl rfl 5 (by decide) wd_13 rfl tyX9_ok nmX9 rfl hin rfl (tyX9_ok 5 (by decide)) rfl rfl (Nat.le_of_ble_eq_true rfl) dX9_init_25 rfl ?_
  refine j_aload_n (pc := 28) C dX9_init_28 rfl 0 rfl ?_
  refine j_bipush (pc := 29) (v := 12) C dX9_init_29 (by decide) ?_
  refine j_newa (pc := 31) (at1 := .int) (ty := .int) (N := 12) (a0 := (12, .inl (fun _ => 0))) C wd_6 rfl 1 rfl (fun _ _ h => h) (fun _ => rfl) (by decide) (by decide) (by decide) (by decide) (by decide) dX9_init_31 (fun q_4 => ?_)
  refine j_widen (k := 4) (n := 48) (by decide) (by decide) ?_
  refine j_putF (pc := 33) (ci := 9) (v := .ref q_4) (ws' := [(h0, .inr (9, [.int 0, .int 0, .int 0, .ref q_1, .ref q_2, .ref q_3, .ref q_4, .null, .null, .int 0, .int 0, .null, .null, .null, .null])), (q_1, .inl (cyI, 12, .inl (fun _ => 0))), (q_2, .inl (cyI, 12, .inl (fun _ => 0))), (q_3, .inl (cyI, 12, .inl (fun _ => 0))), (q_4, .inl (cyI, 12, .inl (fun _ => 0)))]) C inw_9 0 rfl rfl 6 (by decide) wd_14 rfl tyX9_ok nmX9 rfl hin rfl (tyX9_ok 6 (by decide)) rfl rfl (Nat.le_of_ble_eq_true rfl) dX9_init_33 rfl ?_
  refine j_aload_n (pc := 36) C dX9_init_36 rfl 0 rfl ?_
  refine j_bipush (pc := 37) (v := 12) C dX9_init_37 (by decide) ?_
  refine j_newa (pc := 39) (at1 := .int) (ty := .int) (N := 12) (a0 := (12, .inl (fun _ => 0))) C wd_6 rfl 1 rfl (fun _ _ h => h) (fun _ => rfl) (by decide) (by decide) (by decide) (by decide) (by decide) dX9_init_39 (fun q_5 => ?_)
  refine j_widen (k := 5) (n := 60) (by decide) (by decide) ?_
  refine j_putF (pc := 41) (ci := 9) (v := .ref q_5) (ws' := [(h0, .inr (9, [.int 0, .int 0, .int 0, .ref q_1, .ref q_2, .ref q_3, .ref q_4, .ref q_5, .null, .int 0, .int 0, .null, .null, .null, .null])), (q_1, .inl (cyI, 12, .inl (fun _ => 0))), (q_2, .inl (cyI, 12, .inl (fun _ => 0))), (q_3, .inl (cyI, 12, .inl (fun _ => 0))), (q_4, .inl (cyI, 12, .inl (fun _ => 0))), (q_5, .inl (cyI, 12, .inl (fun _ => 0)))]) C inw_9 0 rfl rfl 7 (by decide) wd_15 rfl tyX9_ok nmX9 rfl hin rfl (tyX9_ok 7 (by decide)) rfl rfl (Nat.le_of_ble_eq_true rfl) dX9_init_41 rfl ?_
  refine j_aload_n (pc := 44) C dX9_init_44 rfl 0 rfl ?_
  refine j_bipush (pc := 45) (v := 12) C dX9_init_45 (by decide) ?_
  refine j_newa (pc := 47) (at1 := .int) (ty := .int) (N := 12) (a0 := (12, .inl (fun _ => 0))) C wd_6 rfl 1 rfl (fun _ _ h => h) (fun _ => rfl) (by decide) (by decide) (by decide) (by decide) (by decide) dX9_init_47 (fun q_6 => ?_)
  refine j_widen (k := 6) (n := 72) (by decide) (by decide) ?_
  refine j_putF (pc := 49) (ci := 9) (v := .ref q_6) (ws' := [(h0, .inr (9, [.int 0, .int 0, .int 0, .ref q_1, .ref q_2, .ref q_3, .ref q_4, .ref q_5, .ref q_6, .int 0, .int 0, .null, .null, .null, .null])), (q_1, .inl (cyI, 12, .inl (fun _ => 0))), (q_2, .inl (cyI, 12, .inl (fun _ => 0))), (q_3, .inl (cyI, 12, .inl (fun _ => 0))), (q_4, .inl (cyI, 12, .inl (fun _ => 0))), (q_5, .inl (cyI, 12, .inl (fun _ => 0))), (q_6, .inl (cyI, 12, .inl (fun _ => 0)))]) C inw_9 0 rfl rfl 8 (by decide) wd_16 rfl tyX9_ok nmX9 rfl hin rfl (tyX9_ok 8 (by decide)) rfl rfl (Nat.le_of_ble_eq_true rfl) dX9_init_49 rfl ?_
  refine j_aload_n (pc := 52) C dX9_init_52 rfl 0 rfl ?_
  refine j_bipush (pc := 53) (v := 12) C dX9_init_53 (by decide) ?_
  refine j_newa (pc := 55) (at1 := .int) (ty := .int) (N := 12) (a0 := (12, .inl (fun _ => 0))) C wd_6 rfl 1 rfl (fun _ _ h => h) (fun _ => rfl) (by decide) (by decide) (by decide) (by decide) (by decide) dX9_init_55 (fun q_7 => ?_)
  refine j_widen (k := 7) (n := 84) (by decide) (by decide) ?_
  refine j_putF (pc := 57) (ci := 9) (v := .ref q_7) (ws' := [(h0, .inr (9, [.int 0, .int 0, .int 0, .ref q_1, .ref q_2, .ref q_3, .ref q_4, .ref q_5, .ref q_6, .int 0, .int 0, .ref q_7, .null, .null, .null])), (q_1, .inl (cyI, 12, .inl (fun _ => 0))), (q_2, .inl (cyI, 12, .inl (fun _ => 0))), (q_3, .inl (cyI, 12, .inl (fun _ => 0))), (q_4, .inl (cyI, 12, .inl (fun _ => 0))), (q_5, .inl (cyI, 12, .inl (fun _ => 0))), (q_6, .inl (cyI, 12, .inl (fun _ => 0))), (q_7, .inl (cyI, 12, .inl (fun _ => 0)))]) C inw_9 0 rfl rfl 11 (by decide) wd_17 rfl tyX9_ok nmX9 rfl hin rfl (tyX9_ok 11 (by decide)) rfl rfl (Nat.le_of_ble_eq_true rfl) dX9_init_57 rfl ?_
  refine j_aload_n (pc := 60) C dX9_init_60 rfl 0 rfl ?_
  refine j_iconst (pc := 61) (v := 4) C dX9_init_61 (by decide) ?_
  refine j_newa (pc := 62) (at1 := .int) (ty := .int) (N := 4) (a0 := (4, .inl (fun _ => 0))) C wd_6 rfl 1 rfl (fun _ _ h => h) (fun _ => rfl) (by decide) (by decide) (by decide) (by decide) (by decide) dX9_init_62 (fun q_8 => ?_)
  refine j_widen (k := 8) (n := 88) (by decide) (by decide) ?_
  refine j_putF (pc := 64) (ci := 9) (v := .ref q_8) (ws' := [(h0, .inr (9, [.int 0, .int 0, .int 0, .ref q_1, .ref q_2, .ref q_3, .ref q_4, .ref q_5, .ref q_6, .int 0, .int 0, .ref q_7, .ref q_8, .null, .null])), (q_1, .inl (cyI, 12, .inl (fun _ => 0))), (q_2, .inl (cyI, 12, .inl (fun _ => 0))), (q_3, .inl (cyI, 12, .inl (fun _ => 0))), (q_4, .inl (cyI, 12, .inl (fun _ => 0))), (q_5, .inl (cyI, 12, .inl (fun _ => 0))), (q_6, .inl (cyI, 12, .inl (fun _ => 0))), (q_7, .inl (cyI, 12, .inl (fun _ => 0))), (q_8, .inl (cyI, 4, .inl (fun _ => 0)))]) C inw_9 0 rfl rfl 12 (by decide) wd_18 rfl tyX9_ok nmX9 rfl hin rfl (tyX9_ok 12 (by decide)) rfl rfl (Nat.le_of_ble_eq_true rfl) dX9_init_64 rfl ?_
  refine j_aload_n (pc := 67) C dX9_init_67 rfl 0 rfl ?_
  refine j_iconst (pc := 68) (v := 4) C dX9_init_68 (by decide) ?_
  refine j_newa (pc := 69) (at1 := .int) (ty := .int) (N := 4) (a0 := (4, .inl (fun _ => 0))) C wd_6 rfl 1 rfl (fun _ _ h => h) (fun _ => rfl) (by decide) (by decide) (by decide) (by decide) (by decide) dX9_init_69 (fun q_9 => ?_)
  refine j_widen (k := 9) (n := 92) (by decide) (by decide) ?_
  refine j_putF (pc := 71) (ci := 9) (v := .ref q_9) (ws' := [(h0, .inr (9, [.int 0, .int 0, .int 0, .ref q_1, .ref q_2, .ref q_3, .ref q_4, .ref q_5, .ref q_6, .int 0, .int 0, .ref q_7, .ref q_8, .ref q_9, .null])), (q_1, .inl (cyI, 12, .inl (fun _ => 0))), (q_2, .inl (cyI, 12, .inl (fun _ => 0))), (q_3, .inl (cyI, 12, .inl (fun _ => 0))), (q_4, .inl (cyI, 12, .inl (fun _ => 0))), (q_5, .inl (cyI, 12, .inl (fun _ => 0))), (q_6, .inl (cyI, 12, .inl (fun _ => 0))), (q_7, .inl (cyI, 12, .inl (fun _ => 0))), (q_8, .inl (cyI, 4, .inl (fun _ => 0))), (q_9, .inl (cyI, 4, .inl (fun _ => 0)))]) C inw_9 0 rfl rfl 13 (by decide) wd_19 rfl tyX9_ok nmX9 rfl hin rfl (tyX9_ok 13 (by decide)) rfl rfl (Nat.le_of_ble_eq_true rfl) dX9_init_71 rfl ?_
  refine j_aload_n (pc := 74) C dX9_init_74 rfl 0 rfl ?_
  refine j_iconst (pc := 75) (v := 4) C dX9_init_75 (by decide) ?_
  refine j_newa (pc := 76) (at1 := .int) (ty := .int) (N := 4) (a0 := (4, .inl (fun _ => 0))) C wd_6 rfl 1 rfl (fun _ _ h => h) (fun _ => rfl) (by decide) (by decide) (by decide) (by decide) (by decide) dX9_init_76 (fun q_10 => ?_)
  refine j_widen (k := 10) (n := 96) (by decide) (by decide) ?_
  refine j_putF (pc := 78) (ci := 9) (v := .ref q_10) (ws' := [(h0, .inr (9, [.int 0, .int 0, .int 0, .ref q_1, .ref q_2, .ref q_3, .ref q_4, .ref q_5, .ref q_6, .int 0, .int 0, .ref q_7, .ref q_8, .ref q_9, .ref q_10])), (q_1, .inl (cyI, 12, .inl (fun _ => 0))), (q_2, .inl (cyI, 12, .inl (fun _ => 0))), (q_3, .inl (cyI, 12, .inl (fun _ => 0))), (q_4, .inl (cyI, 12, .inl (fun _ => 0))), (q_5, .inl (cyI, 12, .inl (fun _ => 0))), (q_6, .inl (cyI, 12, .inl (fun _ => 0))), (q_7, .inl (cyI, 12, .inl (fun _ => 0))), (q_8, .inl (cyI, 4, .inl (fun _ => 0))), (q_9, .inl (cyI, 4, .inl (fun _ => 0))), (q_10, .inl (cyI, 4, .inl (fun _ => 0)))]) C inw_9 0 rfl rfl 14 (by decide) wd_20 rfl tyX9_ok nmX9 rfl hin rfl (tyX9_ok 14 (by decide)) rfl rfl (Nat.le_of_ble_eq_true rfl) dX9_init_78 rfl ?_
  exact j_vret (pc := 81) C hr hk (fun i => [q_1, q_2, q_3, q_4, q_5, q_6, q_7, q_8, q_9, q_10].getD i 0, fun _ => 0, fun _ _ => 0) rfl trivial [0, 1, 2, 3, 4, 5, 6, 7, 8, 9, 10] (by decide) rfl (by decide) (by decide) dX9_init_81
set_option maxHeartbeats 4000000 in
set_option maxRecDepth 100000 in
theorem c_X5_init (l : Launch) (D : va_G) (cyC cyI cyJ cyZ cyO : ClassId) (h0 : Nat) : KK l D (TY cyC cyI cyJ cyZ cyO) yX5_init cX5_init 1 none ({ frames := 2, cells := 19, slots := 2174, locals := 32 } : Room) 19 2174 [.ref h0] [(h0, .inr (5, [.null, .null, .null, .null, .null, .int 0, .int 0]))] (fun u => none) (fun u => True) (fun u => [(h0, .inr (5, [.ref (u.1 0), .ref (u.1 2), .ref (u.1 6), .ref (u.1 7), .ref (u.1 8), .int 0, .int 0])), ((u.1 0), .inr (8, [.ref (u.1 1), .int 0, .int 0, .int 0, .int 0, .int 0])), ((u.1 1), .inl (cyC, 1000, .inl (fun _ => 0))), ((u.1 2), .inr (1, [.int 0, .int 0, .ref (u.1 3), .ref (u.1 4), .ref (u.1 5)])), ((u.1 3), .inl (cyI, 1000, .inl (fun _ => 0))), ((u.1 4), .inl (cyI, 4, .inl (fun _ => 0))), ((u.1 5), .inl (cyI, 32, .inl (fun _ => 0))), ((u.1 6), .inl (cyJ, 12, .inr (.inl (fun _ => 0)))), ((u.1 7), .inl (cyJ, 4, .inr (.inl (fun _ => 0)))), ((u.1 8), .inr (9, [.int 0, .int 0, .int 0, .ref (u.1 9), .ref (u.1 10), .ref (u.1 11), .ref (u.1 12), .ref (u.1 13), .ref (u.1 14), .int 0, .int 0, .ref (u.1 15), .ref (u.1 16), .ref (u.1 17), .ref (u.1 18)])), ((u.1 9), .inl (cyI, 12, .inl (fun _ => 0))), ((u.1 10), .inl (cyI, 12, .inl (fun _ => 0))), ((u.1 11), .inl (cyI, 12, .inl (fun _ => 0))), ((u.1 12), .inl (cyI, 12, .inl (fun _ => 0))), ((u.1 13), .inl (cyI, 12, .inl (fun _ => 0))), ((u.1 14), .inl (cyI, 12, .inl (fun _ => 0))), ((u.1 15), .inl (cyI, 12, .inl (fun _ => 0))), ((u.1 16), .inl (cyI, 4, .inl (fun _ => 0))), ((u.1 17), .inl (cyI, 4, .inl (fun _ => 0))), ((u.1 18), .inl (cyI, 4, .inl (fun _ => 0)))]) := by
  refine KK.of (lv0 := [(0, .ref h0)]) (by decide) rfl (Nat.le_of_ble_eq_true rfl) ?_
  intro p e s m args below meth c A C hr hk hin
  refine j_aload_n (pc := 0) C dX5_init_0 rfl 0 rfl ?_
  refine j_oinit (pc := 1) C wd_21 wd_1 wd_2 dX5_init_1 (by decide) (Nat.le_of_ble_eq_true rfl) ?_
  refine j_aload_n (pc := 4) C dX5_init_4 rfl 0 rfl ?_
  refine j_new (pc := 5) (ci := 8) (fs := [.null, .int 0, .int 0, .int 0, .int 0, .int 0]) C inw_8 tyX8_ok wd_22 wd_23 wd_24 rfl ndX8 (by decide) (by decide) dX5_init_5 (fun q_1 => ?_)
  refine j_widen (k := 1) (n := 6) (by decide) (by decide) ?_
  refine j_dup (pc := 8) C dX5_init_8 rfl ?_
  refine j_callN (pc := 9) (As := []) (rest := [.ref q_1, .ref h0]) (wr := [(h0, .inr (5, [.null, .null, .null, .null, .null, .int 0, .int 0]))]) C (c_X8_init l D cyC cyI cyJ cyZ cyO q_1) wd_25 wd_24 C.2.2.2.2.2.2.1.2.1 wd_26 rfl ⟨by decide, by decide, rfl⟩ rfl ⟨rfl, rfl, by decide, by decide⟩ ⟨by decide, by decide⟩ [1] [0] rfl rfl ⟨by decide, by decide, by decide⟩ rfl (Nat.le_of_ble_eq_true rfl) dX5_init_9 (fun u_2 hw_3 => ?_)
  refine j_eq (ws2 := [(h0, .inr (5, [.null, .null, .null, .null, .null, .int 0, .int 0])), (q_1, .inr (8, [.ref (u_2.1 0), .int 0, .int 0, .int 0, .int 0, .int 0])), ((u_2.1 0), .inl (cyC, 1000, .inl (fun _ => 0)))]) (pc2 := 12) (lv2 := [(0, .ref h0)]) (st2 := [.ref q_1, .ref h0]) rfl rfl rfl rfl ?_
  refine j_widen (k := 2) (n := 1006) (by decide) (by decide) ?_
  refine j_putF (pc := 12) (ci := 5) (v := .ref q_1) (ws' := [(h0, .inr (5, [.ref q_1, .null, .null, .null, .null, .int 0, .int 0])), (q_1, .inr (8, [.ref (u_2.1 0), .int 0, .int 0, .int 0, .int 0, .int 0])), ((u_2.1 0), .inl (cyC, 1000, .inl (fun _ => 0)))]) C inw_5 0 rfl rfl 0 (by decide) wd_27 rfl tyX5_ok nmX5 rfl hin rfl (tyX5_ok 0 (by decide)) rfl rfl (Nat.le_of_ble_eq_true rfl) dX5_init_12 rfl ?_
  refine j_aload_n (pc := 15) C dX5_init_15 rfl 0 rfl ?_
  refine j_new (pc := 16) (ci := 1) (fs := [.int 0, .int 0, .null, .null, .null]) C inw_1 tyX1_ok wd_28 wd_29 wd_30 rfl ndX1 (by decide) (by decide) dX5_init_16 (fun q_4 => ?_)
  refine j_widen (k := 3) (n := 1011) (by decide) (by decide) ?_
  refine j_dup (pc := 19) C dX5_init_19 rfl ?_
  refine j_callN (pc := 20) (As := []) (rest := [.ref q_4, .ref h0]) (wr := [(h0, .inr (5, [.ref q_1, .null, .null, .null, .null, .int 0, .int 0])), (q_1, .inr (8, [.ref (u_2.1 0), .int 0, .int 0, .int 0, .int 0, .int 0])), ((u_2.1 0), .inl (cyC, 1000, .inl (fun _ => 0)))]) C (c_X1_init l D cyC cyI cyJ cyZ cyO q_4) wd_31 wd_30 C.2.2.2.2.2.2.1.2.2.1 wd_32 rfl ⟨by decide, by decide, rfl⟩ rfl ⟨rfl, rfl, by decide, by decide⟩ ⟨by decide, by decide⟩ [3] [0, 1, 2] rfl rfl ⟨by decide, by decide, by decide⟩ rfl (Nat.le_of_ble_eq_true rfl) dX5_init_20 (fun u_5 hw_6 => ?_)
  refine j_eq (ws2 := [(h0, .inr (5, [.ref q_1, .null, .null, .null, .null, .int 0, .int 0])), (q_1, .inr (8, [.ref (u_2.1 0), .int 0, .int 0, .int 0, .int 0, .int 0])), ((u_2.1 0), .inl (cyC, 1000, .inl (fun _ => 0))), (q_4, .inr (1, [.int 0, .int 0, .ref (u_5.1 0), .ref (u_5.1 1), .ref (u_5.1 2)])), ((u_5.1 0), .inl (cyI, 1000, .inl (fun _ => 0))), ((u_5.1 1), .inl (cyI, 4, .inl (fun _ => 0))), ((u_5.1 2), .inl (cyI, 32, .inl (fun _ => 0)))]) (pc2 := 23) (lv2 := [(0, .ref h0)]) (st2 := [.ref q_4, .ref h0]) rfl rfl rfl rfl ?_
  refine j_widen (k := 6) (n := 2047) (by decide) (by decide) ?_
  refine j_putF (pc := 23) (ci := 5) (v := .ref q_4) (ws' := [(h0, .inr (5, [.ref q_1, .ref q_4, .null, .null, .null, .int 0, .int 0])), (q_1, .inr (8, [.ref (u_2.1 0), .int 0, .int 0, .int 0, .int 0, .int 0])), ((u_2.1 0), .inl (cyC, 1000, .inl (fun _ => 0))), (q_4, .inr (1, [.int 0, .int 0, .ref (u_5.1 0), .ref (u_5.1 1), .ref (u_5.1 2)])), ((u_5.1 0), .inl (cyI, 1000, .inl (fun _ => 0))), ((u_5.1 1), .inl (cyI, 4, .inl (fun _ => 0))), ((u_5.1 2), .inl (cyI, 32, .inl (fun _ => 0)))]) C inw_5 0 rfl rfl 1 (by decide) wd_33 rfl tyX5_ok nmX5 rfl hin rfl (tyX5_ok 1 (by decide)) rfl rfl (Nat.le_of_ble_eq_true rfl) dX5_init_23 rfl ?_
  refine j_aload_n (pc := 26) C dX5_init_26 rfl 0 rfl ?_
  refine j_bipush (pc := 27) (v := 12) C dX5_init_27 (by decide) ?_
  refine j_newa (pc := 29) (at1 := .long) (ty := .long) (N := 12) (a0 := (12, .inr (.inl (fun _ => 0)))) C wd_34 rfl 2 rfl (fun _ _ h => h) (fun _ => rfl) (by decide) (by decide) (by decide) (by decide) (by decide) dX5_init_29 (fun q_7 => ?_)
  refine j_widen (k := 7) (n := 2059) (by decide) (by decide) ?_
  refine j_putF (pc := 31) (ci := 5) (v := .ref q_7) (ws' := [(h0, .inr (5, [.ref q_1, .ref q_4, .ref q_7, .null, .null, .int 0, .int 0])), (q_1, .inr (8, [.ref (u_2.1 0), .int 0, .int 0, .int 0, .int 0, .int 0])), ((u_2.1 0), .inl (cyC, 1000, .inl (fun _ => 0))), (q_4, .inr (1, [.int 0, .int 0, .ref (u_5.1 0), .ref (u_5.1 1), .ref (u_5.1 2)])), ((u_5.1 0), .inl (cyI, 1000, .inl (fun _ => 0))), ((u_5.1 1), .inl (cyI, 4, .inl (fun _ => 0))), ((u_5.1 2), .inl (cyI, 32, .inl (fun _ => 0))), (q_7, .inl (cyJ, 12, .inr (.inl (fun _ => 0))))]) C inw_5 0 rfl rfl 2 (by decide) wd_35 rfl tyX5_ok nmX5 rfl hin rfl (tyX5_ok 2 (by decide)) rfl rfl (Nat.le_of_ble_eq_true rfl) dX5_init_31 rfl ?_
  refine j_aload_n (pc := 34) C dX5_init_34 rfl 0 rfl ?_
  refine j_iconst (pc := 35) (v := 4) C dX5_init_35 (by decide) ?_
  refine j_newa (pc := 36) (at1 := .long) (ty := .long) (N := 4) (a0 := (4, .inr (.inl (fun _ => 0)))) C wd_34 rfl 2 rfl (fun _ _ h => h) (fun _ => rfl) (by decide) (by decide) (by decide) (by decide) (by decide) dX5_init_36 (fun q_8 => ?_)
  refine j_widen (k := 8) (n := 2063) (by decide) (by decide) ?_
  refine j_putF (pc := 38) (ci := 5) (v := .ref q_8) (ws' := [(h0, .inr (5, [.ref q_1, .ref q_4, .ref q_7, .ref q_8, .null, .int 0, .int 0])), (q_1, .inr (8, [.ref (u_2.1 0), .int 0, .int 0, .int 0, .int 0, .int 0])), ((u_2.1 0), .inl (cyC, 1000, .inl (fun _ => 0))), (q_4, .inr (1, [.int 0, .int 0, .ref (u_5.1 0), .ref (u_5.1 1), .ref (u_5.1 2)])), ((u_5.1 0), .inl (cyI, 1000, .inl (fun _ => 0))), ((u_5.1 1), .inl (cyI, 4, .inl (fun _ => 0))), ((u_5.1 2), .inl (cyI, 32, .inl (fun _ => 0))), (q_7, .inl (cyJ, 12, .inr (.inl (fun _ => 0)))), (q_8, .inl (cyJ, 4, .inr (.inl (fun _ => 0))))]) C inw_5 0 rfl rfl 3 (by decide) wd_36 rfl tyX5_ok nmX5 rfl hin rfl (tyX5_ok 3 (by decide)) rfl rfl (Nat.le_of_ble_eq_true rfl) dX5_init_38 rfl ?_
  refine j_aload_n (pc := 41) C dX5_init_41 rfl 0 rfl ?_
  refine j_new (pc := 42) (ci := 9) (fs := [.int 0, .int 0, .int 0, .null, .null, .null, .null, .null, .null, .int 0, .int 0, .null, .null, .null, .null]) C inw_9 tyX9_ok wd_37 wd_38 wd_39 rfl ndX9 (by decide) (by decide) dX5_init_42 (fun q_9 => ?_)
  refine j_widen (k := 9) (n := 2078) (by decide) (by decide) ?_
  refine j_dup (pc := 45) C dX5_init_45 rfl ?_
  refine j_callN (pc := 46) (As := []) (rest := [.ref q_9, .ref h0]) (wr := [(h0, .inr (5, [.ref q_1, .ref q_4, .ref q_7, .ref q_8, .null, .int 0, .int 0])), (q_1, .inr (8, [.ref (u_2.1 0), .int 0, .int 0, .int 0, .int 0, .int 0])), ((u_2.1 0), .inl (cyC, 1000, .inl (fun _ => 0))), (q_4, .inr (1, [.int 0, .int 0, .ref (u_5.1 0), .ref (u_5.1 1), .ref (u_5.1 2)])), ((u_5.1 0), .inl (cyI, 1000, .inl (fun _ => 0))), ((u_5.1 1), .inl (cyI, 4, .inl (fun _ => 0))), ((u_5.1 2), .inl (cyI, 32, .inl (fun _ => 0))), (q_7, .inl (cyJ, 12, .inr (.inl (fun _ => 0)))), (q_8, .inl (cyJ, 4, .inr (.inl (fun _ => 0))))]) C (c_X9_init l D cyC cyI cyJ cyZ cyO q_9) wd_40 wd_39 C.2.2.2.2.2.2.1.2.2.2.1 wd_41 rfl ⟨by decide, by decide, rfl⟩ rfl ⟨rfl, rfl, by decide, by decide⟩ ⟨by decide, by decide⟩ [9] [0, 1, 2, 3, 4, 5, 6, 7, 8] rfl rfl ⟨by decide, by decide, by decide⟩ rfl (Nat.le_of_ble_eq_true rfl) dX5_init_46 (fun u_10 hw_11 => ?_)
  refine j_eq (ws2 := [(h0, .inr (5, [.ref q_1, .ref q_4, .ref q_7, .ref q_8, .null, .int 0, .int 0])), (q_1, .inr (8, [.ref (u_2.1 0), .int 0, .int 0, .int 0, .int 0, .int 0])), ((u_2.1 0), .inl (cyC, 1000, .inl (fun _ => 0))), (q_4, .inr (1, [.int 0, .int 0, .ref (u_5.1 0), .ref (u_5.1 1), .ref (u_5.1 2)])), ((u_5.1 0), .inl (cyI, 1000, .inl (fun _ => 0))), ((u_5.1 1), .inl (cyI, 4, .inl (fun _ => 0))), ((u_5.1 2), .inl (cyI, 32, .inl (fun _ => 0))), (q_7, .inl (cyJ, 12, .inr (.inl (fun _ => 0)))), (q_8, .inl (cyJ, 4, .inr (.inl (fun _ => 0)))), (q_9, .inr (9, [.int 0, .int 0, .int 0, .ref (u_10.1 0), .ref (u_10.1 1), .ref (u_10.1 2), .ref (u_10.1 3), .ref (u_10.1 4), .ref (u_10.1 5), .int 0, .int 0, .ref (u_10.1 6), .ref (u_10.1 7), .ref (u_10.1 8), .ref (u_10.1 9)])), ((u_10.1 0), .inl (cyI, 12, .inl (fun _ => 0))), ((u_10.1 1), .inl (cyI, 12, .inl (fun _ => 0))), ((u_10.1 2), .inl (cyI, 12, .inl (fun _ => 0))), ((u_10.1 3), .inl (cyI, 12, .inl (fun _ => 0))), ((u_10.1 4), .inl (cyI, 12, .inl (fun _ => 0))), ((u_10.1 5), .inl (cyI, 12, .inl (fun _ => 0))), ((u_10.1 6), .inl (cyI, 12, .inl (fun _ => 0))), ((u_10.1 7), .inl (cyI, 4, .inl (fun _ => 0))), ((u_10.1 8), .inl (cyI, 4, .inl (fun _ => 0))), ((u_10.1 9), .inl (cyI, 4, .inl (fun _ => 0)))]) (pc2 := 49) (lv2 := [(0, .ref h0)]) (st2 := [.ref q_9, .ref h0]) rfl rfl rfl rfl ?_
  refine j_widen (k := 19) (n := 2174) (by decide) (by decide) ?_
  refine j_put (pc := 49) (ci := 5) (v := .ref q_9) (ws' := [(h0, .inr (5, [.ref q_1, .ref q_4, .ref q_7, .ref q_8, .ref q_9, .int 0, .int 0])), (q_1, .inr (8, [.ref (u_2.1 0), .int 0, .int 0, .int 0, .int 0, .int 0])), ((u_2.1 0), .inl (cyC, 1000, .inl (fun _ => 0))), (q_4, .inr (1, [.int 0, .int 0, .ref (u_5.1 0), .ref (u_5.1 1), .ref (u_5.1 2)])), ((u_5.1 0), .inl (cyI, 1000, .inl (fun _ => 0))), ((u_5.1 1), .inl (cyI, 4, .inl (fun _ => 0))), ((u_5.1 2), .inl (cyI, 32, .inl (fun _ => 0))), (q_7, .inl (cyJ, 12, .inr (.inl (fun _ => 0)))), (q_8, .inl (cyJ, 4, .inr (.inl (fun _ => 0)))), (q_9, .inr (9, [.int 0, .int 0, .int 0, .ref (u_10.1 0), .ref (u_10.1 1), .ref (u_10.1 2), .ref (u_10.1 3), .ref (u_10.1 4), .ref (u_10.1 5), .int 0, .int 0, .ref (u_10.1 6), .ref (u_10.1 7), .ref (u_10.1 8), .ref (u_10.1 9)])), ((u_10.1 0), .inl (cyI, 12, .inl (fun _ => 0))), ((u_10.1 1), .inl (cyI, 12, .inl (fun _ => 0))), ((u_10.1 2), .inl (cyI, 12, .inl (fun _ => 0))), ((u_10.1 3), .inl (cyI, 12, .inl (fun _ => 0))), ((u_10.1 4), .inl (cyI, 12, .inl (fun _ => 0))), ((u_10.1 5), .inl (cyI, 12, .inl (fun _ => 0))), ((u_10.1 6), .inl (cyI, 12, .inl (fun _ => 0))), ((u_10.1 7), .inl (cyI, 4, .inl (fun _ => 0))), ((u_10.1 8), .inl (cyI, 4, .inl (fun _ => 0))), ((u_10.1 9), .inl (cyI, 4, .inl (fun _ => 0)))]) C inw_5 0 rfl rfl 4 (by decide) wd_42 rfl tyX5_ok nmX5 rfl (tyX5_ok 4 (by decide)) rfl rfl (Nat.le_of_ble_eq_true rfl) dX5_init_49 rfl ?_
  exact j_vret (pc := 52) C hr hk (fun i => [q_1, (u_2.1 0), q_4, (u_5.1 0), (u_5.1 1), (u_5.1 2), q_7, q_8, q_9, (u_10.1 0), (u_10.1 1), (u_10.1 2), (u_10.1 3), (u_10.1 4), (u_10.1 5), (u_10.1 6), (u_10.1 7), (u_10.1 8), (u_10.1 9)].getD i 0, fun _ => 0, fun _ _ => 0) rfl trivial [0, 1, 2, 3, 4, 5, 6, 7, 8, 9, 10, 11, 12, 13, 14, 15, 16, 17, 18, 19] (by decide) rfl (by decide) (by decide) dX5_init_52
set_option maxHeartbeats 4000000 in
set_option maxRecDepth 100000 in
theorem c_fill (l : Launch) (D : va_G) (cyC cyI cyJ cyZ cyO : ClassId) (a : Nat) (v : Int32) (f : Nat → Int32) : KK l D (TY cyC cyI cyJ cyZ cyO) yJ7_fill_53178 cJ7_fill_53178 4 none ({ frames := 0, cells := 0, slots := 0, locals := 0 } : Room) 0 0 [.ref a, .int v] [(a, .inl (cyI, 12, .inl f))] (fun u => none) (fun u => True) (fun u => [(a, .inl (cyI, 12, .inl (fun _ => v)))]) := by
  refine KK.of (lv0 := [(0, .ref a), (1, .int v)]) (by decide) rfl (Nat.le_of_ble_eq_true rfl) ?_
  intro p e s m args below meth c A C hr hk hin
  refine j_iconst (pc := 0) (v := 0) C dJ7_fill_53178_0 (by decide) ?_
  refine j_istore_n (pc := 1) (lv' := [(2, .int 0), (0, .ref a), (1, .int v)]) C dJ7_fill_53178_1 rfl (by decide) rfl ?_
  refine j_aload_n (pc := 2) C dJ7_fill_53178_2 rfl 1 rfl ?_
  refine j_alen (pc := 3) (v := 12) C 0 1 rfl rfl rfl dJ7_fill_53178_3 ?_
  refine j_istore_n (pc := 4) (lv' := [(3, .int 12), (2, .int 0), (0, .ref a), (1, .int v)]) C dJ7_fill_53178_4 rfl (by decide) rfl ?_
  have loop : ∀ (k i : Nat) (g : Nat → Int32), i + k = 12 → (∀ j, j < i → g j = v) → J p l e ({ frames := 0, cells := 0, slots := 0, locals := 0 } : Room) s m args below meth c D A 4 0 0 (QX below D (TY cyC cyI cyJ cyZ cyO) A (fun u => none) (fun u => True) (fun u => [(a, .inl (cyI, 12, .inl (fun _ => v)))]) args s 0 0) [(a, .inl (cyI, 12, .inl g))] 5 [(2, .int (nI i)), (3, .int 12), (0, .ref a), (1, .int v)] [] := by
    intro k
    induction k with
    | zero =>
      intro i g hi hg
      obtain rfl : i = 12 := by omega
      refine j_iload_n (pc := 5) C dJ7_fill_53178_5 rfl 0 rfl ?_
      refine j_iload_n (pc := 6) C dJ7_fill_53178_6 rfl 1 rfl ?_
      refine j_icmp_ge_t (pc := 7) (tgt := 20) C dJ7_fill_53178_7 (by decide) (by decide) ?_
      refine j_arrc (q0 := 0) (g := fun _ => v) (ws' := [(a, .inl (cyI, 12, .inl (fun _ => v)))]) rfl hg rfl ?_
      exact j_vret (pc := 20) C hr hk (fun i => [].getD i 0, fun _ => 0, fun _ _ => 0) rfl trivial [0] (by decide) rfl (by decide) (by decide) dJ7_fill_53178_20
    | succ k ih =>
      intro i g hi hg
      refine j_iload_n (pc := 5) C dJ7_fill_53178_5 rfl 0 rfl ?_
      refine j_iload_n (pc := 6) C dJ7_fill_53178_6 rfl 1 rfl ?_
      refine j_icmp_ge_f (pc := 7) (tgt := 20) C dJ7_fill_53178_7 (by decide) (nI12 12 (by omega) (by decide)) ?_
      refine j_aload_n (pc := 10) C dJ7_fill_53178_10 rfl 2 rfl ?_
      refine j_iload_n (pc := 11) C dJ7_fill_53178_11 rfl 0 rfl ?_
      refine j_iload_n (pc := 12) C dJ7_fill_53178_12 rfl 3 rfl ?_
      refine j_iast (pc := 13) (k := i) (ws' := [(a, .inl (cyI, 12, .inl (upd g i v)))]) C 0 1 rfl rfl (nI_pos (by omega)) (nI_clamp (by omega)) (by omega) dJ7_fill_53178_13 rfl ?_
      refine j_iinc (pc := 14) (v := (nI (i + 1))) (lv' := [(2, .int (nI (i + 1))), (3, .int 12), (0, .ref a), (1, .int v)]) C dJ7_fill_53178_14 0 rfl (nI_1 i) (by decide) rfl ?_
      refine j_goto (pc := 17) (tgt := 5) C dJ7_fill_53178_17 (by decide) ?_
      exact j_lv [0, 1, 2, 3] rfl (ih (i + 1) _ (by omega) (upd_all (P := fun _ x => x = v) hg rfl))
  exact j_lv [1, 0, 2, 3] rfl (loop 12 0 f rfl (fun j hj => absurd hj (Nat.not_lt_zero j)))
set_option maxHeartbeats 4000000 in
set_option maxRecDepth 100000 in
theorem c_X7_init (l : Launch) (D : va_G) (cyC cyI cyJ cyZ cyO : ClassId) (h0 : Nat) : KK l D (TY cyC cyI cyJ cyZ cyO) yX7_init cX7_init 1 none ({ frames := 1, cells := 4, slots := 66, locals := 23 } : Room) 4 66 [.ref h0] [(h0, .inr (7, [.null, .null, .null, .null, .int 0, .int 0, .int 0]))] (fun u => none) (fun u => True) (fun u => [(h0, .inr (7, [.ref (u.1 0), .ref (u.1 1), .ref (u.1 2), .ref (u.1 3), .int 0, .int 0, .int 0])), ((u.1 0), .inl (cyI, 12, .inl (fun _ => (-1)))), ((u.1 1), .inl (cyI, 12, .inl (fun _ => 0))), ((u.1 2), .inl (cyI, 12, .inl (fun _ => 0))), ((u.1 3), .inl (cyI, 30, .inl (fun _ => 0)))]) := by
  refine KK.of (lv0 := [(0, .ref h0)]) (by decide) rfl (Nat.le_of_ble_eq_true rfl) ?_
  intro p e s m args below meth c A C hr hk hin
  refine j_aload_n (pc := 0) C dX7_init_0 rfl 0 rfl ?_
  refine j_oinit (pc := 1) C wd_43 wd_1 wd_2 dX7_init_1 (by decide) (Nat.le_of_ble_eq_true rfl) ?_
  refine j_aload_n (pc := 4) C dX7_init_4 rfl 0 rfl ?_
  refine j_bipush (pc := 5) (v := 12) C dX7_init_5 (by decide) ?_
  refine j_newa (pc := 7) (at1 := .int) (ty := .int) (N := 12) (a0 := (12, .inl (fun _ => 0))) C wd_6 rfl 1 rfl (fun _ _ h => h) (fun _ => rfl) (by decide) (by decide) (by decide) (by decide) (by decide) dX7_init_7 (fun q_1 => ?_)
  refine j_widen (k := 1) (n := 12) (by decide) (by decide) ?_
  refine j_putF (pc := 9) (ci := 7) (v := .ref q_1) (ws' := [(h0, .inr (7, [.ref q_1, .null, .null, .null, .int 0, .int 0, .int 0])), (q_1, .inl (cyI, 12, .inl (fun _ => 0)))]) C inw_7 0 rfl rfl 0 (by decide) wd_44 rfl tyX7_ok nmX7 rfl hin rfl (tyX7_ok 0 (by decide)) rfl rfl (Nat.le_of_ble_eq_true rfl) dX7_init_9 rfl ?_
  refine j_aload_n (pc := 12) C dX7_init_12 rfl 0 rfl ?_
  refine j_bipush (pc := 13) (v := 12) C dX7_init_13 (by decide) ?_
  refine j_newa (pc := 15) (at1 := .int) (ty := .int) (N := 12) (a0 := (12, .inl (fun _ => 0))) C wd_6 rfl 1 rfl (fun _ _ h => h) (fun _ => rfl) (by decide) (by decide) (by decide) (by decide) (by decide) dX7_init_15 (fun q_2 => ?_)
  refine j_widen (k := 2) (n := 24) (by decide) (by decide) ?_
  refine j_putF (pc := 17) (ci := 7) (v := .ref q_2) (ws' := [(h0, .inr (7, [.ref q_1, .ref q_2, .null, .null, .int 0, .int 0, .int 0])), (q_1, .inl (cyI, 12, .inl (fun _ => 0))), (q_2, .inl (cyI, 12, .inl (fun _ => 0)))]) C inw_7 0 rfl rfl 1 (by decide) wd_45 rfl tyX7_ok nmX7 rfl hin rfl (tyX7_ok 1 (by decide)) rfl rfl (Nat.le_of_ble_eq_true rfl) dX7_init_17 rfl ?_
  refine j_aload_n (pc := 20) C dX7_init_20 rfl 0 rfl ?_
  refine j_bipush (pc := 21) (v := 12) C dX7_init_21 (by decide) ?_
  refine j_newa (pc := 23) (at1 := .int) (ty := .int) (N := 12) (a0 := (12, .inl (fun _ => 0))) C wd_6 rfl 1 rfl (fun _ _ h => h) (fun _ => rfl) (by decide) (by decide) (by decide) (by decide) (by decide) dX7_init_23 (fun q_3 => ?_)
  refine j_widen (k := 3) (n := 36) (by decide) (by decide) ?_
  refine j_putF (pc := 25) (ci := 7) (v := .ref q_3) (ws' := [(h0, .inr (7, [.ref q_1, .ref q_2, .ref q_3, .null, .int 0, .int 0, .int 0])), (q_1, .inl (cyI, 12, .inl (fun _ => 0))), (q_2, .inl (cyI, 12, .inl (fun _ => 0))), (q_3, .inl (cyI, 12, .inl (fun _ => 0)))]) C inw_7 0 rfl rfl 2 (by decide) wd_46 rfl tyX7_ok nmX7 rfl hin rfl (tyX7_ok 2 (by decide)) rfl rfl (Nat.le_of_ble_eq_true rfl) dX7_init_25 rfl ?_
  refine j_aload_n (pc := 28) C dX7_init_28 rfl 0 rfl ?_
  refine j_bipush (pc := 29) (v := 30) C dX7_init_29 (by decide) ?_
  refine j_newa (pc := 31) (at1 := .int) (ty := .int) (N := 30) (a0 := (30, .inl (fun _ => 0))) C wd_6 rfl 1 rfl (fun _ _ h => h) (fun _ => rfl) (by decide) (by decide) (by decide) (by decide) (by decide) dX7_init_31 (fun q_4 => ?_)
  refine j_widen (k := 4) (n := 66) (by decide) (by decide) ?_
  refine j_putF (pc := 33) (ci := 7) (v := .ref q_4) (ws' := [(h0, .inr (7, [.ref q_1, .ref q_2, .ref q_3, .ref q_4, .int 0, .int 0, .int 0])), (q_1, .inl (cyI, 12, .inl (fun _ => 0))), (q_2, .inl (cyI, 12, .inl (fun _ => 0))), (q_3, .inl (cyI, 12, .inl (fun _ => 0))), (q_4, .inl (cyI, 30, .inl (fun _ => 0)))]) C inw_7 0 rfl rfl 3 (by decide) wd_47 rfl tyX7_ok nmX7 rfl hin rfl (tyX7_ok 3 (by decide)) rfl rfl (Nat.le_of_ble_eq_true rfl) dX7_init_33 rfl ?_
  refine j_aload_n (pc := 36) C dX7_init_36 rfl 0 rfl ?_
  refine j_get (pc := 37) (ci := 7) (v := .ref q_1) C inw_7 0 rfl rfl 0 (by decide) wd_44 rfl rfl dX7_init_37 ?_
  refine j_iconst (pc := 40) (v := (-1)) C dX7_init_40 (by decide) ?_
  refine j_callS (pc := 41) (As := [.ref q_1, .int (-1)]) (rest := []) (wr := [(h0, .inr (7, [.ref q_1, .ref q_2, .ref q_3, .ref q_4, .int 0, .int 0, .int 0])), (q_2, .inl (cyI, 12, .inl (fun _ => 0))), (q_3, .inl (cyI, 12, .inl (fun _ => 0))), (q_4, .inl (cyI, 30, .inl (fun _ => 0)))]) C (c_fill l D cyC cyI cyJ cyZ cyO q_1 (-1) (fun _ => 0)) wd_48 wd_49 wd_50 wd_51 ⟨by decide, by decide, rfl⟩ rfl ⟨rfl, rfl, by decide, by decide⟩ ⟨by decide, by decide⟩ [1] [0, 2, 3, 4] rfl rfl ⟨by decide, by decide, by decide⟩ rfl (Nat.le_of_ble_eq_true rfl) dX7_init_41 (fun u_5 hw_6 => ?_)
  refine j_eq (ws2 := [(h0, .inr (7, [.ref q_1, .ref q_2, .ref q_3, .ref q_4, .int 0, .int 0, .int 0])), (q_2, .inl (cyI, 12, .inl (fun _ => 0))), (q_3, .inl (cyI, 12, .inl (fun _ => 0))), (q_4, .inl (cyI, 30, .inl (fun _ => 0))), (q_1, .inl (cyI, 12, .inl (fun _ => (-1))))]) (pc2 := 44) (lv2 := [(0, .ref h0)]) (st2 := []) rfl rfl rfl rfl ?_
  exact j_vret (pc := 44) C hr hk (fun i => [q_1, q_2, q_3, q_4].getD i 0, fun _ => 0, fun _ _ => 0) rfl trivial [0, 4, 1, 2, 3] (by decide) rfl (by decide) (by decide) dX7_init_44
set_option maxHeartbeats 4000000 in
set_option maxRecDepth 100000 in
theorem c_X4_init (l : Launch) (D : va_G) (cyC cyI cyJ cyZ cyO : ClassId) (h0 : Nat) : KK l D (TY cyC cyI cyJ cyZ cyO) yX4_init cX4_init 1 none ({ frames := 1, cells := 1, slots := 12, locals := 12 } : Room) 1 12 [.ref h0] [(h0, .inr (4, [.null, .int 0]))] (fun u => none) (fun u => True) (fun u => [(h0, .inr (4, [.ref (u.1 0), .int 0])), ((u.1 0), .inl (cyI, 12, .inl (fun _ => 0)))]) := by
  refine KK.of (lv0 := [(0, .ref h0)]) (by decide) rfl (Nat.le_of_ble_eq_true rfl) ?_
  intro p e s m args below meth c A C hr hk hin
  refine j_aload_n (pc := 0) C dX4_init_0 rfl 0 rfl ?_
  refine j_oinit (pc := 1) C wd_52 wd_1 wd_2 dX4_init_1 (by decide) (Nat.le_of_ble_eq_true rfl) ?_
  refine j_aload_n (pc := 4) C dX4_init_4 rfl 0 rfl ?_
  refine j_bipush (pc := 5) (v := 12) C dX4_init_5 (by decide) ?_
  refine j_newa (pc := 7) (at1 := .int) (ty := .int) (N := 12) (a0 := (12, .inl (fun _ => 0))) C wd_6 rfl 1 rfl (fun _ _ h => h) (fun _ => rfl) (by decide) (by decide) (by decide) (by decide) (by decide) dX4_init_7 (fun q_1 => ?_)
  refine j_widen (k := 1) (n := 12) (by decide) (by decide) ?_
  refine j_putF (pc := 9) (ci := 4) (v := .ref q_1) (ws' := [(h0, .inr (4, [.ref q_1, .int 0])), (q_1, .inl (cyI, 12, .inl (fun _ => 0)))]) C inw_4 0 rfl rfl 0 (by decide) wd_53 rfl tyX4_ok nmX4 rfl hin rfl (tyX4_ok 0 (by decide)) rfl rfl (Nat.le_of_ble_eq_true rfl) dX4_init_9 rfl ?_
  exact j_vret (pc := 12) C hr hk (fun i => [q_1].getD i 0, fun _ => 0, fun _ _ => 0) rfl trivial [0, 1] (by decide) rfl (by decide) (by decide) dX4_init_12
set_option maxHeartbeats 4000000 in
set_option maxRecDepth 100000 in
theorem c_X3_init (l : Launch) (D : va_G) (cyC cyI cyJ cyZ cyO : ClassId) (h0 : Nat) : KK l D (TY cyC cyI cyJ cyZ cyO) yX3_init cX3_init 1 none ({ frames := 1, cells := 4, slots := 48, locals := 12 } : Room) 4 48 [.ref h0] [(h0, .inr (3, [.int 0, .null, .null, .int 0, .int 0, .int 0, .null, .null]))] (fun u => none) (fun u => True) (fun u => [(h0, .inr (3, [.int 0, .ref (u.1 0), .ref (u.1 1), .int 0, .int 0, .int 0, .ref (u.1 2), .ref (u.1 3)])), ((u.1 0), .inl (cyI, 12, .inl (fun _ => 0))), ((u.1 1), .inl (cyI, 12, .inl (fun _ => 0))), ((u.1 2), .inl (cyI, 12, .inl (fun _ => 0))), ((u.1 3), .inl (cyI, 12, .inl (fun _ => 0)))]) := by
  refine KK.of (lv0 := [(0, .ref h0)]) (by decide) rfl (Nat.le_of_ble_eq_true rfl) ?_
  intro p e s m args below meth c A C hr hk hin
  refine j_aload_n (pc := 0) C dX3_init_0 rfl 0 rfl ?_
  refine j_oinit (pc := 1) C wd_54 wd_1 wd_2 dX3_init_1 (by decide) (Nat.le_of_ble_eq_true rfl) ?_
  refine j_aload_n (pc := 4) C dX3_init_4 rfl 0 rfl ?_
  refine j_bipush (pc := 5) (v := 12) C dX3_init_5 (by decide) ?_
  refine j_newa (pc := 7) (at1 := .int) (ty := .int) (N := 12) (a0 := (12, .inl (fun _ => 0))) C wd_6 rfl 1 rfl (fun _ _ h => h) (fun _ => rfl) (by decide) (by decide) (by decide) (by decide) (by decide) dX3_init_7 (fun q_1 => ?_)
  refine j_widen (k := 1) (n := 12) (by decide) (by decide) ?_
  refine j_putF (pc := 9) (ci := 3) (v := .ref q_1) (ws' := [(h0, .inr (3, [.int 0, .ref q_1, .null, .int 0, .int 0, .int 0, .null, .null])), (q_1, .inl (cyI, 12, .inl (fun _ => 0)))]) C inw_3 0 rfl rfl 1 (by decide) wd_55 rfl tyX3_ok nmX3 rfl hin rfl (tyX3_ok 1 (by decide)) rfl rfl (Nat.le_of_ble_eq_true rfl) dX3_init_9 rfl ?_
  refine j_aload_n (pc := 12) C dX3_init_12 rfl 0 rfl ?_
  refine j_bipush (pc := 13) (v := 12) C dX3_init_13 (by decide) ?_
  refine j_newa (pc := 15) (at1 := .int) (ty := .int) (N := 12) (a0 := (12, .inl (fun _ => 0))) C wd_6 rfl 1 rfl (fun _ _ h => h) (fun _ => rfl) (by decide) (by decide) (by decide) (by decide) (by decide) dX3_init_15 (fun q_2 => ?_)
  refine j_widen (k := 2) (n := 24) (by decide) (by decide) ?_
  refine j_putF (pc := 17) (ci := 3) (v := .ref q_2) (ws' := [(h0, .inr (3, [.int 0, .ref q_1, .ref q_2, .int 0, .int 0, .int 0, .null, .null])), (q_1, .inl (cyI, 12, .inl (fun _ => 0))), (q_2, .inl (cyI, 12, .inl (fun _ => 0)))]) C inw_3 0 rfl rfl 2 (by decide) wd_56 rfl tyX3_ok nmX3 rfl hin rfl (tyX3_ok 2 (by decide)) rfl rfl (Nat.le_of_ble_eq_true rfl) dX3_init_17 rfl ?_
  refine j_aload_n (pc := 20) C dX3_init_20 rfl 0 rfl ?_
  refine j_bipush (pc := 21) (v := 12) C dX3_init_21 (by decide) ?_
  refine j_newa (pc := 23) (at1 := .int) (ty := .int) (N := 12) (a0 := (12, .inl (fun _ => 0))) C wd_6 rfl 1 rfl (fun _ _ h => h) (fun _ => rfl) (by decide) (by decide) (by decide) (by decide) (by decide) dX3_init_23 (fun q_3 => ?_)
  refine j_widen (k := 3) (n := 36) (by decide) (by decide) ?_
  refine j_putF (pc := 25) (ci := 3) (v := .ref q_3) (ws' := [(h0, .inr (3, [.int 0, .ref q_1, .ref q_2, .int 0, .int 0, .int 0, .ref q_3, .null])), (q_1, .inl (cyI, 12, .inl (fun _ => 0))), (q_2, .inl (cyI, 12, .inl (fun _ => 0))), (q_3, .inl (cyI, 12, .inl (fun _ => 0)))]) C inw_3 0 rfl rfl 6 (by decide) wd_57 rfl tyX3_ok nmX3 rfl hin rfl (tyX3_ok 6 (by decide)) rfl rfl (Nat.le_of_ble_eq_true rfl) dX3_init_25 rfl ?_
  refine j_aload_n (pc := 28) C dX3_init_28 rfl 0 rfl ?_
  refine j_bipush (pc := 29) (v := 12) C dX3_init_29 (by decide) ?_
  refine j_newa (pc := 31) (at1 := .int) (ty := .int) (N := 12) (a0 := (12, .inl (fun _ => 0))) C wd_6 rfl 1 rfl (fun _ _ h => h) (fun _ => rfl) (by decide) (by decide) (by decide) (by decide) (by decide) dX3_init_31 (fun q_4 => ?_)
  refine j_widen (k := 4) (n := 48) (by decide) (by decide) ?_
  refine j_putF (pc := 33) (ci := 3) (v := .ref q_4) (ws' := [(h0, .inr (3, [.int 0, .ref q_1, .ref q_2, .int 0, .int 0, .int 0, .ref q_3, .ref q_4])), (q_1, .inl (cyI, 12, .inl (fun _ => 0))), (q_2, .inl (cyI, 12, .inl (fun _ => 0))), (q_3, .inl (cyI, 12, .inl (fun _ => 0))), (q_4, .inl (cyI, 12, .inl (fun _ => 0)))]) C inw_3 0 rfl rfl 7 (by decide) wd_58 rfl tyX3_ok nmX3 rfl hin rfl (tyX3_ok 7 (by decide)) rfl rfl (Nat.le_of_ble_eq_true rfl) dX3_init_33 rfl ?_
  exact j_vret (pc := 36) C hr hk (fun i => [q_1, q_2, q_3, q_4].getD i 0, fun _ => 0, fun _ _ => 0) rfl trivial [0, 1, 2, 3, 4] (by decide) rfl (by decide) (by decide) dX3_init_36
set_option maxHeartbeats 4000000 in
set_option maxRecDepth 100000 in
theorem c_X0_init (l : Launch) (D : va_G) (cyC cyI cyJ cyZ cyO : ClassId) (h0 : Nat) : KK l D (TY cyC cyI cyJ cyZ cyO) yX0_init cX0_init 1 none ({ frames := 1, cells := 3, slots := 0, locals := 12 } : Room) 3 0 [.ref h0] [(h0, .inr (0, [.int 0, .int 0, .null, .null, .null]))] (fun u => none) (fun u => True) (fun u => [(h0, .inr (0, [.int 0, .int 0, .ref (u.1 0), .ref (u.1 1), .ref (u.1 2)])), ((u.1 0), .inl (cyI, 0, .inl (fun _ => 0))), ((u.1 1), .inl (cyI, 0, .inl (fun _ => 0))), ((u.1 2), .inl (cyI, 0, .inl (fun _ => 0)))]) := by
  refine KK.of (lv0 := [(0, .ref h0)]) (by decide) rfl (Nat.le_of_ble_eq_true rfl) ?_
  intro p e s m args below meth c A C hr hk hin
  refine j_aload_n (pc := 0) C dX0_init_0 rfl 0 rfl ?_
  refine j_oinit (pc := 1) C wd_59 wd_1 wd_2 dX0_init_1 (by decide) (Nat.le_of_ble_eq_true rfl) ?_
  refine j_aload_n (pc := 4) C dX0_init_4 rfl 0 rfl ?_
  refine j_iconst (pc := 5) (v := 0) C dX0_init_5 (by decide) ?_
  refine j_newa (pc := 6) (at1 := .int) (ty := .int) (N := 0) (a0 := (0, .inl (fun _ => 0))) C wd_6 rfl 1 rfl (fun _ _ h => h) (fun _ => rfl) (by decide) (by decide) (by decide) (by decide) (by decide) dX0_init_6 (fun q_1 => ?_)
  refine j_widen (k := 1) (n := 0) (by decide) (by decide) ?_
  refine j_put (pc := 8) (ci := 0) (v := .ref q_1) (ws' := [(h0, .inr (0, [.int 0, .int 0, .ref q_1, .null, .null])), (q_1, .inl (cyI, 0, .inl (fun _ => 0)))]) C inw_0 0 rfl rfl 2 (by decide) wd_60 rfl tyX0_ok nmX0 rfl (tyX0_ok 2 (by decide)) rfl rfl (Nat.le_of_ble_eq_true rfl) dX0_init_8 rfl ?_
  refine j_aload_n (pc := 11) C dX0_init_11 rfl 0 rfl ?_
  refine j_iconst (pc := 12) (v := 0) C dX0_init_12 (by decide) ?_
  refine j_newa (pc := 13) (at1 := .int) (ty := .int) (N := 0) (a0 := (0, .inl (fun _ => 0))) C wd_6 rfl 1 rfl (fun _ _ h => h) (fun _ => rfl) (by decide) (by decide) (by decide) (by decide) (by decide) dX0_init_13 (fun q_2 => ?_)
  refine j_widen (k := 2) (n := 0) (by decide) (by decide) ?_
  refine j_put (pc := 15) (ci := 0) (v := .ref q_2) (ws' := [(h0, .inr (0, [.int 0, .int 0, .ref q_1, .ref q_2, .null])), (q_1, .inl (cyI, 0, .inl (fun _ => 0))), (q_2, .inl (cyI, 0, .inl (fun _ => 0)))]) C inw_0 0 rfl rfl 3 (by decide) wd_61 rfl tyX0_ok nmX0 rfl (tyX0_ok 3 (by decide)) rfl rfl (Nat.le_of_ble_eq_true rfl) dX0_init_15 rfl ?_
  refine j_aload_n (pc := 18) C dX0_init_18 rfl 0 rfl ?_
  refine j_iconst (pc := 19) (v := 0) C dX0_init_19 (by decide) ?_
  refine j_newa (pc := 20) (at1 := .int) (ty := .int) (N := 0) (a0 := (0, .inl (fun _ => 0))) C wd_6 rfl 1 rfl (fun _ _ h => h) (fun _ => rfl) (by decide) (by decide) (by decide) (by decide) (by decide) dX0_init_20 (fun q_3 => ?_)
  refine j_widen (k := 3) (n := 0) (by decide) (by decide) ?_
  refine j_put (pc := 22) (ci := 0) (v := .ref q_3) (ws' := [(h0, .inr (0, [.int 0, .int 0, .ref q_1, .ref q_2, .ref q_3])), (q_1, .inl (cyI, 0, .inl (fun _ => 0))), (q_2, .inl (cyI, 0, .inl (fun _ => 0))), (q_3, .inl (cyI, 0, .inl (fun _ => 0)))]) C inw_0 0 rfl rfl 4 (by decide) wd_62 rfl tyX0_ok nmX0 rfl (tyX0_ok 4 (by decide)) rfl rfl (Nat.le_of_ble_eq_true rfl) dX0_init_22 rfl ?_
  exact j_vret (pc := 25) C hr hk (fun i => [q_1, q_2, q_3].getD i 0, fun _ => 0, fun _ _ => 0) rfl trivial [0, 1, 2, 3] (by decide) rfl (by decide) (by decide) dX0_init_25
set_option maxHeartbeats 4000000 in
set_option maxRecDepth 100000 in
theorem c_X6_init (l : Launch) (D : va_G) (cyC cyI cyJ cyZ cyO : ClassId) (h0 : Nat) : KK l D (TY cyC cyI cyJ cyZ cyO) yX6_init cX6_init 1 none ({ frames := 1, cells := 3, slots := 26, locals := 12 } : Room) 3 26 [.ref h0] [(h0, .inr (6, [.null, .int 0, .int 0, .int 0, .int 0, .int 0, .null, .null]))] (fun u => none) (fun u => True) (fun u => [(h0, .inr (6, [.ref (u.1 0), .int 0, .int 0, .int 0, .int 0, .int 0, .ref (u.1 1), .ref (u.1 2)])), ((u.1 0), .inl (cyI, 7, .inl (fun _ => 0))), ((u.1 1), .inl (cyI, 7, .inl (fun _ => 0))), ((u.1 2), .inl (cyI, 12, .inl (fun _ => 0)))]) := by
  refine KK.of (lv0 := [(0, .ref h0)]) (by decide) rfl (Nat.le_of_ble_eq_true rfl) ?_
  intro p e s m args below meth c A C hr hk hin
  refine j_aload_n (pc := 0) C dX6_init_0 rfl 0 rfl ?_
  refine j_oinit (pc := 1) C wd_63 wd_1 wd_2 dX6_init_1 (by decide) (Nat.le_of_ble_eq_true rfl) ?_
  refine j_aload_n (pc := 4) C dX6_init_4 rfl 0 rfl ?_
  refine j_bipush (pc := 5) (v := 7) C dX6_init_5 (by decide) ?_
  refine j_newa (pc := 7) (at1 := .int) (ty := .int) (N := 7) (a0 := (7, .inl (fun _ => 0))) C wd_6 rfl 1 rfl (fun _ _ h => h) (fun _ => rfl) (by decide) (by decide) (by decide) (by decide) (by decide) dX6_init_7 (fun q_1 => ?_)
  refine j_widen (k := 1) (n := 7) (by decide) (by decide) ?_
  refine j_putF (pc := 9) (ci := 6) (v := .ref q_1) (ws' := [(h0, .inr (6, [.ref q_1, .int 0, .int 0, .int 0, .int 0, .int 0, .null, .null])), (q_1, .inl (cyI, 7, .inl (fun _ => 0)))]) C inw_6 0 rfl rfl 0 (by decide) wd_64 rfl tyX6_ok nmX6 rfl hin rfl (tyX6_ok 0 (by decide)) rfl rfl (Nat.le_of_ble_eq_true rfl) dX6_init_9 rfl ?_
  refine j_aload_n (pc := 12) C dX6_init_12 rfl 0 rfl ?_
  refine j_bipush (pc := 13) (v := 7) C dX6_init_13 (by decide) ?_
  refine j_newa (pc := 15) (at1 := .int) (ty := .int) (N := 7) (a0 := (7, .inl (fun _ => 0))) C wd_6 rfl 1 rfl (fun _ _ h => h) (fun _ => rfl) (by decide) (by decide) (by decide) (by decide) (by decide) dX6_init_15 (fun q_2 => ?_)
  refine j_widen (k := 2) (n := 14) (by decide) (by decide) ?_
  refine j_putF (pc := 17) (ci := 6) (v := .ref q_2) (ws' := [(h0, .inr (6, [.ref q_1, .int 0, .int 0, .int 0, .int 0, .int 0, .ref q_2, .null])), (q_1, .inl (cyI, 7, .inl (fun _ => 0))), (q_2, .inl (cyI, 7, .inl (fun _ => 0)))]) C inw_6 0 rfl rfl 6 (by decide) wd_65 rfl tyX6_ok nmX6 rfl hin rfl (tyX6_ok 6 (by decide)) rfl rfl (Nat.le_of_ble_eq_true rfl) dX6_init_17 rfl ?_
  refine j_aload_n (pc := 20) C dX6_init_20 rfl 0 rfl ?_
  refine j_bipush (pc := 21) (v := 12) C dX6_init_21 (by decide) ?_
  refine j_newa (pc := 23) (at1 := .int) (ty := .int) (N := 12) (a0 := (12, .inl (fun _ => 0))) C wd_6 rfl 1 rfl (fun _ _ h => h) (fun _ => rfl) (by decide) (by decide) (by decide) (by decide) (by decide) dX6_init_23 (fun q_3 => ?_)
  refine j_widen (k := 3) (n := 26) (by decide) (by decide) ?_
  refine j_putF (pc := 25) (ci := 6) (v := .ref q_3) (ws' := [(h0, .inr (6, [.ref q_1, .int 0, .int 0, .int 0, .int 0, .int 0, .ref q_2, .ref q_3])), (q_1, .inl (cyI, 7, .inl (fun _ => 0))), (q_2, .inl (cyI, 7, .inl (fun _ => 0))), (q_3, .inl (cyI, 12, .inl (fun _ => 0)))]) C inw_6 0 rfl rfl 7 (by decide) wd_66 rfl tyX6_ok nmX6 rfl hin rfl (tyX6_ok 7 (by decide)) rfl rfl (Nat.le_of_ble_eq_true rfl) dX6_init_25 rfl ?_
  exact j_vret (pc := 28) C hr hk (fun i => [q_1, q_2, q_3].getD i 0, fun _ => 0, fun _ _ => 0) rfl trivial [0, 1, 2, 3] (by decide) rfl (by decide) (by decide) dX6_init_28
set_option maxHeartbeats 4000000 in
set_option maxRecDepth 100000 in
theorem c_X2_init (l : Launch) (D : va_G) (cyC cyI cyJ cyZ cyO : ClassId) (h0 : Nat) : KK l D (TY cyC cyI cyJ cyZ cyO) yX2_init cX2_init 1 none ({ frames := 1, cells := 1, slots := 4, locals := 12 } : Room) 1 4 [.ref h0] [(h0, .inr (2, [.null]))] (fun u => none) (fun u => True) (fun u => [(h0, .inr (2, [.ref (u.1 0)])), ((u.1 0), .inl (cyJ, 4, .inr (.inl (fun _ => 0))))]) := by
  refine KK.of (lv0 := [(0, .ref h0)]) (by decide) rfl (Nat.le_of_ble_eq_true rfl) ?_
  intro p e s m args below meth c A C hr hk hin
  refine j_aload_n (pc := 0) C dX2_init_0 rfl 0 rfl ?_
  refine j_oinit (pc := 1) C wd_67 wd_1 wd_2 dX2_init_1 (by decide) (Nat.le_of_ble_eq_true rfl) ?_
  refine j_aload_n (pc := 4) C dX2_init_4 rfl 0 rfl ?_
  refine j_iconst (pc := 5) (v := 4) C dX2_init_5 (by decide) ?_
  refine j_newa (pc := 6) (at1 := .long) (ty := .long) (N := 4) (a0 := (4, .inr (.inl (fun _ => 0)))) C wd_34 rfl 2 rfl (fun _ _ h => h) (fun _ => rfl) (by decide) (by decide) (by decide) (by decide) (by decide) dX2_init_6 (fun q_1 => ?_)
  refine j_widen (k := 1) (n := 4) (by decide) (by decide) ?_
  refine j_putF (pc := 8) (ci := 2) (v := .ref q_1) (ws' := [(h0, .inr (2, [.ref q_1])), (q_1, .inl (cyJ, 4, .inr (.inl (fun _ => 0))))]) C inw_2 0 rfl rfl 0 (by decide) wd_68 rfl tyX2_ok nmX2 rfl hin rfl (tyX2_ok 0 (by decide)) rfl rfl (Nat.le_of_ble_eq_true rfl) dX2_init_8 rfl ?_
  exact j_vret (pc := 11) C hr hk (fun i => [q_1].getD i 0, fun _ => 0, fun _ _ => 0) rfl trivial [0, 1] (by decide) rfl (by decide) (by decide) dX2_init_11
