theorem wd_669 : Cond.fieldLink RX11 83 "BowlShelfModel" "told" "[I" ∈ WALL := wl_in (by decide +kernel) (by decide +kernel)
theorem wd_670 : Cond.fieldLink RX11 92 "BowlShelfModel" "names" "[J" ∈ WALL := wl_in (by decide +kernel) (by decide +kernel)
theorem wd_671 : Cond.code yX11_isName cX11_isName 3 (some .boolean) ∈ WALL := wl_in (by decide +kernel) (by decide +kernel)
theorem wd_672 : Cond.methodLink RX11 216 yX11_isName ∈ WALL := wl_in (by decide +kernel) (by decide +kernel)
theorem wd_673 : Cond.instanceMethod yX11_isName ∈ WALL := wl_in (by decide +kernel) (by decide +kernel)
theorem wd_674 : Cond.selects RX11 yX11_isName yX11_isName ∈ WALL := wl_in (by decide +kernel) (by decide +kernel)
theorem wd_675 : Cond.code yX11_nameOf cX11_nameOf 5 (some .int) ∈ WALL := wl_in (by decide +kernel) (by decide +kernel)
theorem wd_676 : Cond.methodLink RX11 220 yX11_nameOf ∈ WALL := wl_in (by decide +kernel) (by decide +kernel)
theorem wd_677 : Cond.instanceMethod yX11_nameOf ∈ WALL := wl_in (by decide +kernel) (by decide +kernel)
theorem wd_678 : Cond.selects RX11 yX11_nameOf yX11_nameOf ∈ WALL := wl_in (by decide +kernel) (by decide +kernel)
theorem wd_679 : Cond.code yX11_takeWord cX11_takeWord 2 none ∈ WALL := wl_in (by decide +kernel) (by decide +kernel)
theorem wd_680 : Cond.methodLink RX11 224 yX11_takeWord ∈ WALL := wl_in (by decide +kernel) (by decide +kernel)
theorem wd_681 : Cond.instanceMethod yX11_takeWord ∈ WALL := wl_in (by decide +kernel) (by decide +kernel)
theorem wd_682 : Cond.selects RX11 yX11_takeWord yX11_takeWord ∈ WALL := wl_in (by decide +kernel) (by decide +kernel)
theorem wd_683 : Cond.code yX11_takeNumber cX11_takeNumber 3 (some .int) ∈ WALL := wl_in (by decide +kernel) (by decide +kernel)
theorem wd_684 : Cond.methodLink RX11 227 yX11_takeNumber ∈ WALL := wl_in (by decide +kernel) (by decide +kernel)
theorem wd_685 : Cond.instanceMethod yX11_takeNumber ∈ WALL := wl_in (by decide +kernel) (by decide +kernel)
theorem wd_686 : Cond.selects RX11 yX11_takeNumber yX11_takeNumber ∈ WALL := wl_in (by decide +kernel) (by decide +kernel)
theorem dX11_takeNumber_0 : decode cX11_takeNumber 0 = .ok (.aload_n 0, 1) := by decide +kernel
theorem dX11_takeNumber_1 : decode cX11_takeNumber 1 = .ok (.getfield 175, 3) := by decide +kernel
theorem dX11_takeNumber_4 : decode cX11_takeNumber 4 = .ok (.ifCond .ne 24, 3) := by decide +kernel
theorem dX11_takeNumber_7 : decode cX11_takeNumber 7 = .ok (.aload_n 0, 1) := by decide +kernel
theorem dX11_takeNumber_8 : decode cX11_takeNumber 8 = .ok (.getfield 24, 3) := by decide +kernel
theorem dX11_takeNumber_11 : decode cX11_takeNumber 11 = .ok (.aload_n 0, 1) := by decide +kernel
theorem dX11_takeNumber_12 : decode cX11_takeNumber 12 = .ok (.getfield 172, 3) := by decide +kernel
theorem dX11_takeNumber_15 : decode cX11_takeNumber 15 = .ok (.iaload, 1) := by decide +kernel
theorem dX11_takeNumber_16 : decode cX11_takeNumber 16 = .ok (.iconst 2, 1) := by decide +kernel
theorem dX11_takeNumber_17 : decode cX11_takeNumber 17 = .ok (.if_icmp .eq 11, 3) := by decide +kernel
theorem dX11_takeNumber_20 : decode cX11_takeNumber 20 = .ok (.aload_n 0, 1) := by decide +kernel
theorem dX11_takeNumber_21 : decode cX11_takeNumber 21 = .ok (.iconst 1, 1) := by decide +kernel
theorem dX11_takeNumber_22 : decode cX11_takeNumber 22 = .ok (.invokevirtual 181, 3) := by decide +kernel
theorem dX11_takeNumber_25 : decode cX11_takeNumber 25 = .ok (.goto 45, 3) := by decide +kernel
theorem dX11_takeNumber_28 : decode cX11_takeNumber 28 = .ok (.aload_n 0, 1) := by decide +kernel
theorem dX11_takeNumber_29 : decode cX11_takeNumber 29 = .ok (.getfield 175, 3) := by decide +kernel
theorem dX11_takeNumber_32 : decode cX11_takeNumber 32 = .ok (.ifCond .ne 38, 3) := by decide +kernel
theorem dX11_takeNumber_35 : decode cX11_takeNumber 35 = .ok (.aload_n 0, 1) := by decide +kernel
theorem dX11_takeNumber_36 : decode cX11_takeNumber 36 = .ok (.getfield 30, 3) := by decide +kernel
theorem dX11_takeNumber_39 : decode cX11_takeNumber 39 = .ok (.aload_n 0, 1) := by decide +kernel
theorem dX11_takeNumber_40 : decode cX11_takeNumber 40 = .ok (.getfield 172, 3) := by decide +kernel
theorem dX11_takeNumber_43 : decode cX11_takeNumber 43 = .ok (.laload, 1) := by decide +kernel
theorem dX11_takeNumber_44 : decode cX11_takeNumber 44 = .ok (.iload_n 1, 1) := by decide +kernel
theorem dX11_takeNumber_45 : decode cX11_takeNumber 45 = .ok (.i2l, 1) := by decide +kernel
theorem dX11_takeNumber_46 : decode cX11_takeNumber 46 = .ok (.lcmp, 1) := by decide +kernel
theorem dX11_takeNumber_47 : decode cX11_takeNumber 47 = .ok (.ifCond .lt 18, 3) := by decide +kernel
theorem dX11_takeNumber_50 : decode cX11_takeNumber 50 = .ok (.aload_n 0, 1) := by decide +kernel
theorem dX11_takeNumber_51 : decode cX11_takeNumber 51 = .ok (.getfield 30, 3) := by decide +kernel
theorem dX11_takeNumber_54 : decode cX11_takeNumber 54 = .ok (.aload_n 0, 1) := by decide +kernel
theorem dX11_takeNumber_55 : decode cX11_takeNumber 55 = .ok (.getfield 172, 3) := by decide +kernel
theorem dX11_takeNumber_58 : decode cX11_takeNumber 58 = .ok (.laload, 1) := by decide +kernel
theorem dX11_takeNumber_59 : decode cX11_takeNumber 59 = .ok (.iload_n 2, 1) := by decide +kernel
theorem dX11_takeNumber_60 : decode cX11_takeNumber 60 = .ok (.i2l, 1) := by decide +kernel
theorem dX11_takeNumber_61 : decode cX11_takeNumber 61 = .ok (.lcmp, 1) := by decide +kernel
theorem dX11_takeNumber_62 : decode cX11_takeNumber 62 = .ok (.ifCond .le 8, 3) := by decide +kernel
theorem dX11_takeNumber_65 : decode cX11_takeNumber 65 = .ok (.aload_n 0, 1) := by decide +kernel
theorem dX11_takeNumber_66 : decode cX11_takeNumber 66 = .ok (.iconst 4, 1) := by decide +kernel
theorem dX11_takeNumber_67 : decode cX11_takeNumber 67 = .ok (.invokevirtual 181, 3) := by decide +kernel
theorem dX11_takeNumber_70 : decode cX11_takeNumber 70 = .ok (.aload_n 0, 1) := by decide +kernel
theorem dX11_takeNumber_71 : decode cX11_takeNumber 71 = .ok (.getfield 175, 3) := by decide +kernel
theorem dX11_takeNumber_74 : decode cX11_takeNumber 74 = .ok (.ifCond .le 5, 3) := by decide +kernel
theorem dX11_takeNumber_77 : decode cX11_takeNumber 77 = .ok (.iconst 0, 1) := by decide +kernel
theorem dX11_takeNumber_78 : decode cX11_takeNumber 78 = .ok (.ireturn, 1) := by decide +kernel
theorem dX11_takeNumber_79 : decode cX11_takeNumber 79 = .ok (.aload_n 0, 1) := by decide +kernel
theorem dX11_takeNumber_80 : decode cX11_takeNumber 80 = .ok (.dup, 1) := by decide +kernel
theorem dX11_takeNumber_81 : decode cX11_takeNumber 81 = .ok (.getfield 172, 3) := by decide +kernel
theorem dX11_takeNumber_84 : decode cX11_takeNumber 84 = .ok (.iconst 1, 1) := by decide +kernel
theorem dX11_takeNumber_85 : decode cX11_takeNumber 85 = .ok (.iadd, 1) := by decide +kernel
theorem dX11_takeNumber_86 : decode cX11_takeNumber 86 = .ok (.putfield 172, 3) := by decide +kernel
theorem dX11_takeNumber_89 : decode cX11_takeNumber 89 = .ok (.aload_n 0, 1) := by decide +kernel
theorem dX11_takeNumber_90 : decode cX11_takeNumber 90 = .ok (.getfield 30, 3) := by decide +kernel
theorem dX11_takeNumber_93 : decode cX11_takeNumber 93 = .ok (.aload_n 0, 1) := by decide +kernel
theorem dX11_takeNumber_94 : decode cX11_takeNumber 94 = .ok (.getfield 172, 3) := by decide +kernel
theorem dX11_takeNumber_97 : decode cX11_takeNumber 97 = .ok (.iconst 1, 1) := by decide +kernel
theorem dX11_takeNumber_98 : decode cX11_takeNumber 98 = .ok (.isub, 1) := by decide +kernel
theorem dX11_takeNumber_99 : decode cX11_takeNumber 99 = .ok (.laload, 1) := by decide +kernel
theorem dX11_takeNumber_100 : decode cX11_takeNumber 100 = .ok (.l2i, 1) := by decide +kernel
theorem dX11_takeNumber_101 : decode cX11_takeNumber 101 = .ok (.ireturn, 1) := by decide +kernel
theorem dX11_isName_0 : decode cX11_isName 0 = .ok (.aload_n 0, 1) := by decide +kernel
theorem dX11_isName_1 : decode cX11_isName 1 = .ok (.getfield 175, 3) := by decide +kernel
theorem dX11_isName_4 : decode cX11_isName 4 = .ok (.ifCond .ne 20, 3) := by decide +kernel
theorem dX11_isName_7 : decode cX11_isName 7 = .ok (.aload_n 0, 1) := by decide +kernel
theorem dX11_isName_8 : decode cX11_isName 8 = .ok (.getfield 24, 3) := by decide +kernel
theorem dX11_isName_11 : decode cX11_isName 11 = .ok (.aload_n 0, 1) := by decide +kernel
theorem dX11_isName_12 : decode cX11_isName 12 = .ok (.getfield 172, 3) := by decide +kernel
theorem dX11_isName_15 : decode cX11_isName 15 = .ok (.iaload, 1) := by decide +kernel
theorem dX11_isName_16 : decode cX11_isName 16 = .ok (.iconst 1, 1) := by decide +kernel
theorem dX11_isName_17 : decode cX11_isName 17 = .ok (.if_icmp .ne 7, 3) := by decide +kernel
theorem dX11_isName_20 : decode cX11_isName 20 = .ok (.iconst 1, 1) := by decide +kernel
theorem dX11_isName_21 : decode cX11_isName 21 = .ok (.goto 4, 3) := by decide +kernel
theorem dX11_isName_24 : decode cX11_isName 24 = .ok (.iconst 0, 1) := by decide +kernel
theorem dX11_isName_25 : decode cX11_isName 25 = .ok (.istore_n 1, 1) := by decide +kernel
theorem dX11_isName_26 : decode cX11_isName 26 = .ok (.iconst 0, 1) := by decide +kernel
theorem dX11_isName_27 : decode cX11_isName 27 = .ok (.istore_n 2, 1) := by decide +kernel
theorem dX11_isName_28 : decode cX11_isName 28 = .ok (.iload_n 2, 1) := by decide +kernel
theorem dX11_isName_29 : decode cX11_isName 29 = .ok (.bipush 17, 2) := by decide +kernel
theorem dX11_isName_31 : decode cX11_isName 31 = .ok (.if_icmp .ge 38, 3) := by decide +kernel
theorem dX11_isName_34 : decode cX11_isName 34 = .ok (.iload_n 1, 1) := by decide +kernel
theorem dX11_isName_35 : decode cX11_isName 35 = .ok (.ifCond .eq 26, 3) := by decide +kernel
theorem dX11_isName_38 : decode cX11_isName 38 = .ok (.aload_n 0, 1) := by decide +kernel
theorem dX11_isName_39 : decode cX11_isName 39 = .ok (.getfield 30, 3) := by decide +kernel
theorem dX11_isName_42 : decode cX11_isName 42 = .ok (.aload_n 0, 1) := by decide +kernel
theorem dX11_isName_43 : decode cX11_isName 43 = .ok (.getfield 172, 3) := by decide +kernel
theorem dX11_isName_46 : decode cX11_isName 46 = .ok (.laload, 1) := by decide +kernel
theorem dX11_isName_47 : decode cX11_isName 47 = .ok (.aload_n 0, 1) := by decide +kernel
theorem dX11_isName_48 : decode cX11_isName 48 = .ok (.getfield 80, 3) := by decide +kernel
theorem dX11_isName_51 : decode cX11_isName 51 = .ok (.iload_n 2, 1) := by decide +kernel
theorem dX11_isName_52 : decode cX11_isName 52 = .ok (.laload, 1) := by decide +kernel
theorem dX11_isName_53 : decode cX11_isName 53 = .ok (.lcmp, 1) := by decide +kernel
theorem dX11_isName_54 : decode cX11_isName 54 = .ok (.ifCond .eq 7, 3) := by decide +kernel
theorem dX11_isName_57 : decode cX11_isName 57 = .ok (.iconst 1, 1) := by decide +kernel
theorem dX11_isName_58 : decode cX11_isName 58 = .ok (.goto 4, 3) := by decide +kernel
theorem dX11_isName_61 : decode cX11_isName 61 = .ok (.iconst 0, 1) := by decide +kernel
theorem dX11_isName_62 : decode cX11_isName 62 = .ok (.istore_n 1, 1) := by decide +kernel
theorem dX11_isName_63 : decode cX11_isName 63 = .ok (.iinc 2 1, 3) := by decide +kernel
theorem dX11_isName_66 : decode cX11_isName 66 = .ok (.goto (-38), 3) := by decide +kernel
theorem dX11_isName_69 : decode cX11_isName 69 = .ok (.iload_n 1, 1) := by decide +kernel
theorem dX11_isName_70 : decode cX11_isName 70 = .ok (.ireturn, 1) := by decide +kernel
theorem dX11_nameOf_0 : decode cX11_nameOf 0 = .ok (.iconst 0, 1) := by decide +kernel
theorem dX11_nameOf_1 : decode cX11_nameOf 1 = .ok (.istore_n 3, 1) := by decide +kernel
theorem dX11_nameOf_2 : decode cX11_nameOf 2 = .ok (.iload_n 3, 1) := by decide +kernel
theorem dX11_nameOf_3 : decode cX11_nameOf 3 = .ok (.bipush 16, 2) := by decide +kernel
theorem dX11_nameOf_5 : decode cX11_nameOf 5 = .ok (.if_icmp .ge 73, 3) := by decide +kernel
theorem dX11_nameOf_8 : decode cX11_nameOf 8 = .ok (.iload_n 3, 1) := by decide +kernel
theorem dX11_nameOf_9 : decode cX11_nameOf 9 = .ok (.bipush 12, 2) := by decide +kernel
theorem dX11_nameOf_11 : decode cX11_nameOf 11 = .ok (.if_icmp .ge 22, 3) := by decide +kernel
theorem dX11_nameOf_14 : decode cX11_nameOf 14 = .ok (.iload_n 3, 1) := by decide +kernel
theorem dX11_nameOf_15 : decode cX11_nameOf 15 = .ok (.aload_n 0, 1) := by decide +kernel
theorem dX11_nameOf_16 : decode cX11_nameOf 16 = .ok (.getfield 83, 3) := by decide +kernel
theorem dX11_nameOf_19 : decode cX11_nameOf 19 = .ok (.bipush 120, 2) := by decide +kernel
theorem dX11_nameOf_21 : decode cX11_nameOf 21 = .ok (.iaload, 1) := by decide +kernel
theorem dX11_nameOf_22 : decode cX11_nameOf 22 = .ok (.if_icmp .ge 7, 3) := by decide +kernel
theorem dX11_nameOf_25 : decode cX11_nameOf 25 = .ok (.iconst 1, 1) := by decide +kernel
theorem dX11_nameOf_26 : decode cX11_nameOf 26 = .ok (.goto 26, 3) := by decide +kernel
theorem dX11_nameOf_29 : decode cX11_nameOf 29 = .ok (.iconst 0, 1) := by decide +kernel
theorem dX11_nameOf_30 : decode cX11_nameOf 30 = .ok (.goto 22, 3) := by decide +kernel
theorem dX11_nameOf_33 : decode cX11_nameOf 33 = .ok (.iload_n 3, 1) := by decide +kernel
theorem dX11_nameOf_34 : decode cX11_nameOf 34 = .ok (.bipush 12, 2) := by decide +kernel
theorem dX11_nameOf_36 : decode cX11_nameOf 36 = .ok (.isub, 1) := by decide +kernel
theorem dX11_nameOf_37 : decode cX11_nameOf 37 = .ok (.aload_n 0, 1) := by decide +kernel
theorem dX11_nameOf_38 : decode cX11_nameOf 38 = .ok (.getfield 83, 3) := by decide +kernel
theorem dX11_nameOf_41 : decode cX11_nameOf 41 = .ok (.bipush 121, 2) := by decide +kernel
theorem dX11_nameOf_43 : decode cX11_nameOf 43 = .ok (.iaload, 1) := by decide +kernel
theorem dX11_nameOf_44 : decode cX11_nameOf 44 = .ok (.if_icmp .ge 7, 3) := by decide +kernel
theorem dX11_nameOf_47 : decode cX11_nameOf 47 = .ok (.iconst 1, 1) := by decide +kernel
theorem dX11_nameOf_48 : decode cX11_nameOf 48 = .ok (.goto 4, 3) := by decide +kernel
theorem dX11_nameOf_51 : decode cX11_nameOf 51 = .ok (.iconst 0, 1) := by decide +kernel
theorem dX11_nameOf_52 : decode cX11_nameOf 52 = .ok (.istore 4, 2) := by decide +kernel
theorem dX11_nameOf_54 : decode cX11_nameOf 54 = .ok (.iload 4, 2) := by decide +kernel
theorem dX11_nameOf_56 : decode cX11_nameOf 56 = .ok (.ifCond .eq 16, 3) := by decide +kernel
theorem dX11_nameOf_59 : decode cX11_nameOf 59 = .ok (.aload_n 0, 1) := by decide +kernel
theorem dX11_nameOf_60 : decode cX11_nameOf 60 = .ok (.getfield 92, 3) := by decide +kernel
theorem dX11_nameOf_63 : decode cX11_nameOf 63 = .ok (.iload_n 3, 1) := by decide +kernel
theorem dX11_nameOf_64 : decode cX11_nameOf 64 = .ok (.laload, 1) := by decide +kernel
theorem dX11_nameOf_65 : decode cX11_nameOf 65 = .ok (.lload_n 1, 1) := by decide +kernel
theorem dX11_nameOf_66 : decode cX11_nameOf 66 = .ok (.lcmp, 1) := by decide +kernel
theorem dX11_nameOf_67 : decode cX11_nameOf 67 = .ok (.ifCond .ne 5, 3) := by decide +kernel
theorem dX11_nameOf_70 : decode cX11_nameOf 70 = .ok (.iload_n 3, 1) := by decide +kernel
theorem dX11_nameOf_71 : decode cX11_nameOf 71 = .ok (.ireturn, 1) := by decide +kernel
theorem dX11_nameOf_72 : decode cX11_nameOf 72 = .ok (.iinc 3 1, 3) := by decide +kernel
theorem dX11_nameOf_75 : decode cX11_nameOf 75 = .ok (.goto (-73), 3) := by decide +kernel
theorem dX11_nameOf_78 : decode cX11_nameOf 78 = .ok (.iconst (-1), 1) := by decide +kernel
theorem dX11_nameOf_79 : decode cX11_nameOf 79 = .ok (.ireturn, 1) := by decide +kernel
theorem dX11_newName_0 : decode cX11_newName 0 = .ok (.aload_n 0, 1) := by decide +kernel
theorem dX11_newName_1 : decode cX11_newName 1 = .ok (.invokevirtual 216, 3) := by decide +kernel
theorem dX11_newName_4 : decode cX11_newName 4 = .ok (.ifCond .ne 11, 3) := by decide +kernel
theorem dX11_newName_7 : decode cX11_newName 7 = .ok (.aload_n 0, 1) := by decide +kernel
theorem dX11_newName_8 : decode cX11_newName 8 = .ok (.iconst 1, 1) := by decide +kernel
theorem dX11_newName_9 : decode cX11_newName 9 = .ok (.invokevirtual 181, 3) := by decide +kernel
theorem dX11_newName_12 : decode cX11_newName 12 = .ok (.goto 24, 3) := by decide +kernel
theorem dX11_newName_15 : decode cX11_newName 15 = .ok (.aload_n 0, 1) := by decide +kernel
theorem dX11_newName_16 : decode cX11_newName 16 = .ok (.aload_n 0, 1) := by decide +kernel
theorem dX11_newName_17 : decode cX11_newName 17 = .ok (.getfield 30, 3) := by decide +kernel
theorem dX11_newName_20 : decode cX11_newName 20 = .ok (.aload_n 0, 1) := by decide +kernel
theorem dX11_newName_21 : decode cX11_newName 21 = .ok (.getfield 172, 3) := by decide +kernel
theorem dX11_newName_24 : decode cX11_newName 24 = .ok (.laload, 1) := by decide +kernel
theorem dX11_newName_25 : decode cX11_newName 25 = .ok (.invokevirtual 220, 3) := by decide +kernel
theorem dX11_newName_28 : decode cX11_newName 28 = .ok (.ifCond .lt 8, 3) := by decide +kernel
theorem dX11_newName_31 : decode cX11_newName 31 = .ok (.aload_n 0, 1) := by decide +kernel
theorem dX11_newName_32 : decode cX11_newName 32 = .ok (.iconst 3, 1) := by decide +kernel
theorem dX11_newName_33 : decode cX11_newName 33 = .ok (.invokevirtual 181, 3) := by decide +kernel
theorem dX11_newName_36 : decode cX11_newName 36 = .ok (.aload_n 0, 1) := by decide +kernel
theorem dX11_newName_37 : decode cX11_newName 37 = .ok (.getfield 175, 3) := by decide +kernel
theorem dX11_newName_40 : decode cX11_newName 40 = .ok (.ifCond .le 5, 3) := by decide +kernel
theorem dX11_newName_43 : decode cX11_newName 43 = .ok (.lconst 0, 1) := by decide +kernel
theorem dX11_newName_44 : decode cX11_newName 44 = .ok (.lreturn, 1) := by decide +kernel
theorem dX11_newName_45 : decode cX11_newName 45 = .ok (.aload_n 0, 1) := by decide +kernel
theorem dX11_newName_46 : decode cX11_newName 46 = .ok (.dup, 1) := by decide +kernel
theorem dX11_newName_47 : decode cX11_newName 47 = .ok (.getfield 172, 3) := by decide +kernel
theorem dX11_newName_50 : decode cX11_newName 50 = .ok (.iconst 1, 1) := by decide +kernel
theorem dX11_newName_51 : decode cX11_newName 51 = .ok (.iadd, 1) := by decide +kernel
theorem dX11_newName_52 : decode cX11_newName 52 = .ok (.putfield 172, 3) := by decide +kernel
theorem dX11_newName_55 : decode cX11_newName 55 = .ok (.aload_n 0, 1) := by decide +kernel
theorem dX11_newName_56 : decode cX11_newName 56 = .ok (.getfield 30, 3) := by decide +kernel
theorem dX11_newName_59 : decode cX11_newName 59 = .ok (.aload_n 0, 1) := by decide +kernel
theorem dX11_newName_60 : decode cX11_newName 60 = .ok (.getfield 172, 3) := by decide +kernel
theorem dX11_newName_63 : decode cX11_newName 63 = .ok (.iconst 1, 1) := by decide +kernel
theorem dX11_newName_64 : decode cX11_newName 64 = .ok (.isub, 1) := by decide +kernel
theorem dX11_newName_65 : decode cX11_newName 65 = .ok (.laload, 1) := by decide +kernel
theorem dX11_newName_66 : decode cX11_newName 66 = .ok (.lreturn, 1) := by decide +kernel
theorem dX11_takeAfter_0 : decode cX11_takeAfter 0 = .ok (.aload_n 0, 1) := by decide +kernel
theorem dX11_takeAfter_1 : decode cX11_takeAfter 1 = .ok (.iload_n 1, 1) := by decide +kernel
theorem dX11_takeAfter_2 : decode cX11_takeAfter 2 = .ok (.invokevirtual 224, 3) := by decide +kernel
theorem dX11_takeAfter_5 : decode cX11_takeAfter 5 = .ok (.aload_n 0, 1) := by decide +kernel
theorem dX11_takeAfter_6 : decode cX11_takeAfter 6 = .ok (.iload_n 2, 1) := by decide +kernel
theorem dX11_takeAfter_7 : decode cX11_takeAfter 7 = .ok (.iload_n 3, 1) := by decide +kernel
theorem dX11_takeAfter_8 : decode cX11_takeAfter 8 = .ok (.invokevirtual 227, 3) := by decide +kernel
theorem dX11_takeAfter_11 : decode cX11_takeAfter 11 = .ok (.ireturn, 1) := by decide +kernel
set_option maxHeartbeats 4000000 in
set_option maxRecDepth 100000 in
theorem c_X11_takeNumber (l : Launch) (D : DG) (cyC cyI cyJ cyZ cyO : ClassId) (m0 : Nat) (msort : Nat) (mplace : Nat) (mvalue : Nat) (mwords : Nat) (mtape : Nat) (mtold : Nat) (mop : Nat) (marg : Nat) (mnames : Nat) (mhasHabit : Nat) (mfactWords : Nat) (mfacts : Nat) (mpile : Nat) (mstates : Nat) (misMarked : Nat) (mrow : Nat) (mthr : Nat) (mmays : Nat) (mtall : Nat) (mweights : Nat) (mrowOfWare : Nat) (mneededOf : Nat) (mtried : Nat) (mbestRow : Nat) (mdigits : Nat) (p0 : Int32) (p1 : Int32) (m_thrown : Int32) (m_taped : Int32) (m_size : Int32) (m_at : Int32) (m_fault : Int32) (m_codes : Int32) (m_isNew : Int32) (m_inShelf : Int32) (m_inStack : Int32) (m_inPlace : Int32) (m_rowMany : Int32) (m_goShelf : Int32) (m_goStack : Int32) (m_goLeft : Int32) (m_bestCost : Int32) (m_bestMany : Int32) (m_bestShelf : Int32) (m_bestSet : Int32) (m_sort : Nat → Int32) (m_place : Nat → Int32) (m_value : Nat → Int64) (m_words : Nat → Int64) (T : Nat → Int × Int64 × Nat) (h_m_taped : 0 ≤ (m_taped).toInt ∧ (m_taped).toInt ≤ 1000) (h_m_size : 0 ≤ (m_size).toInt ∧ (m_size).toInt ≤ 1000) (h_m_at : 0 ≤ (m_at).toInt ∧ (m_at).toInt ≤ 1000) (h_m_fault : 0 ≤ (m_fault).toInt ∧ (m_fault).toInt ≤ 16005) (h_m_codes : 0 ≤ (m_codes).toInt ∧ (m_codes).toInt ≤ 1000) (h_m_isNew : 0 ≤ (m_isNew).toInt ∧ (m_isNew).toInt ≤ 1) (h_m_inShelf : 0 ≤ (m_inShelf).toInt ∧ (m_inShelf).toInt ≤ 3) (h_m_inStack : 0 ≤ (m_inStack).toInt ∧ (m_inStack).toInt ≤ 7) (h_m_inPlace : 0 ≤ (m_inPlace).toInt ∧ (m_inPlace).toInt ≤ 11) (h_m_rowMany : 0 ≤ (m_rowMany).toInt ∧ (m_rowMany).toInt ≤ 12) (h_m_goShelf : -1 ≤ (m_goShelf).toInt ∧ (m_goShelf).toInt ≤ 3) (h_m_bestMany : 0 ≤ (m_bestMany).toInt ∧ (m_bestMany).toInt ≤ 7) (h_m_bestShelf : 0 ≤ (m_bestShelf).toInt ∧ (m_bestShelf).toInt ≤ 3) (h_p0 : 0 ≤ (p0).toInt ∧ (p0).toInt ≤ 999) (h_p1 : 0 ≤ (p1).toInt ∧ (p1).toInt ≤ 999) (h_m_place : Iv 1002 (0) (1000) m_place) (hN1 : eN m_sort ≤ 1000) (hN2 : (m_at).toInt ≤ ((eN m_sort : Nat) : Int)) (hRT : RWS m_sort m_place m_value T) (hWO : WRD m_words) : KK l D (TY cyC cyI cyJ cyZ cyO) yX11_takeNumber cX11_takeNumber 3 (some .int) ({ frames := 1, cells := 0, slots := 0, locals := 21 } : Room) 0 0 [.ref m0, .int p0, .int p1] [(m0, .inr (11, [.int m_thrown, .ref mtape, .int m_taped, .int m_size, .ref msort, .ref mplace, .ref mvalue, .int m_at, .int m_fault, .ref mwords, .ref mtold, .ref mop, .ref marg, .int m_codes, .ref mnames, .ref mhasHabit, .int m_isNew, .ref mfactWords, .ref mfacts, .ref mpile, .ref mstates, .ref misMarked, .int m_inShelf, .int m_inStack, .int m_inPlace, .ref mrow, .int m_rowMany, .ref mthr, .ref mmays, .ref mtall, .ref mweights, .ref mrowOfWare, .ref mneededOf, .int m_goShelf, .int m_goStack, .int m_goLeft, .ref mtried, .ref mbestRow, .int m_bestCost, .int m_bestMany, .int m_bestShelf, .int m_bestSet, .ref mdigits])), (msort, .inl (cyI, 1002, .inl m_sort)), (mplace, .inl (cyI, 1002, .inl m_place)), (mvalue, .inl (cyJ, 1002, .inr (.inl m_value))), (mwords, .inl (cyJ, 23, .inr (.inl m_words)))] (fun u => some (.int (u.2.1 0))) (fun u => (0 ≤ (u.2.1 1).toInt ∧ (u.2.1 1).toInt ≤ 1000) ∧ (0 ≤ (u.2.1 2).toInt ∧ (u.2.1 2).toInt ≤ 16005) ∧ ((m_at).toInt ≤ ((u.2.1 1)).toInt) ∧ (((u.2.1 1)).toInt ≤ ((eN m_sort : Nat) : Int)) ∧ ((m_fault).toInt ≤ ((u.2.1 2)).toInt) ∧ (0 ≤ (u.2.1 0).toInt) ∧ ((u.2.1 0).toInt ≤ (p1).toInt) ∧ (IM (((u.2.1 2)).toInt = 0) ((u.2.1 0).toInt = nb T (m_place (m_at).toInt.toNat).toInt.toNat)) ∧ (RP m_place (m_fault).toInt (m_at).toInt ((u.2.1 2)).toInt ((u.2.1 1)).toInt (rNum T (p0).toInt (p1).toInt))) (fun u => [(m0, .inr (11, [.int m_thrown, .ref mtape, .int m_taped, .int m_size, .ref msort, .ref mplace, .ref mvalue, .int (u.2.1 1), .int (u.2.1 2), .ref mwords, .ref mtold, .ref mop, .ref marg, .int m_codes, .ref mnames, .ref mhasHabit, .int m_isNew, .ref mfactWords, .ref mfacts, .ref mpile, .ref mstates, .ref misMarked, .int m_inShelf, .int m_inStack, .int m_inPlace, .ref mrow, .int m_rowMany, .ref mthr, .ref mmays, .ref mtall, .ref mweights, .ref mrowOfWare, .ref mneededOf, .int m_goShelf, .int m_goStack, .int m_goLeft, .ref mtried, .ref mbestRow, .int m_bestCost, .int m_bestMany, .int m_bestShelf, .int m_bestSet, .ref mdigits])), (msort, .inl (cyI, 1002, .inl m_sort)), (mplace, .inl (cyI, 1002, .inl m_place)), (mvalue, .inl (cyJ, 1002, .inr (.inl m_value))), (mwords, .inl (cyJ, 23, .inr (.inl m_words)))]) := by
  refine KK.of (lv0 := [(0, .ref m0), (1, .int p0), (2, .int p1)]) (by decide) rfl (Nat.le_of_ble_eq_true rfl) ?_
  intro p e s m args below meth c A C hr hk hin
  refine j_aload_n (pc := 0) C dX11_takeNumber_0 rfl 0 rfl ?_
  refine j_get (pc := 1) (ci := 11) (v := .int m_fault) C inw_11 0 rfl rfl 8 (by decide) wd_638 rfl rfl dX11_takeNumber_1 ?_
  refine j_if_ne (pc := 4) (tgt := 28) C dX11_takeNumber_4 (by decide) (fun c_1 => ?_) (fun c_1 => ?_)
  · skip
    have el_0 : (0 : Int32).toInt = 0 := rfl
    rw [i_eq] at c_1
    refine j_aload_n (pc := 28) C dX11_takeNumber_28 rfl 0 rfl ?_
    refine j_get (pc := 29) (ci := 11) (v := .int m_fault) C inw_11 0 rfl rfl 8 (by decide) wd_638 rfl rfl dX11_takeNumber_29 ?_
    have el_0 : (0 : Int32).toInt = 0 := rfl
    refine j_if_ne_t (pc := 32) (tgt := 70) C dX11_takeNumber_32 (by decide) (by rw [i_eq]; omega) ?_
    refine j_aload_n (pc := 70) C dX11_takeNumber_70 rfl 0 rfl ?_
    refine j_get (pc := 71) (ci := 11) (v := .int m_fault) C inw_11 0 rfl rfl 8 (by decide) wd_638 rfl rfl dX11_takeNumber_71 ?_
    have el_0 : (0 : Int32).toInt = 0 := rfl
    refine j_if_le_f (pc := 74) (tgt := 79) C dX11_takeNumber_74 (by decide) (by rw [i_le]; omega) ?_
    refine j_iconst (pc := 77) (v := 0) C dX11_takeNumber_77 (by decide) ?_
    have el_0 : (0 : Int32).toInt = 0 := rfl
    have el_0 : (0 : Int32).toInt = 0 := rfl
    have el_0 : (0 : Int32).toInt = 0 := rfl
    have el_0 : (0 : Int32).toInt = 0 := rfl
    have el_0 : (0 : Int32).toInt = 0 := rfl
    have el_0 : (0 : Int32).toInt = 0 := rfl
    have el_0 : (0 : Int32).toInt = 0 := rfl
    exact j_iret (pc := 78) C hr hk (fun i => [].getD i 0, fun i => [0, m_at, m_fault].getD i 0, fun i => [].getD i (fun _ => 0), fun i => [].getD i (fun _ => 0)) rfl (show (0 ≤ (m_at).toInt ∧ (m_at).toInt ≤ 1000) ∧ (0 ≤ (m_fault).toInt ∧ (m_fault).toInt ≤ 16005) ∧ ((m_at).toInt ≤ (m_at).toInt) ∧ ((m_at).toInt ≤ ((eN m_sort : Nat) : Int)) ∧ ((m_fault).toInt ≤ (m_fault).toInt) ∧ (0 ≤ (0 : Int32).toInt) ∧ ((0 : Int32).toInt ≤ (p1).toInt) ∧ (IM ((m_fault).toInt = 0) ((0 : Int32).toInt = nb T (m_place (m_at).toInt.toNat).toInt.toNat)) ∧ (RP m_place (m_fault).toInt (m_at).toInt (m_fault).toInt (m_at).toInt (rNum T (p0).toInt (p1).toInt)) from ⟨h_m_at, h_m_fault, by omega, by omega, by omega, (by omega), (by omega), (fun h => absurd h (by omega)), (RP.bad (by omega) (by omega))⟩) [0, 1, 2, 3, 4] (by decide) rfl (by decide) (by decide) dX11_takeNumber_78
  · skip
    have el_0 : (0 : Int32).toInt = 0 := rfl
    rw [i_eq] at c_1
    refine j_aload_n (pc := 7) C dX11_takeNumber_7 rfl 0 rfl ?_
    refine j_get (pc := 8) (ci := 11) (v := .ref msort) C inw_11 0 rfl rfl 4 (by decide) wd_635 rfl rfl dX11_takeNumber_8 ?_
    refine j_aload_n (pc := 11) C dX11_takeNumber_11 rfl 0 rfl ?_
    refine j_get (pc := 12) (ci := 11) (v := .int m_at) C inw_11 0 rfl rfl 7 (by decide) wd_637 rfl rfl dX11_takeNumber_12 ?_
    obtain ⟨v_2, ev_2⟩ : ∃ z, m_sort (m_at).toInt.toNat = z := ⟨_, rfl⟩
    have env_2 : (m_sort (m_at).toInt.toNat).toInt = v_2.toInt := by rw [ev_2]
    have hNv_2 := eN_rd (f := m_sort) (x := m_at) ev_2 (by omega) (by omega)
    refine j_iald (pc := 15) (v := v_2) (k := (m_at).toInt.toNat) C 1 1 rfl rfl (i_nn h_m_at.1) rfl (i_lt_n h_m_at.1 (Int.lt_of_le_of_lt h_m_at.2 (by decide))) ev_2 dX11_takeNumber_15 ?_
    refine j_iconst (pc := 16) (v := 2) C dX11_takeNumber_16 (by decide) ?_
    refine j_icmp_eq (pc := 17) (tgt := 28) C dX11_takeNumber_17 (by decide) (fun c_3 => ?_) (fun c_3 => ?_)
    · skip
      have el_2 : (2 : Int32).toInt = 2 := rfl
      rw [i_eq] at c_3
      refine j_aload_n (pc := 28) C dX11_takeNumber_28 rfl 0 rfl ?_
      refine j_get (pc := 29) (ci := 11) (v := .int m_fault) C inw_11 0 rfl rfl 8 (by decide) wd_638 rfl rfl dX11_takeNumber_29 ?_
      have el_0 : (0 : Int32).toInt = 0 := rfl
      refine j_if_ne_f (pc := 32) (tgt := 70) C dX11_takeNumber_32 (by decide) (by rw [i_eq]; omega) ?_
      refine j_aload_n (pc := 35) C dX11_takeNumber_35 rfl 0 rfl ?_
      refine j_get (pc := 36) (ci := 11) (v := .ref mvalue) C inw_11 0 rfl rfl 6 (by decide) wd_645 rfl rfl dX11_takeNumber_36 ?_
      refine j_aload_n (pc := 39) C dX11_takeNumber_39 rfl 0 rfl ?_
      refine j_get (pc := 40) (ci := 11) (v := .int m_at) C inw_11 0 rfl rfl 7 (by decide) wd_637 rfl rfl dX11_takeNumber_40 ?_
      obtain ⟨v_4, ev_4⟩ : ∃ z, m_value (m_at).toInt.toNat = z := ⟨_, rfl⟩
      refine j_lald (pc := 43) (v := v_4) (k := (m_at).toInt.toNat) C 3 2 rfl rfl (i_nn h_m_at.1) rfl (i_lt_n h_m_at.1 (Int.lt_of_le_of_lt h_m_at.2 (by decide))) ev_4 dX11_takeNumber_43 ?_
      refine j_iload_n (pc := 44) C dX11_takeNumber_44 rfl 1 rfl ?_
      refine j_i2l (pc := 45) C dX11_takeNumber_45 rfl ?_
      obtain ⟨v_5, ev_5⟩ : ∃ z : Int32, lc v_4 ((p0).toInt64) = z := ⟨_, rfl⟩
      have hv_5 := lc_eq ev_5
      refine j_lcmp (pc := 46) (v := v_5) C dX11_takeNumber_46 ev_5 ?_
      have hIv_5 := lc_int ev_5
      have := Int32.toInt_toInt64 p0
      refine j_if_lt (pc := 47) (tgt := 65) C dX11_takeNumber_47 (by decide) (fun c_6 => ?_) (fun c_6 => ?_)
      · skip
        have el_0 : (0 : Int32).toInt = 0 := rfl
        rw [i_lt] at c_6
        have k0c_6 : v_5.toInt = -1 := by omega
        refine j_aload_n (pc := 65) C dX11_takeNumber_65 rfl 0 rfl ?_
        refine j_iconst (pc := 66) (v := 4) C dX11_takeNumber_66 (by decide) ?_
        refine j_callV (pc := 67) (As := [.int 4]) (rest := []) (wr := [(msort, .inl (cyI, 1002, .inl m_sort)), (mvalue, .inl (cyJ, 1002, .inr (.inl m_value))), (mwords, .inl (cyJ, 23, .inr (.inl m_words)))]) C (c_X11_wrong l D cyC cyI cyJ cyZ cyO m0 mplace mtape msort mvalue mwords mtold mop marg mnames mhasHabit mfactWords mfacts mpile mstates misMarked mrow mthr mmays mtall mweights mrowOfWare mneededOf mtried mbestRow mdigits 4 m_thrown m_taped m_size m_at m_fault m_codes m_isNew m_inShelf m_inStack m_inPlace m_rowMany m_goShelf m_goStack m_goLeft m_bestCost m_bestMany m_bestShelf m_bestSet m_place h_m_taped h_m_size h_m_at h_m_fault h_m_codes h_m_isNew h_m_inShelf h_m_inStack h_m_inPlace h_m_rowMany h_m_goShelf h_m_bestMany h_m_bestShelf (by decide) h_m_place) wd_657 wd_624 wd_658 wd_659 wd_660 ⟨by decide, by decide, rfl⟩ rfl ⟨rfl, rfl, by decide, by decide⟩ ⟨by decide, by decide⟩ [0, 2] [1, 3, 4] rfl rfl ⟨by decide, by decide, by decide⟩ 0 rfl rfl rfl (Nat.le_of_ble_eq_true rfl) dX11_takeNumber_67 (fun u_7 hw_8 => ?_)
        refine j_eq (ws2 := [(msort, .inl (cyI, 1002, .inl m_sort)), (mvalue, .inl (cyJ, 1002, .inr (.inl m_value))), (mwords, .inl (cyJ, 23, .inr (.inl m_words))), (m0, .inr (11, [.int m_thrown, .ref mtape, .int m_taped, .int m_size, .ref msort, .ref mplace, .ref mvalue, .int m_at, .int (u_7.2.1 0), .ref mwords, .ref mtold, .ref mop, .ref marg, .int m_codes, .ref mnames, .ref mhasHabit, .int m_isNew, .ref mfactWords, .ref mfacts, .ref mpile, .ref mstates, .ref misMarked, .int m_inShelf, .int m_inStack, .int m_inPlace, .ref mrow, .int m_rowMany, .ref mthr, .ref mmays, .ref mtall, .ref mweights, .ref mrowOfWare, .ref mneededOf, .int m_goShelf, .int m_goStack, .int m_goLeft, .ref mtried, .ref mbestRow, .int m_bestCost, .int m_bestMany, .int m_bestShelf, .int m_bestSet, .ref mdigits])), (mplace, .inl (cyI, 1002, .inl m_place))]) (pc2 := 70) (lv2 := [(0, .ref m0), (1, .int p0), (2, .int p1)]) (st2 := []) rfl rfl rfl rfl ?_
        obtain ⟨hw_8_0, hw_8_1, hw_8_2, hw_8_3⟩ := hw_8
        refine j_aload_n (pc := 70) C dX11_takeNumber_70 rfl 0 rfl ?_
        refine j_get (pc := 71) (ci := 11) (v := .int (u_7.2.1 0)) C inw_11 3 rfl rfl 8 (by decide) wd_638 rfl rfl dX11_takeNumber_71 ?_
        have el_0 : (0 : Int32).toInt = 0 := rfl
        refine j_if_le_f (pc := 74) (tgt := 79) C dX11_takeNumber_74 (by decide) (by rw [i_le]; omega) ?_
        refine j_iconst (pc := 77) (v := 0) C dX11_takeNumber_77 (by decide) ?_
        have el_0 : (0 : Int32).toInt = 0 := rfl
        have el_0 : (0 : Int32).toInt = 0 := rfl
        have el_0 : (0 : Int32).toInt = 0 := rfl
        have el_0 : (0 : Int32).toInt = 0 := rfl
        have el_0 : (0 : Int32).toInt = 0 := rfl
        have el_0 : (0 : Int32).toInt = 0 := rfl
        have el_0 : (0 : Int32).toInt = 0 := rfl
        have el_4 : (4 : Int32).toInt = 4 := rfl
        exact j_iret (pc := 78) C hr hk (fun i => [].getD i 0, fun i => [0, m_at, (u_7.2.1 0)].getD i 0, fun i => [].getD i (fun _ => 0), fun i => [].getD i (fun _ => 0)) rfl (show (0 ≤ (m_at).toInt ∧ (m_at).toInt ≤ 1000) ∧ (0 ≤ ((u_7.2.1 0)).toInt ∧ ((u_7.2.1 0)).toInt ≤ 16005) ∧ ((m_at).toInt ≤ (m_at).toInt) ∧ ((m_at).toInt ≤ ((eN m_sort : Nat) : Int)) ∧ ((m_fault).toInt ≤ ((u_7.2.1 0)).toInt) ∧ (0 ≤ (0 : Int32).toInt) ∧ ((0 : Int32).toInt ≤ (p1).toInt) ∧ (IM (((u_7.2.1 0)).toInt = 0) ((0 : Int32).toInt = nb T (m_place (m_at).toInt.toNat).toInt.toNat)) ∧ (RP m_place (m_fault).toInt (m_at).toInt ((u_7.2.1 0)).toInt (m_at).toInt (rNum T (p0).toInt (p1).toInt)) from ⟨h_m_at, by omega, by omega, by omega, by omega, (by omega), (by omega), (fun h => absurd h (by omega)), (RP.wr 4 (fun z => by have z9 := hw_8_2 z; omega) (fun z => by have z9 := hw_8_3 z; omega) (h_m_place (m_at).toInt.toNat (by omega)).1 (by decide) (fun z => by have z8 := hRT (m_at).toInt.toNat (by omega); have z7 := z8.1; have z6 : (T (m_place (m_at).toInt.toNat).toInt.toNat).2.1.toInt = (v_4).toInt := (by rw [← z8.2.1 (by omega), ev_4]); unfold rNum; rw [if_pos (show (T (m_place (m_at).toInt.toNat).toInt.toNat).1 = 2 from (by omega)), if_neg (by omega)]))⟩) [3, 0, 4, 1, 2] (by decide) rfl (by decide) (by decide) dX11_takeNumber_78
      · skip
        have el_0 : (0 : Int32).toInt = 0 := rfl
        rw [i_lt] at c_6
        refine j_aload_n (pc := 50) C dX11_takeNumber_50 rfl 0 rfl ?_
        refine j_get (pc := 51) (ci := 11) (v := .ref mvalue) C inw_11 0 rfl rfl 6 (by decide) wd_645 rfl rfl dX11_takeNumber_51 ?_
        refine j_aload_n (pc := 54) C dX11_takeNumber_54 rfl 0 rfl ?_
        refine j_get (pc := 55) (ci := 11) (v := .int m_at) C inw_11 0 rfl rfl 7 (by decide) wd_637 rfl rfl dX11_takeNumber_55 ?_
        refine j_lald (pc := 58) (v := v_4) (k := (m_at).toInt.toNat) C 3 2 rfl rfl (i_nn h_m_at.1) rfl (i_lt_n h_m_at.1 (Int.lt_of_le_of_lt h_m_at.2 (by decide))) ev_4 dX11_takeNumber_58 ?_
        refine j_iload_n (pc := 59) C dX11_takeNumber_59 rfl 2 rfl ?_
        refine j_i2l (pc := 60) C dX11_takeNumber_60 rfl ?_
        obtain ⟨v_9, ev_9⟩ : ∃ z : Int32, lc v_4 ((p1).toInt64) = z := ⟨_, rfl⟩
        have hv_9 := lc_eq ev_9
        refine j_lcmp (pc := 61) (v := v_9) C dX11_takeNumber_61 ev_9 ?_
        have hIv_9 := lc_int ev_9
        have := Int32.toInt_toInt64 p1
        refine j_if_le (pc := 62) (tgt := 70) C dX11_takeNumber_62 (by decide) (fun c_10 => ?_) (fun c_10 => ?_)
        · skip
          have el_0 : (0 : Int32).toInt = 0 := rfl
          rw [i_le] at c_10
          refine j_aload_n (pc := 70) C dX11_takeNumber_70 rfl 0 rfl ?_
          refine j_get (pc := 71) (ci := 11) (v := .int m_fault) C inw_11 0 rfl rfl 8 (by decide) wd_638 rfl rfl dX11_takeNumber_71 ?_
          have el_0 : (0 : Int32).toInt = 0 := rfl
          refine j_if_le_t (pc := 74) (tgt := 79) C dX11_takeNumber_74 (by decide) (by rw [i_le]; omega) ?_
          refine j_aload_n (pc := 79) C dX11_takeNumber_79 rfl 0 rfl ?_
          refine j_dup (pc := 80) C dX11_takeNumber_80 rfl ?_
          refine j_get (pc := 81) (ci := 11) (v := .int m_at) C inw_11 0 rfl rfl 7 (by decide) wd_637 rfl rfl dX11_takeNumber_81 ?_
          refine j_iconst (pc := 84) (v := 1) C dX11_takeNumber_84 (by decide) ?_
          obtain ⟨v_11, ev_11⟩ : ∃ z : Int32, m_at + 1 = z := ⟨_, rfl⟩
          have el_1 : (1 : Int32).toInt = 1 := rfl
          have hv_11 : v_11.toInt = m_at.toInt + (1 : Int32).toInt := by rw [← ev_11]; exact fb_addI (by omega) (by omega)
          refine j_iadd (pc := 85) (v := v_11) C dX11_takeNumber_85 ev_11 ?_
          refine j_put (pc := 86) (ci := 11) (v := .int v_11) (ws' := [(m0, .inr (11, [.int m_thrown, .ref mtape, .int m_taped, .int m_size, .ref msort, .ref mplace, .ref mvalue, .int v_11, .int m_fault, .ref mwords, .ref mtold, .ref mop, .ref marg, .int m_codes, .ref mnames, .ref mhasHabit, .int m_isNew, .ref mfactWords, .ref mfacts, .ref mpile, .ref mstates, .ref misMarked, .int m_inShelf, .int m_inStack, .int m_inPlace, .ref mrow, .int m_rowMany, .ref mthr, .ref mmays, .ref mtall, .ref mweights, .ref mrowOfWare, .ref mneededOf, .int m_goShelf, .int m_goStack, .int m_goLeft, .ref mtried, .ref mbestRow, .int m_bestCost, .int m_bestMany, .int m_bestShelf, .int m_bestSet, .ref mdigits])), (msort, .inl (cyI, 1002, .inl m_sort)), (mplace, .inl (cyI, 1002, .inl m_place)), (mvalue, .inl (cyJ, 1002, .inr (.inl m_value))), (mwords, .inl (cyJ, 23, .inr (.inl m_words)))]) C inw_11 0 rfl rfl 7 (by decide) wd_637 rfl tyX11_ok nmX11 rfl (tyX11_ok 7 (by decide)) rfl rfl (Nat.le_of_ble_eq_true rfl) dX11_takeNumber_86 rfl ?_
          refine j_aload_n (pc := 89) C dX11_takeNumber_89 rfl 0 rfl ?_
          refine j_get (pc := 90) (ci := 11) (v := .ref mvalue) C inw_11 0 rfl rfl 6 (by decide) wd_645 rfl rfl dX11_takeNumber_90 ?_
          refine j_aload_n (pc := 93) C dX11_takeNumber_93 rfl 0 rfl ?_
          refine j_get (pc := 94) (ci := 11) (v := .int v_11) C inw_11 0 rfl rfl 7 (by decide) wd_637 rfl rfl dX11_takeNumber_94 ?_
          refine j_iconst (pc := 97) (v := 1) C dX11_takeNumber_97 (by decide) ?_
          obtain ⟨v_12, ev_12⟩ : ∃ z : Int32, v_11 - 1 = z := ⟨_, rfl⟩
          have el_1 : (1 : Int32).toInt = 1 := rfl
          have hv_12 : v_12.toInt = v_11.toInt - (1 : Int32).toInt := by rw [← ev_12]; exact fb_subI (by omega) (by omega)
          refine j_isub (pc := 98) (v := v_12) C dX11_takeNumber_98 ev_12 ?_
          refine j_lald (pc := 99) (v := v_4) (k := (v_12).toInt.toNat) C 3 2 rfl rfl (i_nn (by omega)) rfl (i_lt_n (by omega) (by omega)) (by rw [show (v_12).toInt.toNat = (m_at).toInt.toNat from (by omega)]; exact ev_4) dX11_takeNumber_99 ?_
          refine j_l2i (pc := 100) C dX11_takeNumber_100 rfl ?_
          exact j_iret (pc := 101) C hr hk (fun i => [].getD i 0, fun i => [(v_4).toInt32, v_11, m_fault].getD i 0, fun i => [].getD i (fun _ => 0), fun i => [].getD i (fun _ => 0)) rfl (show (0 ≤ (v_11).toInt ∧ (v_11).toInt ≤ 1000) ∧ (0 ≤ (m_fault).toInt ∧ (m_fault).toInt ≤ 16005) ∧ ((m_at).toInt ≤ (v_11).toInt) ∧ ((v_11).toInt ≤ ((eN m_sort : Nat) : Int)) ∧ ((m_fault).toInt ≤ (m_fault).toInt) ∧ (0 ≤ ((v_4).toInt32).toInt) ∧ (((v_4).toInt32).toInt ≤ (p1).toInt) ∧ (IM ((m_fault).toInt = 0) (((v_4).toInt32).toInt = nb T (m_place (m_at).toInt.toNat).toInt.toNat)) ∧ (RP m_place (m_fault).toInt (m_at).toInt (m_fault).toInt (v_11).toInt (rNum T (p0).toInt (p1).toInt)) from ⟨by omega, h_m_fault, by omega, by omega, by omega, (by have y9 := ((l2i_rng (fun q => absurd (hv_5.2.1.mpr q) (by rw [i_lt]; omega)) (by rcases (by omega : v_9.toInt < 0 ∨ v_9.toInt = 0) with q | q; (exact Or.inl (hv_9.2.1.mp ((i_lt _ _).mpr (by omega)))); (exact Or.inr (hv_9.1.mp ((i_eq _ _).mpr (by omega)))))) : (p0).toInt ≤ ((v_4).toInt32).toInt ∧ ((v_4).toInt32).toInt ≤ (p1).toInt); omega), (by have y9 := ((l2i_rng (fun q => absurd (hv_5.2.1.mpr q) (by rw [i_lt]; omega)) (by rcases (by omega : v_9.toInt < 0 ∨ v_9.toInt = 0) with q | q; (exact Or.inl (hv_9.2.1.mp ((i_lt _ _).mpr (by omega)))); (exact Or.inr (hv_9.1.mp ((i_eq _ _).mpr (by omega)))))) : (p0).toInt ≤ ((v_4).toInt32).toInt ∧ ((v_4).toInt32).toInt ≤ (p1).toInt); omega), (fun _ => by have z8 := hRT (m_at).toInt.toNat (by omega); have z7 := z8.1; have z6 : (T (m_place (m_at).toInt.toNat).toInt.toNat).2.1.toInt = (v_4).toInt := (by rw [← z8.2.1 (by omega), ev_4]); show _ = (T (m_place (m_at).toInt.toNat).toInt.toNat).2.1.toInt; rw [z6]; exact l2i_eq (lo := p0) (hi := p1) (by omega) (by omega)), (RP.go hRT (by omega) (by omega) (by omega) (by omega) (fun z => by have z8 := hRT (m_at).toInt.toNat (by omega); have z7 := z8.1; have z6 : (T (m_place (m_at).toInt.toNat).toInt.toNat).2.1.toInt = (v_4).toInt := (by rw [← z8.2.1 (by omega), ev_4]); unfold rNum; rw [if_pos (show (T (m_place (m_at).toInt.toNat).toInt.toNat).1 = 2 from (by omega)), if_pos (by omega)]))⟩) [0, 1, 2, 3, 4] (by decide) rfl (by decide) (by decide) dX11_takeNumber_101
        · skip
          have el_0 : (0 : Int32).toInt = 0 := rfl
          rw [i_le] at c_10
          have k0c_10 : v_9.toInt = 1 := by omega
          refine j_aload_n (pc := 65) C dX11_takeNumber_65 rfl 0 rfl ?_
          refine j_iconst (pc := 66) (v := 4) C dX11_takeNumber_66 (by decide) ?_
          refine j_callV (pc := 67) (As := [.int 4]) (rest := []) (wr := [(msort, .inl (cyI, 1002, .inl m_sort)), (mvalue, .inl (cyJ, 1002, .inr (.inl m_value))), (mwords, .inl (cyJ, 23, .inr (.inl m_words)))]) C (c_X11_wrong l D cyC cyI cyJ cyZ cyO m0 mplace mtape msort mvalue mwords mtold mop marg mnames mhasHabit mfactWords mfacts mpile mstates misMarked mrow mthr mmays mtall mweights mrowOfWare mneededOf mtried mbestRow mdigits 4 m_thrown m_taped m_size m_at m_fault m_codes m_isNew m_inShelf m_inStack m_inPlace m_rowMany m_goShelf m_goStack m_goLeft m_bestCost m_bestMany m_bestShelf m_bestSet m_place h_m_taped h_m_size h_m_at h_m_fault h_m_codes h_m_isNew h_m_inShelf h_m_inStack h_m_inPlace h_m_rowMany h_m_goShelf h_m_bestMany h_m_bestShelf (by decide) h_m_place) wd_657 wd_624 wd_658 wd_659 wd_660 ⟨by decide, by decide, rfl⟩ rfl ⟨rfl, rfl, by decide, by decide⟩ ⟨by decide, by decide⟩ [0, 2] [1, 3, 4] rfl rfl ⟨by decide, by decide, by decide⟩ 0 rfl rfl rfl (Nat.le_of_ble_eq_true rfl) dX11_takeNumber_67 (fun u_13 hw_14 => ?_)
          refine j_eq (ws2 := [(msort, .inl (cyI, 1002, .inl m_sort)), (mvalue, .inl (cyJ, 1002, .inr (.inl m_value))), (mwords, .inl (cyJ, 23, .inr (.inl m_words))), (m0, .inr (11, [.int m_thrown, .ref mtape, .int m_taped, .int m_size, .ref msort, .ref mplace, .ref mvalue, .int m_at, .int (u_13.2.1 0), .ref mwords, .ref mtold, .ref mop, .ref marg, .int m_codes, .ref mnames, .ref mhasHabit, .int m_isNew, .ref mfactWords, .ref mfacts, .ref mpile, .ref mstates, .ref misMarked, .int m_inShelf, .int m_inStack, .int m_inPlace, .ref mrow, .int m_rowMany, .ref mthr, .ref mmays, .ref mtall, .ref mweights, .ref mrowOfWare, .ref mneededOf, .int m_goShelf, .int m_goStack, .int m_goLeft, .ref mtried, .ref mbestRow, .int m_bestCost, .int m_bestMany, .int m_bestShelf, .int m_bestSet, .ref mdigits])), (mplace, .inl (cyI, 1002, .inl m_place))]) (pc2 := 70) (lv2 := [(0, .ref m0), (1, .int p0), (2, .int p1)]) (st2 := []) rfl rfl rfl rfl ?_
          obtain ⟨hw_14_0, hw_14_1, hw_14_2, hw_14_3⟩ := hw_14
          refine j_aload_n (pc := 70) C dX11_takeNumber_70 rfl 0 rfl ?_
          refine j_get (pc := 71) (ci := 11) (v := .int (u_13.2.1 0)) C inw_11 3 rfl rfl 8 (by decide) wd_638 rfl rfl dX11_takeNumber_71 ?_
          have el_0 : (0 : Int32).toInt = 0 := rfl
          refine j_if_le_f (pc := 74) (tgt := 79) C dX11_takeNumber_74 (by decide) (by rw [i_le]; omega) ?_
          refine j_iconst (pc := 77) (v := 0) C dX11_takeNumber_77 (by decide) ?_
          have el_0 : (0 : Int32).toInt = 0 := rfl
          have el_0 : (0 : Int32).toInt = 0 := rfl
          have el_0 : (0 : Int32).toInt = 0 := rfl
          have el_0 : (0 : Int32).toInt = 0 := rfl
          have el_0 : (0 : Int32).toInt = 0 := rfl
          have el_0 : (0 : Int32).toInt = 0 := rfl
          have el_0 : (0 : Int32).toInt = 0 := rfl
          have el_4 : (4 : Int32).toInt = 4 := rfl
          exact j_iret (pc := 78) C hr hk (fun i => [].getD i 0, fun i => [0, m_at, (u_13.2.1 0)].getD i 0, fun i => [].getD i (fun _ => 0), fun i => [].getD i (fun _ => 0)) rfl (show (0 ≤ (m_at).toInt ∧ (m_at).toInt ≤ 1000) ∧ (0 ≤ ((u_13.2.1 0)).toInt ∧ ((u_13.2.1 0)).toInt ≤ 16005) ∧ ((m_at).toInt ≤ (m_at).toInt) ∧ ((m_at).toInt ≤ ((eN m_sort : Nat) : Int)) ∧ ((m_fault).toInt ≤ ((u_13.2.1 0)).toInt) ∧ (0 ≤ (0 : Int32).toInt) ∧ ((0 : Int32).toInt ≤ (p1).toInt) ∧ (IM (((u_13.2.1 0)).toInt = 0) ((0 : Int32).toInt = nb T (m_place (m_at).toInt.toNat).toInt.toNat)) ∧ (RP m_place (m_fault).toInt (m_at).toInt ((u_13.2.1 0)).toInt (m_at).toInt (rNum T (p0).toInt (p1).toInt)) from ⟨h_m_at, by omega, by omega, by omega, by omega, (by omega), (by omega), (fun h => absurd h (by omega)), (RP.wr 4 (fun z => by have z9 := hw_14_2 z; omega) (fun z => by have z9 := hw_14_3 z; omega) (h_m_place (m_at).toInt.toNat (by omega)).1 (by decide) (fun z => by have z8 := hRT (m_at).toInt.toNat (by omega); have z7 := z8.1; have z6 : (T (m_place (m_at).toInt.toNat).toInt.toNat).2.1.toInt = (v_4).toInt := (by rw [← z8.2.1 (by omega), ev_4]); unfold rNum; rw [if_pos (show (T (m_place (m_at).toInt.toNat).toInt.toNat).1 = 2 from (by omega)), if_neg (by omega)]))⟩) [3, 0, 4, 1, 2] (by decide) rfl (by decide) (by decide) dX11_takeNumber_78
    · skip
      have el_2 : (2 : Int32).toInt = 2 := rfl
      rw [i_eq] at c_3
      refine j_aload_n (pc := 20) C dX11_takeNumber_20 rfl 0 rfl ?_
      refine j_iconst (pc := 21) (v := 1) C dX11_takeNumber_21 (by decide) ?_
      refine j_callV (pc := 22) (As := [.int 1]) (rest := []) (wr := [(msort, .inl (cyI, 1002, .inl m_sort)), (mvalue, .inl (cyJ, 1002, .inr (.inl m_value))), (mwords, .inl (cyJ, 23, .inr (.inl m_words)))]) C (c_X11_wrong l D cyC cyI cyJ cyZ cyO m0 mplace mtape msort mvalue mwords mtold mop marg mnames mhasHabit mfactWords mfacts mpile mstates misMarked mrow mthr mmays mtall mweights mrowOfWare mneededOf mtried mbestRow mdigits 1 m_thrown m_taped m_size m_at m_fault m_codes m_isNew m_inShelf m_inStack m_inPlace m_rowMany m_goShelf m_goStack m_goLeft m_bestCost m_bestMany m_bestShelf m_bestSet m_place h_m_taped h_m_size h_m_at h_m_fault h_m_codes h_m_isNew h_m_inShelf h_m_inStack h_m_inPlace h_m_rowMany h_m_goShelf h_m_bestMany h_m_bestShelf (by decide) h_m_place) wd_657 wd_624 wd_658 wd_659 wd_660 ⟨by decide, by decide, rfl⟩ rfl ⟨rfl, rfl, by decide, by decide⟩ ⟨by decide, by decide⟩ [0, 2] [1, 3, 4] rfl rfl ⟨by decide, by decide, by decide⟩ 0 rfl rfl rfl (Nat.le_of_ble_eq_true rfl) dX11_takeNumber_22 (fun u_15 hw_16 => ?_)
      refine j_eq (ws2 := [(msort, .inl (cyI, 1002, .inl m_sort)), (mvalue, .inl (cyJ, 1002, .inr (.inl m_value))), (mwords, .inl (cyJ, 23, .inr (.inl m_words))), (m0, .inr (11, [.int m_thrown, .ref mtape, .int m_taped, .int m_size, .ref msort, .ref mplace, .ref mvalue, .int m_at, .int (u_15.2.1 0), .ref mwords, .ref mtold, .ref mop, .ref marg, .int m_codes, .ref mnames, .ref mhasHabit, .int m_isNew, .ref mfactWords, .ref mfacts, .ref mpile, .ref mstates, .ref misMarked, .int m_inShelf, .int m_inStack, .int m_inPlace, .ref mrow, .int m_rowMany, .ref mthr, .ref mmays, .ref mtall, .ref mweights, .ref mrowOfWare, .ref mneededOf, .int m_goShelf, .int m_goStack, .int m_goLeft, .ref mtried, .ref mbestRow, .int m_bestCost, .int m_bestMany, .int m_bestShelf, .int m_bestSet, .ref mdigits])), (mplace, .inl (cyI, 1002, .inl m_place))]) (pc2 := 25) (lv2 := [(0, .ref m0), (1, .int p0), (2, .int p1)]) (st2 := []) rfl rfl rfl rfl ?_
      obtain ⟨hw_16_0, hw_16_1, hw_16_2, hw_16_3⟩ := hw_16
      refine j_goto (pc := 25) (tgt := 70) C dX11_takeNumber_25 (by decide) ?_
      refine j_aload_n (pc := 70) C dX11_takeNumber_70 rfl 0 rfl ?_
      refine j_get (pc := 71) (ci := 11) (v := .int (u_15.2.1 0)) C inw_11 3 rfl rfl 8 (by decide) wd_638 rfl rfl dX11_takeNumber_71 ?_
      have el_0 : (0 : Int32).toInt = 0 := rfl
      refine j_if_le_f (pc := 74) (tgt := 79) C dX11_takeNumber_74 (by decide) (by rw [i_le]; omega) ?_
      refine j_iconst (pc := 77) (v := 0) C dX11_takeNumber_77 (by decide) ?_
      have el_0 : (0 : Int32).toInt = 0 := rfl
      have el_0 : (0 : Int32).toInt = 0 := rfl
      have el_0 : (0 : Int32).toInt = 0 := rfl
      have el_0 : (0 : Int32).toInt = 0 := rfl
      have el_0 : (0 : Int32).toInt = 0 := rfl
      have el_0 : (0 : Int32).toInt = 0 := rfl
      have el_0 : (0 : Int32).toInt = 0 := rfl
      have el_1 : (1 : Int32).toInt = 1 := rfl
      exact j_iret (pc := 78) C hr hk (fun i => [].getD i 0, fun i => [0, m_at, (u_15.2.1 0)].getD i 0, fun i => [].getD i (fun _ => 0), fun i => [].getD i (fun _ => 0)) rfl (show (0 ≤ (m_at).toInt ∧ (m_at).toInt ≤ 1000) ∧ (0 ≤ ((u_15.2.1 0)).toInt ∧ ((u_15.2.1 0)).toInt ≤ 16005) ∧ ((m_at).toInt ≤ (m_at).toInt) ∧ ((m_at).toInt ≤ ((eN m_sort : Nat) : Int)) ∧ ((m_fault).toInt ≤ ((u_15.2.1 0)).toInt) ∧ (0 ≤ (0 : Int32).toInt) ∧ ((0 : Int32).toInt ≤ (p1).toInt) ∧ (IM (((u_15.2.1 0)).toInt = 0) ((0 : Int32).toInt = nb T (m_place (m_at).toInt.toNat).toInt.toNat)) ∧ (RP m_place (m_fault).toInt (m_at).toInt ((u_15.2.1 0)).toInt (m_at).toInt (rNum T (p0).toInt (p1).toInt)) from ⟨h_m_at, by omega, by omega, by omega, by omega, (by omega), (by omega), (fun h => absurd h (by omega)), (RP.wr 1 (fun z => by have z9 := hw_16_2 z; omega) (fun z => by have z9 := hw_16_3 z; omega) (h_m_place (m_at).toInt.toNat (by omega)).1 (by decide) (fun z => by have z8 := hRT (m_at).toInt.toNat (by omega); have z7 := z8.1; unfold rNum; rw [if_neg (show ¬ (T (m_place (m_at).toInt.toNat).toInt.toNat).1 = 2 from (by omega))]))⟩) [3, 0, 4, 1, 2] (by decide) rfl (by decide) (by decide) dX11_takeNumber_78
set_option maxHeartbeats 4000000 in
set_option maxRecDepth 100000 in
theorem c_X11_isName (l : Launch) (D : DG) (cyC cyI cyJ cyZ cyO : ClassId) (m0 : Nat) (msort : Nat) (mplace : Nat) (mvalue : Nat) (mwords : Nat) (mtape : Nat) (mtold : Nat) (mop : Nat) (marg : Nat) (mnames : Nat) (mhasHabit : Nat) (mfactWords : Nat) (mfacts : Nat) (mpile : Nat) (mstates : Nat) (misMarked : Nat) (mrow : Nat) (mthr : Nat) (mmays : Nat) (mtall : Nat) (mweights : Nat) (mrowOfWare : Nat) (mneededOf : Nat) (mtried : Nat) (mbestRow : Nat) (mdigits : Nat) (m_thrown : Int32) (m_taped : Int32) (m_size : Int32) (m_at : Int32) (m_fault : Int32) (m_codes : Int32) (m_isNew : Int32) (m_inShelf : Int32) (m_inStack : Int32) (m_inPlace : Int32) (m_rowMany : Int32) (m_goShelf : Int32) (m_goStack : Int32) (m_goLeft : Int32) (m_bestCost : Int32) (m_bestMany : Int32) (m_bestShelf : Int32) (m_bestSet : Int32) (m_sort : Nat → Int32) (m_place : Nat → Int32) (m_value : Nat → Int64) (m_words : Nat → Int64) (T : Nat → Int × Int64 × Nat) (h_m_taped : 0 ≤ (m_taped).toInt ∧ (m_taped).toInt ≤ 1000) (h_m_size : 0 ≤ (m_size).toInt ∧ (m_size).toInt ≤ 1000) (h_m_at : 0 ≤ (m_at).toInt ∧ (m_at).toInt ≤ 1000) (h_m_fault : 0 ≤ (m_fault).toInt ∧ (m_fault).toInt ≤ 16005) (h_m_codes : 0 ≤ (m_codes).toInt ∧ (m_codes).toInt ≤ 1000) (h_m_isNew : 0 ≤ (m_isNew).toInt ∧ (m_isNew).toInt ≤ 1) (h_m_inShelf : 0 ≤ (m_inShelf).toInt ∧ (m_inShelf).toInt ≤ 3) (h_m_inStack : 0 ≤ (m_inStack).toInt ∧ (m_inStack).toInt ≤ 7) (h_m_inPlace : 0 ≤ (m_inPlace).toInt ∧ (m_inPlace).toInt ≤ 11) (h_m_rowMany : 0 ≤ (m_rowMany).toInt ∧ (m_rowMany).toInt ≤ 12) (h_m_goShelf : -1 ≤ (m_goShelf).toInt ∧ (m_goShelf).toInt ≤ 3) (h_m_bestMany : 0 ≤ (m_bestMany).toInt ∧ (m_bestMany).toInt ≤ 7) (h_m_bestShelf : 0 ≤ (m_bestShelf).toInt ∧ (m_bestShelf).toInt ≤ 3) (h_m_place : Iv 1002 (0) (1000) m_place) (hN1 : eN m_sort ≤ 1000) (hN2 : (m_at).toInt ≤ ((eN m_sort : Nat) : Int)) (hRT : RWS m_sort m_place m_value T) (hWO : WRD m_words) : KK l D (TY cyC cyI cyJ cyZ cyO) yX11_isName cX11_isName 3 (some .boolean) ({ frames := 0, cells := 0, slots := 0, locals := 0 } : Room) 0 0 [.ref m0] [(m0, .inr (11, [.int m_thrown, .ref mtape, .int m_taped, .int m_size, .ref msort, .ref mplace, .ref mvalue, .int m_at, .int m_fault, .ref mwords, .ref mtold, .ref mop, .ref marg, .int m_codes, .ref mnames, .ref mhasHabit, .int m_isNew, .ref mfactWords, .ref mfacts, .ref mpile, .ref mstates, .ref misMarked, .int m_inShelf, .int m_inStack, .int m_inPlace, .ref mrow, .int m_rowMany, .ref mthr, .ref mmays, .ref mtall, .ref mweights, .ref mrowOfWare, .ref mneededOf, .int m_goShelf, .int m_goStack, .int m_goLeft, .ref mtried, .ref mbestRow, .int m_bestCost, .int m_bestMany, .int m_bestShelf, .int m_bestSet, .ref mdigits])), (msort, .inl (cyI, 1002, .inl m_sort)), (mplace, .inl (cyI, 1002, .inl m_place)), (mvalue, .inl (cyJ, 1002, .inr (.inl m_value))), (mwords, .inl (cyJ, 23, .inr (.inl m_words)))] (fun u => some (.int (u.2.1 0))) (fun u => (0 ≤ (u.2.1 0).toInt ∧ (u.2.1 0).toInt ≤ 1) ∧ ((u.2.1 0).toInt = 0 ∨ (m_at).toInt < ((eN m_sort : Nat) : Int) ∧ (m_fault).toInt = 0) ∧ ((u.2.1 0).toInt = nE (m_fault).toInt T (m_place (m_at).toInt.toNat).toInt.toNat)) (fun u => [(m0, .inr (11, [.int m_thrown, .ref mtape, .int m_taped, .int m_size, .ref msort, .ref mplace, .ref mvalue, .int m_at, .int m_fault, .ref mwords, .ref mtold, .ref mop, .ref marg, .int m_codes, .ref mnames, .ref mhasHabit, .int m_isNew, .ref mfactWords, .ref mfacts, .ref mpile, .ref mstates, .ref misMarked, .int m_inShelf, .int m_inStack, .int m_inPlace, .ref mrow, .int m_rowMany, .ref mthr, .ref mmays, .ref mtall, .ref mweights, .ref mrowOfWare, .ref mneededOf, .int m_goShelf, .int m_goStack, .int m_goLeft, .ref mtried, .ref mbestRow, .int m_bestCost, .int m_bestMany, .int m_bestShelf, .int m_bestSet, .ref mdigits])), (msort, .inl (cyI, 1002, .inl m_sort)), (mplace, .inl (cyI, 1002, .inl m_place)), (mvalue, .inl (cyJ, 1002, .inr (.inl m_value))), (mwords, .inl (cyJ, 23, .inr (.inl m_words)))]) := by
  refine KK.of (lv0 := [(0, .ref m0)]) (by decide) rfl (Nat.le_of_ble_eq_true rfl) ?_
  intro p e s m args below meth c A C hr hk hin
  refine j_aload_n (pc := 0) C dX11_isName_0 rfl 0 rfl ?_
  refine j_get (pc := 1) (ci := 11) (v := .int m_fault) C inw_11 0 rfl rfl 8 (by decide) wd_638 rfl rfl dX11_isName_1 ?_
  refine j_if_ne (pc := 4) (tgt := 24) C dX11_isName_4 (by decide) (fun c_1 => ?_) (fun c_1 => ?_)
  · skip
    have el_0 : (0 : Int32).toInt = 0 := rfl
    rw [i_eq] at c_1
    refine j_iconst (pc := 24) (v := 0) C dX11_isName_24 (by decide) ?_
    refine j_istore_n (pc := 25) (lv' := [(1, .int 0), (0, .ref m0)]) C dX11_isName_25 rfl (by decide) rfl ?_
    refine j_iconst (pc := 26) (v := 0) C dX11_isName_26 (by decide) ?_
    refine j_istore_n (pc := 27) (lv' := [(2, .int 0), (1, .int 0), (0, .ref m0)]) C dX11_isName_27 rfl (by decide) rfl ?_
    have loop_2 : ∀ (k_2 : Nat) (x2_2 : Int32) (x2_1 : Int32), (0 ≤ (x2_2).toInt ∧ (x2_2).toInt ≤ 17) → (0 ≤ (x2_1).toInt ∧ (x2_1).toInt ≤ 1) → (x2_1.toInt = 0 ∨ (m_at).toInt < ((eN m_sort : Nat) : Int) ∧ (m_fault).toInt = 0) → (NQ (m_fault).toInt (m_sort (m_at).toInt.toNat).toInt (m_value (m_at).toInt.toNat) x2_1.toInt x2_2.toInt) → (17 - x2_2.toInt).toNat < k_2 → J p l e ({ frames := 0, cells := 0, slots := 0, locals := 0 } : Room) s m args below meth c D A 3 0 0 (QX below D (TY cyC cyI cyJ cyZ cyO) A (fun u => some (.int (u.2.1 0))) (fun u => (0 ≤ (u.2.1 0).toInt ∧ (u.2.1 0).toInt ≤ 1) ∧ ((u.2.1 0).toInt = 0 ∨ (m_at).toInt < ((eN m_sort : Nat) : Int) ∧ (m_fault).toInt = 0) ∧ ((u.2.1 0).toInt = nE (m_fault).toInt T (m_place (m_at).toInt.toNat).toInt.toNat)) (fun u => [(m0, .inr (11, [.int m_thrown, .ref mtape, .int m_taped, .int m_size, .ref msort, .ref mplace, .ref mvalue, .int m_at, .int m_fault, .ref mwords, .ref mtold, .ref mop, .ref marg, .int m_codes, .ref mnames, .ref mhasHabit, .int m_isNew, .ref mfactWords, .ref mfacts, .ref mpile, .ref mstates, .ref misMarked, .int m_inShelf, .int m_inStack, .int m_inPlace, .ref mrow, .int m_rowMany, .ref mthr, .ref mmays, .ref mtall, .ref mweights, .ref mrowOfWare, .ref mneededOf, .int m_goShelf, .int m_goStack, .int m_goLeft, .ref mtried, .ref mbestRow, .int m_bestCost, .int m_bestMany, .int m_bestShelf, .int m_bestSet, .ref mdigits])), (msort, .inl (cyI, 1002, .inl m_sort)), (mplace, .inl (cyI, 1002, .inl m_place)), (mvalue, .inl (cyJ, 1002, .inr (.inl m_value))), (mwords, .inl (cyJ, 23, .inr (.inl m_words)))]) args s 0 0) [(m0, .inr (11, [.int m_thrown, .ref mtape, .int m_taped, .int m_size, .ref msort, .ref mplace, .ref mvalue, .int m_at, .int m_fault, .ref mwords, .ref mtold, .ref mop, .ref marg, .int m_codes, .ref mnames, .ref mhasHabit, .int m_isNew, .ref mfactWords, .ref mfacts, .ref mpile, .ref mstates, .ref misMarked, .int m_inShelf, .int m_inStack, .int m_inPlace, .ref mrow, .int m_rowMany, .ref mthr, .ref mmays, .ref mtall, .ref mweights, .ref mrowOfWare, .ref mneededOf, .int m_goShelf, .int m_goStack, .int m_goLeft, .ref mtried, .ref mbestRow, .int m_bestCost, .int m_bestMany, .int m_bestShelf, .int m_bestSet, .ref mdigits])), (msort, .inl (cyI, 1002, .inl m_sort)), (mplace, .inl (cyI, 1002, .inl m_place)), (mvalue, .inl (cyJ, 1002, .inr (.inl m_value))), (mwords, .inl (cyJ, 23, .inr (.inl m_words)))] 28 [(2, .int x2_2), (1, .int x2_1), (0, .ref m0)] [] := by
      intro k_2
      induction k_2 with
      | zero =>
        intro x2_2 x2_1 hi_2_0 hi_2_1 hr_2 hq_2_0 hm_2
        exact absurd hm_2 (Nat.not_lt_zero _)
      | succ k_2 ih_2 =>
        intro x2_2 x2_1 hi_2_0 hi_2_1 hr_2 hq_2_0 hm_2
        refine j_iload_n (pc := 28) C dX11_isName_28 rfl 0 rfl ?_
        refine j_bipush (pc := 29) (v := 17) C dX11_isName_29 (by decide) ?_
        refine j_icmp_ge (pc := 31) (tgt := 69) C dX11_isName_31 (by decide) (fun c_3 => ?_) (fun c_3 => ?_)
        · skip
          have el_17 : (17 : Int32).toInt = 17 := rfl
          rw [i_le] at c_3
          have k0c_3 : x2_2.toInt = 17 := by omega
          refine j_iload_n (pc := 69) C dX11_isName_69 rfl 1 rfl ?_
          exact j_zret (pc := 70) C hr (nb_01 ⟨by omega, by omega⟩).1 hk (fun i => [].getD i 0, fun i => [x2_1].getD i 0, fun i => [].getD i (fun _ => 0), fun i => [].getD i (fun _ => 0)) rfl (show (0 ≤ (x2_1).toInt ∧ (x2_1).toInt ≤ 1) ∧ (x2_1.toInt = 0 ∨ (m_at).toInt < ((eN m_sort : Nat) : Int) ∧ (m_fault).toInt = 0) ∧ (x2_1.toInt = nE (m_fault).toInt T (m_place (m_at).toInt.toNat).toInt.toNat) from ⟨hi_2_1, by omega, (NQ.fin hRT (by omega) (by omega) (by have z9 := hq_2_0; rw [show (x2_2).toInt = 17 from (by omega)] at z9; exact z9) (by omega))⟩) [0, 1, 2, 3, 4] (by decide) rfl (by decide) (by decide) dX11_isName_70
        · skip
          have el_17 : (17 : Int32).toInt = 17 := rfl
          rw [i_le] at c_3
          refine j_iload_n (pc := 34) C dX11_isName_34 rfl 1 rfl ?_
          refine j_if_eq (pc := 35) (tgt := 61) C dX11_isName_35 (by decide) (fun c_4 => ?_) (fun c_4 => ?_)
          · skip
            have el_0 : (0 : Int32).toInt = 0 := rfl
            rw [i_eq] at c_4
            refine j_iconst (pc := 61) (v := 0) C dX11_isName_61 (by decide) ?_
            refine j_istore_n (pc := 62) (lv' := [(1, .int 0), (2, .int x2_2), (0, .ref m0)]) C dX11_isName_62 rfl (by decide) rfl ?_
            obtain ⟨v_5, ev_5⟩ : ∃ z : Int32, x2_2 + 1 = z := ⟨_, rfl⟩
            have el_1 : (1 : Int32).toInt = 1 := rfl
            have hv_5 : v_5.toInt = x2_2.toInt + (1 : Int32).toInt := by rw [← ev_5]; exact fb_addI (by omega) (by omega)
            refine j_iinc (pc := 63) (v := v_5) (lv' := [(2, .int v_5), (1, .int 0), (0, .ref m0)]) C dX11_isName_63 1 rfl ev_5 (by decide) rfl ?_
            refine j_goto (pc := 66) (tgt := 28) C dX11_isName_66 (by decide) ?_
            have el_0 : (0 : Int32).toInt = 0 := rfl
            exact j_lv [0, 1, 2] rfl (ih_2 v_5 0 (by omega) (by decide) (by omega) ⟨fun h => absurd h (by decide), fun _ z => hq_2_0.2 (by omega) ⟨z.1, fun j hj => z.2 j (by omega)⟩⟩ (by omega))
          · skip
            have el_0 : (0 : Int32).toInt = 0 := rfl
            rw [i_eq] at c_4
            have k0c_4 : x2_1.toInt = 1 := by omega
            refine j_aload_n (pc := 38) C dX11_isName_38 rfl 2 rfl ?_
            refine j_get (pc := 39) (ci := 11) (v := .ref mvalue) C inw_11 0 rfl rfl 6 (by decide) wd_645 rfl rfl dX11_isName_39 ?_
            refine j_aload_n (pc := 42) C dX11_isName_42 rfl 2 rfl ?_
            refine j_get (pc := 43) (ci := 11) (v := .int m_at) C inw_11 0 rfl rfl 7 (by decide) wd_637 rfl rfl dX11_isName_43 ?_
            obtain ⟨v_6, ev_6⟩ : ∃ z, m_value (m_at).toInt.toNat = z := ⟨_, rfl⟩
            refine j_lald (pc := 46) (v := v_6) (k := (m_at).toInt.toNat) C 3 2 rfl rfl (i_nn h_m_at.1) rfl (i_lt_n h_m_at.1 (Int.lt_of_le_of_lt h_m_at.2 (by decide))) ev_6 dX11_isName_46 ?_
            refine j_aload_n (pc := 47) C dX11_isName_47 rfl 2 rfl ?_
            refine j_get (pc := 48) (ci := 11) (v := .ref mwords) C inw_11 0 rfl rfl 9 (by decide) wd_652 rfl rfl dX11_isName_48 ?_
            refine j_iload_n (pc := 51) C dX11_isName_51 rfl 0 rfl ?_
            obtain ⟨v_7, ev_7⟩ : ∃ z, m_words (x2_2).toInt.toNat = z := ⟨_, rfl⟩
            refine j_lald (pc := 52) (v := v_7) (k := (x2_2).toInt.toNat) C 4 2 rfl rfl (i_nn hi_2_0.1) rfl (i_lt_n hi_2_0.1 (Int.lt_of_le_of_lt hi_2_0.2 (by decide))) ev_7 dX11_isName_52 ?_
            obtain ⟨v_8, ev_8⟩ : ∃ z : Int32, lc v_6 v_7 = z := ⟨_, rfl⟩
            have hv_8 := lc_eq ev_8
            refine j_lcmp (pc := 53) (v := v_8) C dX11_isName_53 ev_8 ?_
            have hIv_8 := lc_int ev_8
            refine j_if_eq (pc := 54) (tgt := 61) C dX11_isName_54 (by decide) (fun c_9 => ?_) (fun c_9 => ?_)
            · skip
              have el_0 : (0 : Int32).toInt = 0 := rfl
              rw [i_eq] at c_9
              refine j_iconst (pc := 61) (v := 0) C dX11_isName_61 (by decide) ?_
              refine j_istore_n (pc := 62) (lv' := [(1, .int 0), (2, .int x2_2), (0, .ref m0)]) C dX11_isName_62 rfl (by decide) rfl ?_
              obtain ⟨v_10, ev_10⟩ : ∃ z : Int32, x2_2 + 1 = z := ⟨_, rfl⟩
              have el_1 : (1 : Int32).toInt = 1 := rfl
              have hv_10 : v_10.toInt = x2_2.toInt + (1 : Int32).toInt := by rw [← ev_10]; exact fb_addI (by omega) (by omega)
              refine j_iinc (pc := 63) (v := v_10) (lv' := [(2, .int v_10), (1, .int 0), (0, .ref m0)]) C dX11_isName_63 1 rfl ev_10 (by decide) rfl ?_
              refine j_goto (pc := 66) (tgt := 28) C dX11_isName_66 (by decide) ?_
              have el_0 : (0 : Int32).toInt = 0 := rfl
              exact j_lv [0, 1, 2] rfl (ih_2 v_10 0 (by omega) (by decide) (by omega) ⟨fun h => absurd h (by decide), fun _ z => by have z5 := hWO (x2_2).toInt.toNat (by omega); exact z.2 (x2_2).toInt.toNat (by omega) (by rw [← z5, ev_6, ev_7]; exact hv_8.1.mp ((i_eq _ _).mpr (by omega)))⟩ (by omega))
            · skip
              have el_0 : (0 : Int32).toInt = 0 := rfl
              rw [i_eq] at c_9
              refine j_iconst (pc := 57) (v := 1) C dX11_isName_57 (by decide) ?_
              refine j_goto (pc := 58) (tgt := 62) C dX11_isName_58 (by decide) ?_
              refine j_istore_n (pc := 62) (lv' := [(1, .int 1), (2, .int x2_2), (0, .ref m0)]) C dX11_isName_62 rfl (by decide) rfl ?_
              obtain ⟨v_11, ev_11⟩ : ∃ z : Int32, x2_2 + 1 = z := ⟨_, rfl⟩
              have el_1 : (1 : Int32).toInt = 1 := rfl
              have hv_11 : v_11.toInt = x2_2.toInt + (1 : Int32).toInt := by rw [← ev_11]; exact fb_addI (by omega) (by omega)
              refine j_iinc (pc := 63) (v := v_11) (lv' := [(2, .int v_11), (1, .int 1), (0, .ref m0)]) C dX11_isName_63 1 rfl ev_11 (by decide) rfl ?_
              refine j_goto (pc := 66) (tgt := 28) C dX11_isName_66 (by decide) ?_
              have el_1 : (1 : Int32).toInt = 1 := rfl
              exact j_lv [0, 1, 2] rfl (ih_2 v_11 1 (by omega) (by decide) (by omega) ⟨fun _ => ⟨(hq_2_0.1 (by omega)).1, fun j hj => by rcases Int.lt_or_le (j : Int) (x2_2).toInt with q | q; (exact (hq_2_0.1 (by omega)).2 j q); (have z5 := hWO (x2_2).toInt.toNat (by omega); rw [show j = (x2_2).toInt.toNat from (by omega), ← z5, ev_6, ev_7]; exact fun z => absurd (hv_8.1.mpr z) (by rw [i_eq]; omega))⟩, fun h => absurd h (by decide)⟩ (by omega))
    have el_0 : (0 : Int32).toInt = 0 := rfl
    have el_0 : (0 : Int32).toInt = 0 := rfl
    exact j_lv [0, 1, 2] rfl (loop_2 4096 0 0 (by decide) (by decide) (by omega) ⟨fun h => absurd h (by decide), fun _ z => absurd z.1 (by omega)⟩ (by omega))
  · skip
    have el_0 : (0 : Int32).toInt = 0 := rfl
    rw [i_eq] at c_1
    refine j_aload_n (pc := 7) C dX11_isName_7 rfl 0 rfl ?_
    refine j_get (pc := 8) (ci := 11) (v := .ref msort) C inw_11 0 rfl rfl 4 (by decide) wd_635 rfl rfl dX11_isName_8 ?_
    refine j_aload_n (pc := 11) C dX11_isName_11 rfl 0 rfl ?_
    refine j_get (pc := 12) (ci := 11) (v := .int m_at) C inw_11 0 rfl rfl 7 (by decide) wd_637 rfl rfl dX11_isName_12 ?_
    obtain ⟨v_12, ev_12⟩ : ∃ z, m_sort (m_at).toInt.toNat = z := ⟨_, rfl⟩
    have env_12 : (m_sort (m_at).toInt.toNat).toInt = v_12.toInt := by rw [ev_12]
    have hNv_12 := eN_rd (f := m_sort) (x := m_at) ev_12 (by omega) (by omega)
    refine j_iald (pc := 15) (v := v_12) (k := (m_at).toInt.toNat) C 1 1 rfl rfl (i_nn h_m_at.1) rfl (i_lt_n h_m_at.1 (Int.lt_of_le_of_lt h_m_at.2 (by decide))) ev_12 dX11_isName_15 ?_
    refine j_iconst (pc := 16) (v := 1) C dX11_isName_16 (by decide) ?_
    refine j_icmp_ne (pc := 17) (tgt := 24) C dX11_isName_17 (by decide) (fun c_13 => ?_) (fun c_13 => ?_)
    · skip
      have el_1 : (1 : Int32).toInt = 1 := rfl
      rw [i_eq] at c_13
      refine j_iconst (pc := 24) (v := 0) C dX11_isName_24 (by decide) ?_
      refine j_istore_n (pc := 25) (lv' := [(1, .int 0), (0, .ref m0)]) C dX11_isName_25 rfl (by decide) rfl ?_
      refine j_iconst (pc := 26) (v := 0) C dX11_isName_26 (by decide) ?_
      refine j_istore_n (pc := 27) (lv' := [(2, .int 0), (1, .int 0), (0, .ref m0)]) C dX11_isName_27 rfl (by decide) rfl ?_
      have loop_14 : ∀ (k_14 : Nat) (x14_2 : Int32) (x14_1 : Int32), (0 ≤ (x14_2).toInt ∧ (x14_2).toInt ≤ 17) → (0 ≤ (x14_1).toInt ∧ (x14_1).toInt ≤ 1) → (x14_1.toInt = 0 ∨ (m_at).toInt < ((eN m_sort : Nat) : Int) ∧ (m_fault).toInt = 0) → (NQ (m_fault).toInt (m_sort (m_at).toInt.toNat).toInt (m_value (m_at).toInt.toNat) x14_1.toInt x14_2.toInt) → (17 - x14_2.toInt).toNat < k_14 → J p l e ({ frames := 0, cells := 0, slots := 0, locals := 0 } : Room) s m args below meth c D A 3 0 0 (QX below D (TY cyC cyI cyJ cyZ cyO) A (fun u => some (.int (u.2.1 0))) (fun u => (0 ≤ (u.2.1 0).toInt ∧ (u.2.1 0).toInt ≤ 1) ∧ ((u.2.1 0).toInt = 0 ∨ (m_at).toInt < ((eN m_sort : Nat) : Int) ∧ (m_fault).toInt = 0) ∧ ((u.2.1 0).toInt = nE (m_fault).toInt T (m_place (m_at).toInt.toNat).toInt.toNat)) (fun u => [(m0, .inr (11, [.int m_thrown, .ref mtape, .int m_taped, .int m_size, .ref msort, .ref mplace, .ref mvalue, .int m_at, .int m_fault, .ref mwords, .ref mtold, .ref mop, .ref marg, .int m_codes, .ref mnames, .ref mhasHabit, .int m_isNew, .ref mfactWords, .ref mfacts, .ref mpile, .ref mstates, .ref misMarked, .int m_inShelf, .int m_inStack, .int m_inPlace, .ref mrow, .int m_rowMany, .ref mthr, .ref mmays, .ref mtall, .ref mweights, .ref mrowOfWare, .ref mneededOf, .int m_goShelf, .int m_goStack, .int m_goLeft, .ref mtried, .ref mbestRow, .int m_bestCost, .int m_bestMany, .int m_bestShelf, .int m_bestSet, .ref mdigits])), (msort, .inl (cyI, 1002, .inl m_sort)), (mplace, .inl (cyI, 1002, .inl m_place)), (mvalue, .inl (cyJ, 1002, .inr (.inl m_value))), (mwords, .inl (cyJ, 23, .inr (.inl m_words)))]) args s 0 0) [(m0, .inr (11, [.int m_thrown, .ref mtape, .int m_taped, .int m_size, .ref msort, .ref mplace, .ref mvalue, .int m_at, .int m_fault, .ref mwords, .ref mtold, .ref mop, .ref marg, .int m_codes, .ref mnames, .ref mhasHabit, .int m_isNew, .ref mfactWords, .ref mfacts, .ref mpile, .ref mstates, .ref misMarked, .int m_inShelf, .int m_inStack, .int m_inPlace, .ref mrow, .int m_rowMany, .ref mthr, .ref mmays, .ref mtall, .ref mweights, .ref mrowOfWare, .ref mneededOf, .int m_goShelf, .int m_goStack, .int m_goLeft, .ref mtried, .ref mbestRow, .int m_bestCost, .int m_bestMany, .int m_bestShelf, .int m_bestSet, .ref mdigits])), (msort, .inl (cyI, 1002, .inl m_sort)), (mplace, .inl (cyI, 1002, .inl m_place)), (mvalue, .inl (cyJ, 1002, .inr (.inl m_value))), (mwords, .inl (cyJ, 23, .inr (.inl m_words)))] 28 [(2, .int x14_2), (1, .int x14_1), (0, .ref m0)] [] := by
        intro k_14
        induction k_14 with
        | zero =>
          intro x14_2 x14_1 hi_14_0 hi_14_1 hr_14 hq_14_0 hm_14
          exact absurd hm_14 (Nat.not_lt_zero _)
        | succ k_14 ih_14 =>
          intro x14_2 x14_1 hi_14_0 hi_14_1 hr_14 hq_14_0 hm_14
          refine j_iload_n (pc := 28) C dX11_isName_28 rfl 0 rfl ?_
          refine j_bipush (pc := 29) (v := 17) C dX11_isName_29 (by decide) ?_
          refine j_icmp_ge (pc := 31) (tgt := 69) C dX11_isName_31 (by decide) (fun c_15 => ?_) (fun c_15 => ?_)
          · skip
            have el_17 : (17 : Int32).toInt = 17 := rfl
            rw [i_le] at c_15
            have k0c_15 : x14_2.toInt = 17 := by omega
            refine j_iload_n (pc := 69) C dX11_isName_69 rfl 1 rfl ?_
            exact j_zret (pc := 70) C hr (nb_01 ⟨by omega, by omega⟩).1 hk (fun i => [].getD i 0, fun i => [x14_1].getD i 0, fun i => [].getD i (fun _ => 0), fun i => [].getD i (fun _ => 0)) rfl (show (0 ≤ (x14_1).toInt ∧ (x14_1).toInt ≤ 1) ∧ (x14_1.toInt = 0 ∨ (m_at).toInt < ((eN m_sort : Nat) : Int) ∧ (m_fault).toInt = 0) ∧ (x14_1.toInt = nE (m_fault).toInt T (m_place (m_at).toInt.toNat).toInt.toNat) from ⟨hi_14_1, by omega, (NQ.fin hRT (by omega) (by omega) (by have z9 := hq_14_0; rw [show (x14_2).toInt = 17 from (by omega)] at z9; exact z9) (by omega))⟩) [0, 1, 2, 3, 4] (by decide) rfl (by decide) (by decide) dX11_isName_70
          · skip
            have el_17 : (17 : Int32).toInt = 17 := rfl
            rw [i_le] at c_15
            refine j_iload_n (pc := 34) C dX11_isName_34 rfl 1 rfl ?_
            refine j_if_eq (pc := 35) (tgt := 61) C dX11_isName_35 (by decide) (fun c_16 => ?_) (fun c_16 => ?_)
            · skip
              have el_0 : (0 : Int32).toInt = 0 := rfl
              rw [i_eq] at c_16
              refine j_iconst (pc := 61) (v := 0) C dX11_isName_61 (by decide) ?_
              refine j_istore_n (pc := 62) (lv' := [(1, .int 0), (2, .int x14_2), (0, .ref m0)]) C dX11_isName_62 rfl (by decide) rfl ?_
              obtain ⟨v_17, ev_17⟩ : ∃ z : Int32, x14_2 + 1 = z := ⟨_, rfl⟩
              have el_1 : (1 : Int32).toInt = 1 := rfl
              have hv_17 : v_17.toInt = x14_2.toInt + (1 : Int32).toInt := by rw [← ev_17]; exact fb_addI (by omega) (by omega)
              refine j_iinc (pc := 63) (v := v_17) (lv' := [(2, .int v_17), (1, .int 0), (0, .ref m0)]) C dX11_isName_63 1 rfl ev_17 (by decide) rfl ?_
              refine j_goto (pc := 66) (tgt := 28) C dX11_isName_66 (by decide) ?_
              have el_0 : (0 : Int32).toInt = 0 := rfl
              exact j_lv [0, 1, 2] rfl (ih_14 v_17 0 (by omega) (by decide) (by omega) ⟨fun h => absurd h (by decide), fun _ z => hq_14_0.2 (by omega) ⟨z.1, fun j hj => z.2 j (by omega)⟩⟩ (by omega))
            · skip
              have el_0 : (0 : Int32).toInt = 0 := rfl
              rw [i_eq] at c_16
              have k0c_16 : x14_1.toInt = 1 := by omega
              refine j_aload_n (pc := 38) C dX11_isName_38 rfl 2 rfl ?_
              refine j_get (pc := 39) (ci := 11) (v := .ref mvalue) C inw_11 0 rfl rfl 6 (by decide) wd_645 rfl rfl dX11_isName_39 ?_
              refine j_aload_n (pc := 42) C dX11_isName_42 rfl 2 rfl ?_
              refine j_get (pc := 43) (ci := 11) (v := .int m_at) C inw_11 0 rfl rfl 7 (by decide) wd_637 rfl rfl dX11_isName_43 ?_
              obtain ⟨v_18, ev_18⟩ : ∃ z, m_value (m_at).toInt.toNat = z := ⟨_, rfl⟩
              refine j_lald (pc := 46) (v := v_18) (k := (m_at).toInt.toNat) C 3 2 rfl rfl (i_nn h_m_at.1) rfl (i_lt_n h_m_at.1 (Int.lt_of_le_of_lt h_m_at.2 (by decide))) ev_18 dX11_isName_46 ?_
              refine j_aload_n (pc := 47) C dX11_isName_47 rfl 2 rfl ?_
              refine j_get (pc := 48) (ci := 11) (v := .ref mwords) C inw_11 0 rfl rfl 9 (by decide) wd_652 rfl rfl dX11_isName_48 ?_
              refine j_iload_n (pc := 51) C dX11_isName_51 rfl 0 rfl ?_
              obtain ⟨v_19, ev_19⟩ : ∃ z, m_words (x14_2).toInt.toNat = z := ⟨_, rfl⟩
              refine j_lald (pc := 52) (v := v_19) (k := (x14_2).toInt.toNat) C 4 2 rfl rfl (i_nn hi_14_0.1) rfl (i_lt_n hi_14_0.1 (Int.lt_of_le_of_lt hi_14_0.2 (by decide))) ev_19 dX11_isName_52 ?_
              obtain ⟨v_20, ev_20⟩ : ∃ z : Int32, lc v_18 v_19 = z := ⟨_, rfl⟩
              have hv_20 := lc_eq ev_20
              refine j_lcmp (pc := 53) (v := v_20) C dX11_isName_53 ev_20 ?_
              have hIv_20 := lc_int ev_20
              refine j_if_eq (pc := 54) (tgt := 61) C dX11_isName_54 (by decide) (fun c_21 => ?_) (fun c_21 => ?_)
              · skip
                have el_0 : (0 : Int32).toInt = 0 := rfl
                rw [i_eq] at c_21
                refine j_iconst (pc := 61) (v := 0) C dX11_isName_61 (by decide) ?_
                refine j_istore_n (pc := 62) (lv' := [(1, .int 0), (2, .int x14_2), (0, .ref m0)]) C dX11_isName_62 rfl (by decide) rfl ?_
                obtain ⟨v_22, ev_22⟩ : ∃ z : Int32, x14_2 + 1 = z := ⟨_, rfl⟩
                have el_1 : (1 : Int32).toInt = 1 := rfl
                have hv_22 : v_22.toInt = x14_2.toInt + (1 : Int32).toInt := by rw [← ev_22]; exact fb_addI (by omega) (by omega)
                refine j_iinc (pc := 63) (v := v_22) (lv' := [(2, .int v_22), (1, .int 0), (0, .ref m0)]) C dX11_isName_63 1 rfl ev_22 (by decide) rfl ?_
                refine j_goto (pc := 66) (tgt := 28) C dX11_isName_66 (by decide) ?_
                have el_0 : (0 : Int32).toInt = 0 := rfl
                exact j_lv [0, 1, 2] rfl (ih_14 v_22 0 (by omega) (by decide) (by omega) ⟨fun h => absurd h (by decide), fun _ z => by have z5 := hWO (x14_2).toInt.toNat (by omega); exact z.2 (x14_2).toInt.toNat (by omega) (by rw [← z5, ev_18, ev_19]; exact hv_20.1.mp ((i_eq _ _).mpr (by omega)))⟩ (by omega))
              · skip
                have el_0 : (0 : Int32).toInt = 0 := rfl
                rw [i_eq] at c_21
                refine j_iconst (pc := 57) (v := 1) C dX11_isName_57 (by decide) ?_
                refine j_goto (pc := 58) (tgt := 62) C dX11_isName_58 (by decide) ?_
                refine j_istore_n (pc := 62) (lv' := [(1, .int 1), (2, .int x14_2), (0, .ref m0)]) C dX11_isName_62 rfl (by decide) rfl ?_
                obtain ⟨v_23, ev_23⟩ : ∃ z : Int32, x14_2 + 1 = z := ⟨_, rfl⟩
                have el_1 : (1 : Int32).toInt = 1 := rfl
                have hv_23 : v_23.toInt = x14_2.toInt + (1 : Int32).toInt := by rw [← ev_23]; exact fb_addI (by omega) (by omega)
                refine j_iinc (pc := 63) (v := v_23) (lv' := [(2, .int v_23), (1, .int 1), (0, .ref m0)]) C dX11_isName_63 1 rfl ev_23 (by decide) rfl ?_
                refine j_goto (pc := 66) (tgt := 28) C dX11_isName_66 (by decide) ?_
                have el_1 : (1 : Int32).toInt = 1 := rfl
                exact j_lv [0, 1, 2] rfl (ih_14 v_23 1 (by omega) (by decide) (by omega) ⟨fun _ => ⟨(hq_14_0.1 (by omega)).1, fun j hj => by rcases Int.lt_or_le (j : Int) (x14_2).toInt with q | q; (exact (hq_14_0.1 (by omega)).2 j q); (have z5 := hWO (x14_2).toInt.toNat (by omega); rw [show j = (x14_2).toInt.toNat from (by omega), ← z5, ev_18, ev_19]; exact fun z => absurd (hv_20.1.mpr z) (by rw [i_eq]; omega))⟩, fun h => absurd h (by decide)⟩ (by omega))
      have el_0 : (0 : Int32).toInt = 0 := rfl
      have el_0 : (0 : Int32).toInt = 0 := rfl
      exact j_lv [0, 1, 2] rfl (loop_14 4096 0 0 (by decide) (by decide) (by omega) ⟨fun h => absurd h (by decide), fun _ z => absurd z.1 (by omega)⟩ (by omega))
    · skip
      have el_1 : (1 : Int32).toInt = 1 := rfl
      rw [i_eq] at c_13
      refine j_iconst (pc := 20) (v := 1) C dX11_isName_20 (by decide) ?_
      refine j_goto (pc := 21) (tgt := 25) C dX11_isName_21 (by decide) ?_
      refine j_istore_n (pc := 25) (lv' := [(1, .int 1), (0, .ref m0)]) C dX11_isName_25 rfl (by decide) rfl ?_
      refine j_iconst (pc := 26) (v := 0) C dX11_isName_26 (by decide) ?_
      refine j_istore_n (pc := 27) (lv' := [(2, .int 0), (1, .int 1), (0, .ref m0)]) C dX11_isName_27 rfl (by decide) rfl ?_
      have loop_24 : ∀ (k_24 : Nat) (x24_2 : Int32) (x24_1 : Int32), (0 ≤ (x24_2).toInt ∧ (x24_2).toInt ≤ 17) → (0 ≤ (x24_1).toInt ∧ (x24_1).toInt ≤ 1) → (x24_1.toInt = 0 ∨ (m_at).toInt < ((eN m_sort : Nat) : Int) ∧ (m_fault).toInt = 0) → (NQ (m_fault).toInt (m_sort (m_at).toInt.toNat).toInt (m_value (m_at).toInt.toNat) x24_1.toInt x24_2.toInt) → (17 - x24_2.toInt).toNat < k_24 → J p l e ({ frames := 0, cells := 0, slots := 0, locals := 0 } : Room) s m args below meth c D A 3 0 0 (QX below D (TY cyC cyI cyJ cyZ cyO) A (fun u => some (.int (u.2.1 0))) (fun u => (0 ≤ (u.2.1 0).toInt ∧ (u.2.1 0).toInt ≤ 1) ∧ ((u.2.1 0).toInt = 0 ∨ (m_at).toInt < ((eN m_sort : Nat) : Int) ∧ (m_fault).toInt = 0) ∧ ((u.2.1 0).toInt = nE (m_fault).toInt T (m_place (m_at).toInt.toNat).toInt.toNat)) (fun u => [(m0, .inr (11, [.int m_thrown, .ref mtape, .int m_taped, .int m_size, .ref msort, .ref mplace, .ref mvalue, .int m_at, .int m_fault, .ref mwords, .ref mtold, .ref mop, .ref marg, .int m_codes, .ref mnames, .ref mhasHabit, .int m_isNew, .ref mfactWords, .ref mfacts, .ref mpile, .ref mstates, .ref misMarked, .int m_inShelf, .int m_inStack, .int m_inPlace, .ref mrow, .int m_rowMany, .ref mthr, .ref mmays, .ref mtall, .ref mweights, .ref mrowOfWare, .ref mneededOf, .int m_goShelf, .int m_goStack, .int m_goLeft, .ref mtried, .ref mbestRow, .int m_bestCost, .int m_bestMany, .int m_bestShelf, .int m_bestSet, .ref mdigits])), (msort, .inl (cyI, 1002, .inl m_sort)), (mplace, .inl (cyI, 1002, .inl m_place)), (mvalue, .inl (cyJ, 1002, .inr (.inl m_value))), (mwords, .inl (cyJ, 23, .inr (.inl m_words)))]) args s 0 0) [(m0, .inr (11, [.int m_thrown, .ref mtape, .int m_taped, .int m_size, .ref msort, .ref mplace, .ref mvalue, .int m_at, .int m_fault, .ref mwords, .ref mtold, .ref mop, .ref marg, .int m_codes, .ref mnames, .ref mhasHabit, .int m_isNew, .ref mfactWords, .ref mfacts, .ref mpile, .ref mstates, .ref misMarked, .int m_inShelf, .int m_inStack, .int m_inPlace, .ref mrow, .int m_rowMany, .ref mthr, .ref mmays, .ref mtall, .ref mweights, .ref mrowOfWare, .ref mneededOf, .int m_goShelf, .int m_goStack, .int m_goLeft, .ref mtried, .ref mbestRow, .int m_bestCost, .int m_bestMany, .int m_bestShelf, .int m_bestSet, .ref mdigits])), (msort, .inl (cyI, 1002, .inl m_sort)), (mplace, .inl (cyI, 1002, .inl m_place)), (mvalue, .inl (cyJ, 1002, .inr (.inl m_value))), (mwords, .inl (cyJ, 23, .inr (.inl m_words)))] 28 [(2, .int x24_2), (1, .int x24_1), (0, .ref m0)] [] := by
        intro k_24
        induction k_24 with
        | zero =>
          intro x24_2 x24_1 hi_24_0 hi_24_1 hr_24 hq_24_0 hm_24
          exact absurd hm_24 (Nat.not_lt_zero _)
        | succ k_24 ih_24 =>
          intro x24_2 x24_1 hi_24_0 hi_24_1 hr_24 hq_24_0 hm_24
          refine j_iload_n (pc := 28) C dX11_isName_28 rfl 0 rfl ?_
          refine j_bipush (pc := 29) (v := 17) C dX11_isName_29 (by decide) ?_
          refine j_icmp_ge (pc := 31) (tgt := 69) C dX11_isName_31 (by decide) (fun c_25 => ?_) (fun c_25 => ?_)
          · skip
            have el_17 : (17 : Int32).toInt = 17 := rfl
            rw [i_le] at c_25
            have k0c_25 : x24_2.toInt = 17 := by omega
            refine j_iload_n (pc := 69) C dX11_isName_69 rfl 1 rfl ?_
            exact j_zret (pc := 70) C hr (nb_01 ⟨by omega, by omega⟩).1 hk (fun i => [].getD i 0, fun i => [x24_1].getD i 0, fun i => [].getD i (fun _ => 0), fun i => [].getD i (fun _ => 0)) rfl (show (0 ≤ (x24_1).toInt ∧ (x24_1).toInt ≤ 1) ∧ (x24_1.toInt = 0 ∨ (m_at).toInt < ((eN m_sort : Nat) : Int) ∧ (m_fault).toInt = 0) ∧ (x24_1.toInt = nE (m_fault).toInt T (m_place (m_at).toInt.toNat).toInt.toNat) from ⟨hi_24_1, by omega, (NQ.fin hRT (by omega) (by omega) (by have z9 := hq_24_0; rw [show (x24_2).toInt = 17 from (by omega)] at z9; exact z9) (by omega))⟩) [0, 1, 2, 3, 4] (by decide) rfl (by decide) (by decide) dX11_isName_70
          · skip
            have el_17 : (17 : Int32).toInt = 17 := rfl
            rw [i_le] at c_25
            refine j_iload_n (pc := 34) C dX11_isName_34 rfl 1 rfl ?_
            refine j_if_eq (pc := 35) (tgt := 61) C dX11_isName_35 (by decide) (fun c_26 => ?_) (fun c_26 => ?_)
            · skip
              have el_0 : (0 : Int32).toInt = 0 := rfl
              rw [i_eq] at c_26
              refine j_iconst (pc := 61) (v := 0) C dX11_isName_61 (by decide) ?_
              refine j_istore_n (pc := 62) (lv' := [(1, .int 0), (2, .int x24_2), (0, .ref m0)]) C dX11_isName_62 rfl (by decide) rfl ?_
              obtain ⟨v_27, ev_27⟩ : ∃ z : Int32, x24_2 + 1 = z := ⟨_, rfl⟩
              have el_1 : (1 : Int32).toInt = 1 := rfl
              have hv_27 : v_27.toInt = x24_2.toInt + (1 : Int32).toInt := by rw [← ev_27]; exact fb_addI (by omega) (by omega)
              refine j_iinc (pc := 63) (v := v_27) (lv' := [(2, .int v_27), (1, .int 0), (0, .ref m0)]) C dX11_isName_63 1 rfl ev_27 (by decide) rfl ?_
              refine j_goto (pc := 66) (tgt := 28) C dX11_isName_66 (by decide) ?_
              have el_0 : (0 : Int32).toInt = 0 := rfl
              exact j_lv [0, 1, 2] rfl (ih_24 v_27 0 (by omega) (by decide) (by omega) ⟨fun h => absurd h (by decide), fun _ z => hq_24_0.2 (by omega) ⟨z.1, fun j hj => z.2 j (by omega)⟩⟩ (by omega))
            · skip
              have el_0 : (0 : Int32).toInt = 0 := rfl
              rw [i_eq] at c_26
              have k0c_26 : x24_1.toInt = 1 := by omega
              refine j_aload_n (pc := 38) C dX11_isName_38 rfl 2 rfl ?_
              refine j_get (pc := 39) (ci := 11) (v := .ref mvalue) C inw_11 0 rfl rfl 6 (by decide) wd_645 rfl rfl dX11_isName_39 ?_
              refine j_aload_n (pc := 42) C dX11_isName_42 rfl 2 rfl ?_
              refine j_get (pc := 43) (ci := 11) (v := .int m_at) C inw_11 0 rfl rfl 7 (by decide) wd_637 rfl rfl dX11_isName_43 ?_
              obtain ⟨v_28, ev_28⟩ : ∃ z, m_value (m_at).toInt.toNat = z := ⟨_, rfl⟩
              refine j_lald (pc := 46) (v := v_28) (k := (m_at).toInt.toNat) C 3 2 rfl rfl (i_nn h_m_at.1) rfl (i_lt_n h_m_at.1 (Int.lt_of_le_of_lt h_m_at.2 (by decide))) ev_28 dX11_isName_46 ?_
              refine j_aload_n (pc := 47) C dX11_isName_47 rfl 2 rfl ?_
              refine j_get (pc := 48) (ci := 11) (v := .ref mwords) C inw_11 0 rfl rfl 9 (by decide) wd_652 rfl rfl dX11_isName_48 ?_
              refine j_iload_n (pc := 51) C dX11_isName_51 rfl 0 rfl ?_
              obtain ⟨v_29, ev_29⟩ : ∃ z, m_words (x24_2).toInt.toNat = z := ⟨_, rfl⟩
              refine j_lald (pc := 52) (v := v_29) (k := (x24_2).toInt.toNat) C 4 2 rfl rfl (i_nn hi_24_0.1) rfl (i_lt_n hi_24_0.1 (Int.lt_of_le_of_lt hi_24_0.2 (by decide))) ev_29 dX11_isName_52 ?_
              obtain ⟨v_30, ev_30⟩ : ∃ z : Int32, lc v_28 v_29 = z := ⟨_, rfl⟩
              have hv_30 := lc_eq ev_30
              refine j_lcmp (pc := 53) (v := v_30) C dX11_isName_53 ev_30 ?_
              have hIv_30 := lc_int ev_30
              refine j_if_eq (pc := 54) (tgt := 61) C dX11_isName_54 (by decide) (fun c_31 => ?_) (fun c_31 => ?_)
              · skip
                have el_0 : (0 : Int32).toInt = 0 := rfl
                rw [i_eq] at c_31
                refine j_iconst (pc := 61) (v := 0) C dX11_isName_61 (by decide) ?_
                refine j_istore_n (pc := 62) (lv' := [(1, .int 0), (2, .int x24_2), (0, .ref m0)]) C dX11_isName_62 rfl (by decide) rfl ?_
                obtain ⟨v_32, ev_32⟩ : ∃ z : Int32, x24_2 + 1 = z := ⟨_, rfl⟩
                have el_1 : (1 : Int32).toInt = 1 := rfl
                have hv_32 : v_32.toInt = x24_2.toInt + (1 : Int32).toInt := by rw [← ev_32]; exact fb_addI (by omega) (by omega)
                refine j_iinc (pc := 63) (v := v_32) (lv' := [(2, .int v_32), (1, .int 0), (0, .ref m0)]) C dX11_isName_63 1 rfl ev_32 (by decide) rfl ?_
                refine j_goto (pc := 66) (tgt := 28) C dX11_isName_66 (by decide) ?_
                have el_0 : (0 : Int32).toInt = 0 := rfl
                exact j_lv [0, 1, 2] rfl (ih_24 v_32 0 (by omega) (by decide) (by omega) ⟨fun h => absurd h (by decide), fun _ z => by have z5 := hWO (x24_2).toInt.toNat (by omega); exact z.2 (x24_2).toInt.toNat (by omega) (by rw [← z5, ev_28, ev_29]; exact hv_30.1.mp ((i_eq _ _).mpr (by omega)))⟩ (by omega))
              · skip
                have el_0 : (0 : Int32).toInt = 0 := rfl
                rw [i_eq] at c_31
                refine j_iconst (pc := 57) (v := 1) C dX11_isName_57 (by decide) ?_
                refine j_goto (pc := 58) (tgt := 62) C dX11_isName_58 (by decide) ?_
                refine j_istore_n (pc := 62) (lv' := [(1, .int 1), (2, .int x24_2), (0, .ref m0)]) C dX11_isName_62 rfl (by decide) rfl ?_
                obtain ⟨v_33, ev_33⟩ : ∃ z : Int32, x24_2 + 1 = z := ⟨_, rfl⟩
                have el_1 : (1 : Int32).toInt = 1 := rfl
                have hv_33 : v_33.toInt = x24_2.toInt + (1 : Int32).toInt := by rw [← ev_33]; exact fb_addI (by omega) (by omega)
                refine j_iinc (pc := 63) (v := v_33) (lv' := [(2, .int v_33), (1, .int 1), (0, .ref m0)]) C dX11_isName_63 1 rfl ev_33 (by decide) rfl ?_
                refine j_goto (pc := 66) (tgt := 28) C dX11_isName_66 (by decide) ?_
                have el_1 : (1 : Int32).toInt = 1 := rfl
                exact j_lv [0, 1, 2] rfl (ih_24 v_33 1 (by omega) (by decide) (by omega) ⟨fun _ => ⟨(hq_24_0.1 (by omega)).1, fun j hj => by rcases Int.lt_or_le (j : Int) (x24_2).toInt with q | q; (exact (hq_24_0.1 (by omega)).2 j q); (have z5 := hWO (x24_2).toInt.toNat (by omega); rw [show j = (x24_2).toInt.toNat from (by omega), ← z5, ev_28, ev_29]; exact fun z => absurd (hv_30.1.mpr z) (by rw [i_eq]; omega))⟩, fun h => absurd h (by decide)⟩ (by omega))
      have el_0 : (0 : Int32).toInt = 0 := rfl
      have el_1 : (1 : Int32).toInt = 1 := rfl
      exact j_lv [0, 1, 2] rfl (loop_24 4096 0 1 (by decide) (by decide) (by omega) ⟨fun _ => ⟨⟨by omega, by omega⟩, fun j hj => absurd hj (by omega)⟩, fun h => absurd h (by decide)⟩ (by omega))
set_option maxHeartbeats 4000000 in
set_option maxRecDepth 100000 in
theorem c_X11_nameOf (l : Launch) (D : DG) (cyC cyI cyJ cyZ cyO : ClassId) (m0 : Nat) (mtold : Nat) (mnames : Nat) (mtape : Nat) (msort : Nat) (mplace : Nat) (mvalue : Nat) (mwords : Nat) (mop : Nat) (marg : Nat) (mhasHabit : Nat) (mfactWords : Nat) (mfacts : Nat) (mpile : Nat) (mstates : Nat) (misMarked : Nat) (mrow : Nat) (mthr : Nat) (mmays : Nat) (mtall : Nat) (mweights : Nat) (mrowOfWare : Nat) (mneededOf : Nat) (mtried : Nat) (mbestRow : Nat) (mdigits : Nat) (m_thrown : Int32) (m_taped : Int32) (m_size : Int32) (m_at : Int32) (m_fault : Int32) (m_codes : Int32) (m_isNew : Int32) (m_inShelf : Int32) (m_inStack : Int32) (m_inPlace : Int32) (m_rowMany : Int32) (m_goShelf : Int32) (m_goStack : Int32) (m_goLeft : Int32) (m_bestCost : Int32) (m_bestMany : Int32) (m_bestShelf : Int32) (m_bestSet : Int32) (p0 : Int64) (m_told : Nat → Int32) (m_names : Nat → Int64) (S : ((Nat → Int64) × Nat × (Nat → Int64) × Nat × (Nat → Bool) × (Nat → Bool) × Nat)) (h_m_taped : 0 ≤ (m_taped).toInt ∧ (m_taped).toInt ≤ 1000) (h_m_size : 0 ≤ (m_size).toInt ∧ (m_size).toInt ≤ 1000) (h_m_at : 0 ≤ (m_at).toInt ∧ (m_at).toInt ≤ 1000) (h_m_fault : 0 ≤ (m_fault).toInt ∧ (m_fault).toInt ≤ 16005) (h_m_codes : 0 ≤ (m_codes).toInt ∧ (m_codes).toInt ≤ 1000) (h_m_isNew : 0 ≤ (m_isNew).toInt ∧ (m_isNew).toInt ≤ 1) (h_m_inShelf : 0 ≤ (m_inShelf).toInt ∧ (m_inShelf).toInt ≤ 3) (h_m_inStack : 0 ≤ (m_inStack).toInt ∧ (m_inStack).toInt ≤ 7) (h_m_inPlace : 0 ≤ (m_inPlace).toInt ∧ (m_inPlace).toInt ≤ 11) (h_m_rowMany : 0 ≤ (m_rowMany).toInt ∧ (m_rowMany).toInt ≤ 12) (h_m_goShelf : -1 ≤ (m_goShelf).toInt ∧ (m_goShelf).toInt ≤ 3) (h_m_bestMany : 0 ≤ (m_bestMany).toInt ∧ (m_bestMany).toInt ≤ 7) (h_m_bestShelf : 0 ≤ (m_bestShelf).toInt ∧ (m_bestShelf).toInt ≤ 3) (h_m_told : TV m_told) (hMN : MN m_names m_told S) : KK l D (TY cyC cyI cyJ cyZ cyO) yX11_nameOf cX11_nameOf 5 (some .int) ({ frames := 0, cells := 0, slots := 0, locals := 0 } : Room) 0 0 [.ref m0, .long p0] [(m0, .inr (11, [.int m_thrown, .ref mtape, .int m_taped, .int m_size, .ref msort, .ref mplace, .ref mvalue, .int m_at, .int m_fault, .ref mwords, .ref mtold, .ref mop, .ref marg, .int m_codes, .ref mnames, .ref mhasHabit, .int m_isNew, .ref mfactWords, .ref mfacts, .ref mpile, .ref mstates, .ref misMarked, .int m_inShelf, .int m_inStack, .int m_inPlace, .ref mrow, .int m_rowMany, .ref mthr, .ref mmays, .ref mtall, .ref mweights, .ref mrowOfWare, .ref mneededOf, .int m_goShelf, .int m_goStack, .int m_goLeft, .ref mtried, .ref mbestRow, .int m_bestCost, .int m_bestMany, .int m_bestShelf, .int m_bestSet, .ref mdigits])), (mtold, .inl (cyI, 240, .inl m_told)), (mnames, .inl (cyJ, 16, .inr (.inl m_names)))] (fun u => some (.int (u.2.1 0))) (fun u => (-1 ≤ (u.2.1 0).toInt ∧ (u.2.1 0).toInt ≤ 15) ∧ ((u.2.1 0).toInt = nmOf S p0)) (fun u => [(m0, .inr (11, [.int m_thrown, .ref mtape, .int m_taped, .int m_size, .ref msort, .ref mplace, .ref mvalue, .int m_at, .int m_fault, .ref mwords, .ref mtold, .ref mop, .ref marg, .int m_codes, .ref mnames, .ref mhasHabit, .int m_isNew, .ref mfactWords, .ref mfacts, .ref mpile, .ref mstates, .ref misMarked, .int m_inShelf, .int m_inStack, .int m_inPlace, .ref mrow, .int m_rowMany, .ref mthr, .ref mmays, .ref mtall, .ref mweights, .ref mrowOfWare, .ref mneededOf, .int m_goShelf, .int m_goStack, .int m_goLeft, .ref mtried, .ref mbestRow, .int m_bestCost, .int m_bestMany, .int m_bestShelf, .int m_bestSet, .ref mdigits])), (mtold, .inl (cyI, 240, .inl m_told)), (mnames, .inl (cyJ, 16, .inr (.inl m_names)))]) := by
  refine KK.of (lv0 := [(0, .ref m0), (1, .long p0)]) (by decide) rfl (Nat.le_of_ble_eq_true rfl) ?_
  intro p e s m args below meth c A C hr hk hin
  refine j_iconst (pc := 0) (v := 0) C dX11_nameOf_0 (by decide) ?_
  refine j_istore_n (pc := 1) (lv' := [(3, .int 0), (0, .ref m0), (1, .long p0)]) C dX11_nameOf_1 rfl (by decide) rfl ?_
  have loop_1 : ∀ (k_1 : Nat) (x1_3 : Int32), (0 ≤ (x1_3).toInt ∧ (x1_3).toInt ≤ 16) → (∀ j : Nat, (j : Int) < x1_3.toInt → j < 12 → (j : Int) < (m_told 120).toInt → ¬ m_names j = p0) → (∀ j : Nat, 12 + (j : Int) < x1_3.toInt → (j : Int) < (m_told 121).toInt → ¬ m_names (12 + j) = p0) → (16 - x1_3.toInt).toNat < k_1 → J p l e ({ frames := 0, cells := 0, slots := 0, locals := 0 } : Room) s m args below meth c D A 5 0 0 (QX below D (TY cyC cyI cyJ cyZ cyO) A (fun u => some (.int (u.2.1 0))) (fun u => (-1 ≤ (u.2.1 0).toInt ∧ (u.2.1 0).toInt ≤ 15) ∧ ((u.2.1 0).toInt = nmOf S p0)) (fun u => [(m0, .inr (11, [.int m_thrown, .ref mtape, .int m_taped, .int m_size, .ref msort, .ref mplace, .ref mvalue, .int m_at, .int m_fault, .ref mwords, .ref mtold, .ref mop, .ref marg, .int m_codes, .ref mnames, .ref mhasHabit, .int m_isNew, .ref mfactWords, .ref mfacts, .ref mpile, .ref mstates, .ref misMarked, .int m_inShelf, .int m_inStack, .int m_inPlace, .ref mrow, .int m_rowMany, .ref mthr, .ref mmays, .ref mtall, .ref mweights, .ref mrowOfWare, .ref mneededOf, .int m_goShelf, .int m_goStack, .int m_goLeft, .ref mtried, .ref mbestRow, .int m_bestCost, .int m_bestMany, .int m_bestShelf, .int m_bestSet, .ref mdigits])), (mtold, .inl (cyI, 240, .inl m_told)), (mnames, .inl (cyJ, 16, .inr (.inl m_names)))]) args s 0 0) [(m0, .inr (11, [.int m_thrown, .ref mtape, .int m_taped, .int m_size, .ref msort, .ref mplace, .ref mvalue, .int m_at, .int m_fault, .ref mwords, .ref mtold, .ref mop, .ref marg, .int m_codes, .ref mnames, .ref mhasHabit, .int m_isNew, .ref mfactWords, .ref mfacts, .ref mpile, .ref mstates, .ref misMarked, .int m_inShelf, .int m_inStack, .int m_inPlace, .ref mrow, .int m_rowMany, .ref mthr, .ref mmays, .ref mtall, .ref mweights, .ref mrowOfWare, .ref mneededOf, .int m_goShelf, .int m_goStack, .int m_goLeft, .ref mtried, .ref mbestRow, .int m_bestCost, .int m_bestMany, .int m_bestShelf, .int m_bestSet, .ref mdigits])), (mtold, .inl (cyI, 240, .inl m_told)), (mnames, .inl (cyJ, 16, .inr (.inl m_names)))] 2 [(3, .int x1_3), (0, .ref m0), (1, .long p0)] [] := by
    intro k_1
    induction k_1 with
    | zero =>
      intro x1_3 hi_1_0 hq_1_0 hq_1_1 hm_1
      exact absurd hm_1 (Nat.not_lt_zero _)
    | succ k_1 ih_1 =>
      intro x1_3 hi_1_0 hq_1_0 hq_1_1 hm_1
      refine j_iload_n (pc := 2) C dX11_nameOf_2 rfl 0 rfl ?_
      refine j_bipush (pc := 3) (v := 16) C dX11_nameOf_3 (by decide) ?_
      refine j_icmp_ge (pc := 5) (tgt := 78) C dX11_nameOf_5 (by decide) (fun c_2 => ?_) (fun c_2 => ?_)
      · skip
        have el_16 : (16 : Int32).toInt = 16 := rfl
        rw [i_le] at c_2
        have k0c_2 : x1_3.toInt = 16 := by omega
        refine j_iconst (pc := 78) (v := (-1)) C dX11_nameOf_78 (by decide) ?_
        have el_m1 : ((-1) : Int32).toInt = (-1) := rfl
        have el_m1 : ((-1) : Int32).toInt = (-1) := rfl
        exact j_iret (pc := 79) C hr hk (fun i => [].getD i 0, fun i => [(-1)].getD i 0, fun i => [].getD i (fun _ => 0), fun i => [].getD i (fun _ => 0)) rfl (show (-1 ≤ (((-1) : Int32)).toInt ∧ (((-1) : Int32)).toInt ≤ 15) ∧ (((-1) : Int32).toInt = nmOf S p0) from ⟨by omega, (by have c1 := hMN.1; have c2 := hMN.2.1; have c3 := (h_m_told 120 (by decide)).2; have c4 : hiT 120 = 12 := (by decide); have c5 := (h_m_told 121 (by decide)).2; have c6 : hiT 121 = 4 := (by decide); have z9 := nmOf_n (v := p0) hMN (fun j hj => hq_1_0 j (by omega) (by omega) (by omega)) (fun j hj => hq_1_1 j (by omega) (by omega)); omega)⟩) [0, 1, 2] (by decide) rfl (by decide) (by decide) dX11_nameOf_79
      · skip
        have el_16 : (16 : Int32).toInt = 16 := rfl
        rw [i_le] at c_2
        refine j_iload_n (pc := 8) C dX11_nameOf_8 rfl 0 rfl ?_
        refine j_bipush (pc := 9) (v := 12) C dX11_nameOf_9 (by decide) ?_
        refine j_icmp_ge (pc := 11) (tgt := 33) C dX11_nameOf_11 (by decide) (fun c_3 => ?_) (fun c_3 => ?_)
        · skip
          have el_12 : (12 : Int32).toInt = 12 := rfl
          rw [i_le] at c_3
          refine j_iload_n (pc := 33) C dX11_nameOf_33 rfl 0 rfl ?_
          refine j_bipush (pc := 34) (v := 12) C dX11_nameOf_34 (by decide) ?_
          obtain ⟨v_4, ev_4⟩ : ∃ z : Int32, x1_3 - 12 = z := ⟨_, rfl⟩
          have el_12 : (12 : Int32).toInt = 12 := rfl
          have hv_4 : v_4.toInt = x1_3.toInt - (12 : Int32).toInt := by rw [← ev_4]; exact fb_subI (by omega) (by omega)
          refine j_isub (pc := 36) (v := v_4) C dX11_nameOf_36 ev_4 ?_
          refine j_aload_n (pc := 37) C dX11_nameOf_37 rfl 1 rfl ?_
          refine j_get (pc := 38) (ci := 11) (v := .ref mtold) C inw_11 0 rfl rfl 10 (by decide) wd_669 rfl rfl dX11_nameOf_38 ?_
          refine j_bipush (pc := 41) (v := 121) C dX11_nameOf_41 (by decide) ?_
          obtain ⟨v_5, ev_5⟩ : ∃ z, m_told 121 = z := ⟨_, rfl⟩
          have env_5 : (m_told 121).toInt = v_5.toInt := by rw [ev_5]
          have hv_5 : 0 ≤ v_5.toInt ∧ v_5.toInt ≤ 4 := by have z := h_m_told 121 (by decide); rw [ev_5] at z; exact z
          refine j_iald (pc := 43) (v := v_5) (k := 121) C 1 1 rfl rfl (by decide) (by decide) (by decide) ev_5 dX11_nameOf_43 ?_
          refine j_icmp_ge (pc := 44) (tgt := 51) C dX11_nameOf_44 (by decide) (fun c_6 => ?_) (fun c_6 => ?_)
          · skip
            rw [i_le] at c_6
            refine j_iconst (pc := 51) (v := 0) C dX11_nameOf_51 (by decide) ?_
            refine j_istore (pc := 52) (lv' := [(4, .int 0), (3, .int x1_3), (0, .ref m0), (1, .long p0)]) C dX11_nameOf_52 (by decide) rfl ?_
            refine j_iload (pc := 54) C dX11_nameOf_54 0 rfl ?_
            refine j_if_eq_t (pc := 56) (tgt := 72) C dX11_nameOf_56 (by decide) (by decide) ?_
            obtain ⟨v_7, ev_7⟩ : ∃ z : Int32, x1_3 + 1 = z := ⟨_, rfl⟩
            have el_1 : (1 : Int32).toInt = 1 := rfl
            have hv_7 : v_7.toInt = x1_3.toInt + (1 : Int32).toInt := by rw [← ev_7]; exact fb_addI (by omega) (by omega)
            refine j_iinc (pc := 72) (v := v_7) (lv' := [(3, .int v_7), (4, .int 0), (0, .ref m0), (1, .long p0)]) C dX11_nameOf_72 1 rfl ev_7 (by decide) rfl ?_
            refine j_goto (pc := 75) (tgt := 2) C dX11_nameOf_75 (by decide) ?_
            exact j_lv [0, 2, 3] rfl (ih_1 v_7 (by omega) (fun j hj h12 ht => by rcases Int.lt_or_le (j : Int) (x1_3).toInt with q | q; (exact hq_1_0 j q h12 ht); (omega)) (fun j hj ht => by rcases Int.lt_or_le (12 + (j : Int)) (x1_3).toInt with q | q; (exact hq_1_1 j q ht); (omega)) (by omega))
          · skip
            rw [i_le] at c_6
            refine j_iconst (pc := 47) (v := 1) C dX11_nameOf_47 (by decide) ?_
            refine j_goto (pc := 48) (tgt := 52) C dX11_nameOf_48 (by decide) ?_
            refine j_istore (pc := 52) (lv' := [(4, .int 1), (3, .int x1_3), (0, .ref m0), (1, .long p0)]) C dX11_nameOf_52 (by decide) rfl ?_
            refine j_iload (pc := 54) C dX11_nameOf_54 0 rfl ?_
            refine j_if_eq_f (pc := 56) (tgt := 72) C dX11_nameOf_56 (by decide) (by decide) ?_
            refine j_aload_n (pc := 59) C dX11_nameOf_59 rfl 2 rfl ?_
            refine j_get (pc := 60) (ci := 11) (v := .ref mnames) C inw_11 0 rfl rfl 14 (by decide) wd_670 rfl rfl dX11_nameOf_60 ?_
            refine j_iload_n (pc := 63) C dX11_nameOf_63 rfl 1 rfl ?_
            obtain ⟨v_8, ev_8⟩ : ∃ z, m_names (x1_3).toInt.toNat = z := ⟨_, rfl⟩
            refine j_lald (pc := 64) (v := v_8) (k := (x1_3).toInt.toNat) C 2 2 rfl rfl (i_nn hi_1_0.1) rfl (i_lt_n hi_1_0.1 (by omega)) ev_8 dX11_nameOf_64 ?_
            refine j_lload_n (pc := 65) C dX11_nameOf_65 rfl 3 rfl ?_
            obtain ⟨v_9, ev_9⟩ : ∃ z : Int32, lc v_8 p0 = z := ⟨_, rfl⟩
            have hv_9 := lc_eq ev_9
            refine j_lcmp (pc := 66) (v := v_9) C dX11_nameOf_66 ev_9 ?_
            have hIv_9 := lc_int ev_9
            refine j_if_ne (pc := 67) (tgt := 72) C dX11_nameOf_67 (by decide) (fun c_10 => ?_) (fun c_10 => ?_)
            · skip
              have el_0 : (0 : Int32).toInt = 0 := rfl
              rw [i_eq] at c_10
              obtain ⟨v_11, ev_11⟩ : ∃ z : Int32, x1_3 + 1 = z := ⟨_, rfl⟩
              have el_1 : (1 : Int32).toInt = 1 := rfl
              have hv_11 : v_11.toInt = x1_3.toInt + (1 : Int32).toInt := by rw [← ev_11]; exact fb_addI (by omega) (by omega)
              refine j_iinc (pc := 72) (v := v_11) (lv' := [(3, .int v_11), (4, .int 1), (0, .ref m0), (1, .long p0)]) C dX11_nameOf_72 1 rfl ev_11 (by decide) rfl ?_
              refine j_goto (pc := 75) (tgt := 2) C dX11_nameOf_75 (by decide) ?_
              exact j_lv [0, 2, 3] rfl (ih_1 v_11 (by omega) (fun j hj h12 ht => by rcases Int.lt_or_le (j : Int) (x1_3).toInt with q | q; (exact hq_1_0 j q h12 ht); (omega)) (fun j hj ht => by rcases Int.lt_or_le (12 + (j : Int)) (x1_3).toInt with q | q; (exact hq_1_1 j q ht); (rw [show 12 + j = (x1_3).toInt.toNat from (by omega), ev_8]; exact fun z => absurd (hv_9.1.mpr z) (by rw [i_eq]; omega))) (by omega))
            · skip
              have el_0 : (0 : Int32).toInt = 0 := rfl
              rw [i_eq] at c_10
              refine j_iload_n (pc := 70) C dX11_nameOf_70 rfl 1 rfl ?_
              exact j_iret (pc := 71) C hr hk (fun i => [].getD i 0, fun i => [x1_3].getD i 0, fun i => [].getD i (fun _ => 0), fun i => [].getD i (fun _ => 0)) rfl (show (-1 ≤ (x1_3).toInt ∧ (x1_3).toInt ≤ 15) ∧ (x1_3.toInt = nmOf S p0) from ⟨by omega, (by have c1 := hMN.1; have c2 := hMN.2.1; have c3 := (h_m_told 120 (by decide)).2; have c4 : hiT 120 = 12 := (by decide); have c5 := (h_m_told 121 (by decide)).2; have c6 : hiT 121 = 4 := (by decide); have z9 := nmOf_s (v := p0) (k := ((x1_3).toInt - 12).toNat) hMN (by omega) (by rw [show 12 + ((x1_3).toInt - 12).toNat = (x1_3).toInt.toNat from (by omega), ev_8]; exact hv_9.1.mp ((i_eq _ _).mpr (by omega))) (fun j hj => hq_1_0 j (by omega) (by omega) (by omega)) (fun j hj => hq_1_1 j (by omega) (by omega)); omega)⟩) [0, 1, 2] (by decide) rfl (by decide) (by decide) dX11_nameOf_71
        · skip
          have el_12 : (12 : Int32).toInt = 12 := rfl
          rw [i_le] at c_3
          refine j_iload_n (pc := 14) C dX11_nameOf_14 rfl 0 rfl ?_
          refine j_aload_n (pc := 15) C dX11_nameOf_15 rfl 1 rfl ?_
          refine j_get (pc := 16) (ci := 11) (v := .ref mtold) C inw_11 0 rfl rfl 10 (by decide) wd_669 rfl rfl dX11_nameOf_16 ?_
          refine j_bipush (pc := 19) (v := 120) C dX11_nameOf_19 (by decide) ?_
          obtain ⟨v_12, ev_12⟩ : ∃ z, m_told 120 = z := ⟨_, rfl⟩
          have env_12 : (m_told 120).toInt = v_12.toInt := by rw [ev_12]
          have hv_12 : 0 ≤ v_12.toInt ∧ v_12.toInt ≤ 12 := by have z := h_m_told 120 (by decide); rw [ev_12] at z; exact z
          refine j_iald (pc := 21) (v := v_12) (k := 120) C 1 1 rfl rfl (by decide) (by decide) (by decide) ev_12 dX11_nameOf_21 ?_
          refine j_icmp_ge (pc := 22) (tgt := 29) C dX11_nameOf_22 (by decide) (fun c_13 => ?_) (fun c_13 => ?_)
          · skip
            rw [i_le] at c_13
            refine j_iconst (pc := 29) (v := 0) C dX11_nameOf_29 (by decide) ?_
            refine j_goto (pc := 30) (tgt := 52) C dX11_nameOf_30 (by decide) ?_
            refine j_istore (pc := 52) (lv' := [(4, .int 0), (3, .int x1_3), (0, .ref m0), (1, .long p0)]) C dX11_nameOf_52 (by decide) rfl ?_
            refine j_iload (pc := 54) C dX11_nameOf_54 0 rfl ?_
            refine j_if_eq_t (pc := 56) (tgt := 72) C dX11_nameOf_56 (by decide) (by decide) ?_
            obtain ⟨v_14, ev_14⟩ : ∃ z : Int32, x1_3 + 1 = z := ⟨_, rfl⟩
            have el_1 : (1 : Int32).toInt = 1 := rfl
            have hv_14 : v_14.toInt = x1_3.toInt + (1 : Int32).toInt := by rw [← ev_14]; exact fb_addI (by omega) (by omega)
            refine j_iinc (pc := 72) (v := v_14) (lv' := [(3, .int v_14), (4, .int 0), (0, .ref m0), (1, .long p0)]) C dX11_nameOf_72 1 rfl ev_14 (by decide) rfl ?_
            refine j_goto (pc := 75) (tgt := 2) C dX11_nameOf_75 (by decide) ?_
            exact j_lv [0, 2, 3] rfl (ih_1 v_14 (by omega) (fun j hj h12 ht => by rcases Int.lt_or_le (j : Int) (x1_3).toInt with q | q; (exact hq_1_0 j q h12 ht); (omega)) (fun j hj ht => by rcases Int.lt_or_le (12 + (j : Int)) (x1_3).toInt with q | q; (exact hq_1_1 j q ht); (omega)) (by omega))
          · skip
            rw [i_le] at c_13
            refine j_iconst (pc := 25) (v := 1) C dX11_nameOf_25 (by decide) ?_
            refine j_goto (pc := 26) (tgt := 52) C dX11_nameOf_26 (by decide) ?_
            refine j_istore (pc := 52) (lv' := [(4, .int 1), (3, .int x1_3), (0, .ref m0), (1, .long p0)]) C dX11_nameOf_52 (by decide) rfl ?_
            refine j_iload (pc := 54) C dX11_nameOf_54 0 rfl ?_
            refine j_if_eq_f (pc := 56) (tgt := 72) C dX11_nameOf_56 (by decide) (by decide) ?_
            refine j_aload_n (pc := 59) C dX11_nameOf_59 rfl 2 rfl ?_
            refine j_get (pc := 60) (ci := 11) (v := .ref mnames) C inw_11 0 rfl rfl 14 (by decide) wd_670 rfl rfl dX11_nameOf_60 ?_
            refine j_iload_n (pc := 63) C dX11_nameOf_63 rfl 1 rfl ?_
            obtain ⟨v_15, ev_15⟩ : ∃ z, m_names (x1_3).toInt.toNat = z := ⟨_, rfl⟩
            refine j_lald (pc := 64) (v := v_15) (k := (x1_3).toInt.toNat) C 2 2 rfl rfl (i_nn hi_1_0.1) rfl (i_lt_n hi_1_0.1 (by omega)) ev_15 dX11_nameOf_64 ?_
            refine j_lload_n (pc := 65) C dX11_nameOf_65 rfl 3 rfl ?_
            obtain ⟨v_16, ev_16⟩ : ∃ z : Int32, lc v_15 p0 = z := ⟨_, rfl⟩
            have hv_16 := lc_eq ev_16
            refine j_lcmp (pc := 66) (v := v_16) C dX11_nameOf_66 ev_16 ?_
            have hIv_16 := lc_int ev_16
            refine j_if_ne (pc := 67) (tgt := 72) C dX11_nameOf_67 (by decide) (fun c_17 => ?_) (fun c_17 => ?_)
            · skip
              have el_0 : (0 : Int32).toInt = 0 := rfl
              rw [i_eq] at c_17
              obtain ⟨v_18, ev_18⟩ : ∃ z : Int32, x1_3 + 1 = z := ⟨_, rfl⟩
              have el_1 : (1 : Int32).toInt = 1 := rfl
              have hv_18 : v_18.toInt = x1_3.toInt + (1 : Int32).toInt := by rw [← ev_18]; exact fb_addI (by omega) (by omega)
              refine j_iinc (pc := 72) (v := v_18) (lv' := [(3, .int v_18), (4, .int 1), (0, .ref m0), (1, .long p0)]) C dX11_nameOf_72 1 rfl ev_18 (by decide) rfl ?_
              refine j_goto (pc := 75) (tgt := 2) C dX11_nameOf_75 (by decide) ?_
              exact j_lv [0, 2, 3] rfl (ih_1 v_18 (by omega) (fun j hj h12 ht => by rcases Int.lt_or_le (j : Int) (x1_3).toInt with q | q; (exact hq_1_0 j q h12 ht); (rw [show j = (x1_3).toInt.toNat from (by omega), ev_15]; exact fun z => absurd (hv_16.1.mpr z) (by rw [i_eq]; omega))) (fun j hj ht => by rcases Int.lt_or_le (12 + (j : Int)) (x1_3).toInt with q | q; (exact hq_1_1 j q ht); (omega)) (by omega))
            · skip
              have el_0 : (0 : Int32).toInt = 0 := rfl
              rw [i_eq] at c_17
              refine j_iload_n (pc := 70) C dX11_nameOf_70 rfl 1 rfl ?_
              exact j_iret (pc := 71) C hr hk (fun i => [].getD i 0, fun i => [x1_3].getD i 0, fun i => [].getD i (fun _ => 0), fun i => [].getD i (fun _ => 0)) rfl (show (-1 ≤ (x1_3).toInt ∧ (x1_3).toInt ≤ 15) ∧ (x1_3.toInt = nmOf S p0) from ⟨by omega, (by have c1 := hMN.1; have c2 := hMN.2.1; have c3 := (h_m_told 120 (by decide)).2; have c4 : hiT 120 = 12 := (by decide); have c5 := (h_m_told 121 (by decide)).2; have c6 : hiT 121 = 4 := (by decide); have z9 := nmOf_w (v := p0) (k := (x1_3).toInt.toNat) hMN (by omega) (ev_15.trans (hv_16.1.mp ((i_eq _ _).mpr (by omega)))) (fun j hj => hq_1_0 j (by omega) (by omega) (by omega)); omega)⟩) [0, 1, 2] (by decide) rfl (by decide) (by decide) dX11_nameOf_71
  have el_0 : (0 : Int32).toInt = 0 := rfl
  exact j_lv [0, 1, 2] rfl (loop_1 4096 0 (by decide) (fun j hj => absurd hj (by omega)) (fun j hj => absurd hj (by omega)) (by omega))
set_option maxHeartbeats 4000000 in
set_option maxRecDepth 100000 in
theorem c_X11_newName (l : Launch) (D : DG) (cyC cyI cyJ cyZ cyO : ClassId) (m0 : Nat) (msort : Nat) (mplace : Nat) (mvalue : Nat) (mwords : Nat) (mtold : Nat) (mnames : Nat) (mtape : Nat) (mop : Nat) (marg : Nat) (mhasHabit : Nat) (mfactWords : Nat) (mfacts : Nat) (mpile : Nat) (mstates : Nat) (misMarked : Nat) (mrow : Nat) (mthr : Nat) (mmays : Nat) (mtall : Nat) (mweights : Nat) (mrowOfWare : Nat) (mneededOf : Nat) (mtried : Nat) (mbestRow : Nat) (mdigits : Nat) (m_thrown : Int32) (m_taped : Int32) (m_size : Int32) (m_at : Int32) (m_fault : Int32) (m_codes : Int32) (m_isNew : Int32) (m_inShelf : Int32) (m_inStack : Int32) (m_inPlace : Int32) (m_rowMany : Int32) (m_goShelf : Int32) (m_goStack : Int32) (m_goLeft : Int32) (m_bestCost : Int32) (m_bestMany : Int32) (m_bestShelf : Int32) (m_bestSet : Int32) (m_sort : Nat → Int32) (m_place : Nat → Int32) (m_value : Nat → Int64) (m_words : Nat → Int64) (m_told : Nat → Int32) (m_names : Nat → Int64) (T : Nat → Int × Int64 × Nat) (S : ((Nat → Int64) × Nat × (Nat → Int64) × Nat × (Nat → Bool) × (Nat → Bool) × Nat)) (h_m_taped : 0 ≤ (m_taped).toInt ∧ (m_taped).toInt ≤ 1000) (h_m_size : 0 ≤ (m_size).toInt ∧ (m_size).toInt ≤ 1000) (h_m_at : 0 ≤ (m_at).toInt ∧ (m_at).toInt ≤ 1000) (h_m_fault : 0 ≤ (m_fault).toInt ∧ (m_fault).toInt ≤ 16005) (h_m_codes : 0 ≤ (m_codes).toInt ∧ (m_codes).toInt ≤ 1000) (h_m_isNew : 0 ≤ (m_isNew).toInt ∧ (m_isNew).toInt ≤ 1) (h_m_inShelf : 0 ≤ (m_inShelf).toInt ∧ (m_inShelf).toInt ≤ 3) (h_m_inStack : 0 ≤ (m_inStack).toInt ∧ (m_inStack).toInt ≤ 7) (h_m_inPlace : 0 ≤ (m_inPlace).toInt ∧ (m_inPlace).toInt ≤ 11) (h_m_rowMany : 0 ≤ (m_rowMany).toInt ∧ (m_rowMany).toInt ≤ 12) (h_m_goShelf : -1 ≤ (m_goShelf).toInt ∧ (m_goShelf).toInt ≤ 3) (h_m_bestMany : 0 ≤ (m_bestMany).toInt ∧ (m_bestMany).toInt ≤ 7) (h_m_bestShelf : 0 ≤ (m_bestShelf).toInt ∧ (m_bestShelf).toInt ≤ 3) (h_m_place : Iv 1002 (0) (1000) m_place) (h_m_told : TV m_told) (hN1 : eN m_sort ≤ 1000) (hN2 : (m_at).toInt ≤ ((eN m_sort : Nat) : Int)) (hRT : RWS m_sort m_place m_value T) (hWO : WRD m_words) (hMN : MN m_names m_told S) : KK l D (TY cyC cyI cyJ cyZ cyO) yX11_newName cX11_newName 1 (some .long) ({ frames := 1, cells := 0, slots := 0, locals := 24 } : Room) 0 0 [.ref m0] [(m0, .inr (11, [.int m_thrown, .ref mtape, .int m_taped, .int m_size, .ref msort, .ref mplace, .ref mvalue, .int m_at, .int m_fault, .ref mwords, .ref mtold, .ref mop, .ref marg, .int m_codes, .ref mnames, .ref mhasHabit, .int m_isNew, .ref mfactWords, .ref mfacts, .ref mpile, .ref mstates, .ref misMarked, .int m_inShelf, .int m_inStack, .int m_inPlace, .ref mrow, .int m_rowMany, .ref mthr, .ref mmays, .ref mtall, .ref mweights, .ref mrowOfWare, .ref mneededOf, .int m_goShelf, .int m_goStack, .int m_goLeft, .ref mtried, .ref mbestRow, .int m_bestCost, .int m_bestMany, .int m_bestShelf, .int m_bestSet, .ref mdigits])), (msort, .inl (cyI, 1002, .inl m_sort)), (mplace, .inl (cyI, 1002, .inl m_place)), (mvalue, .inl (cyJ, 1002, .inr (.inl m_value))), (mwords, .inl (cyJ, 23, .inr (.inl m_words))), (mtold, .inl (cyI, 240, .inl m_told)), (mnames, .inl (cyJ, 16, .inr (.inl m_names)))] (fun u => some (.long (u.2.2.2 0 0))) (fun u => (0 ≤ (u.2.1 0).toInt ∧ (u.2.1 0).toInt ≤ 1000) ∧ (0 ≤ (u.2.1 1).toInt ∧ (u.2.1 1).toInt ≤ 16005) ∧ ((m_at).toInt ≤ ((u.2.1 0)).toInt) ∧ (((u.2.1 0)).toInt ≤ ((eN m_sort : Nat) : Int)) ∧ ((m_fault).toInt ≤ ((u.2.1 1)).toInt) ∧ (RP m_place (m_fault).toInt (m_at).toInt ((u.2.1 1)).toInt ((u.2.1 0)).toInt (rNew T S)) ∧ (IM (((u.2.1 1)).toInt = 0) ((u.2.2.2 0 0) = (T (m_place (m_at).toInt.toNat).toInt.toNat).2.1))) (fun u => [(m0, .inr (11, [.int m_thrown, .ref mtape, .int m_taped, .int m_size, .ref msort, .ref mplace, .ref mvalue, .int (u.2.1 0), .int (u.2.1 1), .ref mwords, .ref mtold, .ref mop, .ref marg, .int m_codes, .ref mnames, .ref mhasHabit, .int m_isNew, .ref mfactWords, .ref mfacts, .ref mpile, .ref mstates, .ref misMarked, .int m_inShelf, .int m_inStack, .int m_inPlace, .ref mrow, .int m_rowMany, .ref mthr, .ref mmays, .ref mtall, .ref mweights, .ref mrowOfWare, .ref mneededOf, .int m_goShelf, .int m_goStack, .int m_goLeft, .ref mtried, .ref mbestRow, .int m_bestCost, .int m_bestMany, .int m_bestShelf, .int m_bestSet, .ref mdigits])), (msort, .inl (cyI, 1002, .inl m_sort)), (mplace, .inl (cyI, 1002, .inl m_place)), (mvalue, .inl (cyJ, 1002, .inr (.inl m_value))), (mwords, .inl (cyJ, 23, .inr (.inl m_words))), (mtold, .inl (cyI, 240, .inl m_told)), (mnames, .inl (cyJ, 16, .inr (.inl m_names)))]) := by
  refine KK.of (lv0 := [(0, .ref m0)]) (by decide) rfl (Nat.le_of_ble_eq_true rfl) ?_
  intro p e s m args below meth c A C hr hk hin
  refine j_aload_n (pc := 0) C dX11_newName_0 rfl 0 rfl ?_
  refine j_callV (pc := 1) (As := []) (rest := []) (wr := [(mtold, .inl (cyI, 240, .inl m_told)), (mnames, .inl (cyJ, 16, .inr (.inl m_names)))]) C (c_X11_isName l D cyC cyI cyJ cyZ cyO m0 msort mplace mvalue mwords mtape mtold mop marg mnames mhasHabit mfactWords mfacts mpile mstates misMarked mrow mthr mmays mtall mweights mrowOfWare mneededOf mtried mbestRow mdigits m_thrown m_taped m_size m_at m_fault m_codes m_isNew m_inShelf m_inStack m_inPlace m_rowMany m_goShelf m_goStack m_goLeft m_bestCost m_bestMany m_bestShelf m_bestSet m_sort m_place m_value m_words T h_m_taped h_m_size h_m_at h_m_fault h_m_codes h_m_isNew h_m_inShelf h_m_inStack h_m_inPlace h_m_rowMany h_m_goShelf h_m_bestMany h_m_bestShelf h_m_place hN1 hN2 hRT hWO) wd_671 wd_624 wd_672 wd_673 wd_674 ⟨by decide, by decide, rfl⟩ rfl ⟨rfl, rfl, by decide, by decide⟩ ⟨by decide, by decide⟩ [0, 1, 2, 3, 4] [5, 6] rfl rfl ⟨by decide, by decide, by decide⟩ 0 rfl rfl rfl (Nat.le_of_ble_eq_true rfl) dX11_newName_1 (fun u_1 hw_2 => ?_)
  refine j_eq (ws2 := [(mtold, .inl (cyI, 240, .inl m_told)), (mnames, .inl (cyJ, 16, .inr (.inl m_names))), (m0, .inr (11, [.int m_thrown, .ref mtape, .int m_taped, .int m_size, .ref msort, .ref mplace, .ref mvalue, .int m_at, .int m_fault, .ref mwords, .ref mtold, .ref mop, .ref marg, .int m_codes, .ref mnames, .ref mhasHabit, .int m_isNew, .ref mfactWords, .ref mfacts, .ref mpile, .ref mstates, .ref misMarked, .int m_inShelf, .int m_inStack, .int m_inPlace, .ref mrow, .int m_rowMany, .ref mthr, .ref mmays, .ref mtall, .ref mweights, .ref mrowOfWare, .ref mneededOf, .int m_goShelf, .int m_goStack, .int m_goLeft, .ref mtried, .ref mbestRow, .int m_bestCost, .int m_bestMany, .int m_bestShelf, .int m_bestSet, .ref mdigits])), (msort, .inl (cyI, 1002, .inl m_sort)), (mplace, .inl (cyI, 1002, .inl m_place)), (mvalue, .inl (cyJ, 1002, .inr (.inl m_value))), (mwords, .inl (cyJ, 23, .inr (.inl m_words)))]) (pc2 := 4) (lv2 := [(0, .ref m0)]) (st2 := [.int (u_1.2.1 0)]) rfl rfl rfl rfl ?_
  obtain ⟨hw_2_0, hw_2_1, hw_2_2⟩ := hw_2
  refine j_if_ne (pc := 4) (tgt := 15) C dX11_newName_4 (by decide) (fun c_3 => ?_) (fun c_3 => ?_)
  · skip
    have el_0 : (0 : Int32).toInt = 0 := rfl
    rw [i_eq] at c_3
    have k0c_3 : ((u_1.2.1 0)).toInt = 1 := by omega
    refine j_aload_n (pc := 15) C dX11_newName_15 rfl 0 rfl ?_
    refine j_aload_n (pc := 16) C dX11_newName_16 rfl 0 rfl ?_
    refine j_get (pc := 17) (ci := 11) (v := .ref mvalue) C inw_11 2 rfl rfl 6 (by decide) wd_645 rfl rfl dX11_newName_17 ?_
    refine j_aload_n (pc := 20) C dX11_newName_20 rfl 0 rfl ?_
    refine j_get (pc := 21) (ci := 11) (v := .int m_at) C inw_11 2 rfl rfl 7 (by decide) wd_637 rfl rfl dX11_newName_21 ?_
    obtain ⟨v_4, ev_4⟩ : ∃ z, m_value (m_at).toInt.toNat = z := ⟨_, rfl⟩
    refine j_lald (pc := 24) (v := v_4) (k := (m_at).toInt.toNat) C 5 2 rfl rfl (i_nn h_m_at.1) rfl (i_lt_n h_m_at.1 (Int.lt_of_le_of_lt h_m_at.2 (by decide))) ev_4 dX11_newName_24 ?_
    refine j_callV (pc := 25) (As := [.long v_4]) (rest := []) (wr := [(msort, .inl (cyI, 1002, .inl m_sort)), (mplace, .inl (cyI, 1002, .inl m_place)), (mvalue, .inl (cyJ, 1002, .inr (.inl m_value))), (mwords, .inl (cyJ, 23, .inr (.inl m_words)))]) C (c_X11_nameOf l D cyC cyI cyJ cyZ cyO m0 mtold mnames mtape msort mplace mvalue mwords mop marg mhasHabit mfactWords mfacts mpile mstates misMarked mrow mthr mmays mtall mweights mrowOfWare mneededOf mtried mbestRow mdigits m_thrown m_taped m_size m_at m_fault m_codes m_isNew m_inShelf m_inStack m_inPlace m_rowMany m_goShelf m_goStack m_goLeft m_bestCost m_bestMany m_bestShelf m_bestSet v_4 m_told m_names S h_m_taped h_m_size h_m_at h_m_fault h_m_codes h_m_isNew h_m_inShelf h_m_inStack h_m_inPlace h_m_rowMany h_m_goShelf h_m_bestMany h_m_bestShelf h_m_told hMN) wd_675 wd_624 wd_676 wd_677 wd_678 ⟨by decide, by decide, rfl⟩ rfl ⟨rfl, rfl, by decide, by decide⟩ ⟨by decide, by decide⟩ [2, 0, 1] [3, 4, 5, 6] rfl rfl ⟨by decide, by decide, by decide⟩ 2 rfl rfl rfl (Nat.le_of_ble_eq_true rfl) dX11_newName_25 (fun u_5 hw_6 => ?_)
    refine j_eq (ws2 := [(msort, .inl (cyI, 1002, .inl m_sort)), (mplace, .inl (cyI, 1002, .inl m_place)), (mvalue, .inl (cyJ, 1002, .inr (.inl m_value))), (mwords, .inl (cyJ, 23, .inr (.inl m_words))), (m0, .inr (11, [.int m_thrown, .ref mtape, .int m_taped, .int m_size, .ref msort, .ref mplace, .ref mvalue, .int m_at, .int m_fault, .ref mwords, .ref mtold, .ref mop, .ref marg, .int m_codes, .ref mnames, .ref mhasHabit, .int m_isNew, .ref mfactWords, .ref mfacts, .ref mpile, .ref mstates, .ref misMarked, .int m_inShelf, .int m_inStack, .int m_inPlace, .ref mrow, .int m_rowMany, .ref mthr, .ref mmays, .ref mtall, .ref mweights, .ref mrowOfWare, .ref mneededOf, .int m_goShelf, .int m_goStack, .int m_goLeft, .ref mtried, .ref mbestRow, .int m_bestCost, .int m_bestMany, .int m_bestShelf, .int m_bestSet, .ref mdigits])), (mtold, .inl (cyI, 240, .inl m_told)), (mnames, .inl (cyJ, 16, .inr (.inl m_names)))]) (pc2 := 28) (lv2 := [(0, .ref m0)]) (st2 := [.int (u_5.2.1 0)]) rfl rfl rfl rfl ?_
    obtain ⟨hw_6_0, hw_6_1⟩ := hw_6
    refine j_if_lt (pc := 28) (tgt := 36) C dX11_newName_28 (by decide) (fun c_7 => ?_) (fun c_7 => ?_)
    · skip
      have el_0 : (0 : Int32).toInt = 0 := rfl
      rw [i_lt] at c_7
      have k0c_7 : ((u_5.2.1 0)).toInt = -1 := by omega
      refine j_aload_n (pc := 36) C dX11_newName_36 rfl 0 rfl ?_
      refine j_get (pc := 37) (ci := 11) (v := .int m_fault) C inw_11 4 rfl rfl 8 (by decide) wd_638 rfl rfl dX11_newName_37 ?_
      refine j_if_le (pc := 40) (tgt := 45) C dX11_newName_40 (by decide) (fun c_8 => ?_) (fun c_8 => ?_)
      · skip
        have el_0 : (0 : Int32).toInt = 0 := rfl
        rw [i_le] at c_8
        have k0c_8 : m_fault.toInt = 0 := by omega
        refine j_aload_n (pc := 45) C dX11_newName_45 rfl 0 rfl ?_
        refine j_dup (pc := 46) C dX11_newName_46 rfl ?_
        refine j_get (pc := 47) (ci := 11) (v := .int m_at) C inw_11 4 rfl rfl 7 (by decide) wd_637 rfl rfl dX11_newName_47 ?_
        refine j_iconst (pc := 50) (v := 1) C dX11_newName_50 (by decide) ?_
        obtain ⟨v_9, ev_9⟩ : ∃ z : Int32, m_at + 1 = z := ⟨_, rfl⟩
        have el_1 : (1 : Int32).toInt = 1 := rfl
        have hv_9 : v_9.toInt = m_at.toInt + (1 : Int32).toInt := by rw [← ev_9]; exact fb_addI (by omega) (by omega)
        refine j_iadd (pc := 51) (v := v_9) C dX11_newName_51 ev_9 ?_
        refine j_put (pc := 52) (ci := 11) (v := .int v_9) (ws' := [(msort, .inl (cyI, 1002, .inl m_sort)), (mplace, .inl (cyI, 1002, .inl m_place)), (mvalue, .inl (cyJ, 1002, .inr (.inl m_value))), (mwords, .inl (cyJ, 23, .inr (.inl m_words))), (m0, .inr (11, [.int m_thrown, .ref mtape, .int m_taped, .int m_size, .ref msort, .ref mplace, .ref mvalue, .int v_9, .int m_fault, .ref mwords, .ref mtold, .ref mop, .ref marg, .int m_codes, .ref mnames, .ref mhasHabit, .int m_isNew, .ref mfactWords, .ref mfacts, .ref mpile, .ref mstates, .ref misMarked, .int m_inShelf, .int m_inStack, .int m_inPlace, .ref mrow, .int m_rowMany, .ref mthr, .ref mmays, .ref mtall, .ref mweights, .ref mrowOfWare, .ref mneededOf, .int m_goShelf, .int m_goStack, .int m_goLeft, .ref mtried, .ref mbestRow, .int m_bestCost, .int m_bestMany, .int m_bestShelf, .int m_bestSet, .ref mdigits])), (mtold, .inl (cyI, 240, .inl m_told)), (mnames, .inl (cyJ, 16, .inr (.inl m_names)))]) C inw_11 4 rfl rfl 7 (by decide) wd_637 rfl tyX11_ok nmX11 rfl (tyX11_ok 7 (by decide)) rfl rfl (Nat.le_of_ble_eq_true rfl) dX11_newName_52 rfl ?_
        refine j_aload_n (pc := 55) C dX11_newName_55 rfl 0 rfl ?_
        refine j_get (pc := 56) (ci := 11) (v := .ref mvalue) C inw_11 4 rfl rfl 6 (by decide) wd_645 rfl rfl dX11_newName_56 ?_
        refine j_aload_n (pc := 59) C dX11_newName_59 rfl 0 rfl ?_
        refine j_get (pc := 60) (ci := 11) (v := .int v_9) C inw_11 4 rfl rfl 7 (by decide) wd_637 rfl rfl dX11_newName_60 ?_
        refine j_iconst (pc := 63) (v := 1) C dX11_newName_63 (by decide) ?_
        obtain ⟨v_10, ev_10⟩ : ∃ z : Int32, v_9 - 1 = z := ⟨_, rfl⟩
        have el_1 : (1 : Int32).toInt = 1 := rfl
        have hv_10 : v_10.toInt = v_9.toInt - (1 : Int32).toInt := by rw [← ev_10]; exact fb_subI (by omega) (by omega)
        refine j_isub (pc := 64) (v := v_10) C dX11_newName_64 ev_10 ?_
        refine j_lald (pc := 65) (v := v_4) (k := (v_10).toInt.toNat) C 2 2 rfl rfl (i_nn (by omega)) rfl (i_lt_n (by omega) (by omega)) (by rw [show (v_10).toInt.toNat = (m_at).toInt.toNat from (by omega)]; exact ev_4) dX11_newName_65 ?_
        exact j_lret (pc := 66) C hr hk (fun i => [].getD i 0, fun i => [v_9, m_fault].getD i 0, fun i => [].getD i (fun _ => 0), fun i => [(fun _ => v_4)].getD i (fun _ => 0)) rfl (show (0 ≤ (v_9).toInt ∧ (v_9).toInt ≤ 1000) ∧ (0 ≤ (m_fault).toInt ∧ (m_fault).toInt ≤ 16005) ∧ ((m_at).toInt ≤ (v_9).toInt) ∧ ((v_9).toInt ≤ ((eN m_sort : Nat) : Int)) ∧ ((m_fault).toInt ≤ (m_fault).toInt) ∧ (RP m_place (m_fault).toInt (m_at).toInt (m_fault).toInt (v_9).toInt (rNew T S)) ∧ (IM ((m_fault).toInt = 0) (v_4 = (T (m_place (m_at).toInt.toNat).toInt.toNat).2.1)) from ⟨by omega, h_m_fault, by omega, by omega, by omega, (RP.go hRT (by omega) (by omega) (by omega) (by omega) (fun z => by have z8 := hRT (m_at).toInt.toNat (by omega); have z7 := z8.1; have z6 : (T (m_place (m_at).toInt.toNat).toInt.toNat).2.1 = v_4 := (by have y9 := isNm_iff.mp (show isNm T (m_place (m_at).toInt.toNat).toInt.toNat = true from (nE_1 (fa := (m_fault).toInt) (by omega)).2); rw [← z8.2.1 (by omega), ev_4]); unfold rNew; rw [if_pos (show isNm T (m_place (m_at).toInt.toNat).toInt.toNat = true from (nE_1 (fa := (m_fault).toInt) (by omega)).2), if_neg (fun y => by have y2 := nmOf_new.mp y; rw [z6] at y2; omega)])), (fun _ => by have z8 := hRT (m_at).toInt.toNat (by omega); have z7 := z8.1; have y9 := isNm_iff.mp (show isNm T (m_place (m_at).toInt.toNat).toInt.toNat = true from (nE_1 (fa := (m_fault).toInt) (by omega)).2); have z6 : (T (m_place (m_at).toInt.toNat).toInt.toNat).2.1 = v_4 := (by rw [← z8.2.1 (by omega), ev_4]); exact z6.symm)⟩) [4, 0, 1, 2, 3, 5, 6] (by decide) rfl (by decide) (by decide) dX11_newName_66
      · skip
        have el_0 : (0 : Int32).toInt = 0 := rfl
        rw [i_le] at c_8
        refine j_lconst (pc := 43) (v := 0) C dX11_newName_43 rfl ?_
        exact j_lret (pc := 44) C hr hk (fun i => [].getD i 0, fun i => [m_at, m_fault].getD i 0, fun i => [].getD i (fun _ => 0), fun i => [(fun _ => 0)].getD i (fun _ => 0)) rfl (show (0 ≤ (m_at).toInt ∧ (m_at).toInt ≤ 1000) ∧ (0 ≤ (m_fault).toInt ∧ (m_fault).toInt ≤ 16005) ∧ ((m_at).toInt ≤ (m_at).toInt) ∧ ((m_at).toInt ≤ ((eN m_sort : Nat) : Int)) ∧ ((m_fault).toInt ≤ (m_fault).toInt) ∧ (RP m_place (m_fault).toInt (m_at).toInt (m_fault).toInt (m_at).toInt (rNew T S)) ∧ (IM ((m_fault).toInt = 0) (0 = (T (m_place (m_at).toInt.toNat).toInt.toNat).2.1)) from ⟨h_m_at, h_m_fault, by omega, by omega, by omega, (by exfalso; omega), (fun h => absurd h (by omega))⟩) [4, 0, 1, 2, 3, 5, 6] (by decide) rfl (by decide) (by decide) dX11_newName_44
    · skip
      have el_0 : (0 : Int32).toInt = 0 := rfl
      rw [i_lt] at c_7
      refine j_aload_n (pc := 31) C dX11_newName_31 rfl 0 rfl ?_
      refine j_iconst (pc := 32) (v := 3) C dX11_newName_32 (by decide) ?_
      refine j_callV (pc := 33) (As := [.int 3]) (rest := []) (wr := [(msort, .inl (cyI, 1002, .inl m_sort)), (mvalue, .inl (cyJ, 1002, .inr (.inl m_value))), (mwords, .inl (cyJ, 23, .inr (.inl m_words))), (mtold, .inl (cyI, 240, .inl m_told)), (mnames, .inl (cyJ, 16, .inr (.inl m_names)))]) C (c_X11_wrong l D cyC cyI cyJ cyZ cyO m0 mplace mtape msort mvalue mwords mtold mop marg mnames mhasHabit mfactWords mfacts mpile mstates misMarked mrow mthr mmays mtall mweights mrowOfWare mneededOf mtried mbestRow mdigits 3 m_thrown m_taped m_size m_at m_fault m_codes m_isNew m_inShelf m_inStack m_inPlace m_rowMany m_goShelf m_goStack m_goLeft m_bestCost m_bestMany m_bestShelf m_bestSet m_place h_m_taped h_m_size h_m_at h_m_fault h_m_codes h_m_isNew h_m_inShelf h_m_inStack h_m_inPlace h_m_rowMany h_m_goShelf h_m_bestMany h_m_bestShelf (by decide) h_m_place) wd_657 wd_624 wd_658 wd_659 wd_660 ⟨by decide, by decide, rfl⟩ rfl ⟨rfl, rfl, by decide, by decide⟩ ⟨by decide, by decide⟩ [4, 1] [0, 2, 3, 5, 6] rfl rfl ⟨by decide, by decide, by decide⟩ 4 rfl rfl rfl (Nat.le_of_ble_eq_true rfl) dX11_newName_33 (fun u_11 hw_12 => ?_)
      refine j_eq (ws2 := [(msort, .inl (cyI, 1002, .inl m_sort)), (mvalue, .inl (cyJ, 1002, .inr (.inl m_value))), (mwords, .inl (cyJ, 23, .inr (.inl m_words))), (mtold, .inl (cyI, 240, .inl m_told)), (mnames, .inl (cyJ, 16, .inr (.inl m_names))), (m0, .inr (11, [.int m_thrown, .ref mtape, .int m_taped, .int m_size, .ref msort, .ref mplace, .ref mvalue, .int m_at, .int (u_11.2.1 0), .ref mwords, .ref mtold, .ref mop, .ref marg, .int m_codes, .ref mnames, .ref mhasHabit, .int m_isNew, .ref mfactWords, .ref mfacts, .ref mpile, .ref mstates, .ref misMarked, .int m_inShelf, .int m_inStack, .int m_inPlace, .ref mrow, .int m_rowMany, .ref mthr, .ref mmays, .ref mtall, .ref mweights, .ref mrowOfWare, .ref mneededOf, .int m_goShelf, .int m_goStack, .int m_goLeft, .ref mtried, .ref mbestRow, .int m_bestCost, .int m_bestMany, .int m_bestShelf, .int m_bestSet, .ref mdigits])), (mplace, .inl (cyI, 1002, .inl m_place))]) (pc2 := 36) (lv2 := [(0, .ref m0)]) (st2 := []) rfl rfl rfl rfl ?_
      obtain ⟨hw_12_0, hw_12_1, hw_12_2, hw_12_3⟩ := hw_12
      refine j_aload_n (pc := 36) C dX11_newName_36 rfl 0 rfl ?_
      refine j_get (pc := 37) (ci := 11) (v := .int (u_11.2.1 0)) C inw_11 5 rfl rfl 8 (by decide) wd_638 rfl rfl dX11_newName_37 ?_
      have el_0 : (0 : Int32).toInt = 0 := rfl
      refine j_if_le_f (pc := 40) (tgt := 45) C dX11_newName_40 (by decide) (by rw [i_le]; omega) ?_
      refine j_lconst (pc := 43) (v := 0) C dX11_newName_43 rfl ?_
      have el_3 : (3 : Int32).toInt = 3 := rfl
      exact j_lret (pc := 44) C hr hk (fun i => [].getD i 0, fun i => [m_at, (u_11.2.1 0)].getD i 0, fun i => [].getD i (fun _ => 0), fun i => [(fun _ => 0)].getD i (fun _ => 0)) rfl (show (0 ≤ (m_at).toInt ∧ (m_at).toInt ≤ 1000) ∧ (0 ≤ ((u_11.2.1 0)).toInt ∧ ((u_11.2.1 0)).toInt ≤ 16005) ∧ ((m_at).toInt ≤ (m_at).toInt) ∧ ((m_at).toInt ≤ ((eN m_sort : Nat) : Int)) ∧ ((m_fault).toInt ≤ ((u_11.2.1 0)).toInt) ∧ (RP m_place (m_fault).toInt (m_at).toInt ((u_11.2.1 0)).toInt (m_at).toInt (rNew T S)) ∧ (IM (((u_11.2.1 0)).toInt = 0) (0 = (T (m_place (m_at).toInt.toNat).toInt.toNat).2.1)) from ⟨h_m_at, by omega, by omega, by omega, by omega, (RP.wr 3 (fun z => by have z9 := hw_12_2 z; omega) (fun z => by have z9 := hw_12_3 z; omega) (h_m_place (m_at).toInt.toNat (by omega)).1 (by decide) (fun z => by have z8 := hRT (m_at).toInt.toNat (by omega); have z7 := z8.1; have z6 : (T (m_place (m_at).toInt.toNat).toInt.toNat).2.1 = v_4 := (by have y9 := isNm_iff.mp (show isNm T (m_place (m_at).toInt.toNat).toInt.toNat = true from (nE_1 (fa := (m_fault).toInt) (by omega)).2); rw [← z8.2.1 (by omega), ev_4]); unfold rNew; rw [if_pos (show isNm T (m_place (m_at).toInt.toNat).toInt.toNat = true from (nE_1 (fa := (m_fault).toInt) (by omega)).2), if_pos (nmOf_new.mpr (by rw [z6]; omega))])), (fun h => absurd h (by omega))⟩) [5, 0, 6, 1, 2, 3, 4] (by decide) rfl (by decide) (by decide) dX11_newName_44
  · skip
    have el_0 : (0 : Int32).toInt = 0 := rfl
    rw [i_eq] at c_3
    refine j_aload_n (pc := 7) C dX11_newName_7 rfl 0 rfl ?_
    refine j_iconst (pc := 8) (v := 1) C dX11_newName_8 (by decide) ?_
    refine j_callV (pc := 9) (As := [.int 1]) (rest := []) (wr := [(mtold, .inl (cyI, 240, .inl m_told)), (mnames, .inl (cyJ, 16, .inr (.inl m_names))), (msort, .inl (cyI, 1002, .inl m_sort)), (mvalue, .inl (cyJ, 1002, .inr (.inl m_value))), (mwords, .inl (cyJ, 23, .inr (.inl m_words)))]) C (c_X11_wrong l D cyC cyI cyJ cyZ cyO m0 mplace mtape msort mvalue mwords mtold mop marg mnames mhasHabit mfactWords mfacts mpile mstates misMarked mrow mthr mmays mtall mweights mrowOfWare mneededOf mtried mbestRow mdigits 1 m_thrown m_taped m_size m_at m_fault m_codes m_isNew m_inShelf m_inStack m_inPlace m_rowMany m_goShelf m_goStack m_goLeft m_bestCost m_bestMany m_bestShelf m_bestSet m_place h_m_taped h_m_size h_m_at h_m_fault h_m_codes h_m_isNew h_m_inShelf h_m_inStack h_m_inPlace h_m_rowMany h_m_goShelf h_m_bestMany h_m_bestShelf (by decide) h_m_place) wd_657 wd_624 wd_658 wd_659 wd_660 ⟨by decide, by decide, rfl⟩ rfl ⟨rfl, rfl, by decide, by decide⟩ ⟨by decide, by decide⟩ [2, 4] [0, 1, 3, 5, 6] rfl rfl ⟨by decide, by decide, by decide⟩ 2 rfl rfl rfl (Nat.le_of_ble_eq_true rfl) dX11_newName_9 (fun u_13 hw_14 => ?_)
    refine j_eq (ws2 := [(mtold, .inl (cyI, 240, .inl m_told)), (mnames, .inl (cyJ, 16, .inr (.inl m_names))), (msort, .inl (cyI, 1002, .inl m_sort)), (mvalue, .inl (cyJ, 1002, .inr (.inl m_value))), (mwords, .inl (cyJ, 23, .inr (.inl m_words))), (m0, .inr (11, [.int m_thrown, .ref mtape, .int m_taped, .int m_size, .ref msort, .ref mplace, .ref mvalue, .int m_at, .int (u_13.2.1 0), .ref mwords, .ref mtold, .ref mop, .ref marg, .int m_codes, .ref mnames, .ref mhasHabit, .int m_isNew, .ref mfactWords, .ref mfacts, .ref mpile, .ref mstates, .ref misMarked, .int m_inShelf, .int m_inStack, .int m_inPlace, .ref mrow, .int m_rowMany, .ref mthr, .ref mmays, .ref mtall, .ref mweights, .ref mrowOfWare, .ref mneededOf, .int m_goShelf, .int m_goStack, .int m_goLeft, .ref mtried, .ref mbestRow, .int m_bestCost, .int m_bestMany, .int m_bestShelf, .int m_bestSet, .ref mdigits])), (mplace, .inl (cyI, 1002, .inl m_place))]) (pc2 := 12) (lv2 := [(0, .ref m0)]) (st2 := []) rfl rfl rfl rfl ?_
    obtain ⟨hw_14_0, hw_14_1, hw_14_2, hw_14_3⟩ := hw_14
    refine j_goto (pc := 12) (tgt := 36) C dX11_newName_12 (by decide) ?_
    refine j_aload_n (pc := 36) C dX11_newName_36 rfl 0 rfl ?_
    refine j_get (pc := 37) (ci := 11) (v := .int (u_13.2.1 0)) C inw_11 5 rfl rfl 8 (by decide) wd_638 rfl rfl dX11_newName_37 ?_
    have el_0 : (0 : Int32).toInt = 0 := rfl
    refine j_if_le_f (pc := 40) (tgt := 45) C dX11_newName_40 (by decide) (by rw [i_le]; omega) ?_
    refine j_lconst (pc := 43) (v := 0) C dX11_newName_43 rfl ?_
    have el_1 : (1 : Int32).toInt = 1 := rfl
    exact j_lret (pc := 44) C hr hk (fun i => [].getD i 0, fun i => [m_at, (u_13.2.1 0)].getD i 0, fun i => [].getD i (fun _ => 0), fun i => [(fun _ => 0)].getD i (fun _ => 0)) rfl (show (0 ≤ (m_at).toInt ∧ (m_at).toInt ≤ 1000) ∧ (0 ≤ ((u_13.2.1 0)).toInt ∧ ((u_13.2.1 0)).toInt ≤ 16005) ∧ ((m_at).toInt ≤ (m_at).toInt) ∧ ((m_at).toInt ≤ ((eN m_sort : Nat) : Int)) ∧ ((m_fault).toInt ≤ ((u_13.2.1 0)).toInt) ∧ (RP m_place (m_fault).toInt (m_at).toInt ((u_13.2.1 0)).toInt (m_at).toInt (rNew T S)) ∧ (IM (((u_13.2.1 0)).toInt = 0) (0 = (T (m_place (m_at).toInt.toNat).toInt.toNat).2.1)) from ⟨h_m_at, by omega, by omega, by omega, by omega, (RP.wr 1 (fun z => by have z9 := hw_14_2 z; omega) (fun z => by have z9 := hw_14_3 z; omega) (h_m_place (m_at).toInt.toNat (by omega)).1 (by decide) (fun z => by unfold rNew; rw [if_neg (nE_0 (by omega) z)])), (fun h => absurd h (by omega))⟩) [5, 2, 6, 3, 4, 0, 1] (by decide) rfl (by decide) (by decide) dX11_newName_44
set_option maxHeartbeats 4000000 in
set_option maxRecDepth 100000 in
theorem c_X11_takeAfter (l : Launch) (D : DG) (cyC cyI cyJ cyZ cyO : ClassId) (m0 : Nat) (msort : Nat) (mplace : Nat) (mvalue : Nat) (mwords : Nat) (mtape : Nat) (mtold : Nat) (mop : Nat) (marg : Nat) (mnames : Nat) (mhasHabit : Nat) (mfactWords : Nat) (mfacts : Nat) (mpile : Nat) (mstates : Nat) (misMarked : Nat) (mrow : Nat) (mthr : Nat) (mmays : Nat) (mtall : Nat) (mweights : Nat) (mrowOfWare : Nat) (mneededOf : Nat) (mtried : Nat) (mbestRow : Nat) (mdigits : Nat) (p2 : Int32) (p0 : Int32) (p1 : Int32) (m_thrown : Int32) (m_taped : Int32) (m_size : Int32) (m_at : Int32) (m_fault : Int32) (m_codes : Int32) (m_isNew : Int32) (m_inShelf : Int32) (m_inStack : Int32) (m_inPlace : Int32) (m_rowMany : Int32) (m_goShelf : Int32) (m_goStack : Int32) (m_goLeft : Int32) (m_bestCost : Int32) (m_bestMany : Int32) (m_bestShelf : Int32) (m_bestSet : Int32) (m_sort : Nat → Int32) (m_place : Nat → Int32) (m_value : Nat → Int64) (m_words : Nat → Int64) (T : Nat → Int × Int64 × Nat) (h_m_taped : 0 ≤ (m_taped).toInt ∧ (m_taped).toInt ≤ 1000) (h_m_size : 0 ≤ (m_size).toInt ∧ (m_size).toInt ≤ 1000) (h_m_at : 0 ≤ (m_at).toInt ∧ (m_at).toInt ≤ 1000) (h_m_fault : 0 ≤ (m_fault).toInt ∧ (m_fault).toInt ≤ 16005) (h_m_codes : 0 ≤ (m_codes).toInt ∧ (m_codes).toInt ≤ 1000) (h_m_isNew : 0 ≤ (m_isNew).toInt ∧ (m_isNew).toInt ≤ 1) (h_m_inShelf : 0 ≤ (m_inShelf).toInt ∧ (m_inShelf).toInt ≤ 3) (h_m_inStack : 0 ≤ (m_inStack).toInt ∧ (m_inStack).toInt ≤ 7) (h_m_inPlace : 0 ≤ (m_inPlace).toInt ∧ (m_inPlace).toInt ≤ 11) (h_m_rowMany : 0 ≤ (m_rowMany).toInt ∧ (m_rowMany).toInt ≤ 12) (h_m_goShelf : -1 ≤ (m_goShelf).toInt ∧ (m_goShelf).toInt ≤ 3) (h_m_bestMany : 0 ≤ (m_bestMany).toInt ∧ (m_bestMany).toInt ≤ 7) (h_m_bestShelf : 0 ≤ (m_bestShelf).toInt ∧ (m_bestShelf).toInt ≤ 3) (h_p0 : 0 ≤ (p0).toInt ∧ (p0).toInt ≤ 999) (h_p1 : 0 ≤ (p1).toInt ∧ (p1).toInt ≤ 999) (h_p2 : 0 ≤ (p2).toInt ∧ (p2).toInt ≤ 22) (h_m_place : Iv 1002 (0) (1000) m_place) (hN1 : eN m_sort ≤ 1000) (hN2 : (m_at).toInt ≤ ((eN m_sort : Nat) : Int)) (hRT : RWS m_sort m_place m_value T) (hWO : WRD m_words) : KK l D (TY cyC cyI cyJ cyZ cyO) yX11_takeAfter cX11_takeAfter 4 (some .int) ({ frames := 3, cells := 0, slots := 0, locals := 64 } : Room) 0 0 [.ref m0, .int p2, .int p0, .int p1] [(m0, .inr (11, [.int m_thrown, .ref mtape, .int m_taped, .int m_size, .ref msort, .ref mplace, .ref mvalue, .int m_at, .int m_fault, .ref mwords, .ref mtold, .ref mop, .ref marg, .int m_codes, .ref mnames, .ref mhasHabit, .int m_isNew, .ref mfactWords, .ref mfacts, .ref mpile, .ref mstates, .ref misMarked, .int m_inShelf, .int m_inStack, .int m_inPlace, .ref mrow, .int m_rowMany, .ref mthr, .ref mmays, .ref mtall, .ref mweights, .ref mrowOfWare, .ref mneededOf, .int m_goShelf, .int m_goStack, .int m_goLeft, .ref mtried, .ref mbestRow, .int m_bestCost, .int m_bestMany, .int m_bestShelf, .int m_bestSet, .ref mdigits])), (msort, .inl (cyI, 1002, .inl m_sort)), (mplace, .inl (cyI, 1002, .inl m_place)), (mvalue, .inl (cyJ, 1002, .inr (.inl m_value))), (mwords, .inl (cyJ, 23, .inr (.inl m_words)))] (fun u => some (.int (u.2.1 0))) (fun u => (0 ≤ (u.2.1 1).toInt ∧ (u.2.1 1).toInt ≤ 1000) ∧ (0 ≤ (u.2.1 2).toInt ∧ (u.2.1 2).toInt ≤ 16005) ∧ ((m_at).toInt ≤ ((u.2.1 1)).toInt) ∧ (((u.2.1 1)).toInt ≤ ((eN m_sort : Nat) : Int)) ∧ ((m_fault).toInt ≤ ((u.2.1 2)).toInt) ∧ (0 ≤ (u.2.1 0).toInt) ∧ ((u.2.1 0).toInt ≤ (p1).toInt) ∧ (IM (((u.2.1 2)).toInt = 0) ((u.2.1 0).toInt = nb T (nx T (m_place (m_at).toInt.toNat).toInt.toNat))) ∧ (RP m_place (m_fault).toInt (m_at).toInt ((u.2.1 2)).toInt ((u.2.1 1)).toInt (rAmt T (WN (p2).toInt.toNat) (p0).toInt (p1).toInt))) (fun u => [(m0, .inr (11, [.int m_thrown, .ref mtape, .int m_taped, .int m_size, .ref msort, .ref mplace, .ref mvalue, .int (u.2.1 1), .int (u.2.1 2), .ref mwords, .ref mtold, .ref mop, .ref marg, .int m_codes, .ref mnames, .ref mhasHabit, .int m_isNew, .ref mfactWords, .ref mfacts, .ref mpile, .ref mstates, .ref misMarked, .int m_inShelf, .int m_inStack, .int m_inPlace, .ref mrow, .int m_rowMany, .ref mthr, .ref mmays, .ref mtall, .ref mweights, .ref mrowOfWare, .ref mneededOf, .int m_goShelf, .int m_goStack, .int m_goLeft, .ref mtried, .ref mbestRow, .int m_bestCost, .int m_bestMany, .int m_bestShelf, .int m_bestSet, .ref mdigits])), (msort, .inl (cyI, 1002, .inl m_sort)), (mplace, .inl (cyI, 1002, .inl m_place)), (mvalue, .inl (cyJ, 1002, .inr (.inl m_value))), (mwords, .inl (cyJ, 23, .inr (.inl m_words)))]) := by
  refine KK.of (lv0 := [(0, .ref m0), (1, .int p2), (2, .int p0), (3, .int p1)]) (by decide) rfl (Nat.le_of_ble_eq_true rfl) ?_
  intro p e s m args below meth c A C hr hk hin
  refine j_aload_n (pc := 0) C dX11_takeAfter_0 rfl 0 rfl ?_
  refine j_iload_n (pc := 1) C dX11_takeAfter_1 rfl 1 rfl ?_
  refine j_callV (pc := 2) (As := [.int p2]) (rest := []) (wr := []) C (c_X11_takeWord l D cyC cyI cyJ cyZ cyO m0 msort mplace mvalue mwords mtape mtold mop marg mnames mhasHabit mfactWords mfacts mpile mstates misMarked mrow mthr mmays mtall mweights mrowOfWare mneededOf mtried mbestRow mdigits p2 m_thrown m_taped m_size m_at m_fault m_codes m_isNew m_inShelf m_inStack m_inPlace m_rowMany m_goShelf m_goStack m_goLeft m_bestCost m_bestMany m_bestShelf m_bestSet m_sort m_place m_value m_words T h_m_taped h_m_size h_m_at h_m_fault h_m_codes h_m_isNew h_m_inShelf h_m_inStack h_m_inPlace h_m_rowMany h_m_goShelf h_m_bestMany h_m_bestShelf h_p2 h_m_place hN1 hN2 hRT hWO) wd_679 wd_624 wd_680 wd_681 wd_682 ⟨by decide, by decide, rfl⟩ rfl ⟨rfl, rfl, by decide, by decide⟩ ⟨by decide, by decide⟩ [0, 1, 2, 3, 4] [] rfl rfl ⟨by decide, by decide, by decide⟩ 0 rfl rfl rfl (Nat.le_of_ble_eq_true rfl) dX11_takeAfter_2 (fun u_1 hw_2 => ?_)
  refine j_eq (ws2 := [(m0, .inr (11, [.int m_thrown, .ref mtape, .int m_taped, .int m_size, .ref msort, .ref mplace, .ref mvalue, .int (u_1.2.1 0), .int (u_1.2.1 1), .ref mwords, .ref mtold, .ref mop, .ref marg, .int m_codes, .ref mnames, .ref mhasHabit, .int m_isNew, .ref mfactWords, .ref mfacts, .ref mpile, .ref mstates, .ref misMarked, .int m_inShelf, .int m_inStack, .int m_inPlace, .ref mrow, .int m_rowMany, .ref mthr, .ref mmays, .ref mtall, .ref mweights, .ref mrowOfWare, .ref mneededOf, .int m_goShelf, .int m_goStack, .int m_goLeft, .ref mtried, .ref mbestRow, .int m_bestCost, .int m_bestMany, .int m_bestShelf, .int m_bestSet, .ref mdigits])), (msort, .inl (cyI, 1002, .inl m_sort)), (mplace, .inl (cyI, 1002, .inl m_place)), (mvalue, .inl (cyJ, 1002, .inr (.inl m_value))), (mwords, .inl (cyJ, 23, .inr (.inl m_words)))]) (pc2 := 5) (lv2 := [(0, .ref m0), (1, .int p2), (2, .int p0), (3, .int p1)]) (st2 := []) rfl rfl rfl rfl ?_
  obtain ⟨hw_2_0, hw_2_1, hw_2_2, hw_2_3, hw_2_4, hw_2_5⟩ := hw_2
  refine j_aload_n (pc := 5) C dX11_takeAfter_5 rfl 0 rfl ?_
  refine j_iload_n (pc := 6) C dX11_takeAfter_6 rfl 2 rfl ?_
  refine j_iload_n (pc := 7) C dX11_takeAfter_7 rfl 3 rfl ?_
  refine j_callV (pc := 8) (As := [.int p0, .int p1]) (rest := []) (wr := []) C (c_X11_takeNumber l D cyC cyI cyJ cyZ cyO m0 msort mplace mvalue mwords mtape mtold mop marg mnames mhasHabit mfactWords mfacts mpile mstates misMarked mrow mthr mmays mtall mweights mrowOfWare mneededOf mtried mbestRow mdigits p0 p1 m_thrown m_taped m_size (u_1.2.1 0) (u_1.2.1 1) m_codes m_isNew m_inShelf m_inStack m_inPlace m_rowMany m_goShelf m_goStack m_goLeft m_bestCost m_bestMany m_bestShelf m_bestSet m_sort m_place m_value m_words T h_m_taped h_m_size hw_2_0 hw_2_1 h_m_codes h_m_isNew h_m_inShelf h_m_inStack h_m_inPlace h_m_rowMany h_m_goShelf h_m_bestMany h_m_bestShelf h_p0 h_p1 h_m_place hN1 (by omega) hRT hWO) wd_683 wd_624 wd_684 wd_685 wd_686 ⟨by decide, by decide, rfl⟩ rfl ⟨rfl, rfl, by decide, by decide⟩ ⟨by decide, by decide⟩ [0, 1, 2, 3, 4] [] rfl rfl ⟨by decide, by decide, by decide⟩ 0 rfl rfl rfl (Nat.le_of_ble_eq_true rfl) dX11_takeAfter_8 (fun u_3 hw_4 => ?_)
  refine j_eq (ws2 := [(m0, .inr (11, [.int m_thrown, .ref mtape, .int m_taped, .int m_size, .ref msort, .ref mplace, .ref mvalue, .int (u_3.2.1 1), .int (u_3.2.1 2), .ref mwords, .ref mtold, .ref mop, .ref marg, .int m_codes, .ref mnames, .ref mhasHabit, .int m_isNew, .ref mfactWords, .ref mfacts, .ref mpile, .ref mstates, .ref misMarked, .int m_inShelf, .int m_inStack, .int m_inPlace, .ref mrow, .int m_rowMany, .ref mthr, .ref mmays, .ref mtall, .ref mweights, .ref mrowOfWare, .ref mneededOf, .int m_goShelf, .int m_goStack, .int m_goLeft, .ref mtried, .ref mbestRow, .int m_bestCost, .int m_bestMany, .int m_bestShelf, .int m_bestSet, .ref mdigits])), (msort, .inl (cyI, 1002, .inl m_sort)), (mplace, .inl (cyI, 1002, .inl m_place)), (mvalue, .inl (cyJ, 1002, .inr (.inl m_value))), (mwords, .inl (cyJ, 23, .inr (.inl m_words)))]) (pc2 := 11) (lv2 := [(0, .ref m0), (1, .int p2), (2, .int p0), (3, .int p1)]) (st2 := [.int (u_3.2.1 0)]) rfl rfl rfl rfl ?_
  obtain ⟨hw_4_0, hw_4_1, hw_4_2, hw_4_3, hw_4_4, hw_4_5, hw_4_6, hw_4_7, hw_4_8⟩ := hw_4
  exact j_iret (pc := 11) C hr hk (fun i => [].getD i 0, fun i => [(u_3.2.1 0), (u_3.2.1 1), (u_3.2.1 2)].getD i 0, fun i => [].getD i (fun _ => 0), fun i => [].getD i (fun _ => 0)) rfl (show (0 ≤ ((u_3.2.1 1)).toInt ∧ ((u_3.2.1 1)).toInt ≤ 1000) ∧ (0 ≤ ((u_3.2.1 2)).toInt ∧ ((u_3.2.1 2)).toInt ≤ 16005) ∧ ((m_at).toInt ≤ ((u_3.2.1 1)).toInt) ∧ (((u_3.2.1 1)).toInt ≤ ((eN m_sort : Nat) : Int)) ∧ ((m_fault).toInt ≤ ((u_3.2.1 2)).toInt) ∧ (0 ≤ (u_3.2.1 0).toInt) ∧ ((u_3.2.1 0).toInt ≤ (p1).toInt) ∧ (IM (((u_3.2.1 2)).toInt = 0) ((u_3.2.1 0).toInt = nb T (nx T (m_place (m_at).toInt.toNat).toInt.toNat))) ∧ (RP m_place (m_fault).toInt (m_at).toInt ((u_3.2.1 2)).toInt ((u_3.2.1 1)).toInt (rAmt T (WN (p2).toInt.toNat) (p0).toInt (p1).toInt)) from ⟨hw_4_0, hw_4_1, by omega, by omega, by omega, by omega, by omega, (fun hz => by have y1 := rWrd_ok (RP.ok hw_2_5 (by omega) (by omega)); rw [← y1]; exact hw_4_7 hz), ((RP.bind hw_2_5 hw_4_8).mv (fun z => rAmt_b))⟩) [0, 1, 2, 3, 4] (by decide) rfl (by decide) (by decide) dX11_takeAfter_11
