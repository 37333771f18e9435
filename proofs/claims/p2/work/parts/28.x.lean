theorem wd_669 : Cond.fieldLink RX11 83 "BowlShelfModel" "told" "[I" ∈ WALL := wl_in (by decide +kernel) (by decide +kernel)
theorem wd_670 : Cond.fieldLink RX11 92 "BowlShelfModel" "names" "[J" ∈ WALL := wl_in (by decide +kernel) (by decide +kernel)
theorem wd_671 : Cond.code yX11_isName cX11_isName 3 (some .boolean) ∈ WALL := wl_in (by decide +kernel) (by decide +kernel)
theorem wd_672 : Cond.methodLink RX11 216 yX11_isName ∈ WALL := wl_in (by decide +kernel) (by decide +kernel)
theorem wd_673 : Cond.instanceMethod yX11_isName ∈ WALL := wl_in (by decide +kernel) (by decide +kernel)
theorem wd_674 : Cond.selects RX11 yX11_isName yX11_isName ∈ WALL := wl_in (by decide +kernel) (by decide +kernel)
theorem wd_675 : Cond.code yX11_nameOf cX11_nameOf 5 (some .int) ∈ WALL := wl_in (by decide +kernel) (by decide +kernel)
theorem wd_676 : Cond.methodLink RX11 220 yX11_nameOf ∈ WALL := wl_in (by decide +kernel) (by decide +kernel)
theorem wd_677 : Cond.instanceMethod yX11_nameOf ∈ WALL := wl_in (by decide +kernel) (by decide +kernel)
theorem wd_678 : Cond.selects RX11 yX11_nameOf yX11_nameOf ∈ WALL := wl_in (by decide +kernel) (by decide +kernel)
theorem wd_679 : Cond.code yX11_takeWord cX11_takeWord 2 none ∈ WALL := wl_in (by decide +kernel) (by decide +kernel)
theorem wd_680 : Cond.methodLink RX11 224 yX11_takeWord ∈ WALL := wl_in (by decide +kernel) (by decide +kernel)
theorem wd_681 : Cond.instanceMethod yX11_takeWord ∈ WALL := wl_in (by decide +kernel) (by decide +kernel)
theorem wd_682 : Cond.selects RX11 yX11_takeWord yX11_takeWord ∈ WALL := wl_in (by decide +kernel) (by decide +kernel)
theorem wd_683 : Cond.code yX11_takeNumber cX11_takeNumber 3 (some .int) ∈ WALL := wl_in (by decide +kernel) (by decide +kernel)
theorem wd_684 : Cond.methodLink RX11 227 yX11_takeNumber ∈ WALL := wl_in (by decide +kernel) (by decide +kernel)
theorem wd_685 : Cond.instanceMethod yX11_takeNumber ∈ WALL := wl_in (by decide +kernel) (by decide +kernel)
theorem wd_686 : Cond.selects RX11 yX11_takeNumber yX11_takeNumber ∈ WALL := wl_in (by decide +kernel) (by decide +kernel)
theorem wd_687 : Cond.code yX11_newName cX11_newName 1 (some .long) ∈ WALL := wl_in (by decide +kernel) (by decide +kernel)
theorem wd_688 : Cond.methodLink RX11 231 yX11_newName ∈ WALL := wl_in (by decide +kernel) (by decide +kernel)
theorem wd_689 : Cond.instanceMethod yX11_newName ∈ WALL := wl_in (by decide +kernel) (by decide +kernel)
theorem wd_690 : Cond.selects RX11 yX11_newName yX11_newName ∈ WALL := wl_in (by decide +kernel) (by decide +kernel)
theorem wd_691 : Cond.code yX11_takeAfter cX11_takeAfter 4 (some .int) ∈ WALL := wl_in (by decide +kernel) (by decide +kernel)
theorem wd_692 : Cond.methodLink RX11 235 yX11_takeAfter ∈ WALL := wl_in (by decide +kernel) (by decide +kernel)
theorem wd_693 : Cond.instanceMethod yX11_takeAfter ∈ WALL := wl_in (by decide +kernel) (by decide +kernel)
theorem wd_694 : Cond.selects RX11 yX11_takeAfter yX11_takeAfter ∈ WALL := wl_in (by decide +kernel) (by decide +kernel)
theorem wd_695 : Cond.fieldLink RX11 95 "BowlShelfModel" "hasHabit" "[Z" ∈ WALL := wl_in (by decide +kernel) (by decide +kernel)
theorem dX11_takeNumber_0 : decode cX11_takeNumber 0 = .ok (.aload_n 0, 1) := by decide +kernel
theorem dX11_takeNumber_1 : decode cX11_takeNumber 1 = .ok (.getfield 175, 3) := by decide +kernel
theorem dX11_takeNumber_4 : decode cX11_takeNumber 4 = .ok (.ifCond .ne 24, 3) := by decide +kernel
theorem dX11_takeNumber_7 : decode cX11_takeNumber 7 = .ok (.aload_n 0, 1) := by decide +kernel
theorem dX11_takeNumber_8 : decode cX11_takeNumber 8 = .ok (.getfield 24, 3) := by decide +kernel
theorem dX11_takeNumber_11 : decode cX11_takeNumber 11 = .ok (.aload_n 0, 1) := by decide +kernel
theorem dX11_takeNumber_12 : decode cX11_takeNumber 12 = .ok (.getfield 172, 3) := by decide +kernel
theorem dX11_takeNumber_15 : decode cX11_takeNumber 15 = .ok (.iaload, 1) := by decide +kernel
theorem dX11_takeNumber_16 : decode cX11_takeNumber 16 = .ok (.iconst 2, 1) := by decide +kernel
theorem dX11_takeNumber_17 : decode cX11_takeNumber 17 = .ok (.if_icmp .eq 11, 3) := by decide +kernel
theorem dX11_takeNumber_20 : decode cX11_takeNumber 20 = .ok (.aload_n 0, 1) := by decide +kernel
theorem dX11_takeNumber_21 : decode cX11_takeNumber 21 = .ok (.iconst 1, 1) := by decide +kernel
theorem dX11_takeNumber_22 : decode cX11_takeNumber 22 = .ok (.invokevirtual 181, 3) := by decide +kernel
theorem dX11_takeNumber_25 : decode cX11_takeNumber 25 = .ok (.goto 45, 3) := by decide +kernel
theorem dX11_takeNumber_28 : decode cX11_takeNumber 28 = .ok (.aload_n 0, 1) := by decide +kernel
theorem dX11_takeNumber_29 : decode cX11_takeNumber 29 = .ok (.getfield 175, 3) := by decide +kernel
theorem dX11_takeNumber_32 : decode cX11_takeNumber 32 = .ok (.ifCond .ne 38, 3) := by decide +kernel
theorem dX11_takeNumber_35 : decode cX11_takeNumber 35 = .ok (.aload_n 0, 1) := by decide +kernel
theorem dX11_takeNumber_36 : decode cX11_takeNumber 36 = .ok (.getfield 30, 3) := by decide +kernel
theorem dX11_takeNumber_39 : decode cX11_takeNumber 39 = .ok (.aload_n 0, 1) := by decide +kernel
theorem dX11_takeNumber_40 : decode cX11_takeNumber 40 = .ok (.getfield 172, 3) := by decide +kernel
theorem dX11_takeNumber_43 : decode cX11_takeNumber 43 = .ok (.laload, 1) := by decide +kernel
theorem dX11_takeNumber_44 : decode cX11_takeNumber 44 = .ok (.iload_n 1, 1) := by decide +kernel
theorem dX11_takeNumber_45 : decode cX11_takeNumber 45 = .ok (.i2l, 1) := by decide +kernel
theorem dX11_takeNumber_46 : decode cX11_takeNumber 46 = .ok (.lcmp, 1) := by decide +kernel
theorem dX11_takeNumber_47 : decode cX11_takeNumber 47 = .ok (.ifCond .lt 18, 3) := by decide +kernel
theorem dX11_takeNumber_50 : decode cX11_takeNumber 50 = .ok (.aload_n 0, 1) := by decide +kernel
theorem dX11_takeNumber_51 : decode cX11_takeNumber 51 = .ok (.getfield 30, 3) := by decide +kernel
theorem dX11_takeNumber_54 : decode cX11_takeNumber 54 = .ok (.aload_n 0, 1) := by decide +kernel
theorem dX11_takeNumber_55 : decode cX11_takeNumber 55 = .ok (.getfield 172, 3) := by decide +kernel
theorem dX11_takeNumber_58 : decode cX11_takeNumber 58 = .ok (.laload, 1) := by decide +kernel
theorem dX11_takeNumber_59 : decode cX11_takeNumber 59 = .ok (.iload_n 2, 1) := by decide +kernel
theorem dX11_takeNumber_60 : decode cX11_takeNumber 60 = .ok (.i2l, 1) := by decide +kernel
theorem dX11_takeNumber_61 : decode cX11_takeNumber 61 = .ok (.lcmp, 1) := by decide +kernel
theorem dX11_takeNumber_62 : decode cX11_takeNumber 62 = .ok (.ifCond .le 8, 3) := by decide +kernel
theorem dX11_takeNumber_65 : decode cX11_takeNumber 65 = .ok (.aload_n 0, 1) := by decide +kernel
theorem dX11_takeNumber_66 : decode cX11_takeNumber 66 = .ok (.iconst 4, 1) := by decide +kernel
theorem dX11_takeNumber_67 : decode cX11_takeNumber 67 = .ok (.invokevirtual 181, 3) := by decide +kernel
theorem dX11_takeNumber_70 : decode cX11_takeNumber 70 = .ok (.aload_n 0, 1) := by decide +kernel
theorem dX11_takeNumber_71 : decode cX11_takeNumber 71 = .ok (.getfield 175, 3) := by decide +kernel
theorem dX11_takeNumber_74 : decode cX11_takeNumber 74 = .ok (.ifCond .le 5, 3) := by decide +kernel
theorem dX11_takeNumber_77 : decode cX11_takeNumber 77 = .ok (.iconst 0, 1) := by decide +kernel
theorem dX11_takeNumber_78 : decode cX11_takeNumber 78 = .ok (.ireturn, 1) := by decide +kernel
theorem dX11_takeNumber_79 : decode cX11_takeNumber 79 = .ok (.aload_n 0, 1) := by decide +kernel
theorem dX11_takeNumber_80 : decode cX11_takeNumber 80 = .ok (.dup, 1) := by decide +kernel
theorem dX11_takeNumber_81 : decode cX11_takeNumber 81 = .ok (.getfield 172, 3) := by decide +kernel
theorem dX11_takeNumber_84 : decode cX11_takeNumber 84 = .ok (.iconst 1, 1) := by decide +kernel
theorem dX11_takeNumber_85 : decode cX11_takeNumber 85 = .ok (.iadd, 1) := by decide +kernel
theorem dX11_takeNumber_86 : decode cX11_takeNumber 86 = .ok (.putfield 172, 3) := by decide +kernel
theorem dX11_takeNumber_89 : decode cX11_takeNumber 89 = .ok (.aload_n 0, 1) := by decide +kernel
theorem dX11_takeNumber_90 : decode cX11_takeNumber 90 = .ok (.getfield 30, 3) := by decide +kernel
theorem dX11_takeNumber_93 : decode cX11_takeNumber 93 = .ok (.aload_n 0, 1) := by decide +kernel
theorem dX11_takeNumber_94 : decode cX11_takeNumber 94 = .ok (.getfield 172, 3) := by decide +kernel
theorem dX11_takeNumber_97 : decode cX11_takeNumber 97 = .ok (.iconst 1, 1) := by decide +kernel
theorem dX11_takeNumber_98 : decode cX11_takeNumber 98 = .ok (.isub, 1) := by decide +kernel
theorem dX11_takeNumber_99 : decode cX11_takeNumber 99 = .ok (.laload, 1) := by decide +kernel
theorem dX11_takeNumber_100 : decode cX11_takeNumber 100 = .ok (.l2i, 1) := by decide +kernel
theorem dX11_takeNumber_101 : decode cX11_takeNumber 101 = .ok (.ireturn, 1) := by decide +kernel
theorem dX11_isName_0 : decode cX11_isName 0 = .ok (.aload_n 0, 1) := by decide +kernel
theorem dX11_isName_1 : decode cX11_isName 1 = .ok (.getfield 175, 3) := by decide +kernel
theorem dX11_isName_4 : decode cX11_isName 4 = .ok (.ifCond .ne 20, 3) := by decide +kernel
theorem dX11_isName_7 : decode cX11_isName 7 = .ok (.aload_n 0, 1) := by decide +kernel
theorem dX11_isName_8 : decode cX11_isName 8 = .ok (.getfield 24, 3) := by decide +kernel
theorem dX11_isName_11 : decode cX11_isName 11 = .ok (.aload_n 0, 1) := by decide +kernel
theorem dX11_isName_12 : decode cX11_isName 12 = .ok (.getfield 172, 3) := by decide +kernel
theorem dX11_isName_15 : decode cX11_isName 15 = .ok (.iaload, 1) := by decide +kernel
theorem dX11_isName_16 : decode cX11_isName 16 = .ok (.iconst 1, 1) := by decide +kernel
theorem dX11_isName_17 : decode cX11_isName 17 = .ok (.if_icmp .ne 7, 3) := by decide +kernel
theorem dX11_isName_20 : decode cX11_isName 20 = .ok (.iconst 1, 1) := by decide +kernel
theorem dX11_isName_21 : decode cX11_isName 21 = .ok (.goto 4, 3) := by decide +kernel
theorem dX11_isName_24 : decode cX11_isName 24 = .ok (.iconst 0, 1) := by decide +kernel
theorem dX11_isName_25 : decode cX11_isName 25 = .ok (.istore_n 1, 1) := by decide +kernel
theorem dX11_isName_26 : decode cX11_isName 26 = .ok (.iconst 0, 1) := by decide +kernel
theorem dX11_isName_27 : decode cX11_isName 27 = .ok (.istore_n 2, 1) := by decide +kernel
theorem dX11_isName_28 : decode cX11_isName 28 = .ok (.iload_n 2, 1) := by decide +kernel
theorem dX11_isName_29 : decode cX11_isName 29 = .ok (.bipush 17, 2) := by decide +kernel
theorem dX11_isName_31 : decode cX11_isName 31 = .ok (.if_icmp .ge 38, 3) := by decide +kernel
theorem dX11_isName_34 : decode cX11_isName 34 = .ok (.iload_n 1, 1) := by decide +kernel
theorem dX11_isName_35 : decode cX11_isName 35 = .ok (.ifCond .eq 26, 3) := by decide +kernel
theorem dX11_isName_38 : decode cX11_isName 38 = .ok (.aload_n 0, 1) := by decide +kernel
theorem dX11_isName_39 : decode cX11_isName 39 = .ok (.getfield 30, 3) := by decide +kernel
theorem dX11_isName_42 : decode cX11_isName 42 = .ok (.aload_n 0, 1) := by decide +kernel
theorem dX11_isName_43 : decode cX11_isName 43 = .ok (.getfield 172, 3) := by decide +kernel
theorem dX11_isName_46 : decode cX11_isName 46 = .ok (.laload, 1) := by decide +kernel
theorem dX11_isName_47 : decode cX11_isName 47 = .ok (.aload_n 0, 1) := by decide +kernel
theorem dX11_isName_48 : decode cX11_isName 48 = .ok (.getfield 80, 3) := by decide +kernel
theorem dX11_isName_51 : decode cX11_isName 51 = .ok (.iload_n 2, 1) := by decide +kernel
theorem dX11_isName_52 : decode cX11_isName 52 = .ok (.laload, 1) := by decide +kernel
theorem dX11_isName_53 : decode cX11_isName 53 = .ok (.lcmp, 1) := by decide +kernel
theorem dX11_isName_54 : decode cX11_isName 54 = .ok (.ifCond .eq 7, 3) := by decide +kernel
theorem dX11_isName_57 : decode cX11_isName 57 = .ok (.iconst 1, 1) := by decide +kernel
theorem dX11_isName_58 : decode cX11_isName 58 = .ok (.goto 4, 3) := by decide +kernel
theorem dX11_isName_61 : decode cX11_isName 61 = .ok (.iconst 0, 1) := by decide +kernel
theorem dX11_isName_62 : decode cX11_isName 62 = .ok (.istore_n 1, 1) := by decide +kernel
theorem dX11_isName_63 : decode cX11_isName 63 = .ok (.iinc 2 1, 3) := by decide +kernel
theorem dX11_isName_66 : decode cX11_isName 66 = .ok (.goto (-38), 3) := by decide +kernel
theorem dX11_isName_69 : decode cX11_isName 69 = .ok (.iload_n 1, 1) := by decide +kernel
theorem dX11_isName_70 : decode cX11_isName 70 = .ok (.ireturn, 1) := by decide +kernel
theorem dX11_nameOf_0 : decode cX11_nameOf 0 = .ok (.iconst 0, 1) := by decide +kernel
theorem dX11_nameOf_1 : decode cX11_nameOf 1 = .ok (.istore_n 3, 1) := by decide +kernel
theorem dX11_nameOf_2 : decode cX11_nameOf 2 = .ok (.iload_n 3, 1) := by decide +kernel
theorem dX11_nameOf_3 : decode cX11_nameOf 3 = .ok (.bipush 16, 2) := by decide +kernel
theorem dX11_nameOf_5 : decode cX11_nameOf 5 = .ok (.if_icmp .ge 73, 3) := by decide +kernel
theorem dX11_nameOf_8 : decode cX11_nameOf 8 = .ok (.iload_n 3, 1) := by decide +kernel
theorem dX11_nameOf_9 : decode cX11_nameOf 9 = .ok (.bipush 12, 2) := by decide +kernel
theorem dX11_nameOf_11 : decode cX11_nameOf 11 = .ok (.if_icmp .ge 22, 3) := by decide +kernel
theorem dX11_nameOf_14 : decode cX11_nameOf 14 = .ok (.iload_n 3, 1) := by decide +kernel
theorem dX11_nameOf_15 : decode cX11_nameOf 15 = .ok (.aload_n 0, 1) := by decide +kernel
theorem dX11_nameOf_16 : decode cX11_nameOf 16 = .ok (.getfield 83, 3) := by decide +kernel
theorem dX11_nameOf_19 : decode cX11_nameOf 19 = .ok (.bipush 120, 2) := by decide +kernel
theorem dX11_nameOf_21 : decode cX11_nameOf 21 = .ok (.iaload, 1) := by decide +kernel
theorem dX11_nameOf_22 : decode cX11_nameOf 22 = .ok (.if_icmp .ge 7, 3) := by decide +kernel
theorem dX11_nameOf_25 : decode cX11_nameOf 25 = .ok (.iconst 1, 1) := by decide +kernel
theorem dX11_nameOf_26 : decode cX11_nameOf 26 = .ok (.goto 26, 3) := by decide +kernel
theorem dX11_nameOf_29 : decode cX11_nameOf 29 = .ok (.iconst 0, 1) := by decide +kernel
theorem dX11_nameOf_30 : decode cX11_nameOf 30 = .ok (.goto 22, 3) := by decide +kernel
theorem dX11_nameOf_33 : decode cX11_nameOf 33 = .ok (.iload_n 3, 1) := by decide +kernel
theorem dX11_nameOf_34 : decode cX11_nameOf 34 = .ok (.bipush 12, 2) := by decide +kernel
theorem dX11_nameOf_36 : decode cX11_nameOf 36 = .ok (.isub, 1) := by decide +kernel
theorem dX11_nameOf_37 : decode cX11_nameOf 37 = .ok (.aload_n 0, 1) := by decide +kernel
theorem dX11_nameOf_38 : decode cX11_nameOf 38 = .ok (.getfield 83, 3) := by decide +kernel
theorem dX11_nameOf_41 : decode cX11_nameOf 41 = .ok (.bipush 121, 2) := by decide +kernel
theorem dX11_nameOf_43 : decode cX11_nameOf 43 = .ok (.iaload, 1) := by decide +kernel
theorem dX11_nameOf_44 : decode cX11_nameOf 44 = .ok (.if_icmp .ge 7, 3) := by decide +kernel
theorem dX11_nameOf_47 : decode cX11_nameOf 47 = .ok (.iconst 1, 1) := by decide +kernel
theorem dX11_nameOf_48 : decode cX11_nameOf 48 = .ok (.goto 4, 3) := by decide +kernel
theorem dX11_nameOf_51 : decode cX11_nameOf 51 = .ok (.iconst 0, 1) := by decide +kernel
theorem dX11_nameOf_52 : decode cX11_nameOf 52 = .ok (.istore 4, 2) := by decide +kernel
theorem dX11_nameOf_54 : decode cX11_nameOf 54 = .ok (.iload 4, 2) := by decide +kernel
theorem dX11_nameOf_56 : decode cX11_nameOf 56 = .ok (.ifCond .eq 16, 3) := by decide +kernel
theorem dX11_nameOf_59 : decode cX11_nameOf 59 = .ok (.aload_n 0, 1) := by decide +kernel
theorem dX11_nameOf_60 : decode cX11_nameOf 60 = .ok (.getfield 92, 3) := by decide +kernel
theorem dX11_nameOf_63 : decode cX11_nameOf 63 = .ok (.iload_n 3, 1) := by decide +kernel
theorem dX11_nameOf_64 : decode cX11_nameOf 64 = .ok (.laload, 1) := by decide +kernel
theorem dX11_nameOf_65 : decode cX11_nameOf 65 = .ok (.lload_n 1, 1) := by decide +kernel
theorem dX11_nameOf_66 : decode cX11_nameOf 66 = .ok (.lcmp, 1) := by decide +kernel
theorem dX11_nameOf_67 : decode cX11_nameOf 67 = .ok (.ifCond .ne 5, 3) := by decide +kernel
theorem dX11_nameOf_70 : decode cX11_nameOf 70 = .ok (.iload_n 3, 1) := by decide +kernel
theorem dX11_nameOf_71 : decode cX11_nameOf 71 = .ok (.ireturn, 1) := by decide +kernel
theorem dX11_nameOf_72 : decode cX11_nameOf 72 = .ok (.iinc 3 1, 3) := by decide +kernel
theorem dX11_nameOf_75 : decode cX11_nameOf 75 = .ok (.goto (-73), 3) := by decide +kernel
theorem dX11_nameOf_78 : decode cX11_nameOf 78 = .ok (.iconst (-1), 1) := by decide +kernel
theorem dX11_nameOf_79 : decode cX11_nameOf 79 = .ok (.ireturn, 1) := by decide +kernel
theorem dX11_newName_0 : decode cX11_newName 0 = .ok (.aload_n 0, 1) := by decide +kernel
theorem dX11_newName_1 : decode cX11_newName 1 = .ok (.invokevirtual 216, 3) := by decide +kernel
theorem dX11_newName_4 : decode cX11_newName 4 = .ok (.ifCond .ne 11, 3) := by decide +kernel
theorem dX11_newName_7 : decode cX11_newName 7 = .ok (.aload_n 0, 1) := by decide +kernel
theorem dX11_newName_8 : decode cX11_newName 8 = .ok (.iconst 1, 1) := by decide +kernel
theorem dX11_newName_9 : decode cX11_newName 9 = .ok (.invokevirtual 181, 3) := by decide +kernel
theorem dX11_newName_12 : decode cX11_newName 12 = .ok (.goto 24, 3) := by decide +kernel
theorem dX11_newName_15 : decode cX11_newName 15 = .ok (.aload_n 0, 1) := by decide +kernel
theorem dX11_newName_16 : decode cX11_newName 16 = .ok (.aload_n 0, 1) := by decide +kernel
theorem dX11_newName_17 : decode cX11_newName 17 = .ok (.getfield 30, 3) := by decide +kernel
theorem dX11_newName_20 : decode cX11_newName 20 = .ok (.aload_n 0, 1) := by decide +kernel
theorem dX11_newName_21 : decode cX11_newName 21 = .ok (.getfield 172, 3) := by decide +kernel
theorem dX11_newName_24 : decode cX11_newName 24 = .ok (.laload, 1) := by decide +kernel
theorem dX11_newName_25 : decode cX11_newName 25 = .ok (.invokevirtual 220, 3) := by decide +kernel
theorem dX11_newName_28 : decode cX11_newName 28 = .ok (.ifCond .lt 8, 3) := by decide +kernel
theorem dX11_newName_31 : decode cX11_newName 31 = .ok (.aload_n 0, 1) := by decide +kernel
theorem dX11_newName_32 : decode cX11_newName 32 = .ok (.iconst 3, 1) := by decide +kernel
theorem dX11_newName_33 : decode cX11_newName 33 = .ok (.invokevirtual 181, 3) := by decide +kernel
theorem dX11_newName_36 : decode cX11_newName 36 = .ok (.aload_n 0, 1) := by decide +kernel
theorem dX11_newName_37 : decode cX11_newName 37 = .ok (.getfield 175, 3) := by decide +kernel
theorem dX11_newName_40 : decode cX11_newName 40 = .ok (.ifCond .le 5, 3) := by decide +kernel
theorem dX11_newName_43 : decode cX11_newName 43 = .ok (.lconst 0, 1) := by decide +kernel
theorem dX11_newName_44 : decode cX11_newName 44 = .ok (.lreturn, 1) := by decide +kernel
theorem dX11_newName_45 : decode cX11_newName 45 = .ok (.aload_n 0, 1) := by decide +kernel
theorem dX11_newName_46 : decode cX11_newName 46 = .ok (.dup, 1) := by decide +kernel
theorem dX11_newName_47 : decode cX11_newName 47 = .ok (.getfield 172, 3) := by decide +kernel
theorem dX11_newName_50 : decode cX11_newName 50 = .ok (.iconst 1, 1) := by decide +kernel
theorem dX11_newName_51 : decode cX11_newName 51 = .ok (.iadd, 1) := by decide +kernel
theorem dX11_newName_52 : decode cX11_newName 52 = .ok (.putfield 172, 3) := by decide +kernel
theorem dX11_newName_55 : decode cX11_newName 55 = .ok (.aload_n 0, 1) := by decide +kernel
theorem dX11_newName_56 : decode cX11_newName 56 = .ok (.getfield 30, 3) := by decide +kernel
theorem dX11_newName_59 : decode cX11_newName 59 = .ok (.aload_n 0, 1) := by decide +kernel
theorem dX11_newName_60 : decode cX11_newName 60 = .ok (.getfield 172, 3) := by decide +kernel
theorem dX11_newName_63 : decode cX11_newName 63 = .ok (.iconst 1, 1) := by decide +kernel
theorem dX11_newName_64 : decode cX11_newName 64 = .ok (.isub, 1) := by decide +kernel
theorem dX11_newName_65 : decode cX11_newName 65 = .ok (.laload, 1) := by decide +kernel
theorem dX11_newName_66 : decode cX11_newName 66 = .ok (.lreturn, 1) := by decide +kernel
theorem dX11_takeAfter_0 : decode cX11_takeAfter 0 = .ok (.aload_n 0, 1) := by decide +kernel
theorem dX11_takeAfter_1 : decode cX11_takeAfter 1 = .ok (.iload_n 1, 1) := by decide +kernel
theorem dX11_takeAfter_2 : decode cX11_takeAfter 2 = .ok (.invokevirtual 224, 3) := by decide +kernel
theorem dX11_takeAfter_5 : decode cX11_takeAfter 5 = .ok (.aload_n 0, 1) := by decide +kernel
theorem dX11_takeAfter_6 : decode cX11_takeAfter 6 = .ok (.iload_n 2, 1) := by decide +kernel
theorem dX11_takeAfter_7 : decode cX11_takeAfter 7 = .ok (.iload_n 3, 1) := by decide +kernel
theorem dX11_takeAfter_8 : decode cX11_takeAfter 8 = .ok (.invokevirtual 227, 3) := by decide +kernel
theorem dX11_takeAfter_11 : decode cX11_takeAfter 11 = .ok (.ireturn, 1) := by decide +kernel
theorem dX11_readWare_0 : decode cX11_readWare 0 = .ok (.aload_n 0, 1) := by decide +kernel
theorem dX11_readWare_1 : decode cX11_readWare 1 = .ok (.getfield 83, 3) := by decide +kernel
theorem dX11_readWare_4 : decode cX11_readWare 4 = .ok (.bipush 120, 2) := by decide +kernel
theorem dX11_readWare_6 : decode cX11_readWare 6 = .ok (.iaload, 1) := by decide +kernel
theorem dX11_readWare_7 : decode cX11_readWare 7 = .ok (.istore_n 2, 1) := by decide +kernel
theorem dX11_readWare_8 : decode cX11_readWare 8 = .ok (.iload_n 2, 1) := by decide +kernel
theorem dX11_readWare_9 : decode cX11_readWare 9 = .ok (.bipush 12, 2) := by decide +kernel
theorem dX11_readWare_11 : decode cX11_readWare 11 = .ok (.if_icmp .ne 9, 3) := by decide +kernel
theorem dX11_readWare_14 : decode cX11_readWare 14 = .ok (.aload_n 0, 1) := by decide +kernel
theorem dX11_readWare_15 : decode cX11_readWare 15 = .ok (.iconst 5, 1) := by decide +kernel
theorem dX11_readWare_16 : decode cX11_readWare 16 = .ok (.invokevirtual 181, 3) := by decide +kernel
theorem dX11_readWare_19 : decode cX11_readWare 19 = .ok (.return_, 1) := by decide +kernel
theorem dX11_readWare_20 : decode cX11_readWare 20 = .ok (.aload_n 0, 1) := by decide +kernel
theorem dX11_readWare_21 : decode cX11_readWare 21 = .ok (.dup, 1) := by decide +kernel
theorem dX11_readWare_22 : decode cX11_readWare 22 = .ok (.getfield 172, 3) := by decide +kernel
theorem dX11_readWare_25 : decode cX11_readWare 25 = .ok (.iconst 1, 1) := by decide +kernel
theorem dX11_readWare_26 : decode cX11_readWare 26 = .ok (.iadd, 1) := by decide +kernel
theorem dX11_readWare_27 : decode cX11_readWare 27 = .ok (.putfield 172, 3) := by decide +kernel
theorem dX11_readWare_30 : decode cX11_readWare 30 = .ok (.aload_n 0, 1) := by decide +kernel
theorem dX11_readWare_31 : decode cX11_readWare 31 = .ok (.invokevirtual 231, 3) := by decide +kernel
theorem dX11_readWare_34 : decode cX11_readWare 34 = .ok (.lstore_n 3, 1) := by decide +kernel
theorem dX11_readWare_35 : decode cX11_readWare 35 = .ok (.bipush 123, 2) := by decide +kernel
theorem dX11_readWare_37 : decode cX11_readWare 37 = .ok (.bipush 8, 2) := by decide +kernel
theorem dX11_readWare_39 : decode cX11_readWare 39 = .ok (.iload_n 2, 1) := by decide +kernel
theorem dX11_readWare_40 : decode cX11_readWare 40 = .ok (.imul, 1) := by decide +kernel
theorem dX11_readWare_41 : decode cX11_readWare 41 = .ok (.iadd, 1) := by decide +kernel
theorem dX11_readWare_42 : decode cX11_readWare 42 = .ok (.istore 5, 2) := by decide +kernel
theorem dX11_readWare_44 : decode cX11_readWare 44 = .ok (.aload_n 0, 1) := by decide +kernel
theorem dX11_readWare_45 : decode cX11_readWare 45 = .ok (.getfield 83, 3) := by decide +kernel
theorem dX11_readWare_48 : decode cX11_readWare 48 = .ok (.iload 5, 2) := by decide +kernel
theorem dX11_readWare_50 : decode cX11_readWare 50 = .ok (.iconst 0, 1) := by decide +kernel
theorem dX11_readWare_51 : decode cX11_readWare 51 = .ok (.iadd, 1) := by decide +kernel
theorem dX11_readWare_52 : decode cX11_readWare 52 = .ok (.aload_n 0, 1) := by decide +kernel
theorem dX11_readWare_53 : decode cX11_readWare 53 = .ok (.bipush 6, 2) := by decide +kernel
theorem dX11_readWare_55 : decode cX11_readWare 55 = .ok (.iconst 1, 1) := by decide +kernel
theorem dX11_readWare_56 : decode cX11_readWare 56 = .ok (.bipush 99, 2) := by decide +kernel
theorem dX11_readWare_58 : decode cX11_readWare 58 = .ok (.invokevirtual 235, 3) := by decide +kernel
theorem dX11_readWare_61 : decode cX11_readWare 61 = .ok (.iastore, 1) := by decide +kernel
theorem dX11_readWare_62 : decode cX11_readWare 62 = .ok (.aload_n 0, 1) := by decide +kernel
theorem dX11_readWare_63 : decode cX11_readWare 63 = .ok (.getfield 83, 3) := by decide +kernel
theorem dX11_readWare_66 : decode cX11_readWare 66 = .ok (.iload 5, 2) := by decide +kernel
theorem dX11_readWare_68 : decode cX11_readWare 68 = .ok (.iconst 1, 1) := by decide +kernel
theorem dX11_readWare_69 : decode cX11_readWare 69 = .ok (.iadd, 1) := by decide +kernel
theorem dX11_readWare_70 : decode cX11_readWare 70 = .ok (.iload_n 1, 1) := by decide +kernel
theorem dX11_readWare_71 : decode cX11_readWare 71 = .ok (.ifCond .eq 7, 3) := by decide +kernel
theorem dX11_readWare_74 : decode cX11_readWare 74 = .ok (.iconst 1, 1) := by decide +kernel
theorem dX11_readWare_75 : decode cX11_readWare 75 = .ok (.goto 12, 3) := by decide +kernel
theorem dX11_readWare_78 : decode cX11_readWare 78 = .ok (.aload_n 0, 1) := by decide +kernel
theorem dX11_readWare_79 : decode cX11_readWare 79 = .ok (.bipush 7, 2) := by decide +kernel
theorem dX11_readWare_81 : decode cX11_readWare 81 = .ok (.iconst 1, 1) := by decide +kernel
theorem dX11_readWare_82 : decode cX11_readWare 82 = .ok (.bipush 99, 2) := by decide +kernel
theorem dX11_readWare_84 : decode cX11_readWare 84 = .ok (.invokevirtual 235, 3) := by decide +kernel
theorem dX11_readWare_87 : decode cX11_readWare 87 = .ok (.iastore, 1) := by decide +kernel
theorem dX11_readWare_88 : decode cX11_readWare 88 = .ok (.aload_n 0, 1) := by decide +kernel
theorem dX11_readWare_89 : decode cX11_readWare 89 = .ok (.getfield 83, 3) := by decide +kernel
theorem dX11_readWare_92 : decode cX11_readWare 92 = .ok (.iload 5, 2) := by decide +kernel
theorem dX11_readWare_94 : decode cX11_readWare 94 = .ok (.iconst 2, 1) := by decide +kernel
theorem dX11_readWare_95 : decode cX11_readWare 95 = .ok (.iadd, 1) := by decide +kernel
theorem dX11_readWare_96 : decode cX11_readWare 96 = .ok (.aload_n 0, 1) := by decide +kernel
theorem dX11_readWare_97 : decode cX11_readWare 97 = .ok (.bipush 8, 2) := by decide +kernel
theorem dX11_readWare_99 : decode cX11_readWare 99 = .ok (.iconst 1, 1) := by decide +kernel
theorem dX11_readWare_100 : decode cX11_readWare 100 = .ok (.bipush 99, 2) := by decide +kernel
theorem dX11_readWare_102 : decode cX11_readWare 102 = .ok (.invokevirtual 235, 3) := by decide +kernel
theorem dX11_readWare_105 : decode cX11_readWare 105 = .ok (.iastore, 1) := by decide +kernel
theorem dX11_readWare_106 : decode cX11_readWare 106 = .ok (.aload_n 0, 1) := by decide +kernel
theorem dX11_readWare_107 : decode cX11_readWare 107 = .ok (.getfield 83, 3) := by decide +kernel
theorem dX11_readWare_110 : decode cX11_readWare 110 = .ok (.iload 5, 2) := by decide +kernel
theorem dX11_readWare_112 : decode cX11_readWare 112 = .ok (.iconst 3, 1) := by decide +kernel
theorem dX11_readWare_113 : decode cX11_readWare 113 = .ok (.iadd, 1) := by decide +kernel
theorem dX11_readWare_114 : decode cX11_readWare 114 = .ok (.iload_n 1, 1) := by decide +kernel
theorem dX11_readWare_115 : decode cX11_readWare 115 = .ok (.ifCond .eq 7, 3) := by decide +kernel
theorem dX11_readWare_118 : decode cX11_readWare 118 = .ok (.iconst 0, 1) := by decide +kernel
theorem dX11_readWare_119 : decode cX11_readWare 119 = .ok (.goto 13, 3) := by decide +kernel
theorem dX11_readWare_122 : decode cX11_readWare 122 = .ok (.aload_n 0, 1) := by decide +kernel
theorem dX11_readWare_123 : decode cX11_readWare 123 = .ok (.bipush 9, 2) := by decide +kernel
theorem dX11_readWare_125 : decode cX11_readWare 125 = .ok (.iconst 0, 1) := by decide +kernel
theorem dX11_readWare_126 : decode cX11_readWare 126 = .ok (.sipush 999, 3) := by decide +kernel
theorem dX11_readWare_129 : decode cX11_readWare 129 = .ok (.invokevirtual 235, 3) := by decide +kernel
theorem dX11_readWare_132 : decode cX11_readWare 132 = .ok (.iastore, 1) := by decide +kernel
theorem dX11_readWare_133 : decode cX11_readWare 133 = .ok (.aload_n 0, 1) := by decide +kernel
theorem dX11_readWare_134 : decode cX11_readWare 134 = .ok (.getfield 83, 3) := by decide +kernel
theorem dX11_readWare_137 : decode cX11_readWare 137 = .ok (.iload 5, 2) := by decide +kernel
theorem dX11_readWare_139 : decode cX11_readWare 139 = .ok (.iconst 4, 1) := by decide +kernel
theorem dX11_readWare_140 : decode cX11_readWare 140 = .ok (.iadd, 1) := by decide +kernel
theorem dX11_readWare_141 : decode cX11_readWare 141 = .ok (.aload_n 0, 1) := by decide +kernel
theorem dX11_readWare_142 : decode cX11_readWare 142 = .ok (.bipush 10, 2) := by decide +kernel
theorem dX11_readWare_144 : decode cX11_readWare 144 = .ok (.iconst 0, 1) := by decide +kernel
theorem dX11_readWare_145 : decode cX11_readWare 145 = .ok (.bipush 99, 2) := by decide +kernel
theorem dX11_readWare_147 : decode cX11_readWare 147 = .ok (.invokevirtual 235, 3) := by decide +kernel
theorem dX11_readWare_150 : decode cX11_readWare 150 = .ok (.iastore, 1) := by decide +kernel
theorem dX11_readWare_151 : decode cX11_readWare 151 = .ok (.aload_n 0, 1) := by decide +kernel
theorem dX11_readWare_152 : decode cX11_readWare 152 = .ok (.getfield 83, 3) := by decide +kernel
theorem dX11_readWare_155 : decode cX11_readWare 155 = .ok (.iload 5, 2) := by decide +kernel
theorem dX11_readWare_157 : decode cX11_readWare 157 = .ok (.bipush 6, 2) := by decide +kernel
theorem dX11_readWare_159 : decode cX11_readWare 159 = .ok (.iadd, 1) := by decide +kernel
theorem dX11_readWare_160 : decode cX11_readWare 160 = .ok (.iload_n 1, 1) := by decide +kernel
theorem dX11_readWare_161 : decode cX11_readWare 161 = .ok (.ifCond .eq 7, 3) := by decide +kernel
theorem dX11_readWare_164 : decode cX11_readWare 164 = .ok (.iconst 1, 1) := by decide +kernel
theorem dX11_readWare_165 : decode cX11_readWare 165 = .ok (.goto 4, 3) := by decide +kernel
theorem dX11_readWare_168 : decode cX11_readWare 168 = .ok (.iconst 0, 1) := by decide +kernel
theorem dX11_readWare_169 : decode cX11_readWare 169 = .ok (.iastore, 1) := by decide +kernel
theorem dX11_readWare_170 : decode cX11_readWare 170 = .ok (.aload_n 0, 1) := by decide +kernel
theorem dX11_readWare_171 : decode cX11_readWare 171 = .ok (.getfield 92, 3) := by decide +kernel
theorem dX11_readWare_174 : decode cX11_readWare 174 = .ok (.iload_n 2, 1) := by decide +kernel
theorem dX11_readWare_175 : decode cX11_readWare 175 = .ok (.lload_n 3, 1) := by decide +kernel
theorem dX11_readWare_176 : decode cX11_readWare 176 = .ok (.lastore, 1) := by decide +kernel
theorem dX11_readWare_177 : decode cX11_readWare 177 = .ok (.aload_n 0, 1) := by decide +kernel
theorem dX11_readWare_178 : decode cX11_readWare 178 = .ok (.getfield 83, 3) := by decide +kernel
theorem dX11_readWare_181 : decode cX11_readWare 181 = .ok (.bipush 120, 2) := by decide +kernel
theorem dX11_readWare_183 : decode cX11_readWare 183 = .ok (.dup2, 1) := by decide +kernel
theorem dX11_readWare_184 : decode cX11_readWare 184 = .ok (.iaload, 1) := by decide +kernel
theorem dX11_readWare_185 : decode cX11_readWare 185 = .ok (.iconst 1, 1) := by decide +kernel
theorem dX11_readWare_186 : decode cX11_readWare 186 = .ok (.iadd, 1) := by decide +kernel
theorem dX11_readWare_187 : decode cX11_readWare 187 = .ok (.iastore, 1) := by decide +kernel
theorem dX11_readWare_188 : decode cX11_readWare 188 = .ok (.return_, 1) := by decide +kernel
theorem dX11_readShelf_0 : decode cX11_readShelf 0 = .ok (.aload_n 0, 1) := by decide +kernel
theorem dX11_readShelf_1 : decode cX11_readShelf 1 = .ok (.getfield 83, 3) := by decide +kernel
theorem dX11_readShelf_4 : decode cX11_readShelf 4 = .ok (.bipush 121, 2) := by decide +kernel
theorem dX11_readShelf_6 : decode cX11_readShelf 6 = .ok (.iaload, 1) := by decide +kernel
theorem dX11_readShelf_7 : decode cX11_readShelf 7 = .ok (.istore_n 1, 1) := by decide +kernel
theorem dX11_readShelf_8 : decode cX11_readShelf 8 = .ok (.iload_n 1, 1) := by decide +kernel
theorem dX11_readShelf_9 : decode cX11_readShelf 9 = .ok (.iconst 4, 1) := by decide +kernel
theorem dX11_readShelf_10 : decode cX11_readShelf 10 = .ok (.if_icmp .ne 9, 3) := by decide +kernel
theorem dX11_readShelf_13 : decode cX11_readShelf 13 = .ok (.aload_n 0, 1) := by decide +kernel
theorem dX11_readShelf_14 : decode cX11_readShelf 14 = .ok (.iconst 5, 1) := by decide +kernel
theorem dX11_readShelf_15 : decode cX11_readShelf 15 = .ok (.invokevirtual 181, 3) := by decide +kernel
theorem dX11_readShelf_18 : decode cX11_readShelf 18 = .ok (.return_, 1) := by decide +kernel
theorem dX11_readShelf_19 : decode cX11_readShelf 19 = .ok (.aload_n 0, 1) := by decide +kernel
theorem dX11_readShelf_20 : decode cX11_readShelf 20 = .ok (.dup, 1) := by decide +kernel
theorem dX11_readShelf_21 : decode cX11_readShelf 21 = .ok (.getfield 172, 3) := by decide +kernel
theorem dX11_readShelf_24 : decode cX11_readShelf 24 = .ok (.iconst 1, 1) := by decide +kernel
theorem dX11_readShelf_25 : decode cX11_readShelf 25 = .ok (.iadd, 1) := by decide +kernel
theorem dX11_readShelf_26 : decode cX11_readShelf 26 = .ok (.putfield 172, 3) := by decide +kernel
theorem dX11_readShelf_29 : decode cX11_readShelf 29 = .ok (.aload_n 0, 1) := by decide +kernel
theorem dX11_readShelf_30 : decode cX11_readShelf 30 = .ok (.invokevirtual 231, 3) := by decide +kernel
theorem dX11_readShelf_33 : decode cX11_readShelf 33 = .ok (.lstore_n 2, 1) := by decide +kernel
theorem dX11_readShelf_34 : decode cX11_readShelf 34 = .ok (.sipush 219, 3) := by decide +kernel
theorem dX11_readShelf_37 : decode cX11_readShelf 37 = .ok (.iconst 3, 1) := by decide +kernel
theorem dX11_readShelf_38 : decode cX11_readShelf 38 = .ok (.iload_n 1, 1) := by decide +kernel
theorem dX11_readShelf_39 : decode cX11_readShelf 39 = .ok (.imul, 1) := by decide +kernel
theorem dX11_readShelf_40 : decode cX11_readShelf 40 = .ok (.iadd, 1) := by decide +kernel
theorem dX11_readShelf_41 : decode cX11_readShelf 41 = .ok (.istore 4, 2) := by decide +kernel
theorem dX11_readShelf_43 : decode cX11_readShelf 43 = .ok (.aload_n 0, 1) := by decide +kernel
theorem dX11_readShelf_44 : decode cX11_readShelf 44 = .ok (.getfield 83, 3) := by decide +kernel
theorem dX11_readShelf_47 : decode cX11_readShelf 47 = .ok (.iload 4, 2) := by decide +kernel
theorem dX11_readShelf_49 : decode cX11_readShelf 49 = .ok (.aload_n 0, 1) := by decide +kernel
theorem dX11_readShelf_50 : decode cX11_readShelf 50 = .ok (.bipush 11, 2) := by decide +kernel
theorem dX11_readShelf_52 : decode cX11_readShelf 52 = .ok (.iconst 1, 1) := by decide +kernel
theorem dX11_readShelf_53 : decode cX11_readShelf 53 = .ok (.sipush 999, 3) := by decide +kernel
theorem dX11_readShelf_56 : decode cX11_readShelf 56 = .ok (.invokevirtual 235, 3) := by decide +kernel
theorem dX11_readShelf_59 : decode cX11_readShelf 59 = .ok (.iastore, 1) := by decide +kernel
theorem dX11_readShelf_60 : decode cX11_readShelf 60 = .ok (.aload_n 0, 1) := by decide +kernel
theorem dX11_readShelf_61 : decode cX11_readShelf 61 = .ok (.getfield 83, 3) := by decide +kernel
theorem dX11_readShelf_64 : decode cX11_readShelf 64 = .ok (.iload 4, 2) := by decide +kernel
theorem dX11_readShelf_66 : decode cX11_readShelf 66 = .ok (.iconst 1, 1) := by decide +kernel
theorem dX11_readShelf_67 : decode cX11_readShelf 67 = .ok (.iadd, 1) := by decide +kernel
theorem dX11_readShelf_68 : decode cX11_readShelf 68 = .ok (.aload_n 0, 1) := by decide +kernel
theorem dX11_readShelf_69 : decode cX11_readShelf 69 = .ok (.bipush 12, 2) := by decide +kernel
theorem dX11_readShelf_71 : decode cX11_readShelf 71 = .ok (.iconst 0, 1) := by decide +kernel
theorem dX11_readShelf_72 : decode cX11_readShelf 72 = .ok (.bipush 99, 2) := by decide +kernel
theorem dX11_readShelf_74 : decode cX11_readShelf 74 = .ok (.invokevirtual 235, 3) := by decide +kernel
theorem dX11_readShelf_77 : decode cX11_readShelf 77 = .ok (.iastore, 1) := by decide +kernel
theorem dX11_readShelf_78 : decode cX11_readShelf 78 = .ok (.aload_n 0, 1) := by decide +kernel
theorem dX11_readShelf_79 : decode cX11_readShelf 79 = .ok (.getfield 83, 3) := by decide +kernel
theorem dX11_readShelf_82 : decode cX11_readShelf 82 = .ok (.iload 4, 2) := by decide +kernel
theorem dX11_readShelf_84 : decode cX11_readShelf 84 = .ok (.iconst 2, 1) := by decide +kernel
theorem dX11_readShelf_85 : decode cX11_readShelf 85 = .ok (.iadd, 1) := by decide +kernel
theorem dX11_readShelf_86 : decode cX11_readShelf 86 = .ok (.aload_n 0, 1) := by decide +kernel
theorem dX11_readShelf_87 : decode cX11_readShelf 87 = .ok (.bipush 13, 2) := by decide +kernel
theorem dX11_readShelf_89 : decode cX11_readShelf 89 = .ok (.iconst 1, 1) := by decide +kernel
theorem dX11_readShelf_90 : decode cX11_readShelf 90 = .ok (.bipush 8, 2) := by decide +kernel
theorem dX11_readShelf_92 : decode cX11_readShelf 92 = .ok (.invokevirtual 235, 3) := by decide +kernel
theorem dX11_readShelf_95 : decode cX11_readShelf 95 = .ok (.iastore, 1) := by decide +kernel
theorem dX11_readShelf_96 : decode cX11_readShelf 96 = .ok (.aload_n 0, 1) := by decide +kernel
theorem dX11_readShelf_97 : decode cX11_readShelf 97 = .ok (.getfield 92, 3) := by decide +kernel
theorem dX11_readShelf_100 : decode cX11_readShelf 100 = .ok (.bipush 12, 2) := by decide +kernel
theorem dX11_readShelf_102 : decode cX11_readShelf 102 = .ok (.iload_n 1, 1) := by decide +kernel
theorem dX11_readShelf_103 : decode cX11_readShelf 103 = .ok (.iadd, 1) := by decide +kernel
theorem dX11_readShelf_104 : decode cX11_readShelf 104 = .ok (.lload_n 2, 1) := by decide +kernel
theorem dX11_readShelf_105 : decode cX11_readShelf 105 = .ok (.lastore, 1) := by decide +kernel
theorem dX11_readShelf_106 : decode cX11_readShelf 106 = .ok (.aload_n 0, 1) := by decide +kernel
theorem dX11_readShelf_107 : decode cX11_readShelf 107 = .ok (.getfield 83, 3) := by decide +kernel
theorem dX11_readShelf_110 : decode cX11_readShelf 110 = .ok (.bipush 121, 2) := by decide +kernel
theorem dX11_readShelf_112 : decode cX11_readShelf 112 = .ok (.dup2, 1) := by decide +kernel
theorem dX11_readShelf_113 : decode cX11_readShelf 113 = .ok (.iaload, 1) := by decide +kernel
theorem dX11_readShelf_114 : decode cX11_readShelf 114 = .ok (.iconst 1, 1) := by decide +kernel
theorem dX11_readShelf_115 : decode cX11_readShelf 115 = .ok (.iadd, 1) := by decide +kernel
theorem dX11_readShelf_116 : decode cX11_readShelf 116 = .ok (.iastore, 1) := by decide +kernel
theorem dX11_readShelf_117 : decode cX11_readShelf 117 = .ok (.return_, 1) := by decide +kernel
theorem dX11_readOf_0 : decode cX11_readOf 0 = .ok (.aload_n 0, 1) := by decide +kernel
theorem dX11_readOf_1 : decode cX11_readOf 1 = .ok (.invokevirtual 216, 3) := by decide +kernel
theorem dX11_readOf_4 : decode cX11_readOf 4 = .ok (.ifCond .eq 19, 3) := by decide +kernel
theorem dX11_readOf_7 : decode cX11_readOf 7 = .ok (.aload_n 0, 1) := by decide +kernel
theorem dX11_readOf_8 : decode cX11_readOf 8 = .ok (.aload_n 0, 1) := by decide +kernel
theorem dX11_readOf_9 : decode cX11_readOf 9 = .ok (.getfield 30, 3) := by decide +kernel
theorem dX11_readOf_12 : decode cX11_readOf 12 = .ok (.aload_n 0, 1) := by decide +kernel
theorem dX11_readOf_13 : decode cX11_readOf 13 = .ok (.getfield 172, 3) := by decide +kernel
theorem dX11_readOf_16 : decode cX11_readOf 16 = .ok (.laload, 1) := by decide +kernel
theorem dX11_readOf_17 : decode cX11_readOf 17 = .ok (.invokevirtual 220, 3) := by decide +kernel
theorem dX11_readOf_20 : decode cX11_readOf 20 = .ok (.goto 4, 3) := by decide +kernel
theorem dX11_readOf_23 : decode cX11_readOf 23 = .ok (.iconst (-1), 1) := by decide +kernel
theorem dX11_readOf_24 : decode cX11_readOf 24 = .ok (.istore_n 2, 1) := by decide +kernel
theorem dX11_readOf_25 : decode cX11_readOf 25 = .ok (.aload_n 0, 1) := by decide +kernel
theorem dX11_readOf_26 : decode cX11_readOf 26 = .ok (.invokevirtual 216, 3) := by decide +kernel
theorem dX11_readOf_29 : decode cX11_readOf 29 = .ok (.ifCond .ne 11, 3) := by decide +kernel
theorem dX11_readOf_32 : decode cX11_readOf 32 = .ok (.aload_n 0, 1) := by decide +kernel
theorem dX11_readOf_33 : decode cX11_readOf 33 = .ok (.iconst 1, 1) := by decide +kernel
theorem dX11_readOf_34 : decode cX11_readOf 34 = .ok (.invokevirtual 181, 3) := by decide +kernel
theorem dX11_readOf_37 : decode cX11_readOf 37 = .ok (.goto 62, 3) := by decide +kernel
theorem dX11_readOf_40 : decode cX11_readOf 40 = .ok (.iload_n 2, 1) := by decide +kernel
theorem dX11_readOf_41 : decode cX11_readOf 41 = .ok (.ifCond .lt 9, 3) := by decide +kernel
theorem dX11_readOf_44 : decode cX11_readOf 44 = .ok (.iload_n 2, 1) := by decide +kernel
theorem dX11_readOf_45 : decode cX11_readOf 45 = .ok (.bipush 12, 2) := by decide +kernel
theorem dX11_readOf_47 : decode cX11_readOf 47 = .ok (.if_icmp .lt 11, 3) := by decide +kernel
theorem dX11_readOf_50 : decode cX11_readOf 50 = .ok (.aload_n 0, 1) := by decide +kernel
theorem dX11_readOf_51 : decode cX11_readOf 51 = .ok (.iconst 2, 1) := by decide +kernel
theorem dX11_readOf_52 : decode cX11_readOf 52 = .ok (.invokevirtual 181, 3) := by decide +kernel
theorem dX11_readOf_55 : decode cX11_readOf 55 = .ok (.goto 44, 3) := by decide +kernel
theorem dX11_readOf_58 : decode cX11_readOf 58 = .ok (.iload_n 1, 1) := by decide +kernel
theorem dX11_readOf_59 : decode cX11_readOf 59 = .ok (.iconst 3, 1) := by decide +kernel
theorem dX11_readOf_60 : decode cX11_readOf 60 = .ok (.if_icmp .ne 25, 3) := by decide +kernel
theorem dX11_readOf_63 : decode cX11_readOf 63 = .ok (.aload_n 0, 1) := by decide +kernel
theorem dX11_readOf_64 : decode cX11_readOf 64 = .ok (.getfield 83, 3) := by decide +kernel
theorem dX11_readOf_67 : decode cX11_readOf 67 = .ok (.bipush 123, 2) := by decide +kernel
theorem dX11_readOf_69 : decode cX11_readOf 69 = .ok (.bipush 8, 2) := by decide +kernel
theorem dX11_readOf_71 : decode cX11_readOf 71 = .ok (.iload_n 2, 1) := by decide +kernel
theorem dX11_readOf_72 : decode cX11_readOf 72 = .ok (.imul, 1) := by decide +kernel
theorem dX11_readOf_73 : decode cX11_readOf 73 = .ok (.iadd, 1) := by decide +kernel
theorem dX11_readOf_74 : decode cX11_readOf 74 = .ok (.bipush 7, 2) := by decide +kernel
theorem dX11_readOf_76 : decode cX11_readOf 76 = .ok (.iadd, 1) := by decide +kernel
theorem dX11_readOf_77 : decode cX11_readOf 77 = .ok (.iaload, 1) := by decide +kernel
theorem dX11_readOf_78 : decode cX11_readOf 78 = .ok (.iconst 1, 1) := by decide +kernel
theorem dX11_readOf_79 : decode cX11_readOf 79 = .ok (.if_icmp .ne 20, 3) := by decide +kernel
theorem dX11_readOf_82 : decode cX11_readOf 82 = .ok (.goto 12, 3) := by decide +kernel
theorem dX11_readOf_85 : decode cX11_readOf 85 = .ok (.aload_n 0, 1) := by decide +kernel
theorem dX11_readOf_86 : decode cX11_readOf 86 = .ok (.getfield 95, 3) := by decide +kernel
theorem dX11_readOf_89 : decode cX11_readOf 89 = .ok (.iload_n 2, 1) := by decide +kernel
theorem dX11_readOf_90 : decode cX11_readOf 90 = .ok (.baload, 1) := by decide +kernel
theorem dX11_readOf_91 : decode cX11_readOf 91 = .ok (.ifCond .eq 8, 3) := by decide +kernel
theorem dX11_readOf_94 : decode cX11_readOf 94 = .ok (.aload_n 0, 1) := by decide +kernel
theorem dX11_readOf_95 : decode cX11_readOf 95 = .ok (.iconst 3, 1) := by decide +kernel
theorem dX11_readOf_96 : decode cX11_readOf 96 = .ok (.invokevirtual 181, 3) := by decide +kernel
theorem dX11_readOf_99 : decode cX11_readOf 99 = .ok (.aload_n 0, 1) := by decide +kernel
theorem dX11_readOf_100 : decode cX11_readOf 100 = .ok (.getfield 175, 3) := by decide +kernel
theorem dX11_readOf_103 : decode cX11_readOf 103 = .ok (.ifCond .le 4, 3) := by decide +kernel
theorem dX11_readOf_106 : decode cX11_readOf 106 = .ok (.return_, 1) := by decide +kernel
theorem dX11_readOf_107 : decode cX11_readOf 107 = .ok (.aload_n 0, 1) := by decide +kernel
theorem dX11_readOf_108 : decode cX11_readOf 108 = .ok (.dup, 1) := by decide +kernel
theorem dX11_readOf_109 : decode cX11_readOf 109 = .ok (.getfield 172, 3) := by decide +kernel
theorem dX11_readOf_112 : decode cX11_readOf 112 = .ok (.iconst 1, 1) := by decide +kernel
theorem dX11_readOf_113 : decode cX11_readOf 113 = .ok (.iadd, 1) := by decide +kernel
theorem dX11_readOf_114 : decode cX11_readOf 114 = .ok (.putfield 172, 3) := by decide +kernel
theorem dX11_readOf_117 : decode cX11_readOf 117 = .ok (.iload_n 1, 1) := by decide +kernel
theorem dX11_readOf_118 : decode cX11_readOf 118 = .ok (.iconst 3, 1) := by decide +kernel
theorem dX11_readOf_119 : decode cX11_readOf 119 = .ok (.if_icmp .ne 22, 3) := by decide +kernel
theorem dX11_readOf_122 : decode cX11_readOf 122 = .ok (.aload_n 0, 1) := by decide +kernel
theorem dX11_readOf_123 : decode cX11_readOf 123 = .ok (.getfield 83, 3) := by decide +kernel
theorem dX11_readOf_126 : decode cX11_readOf 126 = .ok (.bipush 123, 2) := by decide +kernel
theorem dX11_readOf_128 : decode cX11_readOf 128 = .ok (.bipush 8, 2) := by decide +kernel
theorem dX11_readOf_130 : decode cX11_readOf 130 = .ok (.iload_n 2, 1) := by decide +kernel
theorem dX11_readOf_131 : decode cX11_readOf 131 = .ok (.imul, 1) := by decide +kernel
theorem dX11_readOf_132 : decode cX11_readOf 132 = .ok (.iadd, 1) := by decide +kernel
theorem dX11_readOf_133 : decode cX11_readOf 133 = .ok (.bipush 7, 2) := by decide +kernel
theorem dX11_readOf_135 : decode cX11_readOf 135 = .ok (.iadd, 1) := by decide +kernel
theorem dX11_readOf_136 : decode cX11_readOf 136 = .ok (.iconst 1, 1) := by decide +kernel
theorem dX11_readOf_137 : decode cX11_readOf 137 = .ok (.iastore, 1) := by decide +kernel
theorem dX11_readOf_138 : decode cX11_readOf 138 = .ok (.goto 31, 3) := by decide +kernel
theorem dX11_readOf_141 : decode cX11_readOf 141 = .ok (.aload_n 0, 1) := by decide +kernel
theorem dX11_readOf_142 : decode cX11_readOf 142 = .ok (.getfield 95, 3) := by decide +kernel
theorem dX11_readOf_145 : decode cX11_readOf 145 = .ok (.iload_n 2, 1) := by decide +kernel
theorem dX11_readOf_146 : decode cX11_readOf 146 = .ok (.iconst 1, 1) := by decide +kernel
theorem dX11_readOf_147 : decode cX11_readOf 147 = .ok (.bastore, 1) := by decide +kernel
theorem dX11_readOf_148 : decode cX11_readOf 148 = .ok (.aload_n 0, 1) := by decide +kernel
theorem dX11_readOf_149 : decode cX11_readOf 149 = .ok (.getfield 83, 3) := by decide +kernel
theorem dX11_readOf_152 : decode cX11_readOf 152 = .ok (.bipush 123, 2) := by decide +kernel
theorem dX11_readOf_154 : decode cX11_readOf 154 = .ok (.bipush 8, 2) := by decide +kernel
theorem dX11_readOf_156 : decode cX11_readOf 156 = .ok (.iload_n 2, 1) := by decide +kernel
theorem dX11_readOf_157 : decode cX11_readOf 157 = .ok (.imul, 1) := by decide +kernel
theorem dX11_readOf_158 : decode cX11_readOf 158 = .ok (.iadd, 1) := by decide +kernel
theorem dX11_readOf_159 : decode cX11_readOf 159 = .ok (.iconst 5, 1) := by decide +kernel
theorem dX11_readOf_160 : decode cX11_readOf 160 = .ok (.iadd, 1) := by decide +kernel
theorem dX11_readOf_161 : decode cX11_readOf 161 = .ok (.aload_n 0, 1) := by decide +kernel
theorem dX11_readOf_162 : decode cX11_readOf 162 = .ok (.iconst 0, 1) := by decide +kernel
theorem dX11_readOf_163 : decode cX11_readOf 163 = .ok (.bipush 99, 2) := by decide +kernel
theorem dX11_readOf_165 : decode cX11_readOf 165 = .ok (.invokevirtual 227, 3) := by decide +kernel
theorem dX11_readOf_168 : decode cX11_readOf 168 = .ok (.iastore, 1) := by decide +kernel
theorem dX11_readOf_169 : decode cX11_readOf 169 = .ok (.return_, 1) := by decide +kernel
set_option maxHeartbeats 4000000 in
set_option maxRecDepth 100000 in
theorem c_X11_takeNumber (l : Launch) (D : DG) (cyC cyI cyJ cyZ cyO : ClassId) (m0 : Nat) (msort : Nat) (mplace : Nat) (mvalue : Nat) (mtape : Nat) (mwords : Nat) (mtold : Nat) (mop : Nat) (marg : Nat) (mnames : Nat) (mhasHabit : Nat) (mfactWords : Nat) (mfacts : Nat) (mpile : Nat) (mstates : Nat) (misMarked : Nat) (mrow : Nat) (mthr : Nat) (mmays : Nat) (mtall : Nat) (mweights : Nat) (mrowOfWare : Nat) (mneededOf : Nat) (mtried : Nat) (mbestRow : Nat) (mdigits : Nat) (p0 : Int32) (p1 : Int32) (m_thrown : Int32) (m_taped : Int32) (m_size : Int32) (m_at : Int32) (m_fault : Int32) (m_codes : Int32) (m_isNew : Int32) (m_inShelf : Int32) (m_inStack : Int32) (m_inPlace : Int32) (m_rowMany : Int32) (m_goShelf : Int32) (m_goStack : Int32) (m_goLeft : Int32) (m_bestCost : Int32) (m_bestMany : Int32) (m_bestShelf : Int32) (m_bestSet : Int32) (m_sort : Nat → Int32) (m_place : Nat → Int32) (m_value : Nat → Int64) (h_m_taped : 0 ≤ (m_taped).toInt ∧ (m_taped).toInt ≤ 1000) (h_m_size : 0 ≤ (m_size).toInt ∧ (m_size).toInt ≤ 1000) (h_m_at : 0 ≤ (m_at).toInt ∧ (m_at).toInt ≤ 1000) (h_m_fault : 0 ≤ (m_fault).toInt ∧ (m_fault).toInt ≤ 16005) (h_m_codes : 0 ≤ (m_codes).toInt ∧ (m_codes).toInt ≤ 1000) (h_m_isNew : 0 ≤ (m_isNew).toInt ∧ (m_isNew).toInt ≤ 1) (h_m_inShelf : 0 ≤ (m_inShelf).toInt ∧ (m_inShelf).toInt ≤ 3) (h_m_inStack : 0 ≤ (m_inStack).toInt ∧ (m_inStack).toInt ≤ 7) (h_m_inPlace : 0 ≤ (m_inPlace).toInt ∧ (m_inPlace).toInt ≤ 11) (h_m_rowMany : 0 ≤ (m_rowMany).toInt ∧ (m_rowMany).toInt ≤ 12) (h_m_goShelf : -1 ≤ (m_goShelf).toInt ∧ (m_goShelf).toInt ≤ 3) (h_m_bestMany : 0 ≤ (m_bestMany).toInt ∧ (m_bestMany).toInt ≤ 7) (h_m_bestShelf : 0 ≤ (m_bestShelf).toInt ∧ (m_bestShelf).toInt ≤ 3) (h_m_place : Iv 1002 (0) (1000) m_place) (hN1 : eN m_sort ≤ 1000) (hN2 : (m_at).toInt ≤ ((eN m_sort : Nat) : Int)) : KK l D (TY cyC cyI cyJ cyZ cyO) yX11_takeNumber cX11_takeNumber 3 (some .int) ({ frames := 1, cells := 0, slots := 0, locals := 21 } : Room) 0 0 [.ref m0, .int p0, .int p1] [(m0, .inr (11, [.int m_thrown, .ref mtape, .int m_taped, .int m_size, .ref msort, .ref mplace, .ref mvalue, .int m_at, .int m_fault, .ref mwords, .ref mtold, .ref mop, .ref marg, .int m_codes, .ref mnames, .ref mhasHabit, .int m_isNew, .ref mfactWords, .ref mfacts, .ref mpile, .ref mstates, .ref misMarked, .int m_inShelf, .int m_inStack, .int m_inPlace, .ref mrow, .int m_rowMany, .ref mthr, .ref mmays, .ref mtall, .ref mweights, .ref mrowOfWare, .ref mneededOf, .int m_goShelf, .int m_goStack, .int m_goLeft, .ref mtried, .ref mbestRow, .int m_bestCost, .int m_bestMany, .int m_bestShelf, .int m_bestSet, .ref mdigits])), (msort, .inl (cyI, 1002, .inl m_sort)), (mplace, .inl (cyI, 1002, .inl m_place)), (mvalue, .inl (cyJ, 1002, .inr (.inl m_value)))] (fun u => some (.int (u.2.1 0))) (fun u => (0 ≤ (u.2.1 1).toInt ∧ (u.2.1 1).toInt ≤ 1000) ∧ (0 ≤ (u.2.1 2).toInt ∧ (u.2.1 2).toInt ≤ 16005) ∧ ((m_at).toInt ≤ ((u.2.1 1)).toInt) ∧ (((u.2.1 1)).toInt ≤ ((eN m_sort : Nat) : Int)) ∧ ((m_fault).toInt = 0 ∨ ¬ ((u.2.1 2)).toInt = 0) ∧ ((u.2.1 0).toInt = 0 ∨ (p0).toInt ≤ (u.2.1 0).toInt ∧ (u.2.1 0).toInt ≤ (p1).toInt)) (fun u => [(m0, .inr (11, [.int m_thrown, .ref mtape, .int m_taped, .int m_size, .ref msort, .ref mplace, .ref mvalue, .int (u.2.1 1), .int (u.2.1 2), .ref mwords, .ref mtold, .ref mop, .ref marg, .int m_codes, .ref mnames, .ref mhasHabit, .int m_isNew, .ref mfactWords, .ref mfacts, .ref mpile, .ref mstates, .ref misMarked, .int m_inShelf, .int m_inStack, .int m_inPlace, .ref mrow, .int m_rowMany, .ref mthr, .ref mmays, .ref mtall, .ref mweights, .ref mrowOfWare, .ref mneededOf, .int m_goShelf, .int m_goStack, .int m_goLeft, .ref mtried, .ref mbestRow, .int m_bestCost, .int m_bestMany, .int m_bestShelf, .int m_bestSet, .ref mdigits])), (msort, .inl (cyI, 1002, .inl m_sort)), (mplace, .inl (cyI, 1002, .inl m_place)), (mvalue, .inl (cyJ, 1002, .inr (.inl m_value)))]) := by
  refine KK.of (lv0 := [(0, .ref m0), (1, .int p0), (2, .int p1)]) (by decide) rfl (Nat.le_of_ble_eq_true rfl) ?_
  intro p e s m args below meth c A C hr hk hin
  refine j_aload_n (pc := 0) C dX11_takeNumber_0 rfl 0 rfl ?_
  refine j_get (pc := 1) (ci := 11) (v := .int m_fault) C inw_11 0 rfl rfl 8 (by decide) wd_638 rfl rfl dX11_takeNumber_1 ?_
  refine j_if_ne (pc := 4) (tgt := 28) C dX11_takeNumber_4 (by decide) (fun c_1 => ?_) (fun c_1 => ?_)
  · skip
    have el_0 : (0 : Int32).toInt = 0 := rfl
    rw [i_eq] at c_1
    refine j_aload_n (pc := 28) C dX11_takeNumber_28 rfl 0 rfl ?_
    refine j_get (pc := 29) (ci := 11) (v := .int m_fault) C inw_11 0 rfl rfl 8 (by decide) wd_638 rfl rfl dX11_takeNumber_29 ?_
    have el_0 : (0 : Int32).toInt = 0 := rfl
    refine j_if_ne_t (pc := 32) (tgt := 70) C dX11_takeNumber_32 (by decide) (by rw [i_eq]; omega) ?_
    refine j_aload_n (pc := 70) C dX11_takeNumber_70 rfl 0 rfl ?_
    refine j_get (pc := 71) (ci := 11) (v := .int m_fault) C inw_11 0 rfl rfl 8 (by decide) wd_638 rfl rfl dX11_takeNumber_71 ?_
    have el_0 : (0 : Int32).toInt = 0 := rfl
    refine j_if_le_f (pc := 74) (tgt := 79) C dX11_takeNumber_74 (by decide) (by rw [i_le]; omega) ?_
    refine j_iconst (pc := 77) (v := 0) C dX11_takeNumber_77 (by decide) ?_
    have el_0 : (0 : Int32).toInt = 0 := rfl
    have el_0 : (0 : Int32).toInt = 0 := rfl
    have el_0 : (0 : Int32).toInt = 0 := rfl
    have el_0 : (0 : Int32).toInt = 0 := rfl
    exact j_iret (pc := 78) C hr hk (fun i => [].getD i 0, fun i => [0, m_at, m_fault].getD i 0, fun i => [].getD i (fun _ => 0), fun i => [].getD i (fun _ => 0)) rfl (show (0 ≤ (m_at).toInt ∧ (m_at).toInt ≤ 1000) ∧ (0 ≤ (m_fault).toInt ∧ (m_fault).toInt ≤ 16005) ∧ ((m_at).toInt ≤ (m_at).toInt) ∧ ((m_at).toInt ≤ ((eN m_sort : Nat) : Int)) ∧ ((m_fault).toInt = 0 ∨ ¬ (m_fault).toInt = 0) ∧ ((0 : Int32).toInt = 0 ∨ (p0).toInt ≤ (0 : Int32).toInt ∧ (0 : Int32).toInt ≤ (p1).toInt) from ⟨by omega, by omega, by omega, by omega, by omega, by omega⟩) [0, 1, 2, 3] (by decide) rfl (by decide) (by decide) dX11_takeNumber_78
  · skip
    have el_0 : (0 : Int32).toInt = 0 := rfl
    rw [i_eq] at c_1
    refine j_aload_n (pc := 7) C dX11_takeNumber_7 rfl 0 rfl ?_
    refine j_get (pc := 8) (ci := 11) (v := .ref msort) C inw_11 0 rfl rfl 4 (by decide) wd_635 rfl rfl dX11_takeNumber_8 ?_
    refine j_aload_n (pc := 11) C dX11_takeNumber_11 rfl 0 rfl ?_
    refine j_get (pc := 12) (ci := 11) (v := .int m_at) C inw_11 0 rfl rfl 7 (by decide) wd_637 rfl rfl dX11_takeNumber_12 ?_
    obtain ⟨v_2, ev_2⟩ : ∃ z, m_sort (m_at).toInt.toNat = z := ⟨_, rfl⟩
    have env_2 : (m_sort (m_at).toInt.toNat).toInt = v_2.toInt := by rw [ev_2]
    have hNv_2 := eN_rd (f := m_sort) (x := m_at) ev_2 (by omega) (by omega)
    refine j_iald (pc := 15) (v := v_2) (k := (m_at).toInt.toNat) C 1 1 rfl rfl (i_nn (by omega)) rfl (i_lt_n (by omega) (by omega)) ev_2 dX11_takeNumber_15 ?_
    refine j_iconst (pc := 16) (v := 2) C dX11_takeNumber_16 (by decide) ?_
    refine j_icmp_eq (pc := 17) (tgt := 28) C dX11_takeNumber_17 (by decide) (fun c_3 => ?_) (fun c_3 => ?_)
    · skip
      have el_2 : (2 : Int32).toInt = 2 := rfl
      rw [i_eq] at c_3
      refine j_aload_n (pc := 28) C dX11_takeNumber_28 rfl 0 rfl ?_
      refine j_get (pc := 29) (ci := 11) (v := .int m_fault) C inw_11 0 rfl rfl 8 (by decide) wd_638 rfl rfl dX11_takeNumber_29 ?_
      refine j_if_ne (pc := 32) (tgt := 70) C dX11_takeNumber_32 (by decide) (fun c_4 => ?_) (fun c_4 => ?_)
      · skip
        have el_0 : (0 : Int32).toInt = 0 := rfl
        rw [i_eq] at c_4
        refine j_aload_n (pc := 70) C dX11_takeNumber_70 rfl 0 rfl ?_
        refine j_get (pc := 71) (ci := 11) (v := .int m_fault) C inw_11 0 rfl rfl 8 (by decide) wd_638 rfl rfl dX11_takeNumber_71 ?_
        have el_0 : (0 : Int32).toInt = 0 := rfl
        refine j_if_le_f (pc := 74) (tgt := 79) C dX11_takeNumber_74 (by decide) (by rw [i_le]; omega) ?_
        refine j_iconst (pc := 77) (v := 0) C dX11_takeNumber_77 (by decide) ?_
        have el_0 : (0 : Int32).toInt = 0 := rfl
        have el_0 : (0 : Int32).toInt = 0 := rfl
        have el_0 : (0 : Int32).toInt = 0 := rfl
        have el_0 : (0 : Int32).toInt = 0 := rfl
        exact j_iret (pc := 78) C hr hk (fun i => [].getD i 0, fun i => [0, m_at, m_fault].getD i 0, fun i => [].getD i (fun _ => 0), fun i => [].getD i (fun _ => 0)) rfl (show (0 ≤ (m_at).toInt ∧ (m_at).toInt ≤ 1000) ∧ (0 ≤ (m_fault).toInt ∧ (m_fault).toInt ≤ 16005) ∧ ((m_at).toInt ≤ (m_at).toInt) ∧ ((m_at).toInt ≤ ((eN m_sort : Nat) : Int)) ∧ ((m_fault).toInt = 0 ∨ ¬ (m_fault).toInt = 0) ∧ ((0 : Int32).toInt = 0 ∨ (p0).toInt ≤ (0 : Int32).toInt ∧ (0 : Int32).toInt ≤ (p1).toInt) from ⟨by omega, by omega, by omega, by omega, by omega, by omega⟩) [0, 1, 2, 3] (by decide) rfl (by decide) (by decide) dX11_takeNumber_78
      · skip
        have el_0 : (0 : Int32).toInt = 0 := rfl
        rw [i_eq] at c_4
        refine j_aload_n (pc := 35) C dX11_takeNumber_35 rfl 0 rfl ?_
        refine j_get (pc := 36) (ci := 11) (v := .ref mvalue) C inw_11 0 rfl rfl 6 (by decide) wd_645 rfl rfl dX11_takeNumber_36 ?_
        refine j_aload_n (pc := 39) C dX11_takeNumber_39 rfl 0 rfl ?_
        refine j_get (pc := 40) (ci := 11) (v := .int m_at) C inw_11 0 rfl rfl 7 (by decide) wd_637 rfl rfl dX11_takeNumber_40 ?_
        obtain ⟨v_5, ev_5⟩ : ∃ z, m_value (m_at).toInt.toNat = z := ⟨_, rfl⟩
        refine j_lald (pc := 43) (v := v_5) (k := (m_at).toInt.toNat) C 3 2 rfl rfl (i_nn (by omega)) rfl (i_lt_n (by omega) (by omega)) ev_5 dX11_takeNumber_43 ?_
        refine j_iload_n (pc := 44) C dX11_takeNumber_44 rfl 1 rfl ?_
        refine j_i2l (pc := 45) C dX11_takeNumber_45 rfl ?_
        obtain ⟨v_6, ev_6⟩ : ∃ z : Int32, lc v_5 ((p0).toInt64) = z := ⟨_, rfl⟩
        have hv_6 := lc_eq ev_6
        refine j_lcmp (pc := 46) (v := v_6) C dX11_takeNumber_46 ev_6 ?_
        refine j_if_lt (pc := 47) (tgt := 65) C dX11_takeNumber_47 (by decide) (fun c_7 => ?_) (fun c_7 => ?_)
        · skip
          have el_0 : (0 : Int32).toInt = 0 := rfl
          rw [i_lt] at c_7
          refine j_aload_n (pc := 65) C dX11_takeNumber_65 rfl 0 rfl ?_
          refine j_iconst (pc := 66) (v := 4) C dX11_takeNumber_66 (by decide) ?_
          refine j_callV (pc := 67) (As := [.int 4]) (rest := []) (wr := [(msort, .inl (cyI, 1002, .inl m_sort)), (mvalue, .inl (cyJ, 1002, .inr (.inl m_value)))]) C (c_X11_wrong l D cyC cyI cyJ cyZ cyO m0 mplace mtape msort mvalue mwords mtold mop marg mnames mhasHabit mfactWords mfacts mpile mstates misMarked mrow mthr mmays mtall mweights mrowOfWare mneededOf mtried mbestRow mdigits 4 m_thrown m_taped m_size m_at m_fault m_codes m_isNew m_inShelf m_inStack m_inPlace m_rowMany m_goShelf m_goStack m_goLeft m_bestCost m_bestMany m_bestShelf m_bestSet m_place (by omega) (by omega) (by omega) (by omega) (by omega) (by omega) (by omega) (by omega) (by omega) (by omega) (by omega) (by omega) (by omega) (by decide) h_m_place) wd_657 wd_624 wd_658 wd_659 wd_660 ⟨by decide, by decide, rfl⟩ rfl ⟨rfl, rfl, by decide, by decide⟩ ⟨by decide, by decide⟩ [0, 2] [1, 3] rfl rfl ⟨by decide, by decide, by decide⟩ 0 rfl rfl rfl (Nat.le_of_ble_eq_true rfl) dX11_takeNumber_67 (fun u_8 hw_9 => ?_)
          refine j_eq (ws2 := [(msort, .inl (cyI, 1002, .inl m_sort)), (mvalue, .inl (cyJ, 1002, .inr (.inl m_value))), (m0, .inr (11, [.int m_thrown, .ref mtape, .int m_taped, .int m_size, .ref msort, .ref mplace, .ref mvalue, .int m_at, .int (u_8.2.1 0), .ref mwords, .ref mtold, .ref mop, .ref marg, .int m_codes, .ref mnames, .ref mhasHabit, .int m_isNew, .ref mfactWords, .ref mfacts, .ref mpile, .ref mstates, .ref misMarked, .int m_inShelf, .int m_inStack, .int m_inPlace, .ref mrow, .int m_rowMany, .ref mthr, .ref mmays, .ref mtall, .ref mweights, .ref mrowOfWare, .ref mneededOf, .int m_goShelf, .int m_goStack, .int m_goLeft, .ref mtried, .ref mbestRow, .int m_bestCost, .int m_bestMany, .int m_bestShelf, .int m_bestSet, .ref mdigits])), (mplace, .inl (cyI, 1002, .inl m_place))]) (pc2 := 70) (lv2 := [(0, .ref m0), (1, .int p0), (2, .int p1)]) (st2 := []) rfl rfl rfl rfl ?_
          have hw_9_0 : 1 ≤ (u_8.2.1 0).toInt ∧ (u_8.2.1 0).toInt ≤ 16005 := hw_9
          refine j_aload_n (pc := 70) C dX11_takeNumber_70 rfl 0 rfl ?_
          refine j_get (pc := 71) (ci := 11) (v := .int (u_8.2.1 0)) C inw_11 2 rfl rfl 8 (by decide) wd_638 rfl rfl dX11_takeNumber_71 ?_
          have el_0 : (0 : Int32).toInt = 0 := rfl
          refine j_if_le_f (pc := 74) (tgt := 79) C dX11_takeNumber_74 (by decide) (by rw [i_le]; omega) ?_
          refine j_iconst (pc := 77) (v := 0) C dX11_takeNumber_77 (by decide) ?_
          have el_0 : (0 : Int32).toInt = 0 := rfl
          have el_0 : (0 : Int32).toInt = 0 := rfl
          have el_0 : (0 : Int32).toInt = 0 := rfl
          have el_0 : (0 : Int32).toInt = 0 := rfl
          exact j_iret (pc := 78) C hr hk (fun i => [].getD i 0, fun i => [0, m_at, (u_8.2.1 0)].getD i 0, fun i => [].getD i (fun _ => 0), fun i => [].getD i (fun _ => 0)) rfl (show (0 ≤ (m_at).toInt ∧ (m_at).toInt ≤ 1000) ∧ (0 ≤ ((u_8.2.1 0)).toInt ∧ ((u_8.2.1 0)).toInt ≤ 16005) ∧ ((m_at).toInt ≤ (m_at).toInt) ∧ ((m_at).toInt ≤ ((eN m_sort : Nat) : Int)) ∧ ((m_fault).toInt = 0 ∨ ¬ ((u_8.2.1 0)).toInt = 0) ∧ ((0 : Int32).toInt = 0 ∨ (p0).toInt ≤ (0 : Int32).toInt ∧ (0 : Int32).toInt ≤ (p1).toInt) from ⟨by omega, by omega, by omega, by omega, by omega, by omega⟩) [2, 0, 3, 1] (by decide) rfl (by decide) (by decide) dX11_takeNumber_78
        · skip
          have el_0 : (0 : Int32).toInt = 0 := rfl
          rw [i_lt] at c_7
          refine j_aload_n (pc := 50) C dX11_takeNumber_50 rfl 0 rfl ?_
          refine j_get (pc := 51) (ci := 11) (v := .ref mvalue) C inw_11 0 rfl rfl 6 (by decide) wd_645 rfl rfl dX11_takeNumber_51 ?_
          refine j_aload_n (pc := 54) C dX11_takeNumber_54 rfl 0 rfl ?_
          refine j_get (pc := 55) (ci := 11) (v := .int m_at) C inw_11 0 rfl rfl 7 (by decide) wd_637 rfl rfl dX11_takeNumber_55 ?_
          refine j_lald (pc := 58) (v := v_5) (k := (m_at).toInt.toNat) C 3 2 rfl rfl (i_nn (by omega)) rfl (i_lt_n (by omega) (by omega)) ev_5 dX11_takeNumber_58 ?_
          refine j_iload_n (pc := 59) C dX11_takeNumber_59 rfl 2 rfl ?_
          refine j_i2l (pc := 60) C dX11_takeNumber_60 rfl ?_
          obtain ⟨v_10, ev_10⟩ : ∃ z : Int32, lc v_5 ((p1).toInt64) = z := ⟨_, rfl⟩
          have hv_10 := lc_eq ev_10
          refine j_lcmp (pc := 61) (v := v_10) C dX11_takeNumber_61 ev_10 ?_
          refine j_if_le (pc := 62) (tgt := 70) C dX11_takeNumber_62 (by decide) (fun c_11 => ?_) (fun c_11 => ?_)
          · skip
            have el_0 : (0 : Int32).toInt = 0 := rfl
            rw [i_le] at c_11
            refine j_aload_n (pc := 70) C dX11_takeNumber_70 rfl 0 rfl ?_
            refine j_get (pc := 71) (ci := 11) (v := .int m_fault) C inw_11 0 rfl rfl 8 (by decide) wd_638 rfl rfl dX11_takeNumber_71 ?_
            have el_0 : (0 : Int32).toInt = 0 := rfl
            refine j_if_le_t (pc := 74) (tgt := 79) C dX11_takeNumber_74 (by decide) (by rw [i_le]; omega) ?_
            refine j_aload_n (pc := 79) C dX11_takeNumber_79 rfl 0 rfl ?_
            refine j_dup (pc := 80) C dX11_takeNumber_80 rfl ?_
            refine j_get (pc := 81) (ci := 11) (v := .int m_at) C inw_11 0 rfl rfl 7 (by decide) wd_637 rfl rfl dX11_takeNumber_81 ?_
            refine j_iconst (pc := 84) (v := 1) C dX11_takeNumber_84 (by decide) ?_
            obtain ⟨v_12, ev_12⟩ : ∃ z : Int32, m_at + 1 = z := ⟨_, rfl⟩
            have el_1 : (1 : Int32).toInt = 1 := rfl
            have hv_12 : v_12.toInt = m_at.toInt + (1 : Int32).toInt := by rw [← ev_12]; exact fb_addI (by omega) (by omega)
            refine j_iadd (pc := 85) (v := v_12) C dX11_takeNumber_85 ev_12 ?_
            refine j_put (pc := 86) (ci := 11) (v := .int v_12) (ws' := [(m0, .inr (11, [.int m_thrown, .ref mtape, .int m_taped, .int m_size, .ref msort, .ref mplace, .ref mvalue, .int v_12, .int m_fault, .ref mwords, .ref mtold, .ref mop, .ref marg, .int m_codes, .ref mnames, .ref mhasHabit, .int m_isNew, .ref mfactWords, .ref mfacts, .ref mpile, .ref mstates, .ref misMarked, .int m_inShelf, .int m_inStack, .int m_inPlace, .ref mrow, .int m_rowMany, .ref mthr, .ref mmays, .ref mtall, .ref mweights, .ref mrowOfWare, .ref mneededOf, .int m_goShelf, .int m_goStack, .int m_goLeft, .ref mtried, .ref mbestRow, .int m_bestCost, .int m_bestMany, .int m_bestShelf, .int m_bestSet, .ref mdigits])), (msort, .inl (cyI, 1002, .inl m_sort)), (mplace, .inl (cyI, 1002, .inl m_place)), (mvalue, .inl (cyJ, 1002, .inr (.inl m_value)))]) C inw_11 0 rfl rfl 7 (by decide) wd_637 rfl tyX11_ok nmX11 rfl (tyX11_ok 7 (by decide)) rfl rfl (Nat.le_of_ble_eq_true rfl) dX11_takeNumber_86 rfl ?_
            refine j_aload_n (pc := 89) C dX11_takeNumber_89 rfl 0 rfl ?_
            refine j_get (pc := 90) (ci := 11) (v := .ref mvalue) C inw_11 0 rfl rfl 6 (by decide) wd_645 rfl rfl dX11_takeNumber_90 ?_
            refine j_aload_n (pc := 93) C dX11_takeNumber_93 rfl 0 rfl ?_
            refine j_get (pc := 94) (ci := 11) (v := .int v_12) C inw_11 0 rfl rfl 7 (by decide) wd_637 rfl rfl dX11_takeNumber_94 ?_
            refine j_iconst (pc := 97) (v := 1) C dX11_takeNumber_97 (by decide) ?_
            obtain ⟨v_13, ev_13⟩ : ∃ z : Int32, v_12 - 1 = z := ⟨_, rfl⟩
            have el_1 : (1 : Int32).toInt = 1 := rfl
            have hv_13 : v_13.toInt = v_12.toInt - (1 : Int32).toInt := by rw [← ev_13]; exact fb_subI (by omega) (by omega)
            refine j_isub (pc := 98) (v := v_13) C dX11_takeNumber_98 ev_13 ?_
            refine j_lald (pc := 99) (v := v_5) (k := (v_13).toInt.toNat) C 3 2 rfl rfl (i_nn (by omega)) rfl (i_lt_n (by omega) (by omega)) (by rw [show (v_13).toInt.toNat = (m_at).toInt.toNat from (by omega)]; exact ev_5) dX11_takeNumber_99 ?_
            refine j_l2i (pc := 100) C dX11_takeNumber_100 rfl ?_
            exact j_iret (pc := 101) C hr hk (fun i => [].getD i 0, fun i => [(v_5).toInt32, v_12, m_fault].getD i 0, fun i => [].getD i (fun _ => 0), fun i => [].getD i (fun _ => 0)) rfl (show (0 ≤ (v_12).toInt ∧ (v_12).toInt ≤ 1000) ∧ (0 ≤ (m_fault).toInt ∧ (m_fault).toInt ≤ 16005) ∧ ((m_at).toInt ≤ (v_12).toInt) ∧ ((v_12).toInt ≤ ((eN m_sort : Nat) : Int)) ∧ ((m_fault).toInt = 0 ∨ ¬ (m_fault).toInt = 0) ∧ (((v_5).toInt32).toInt = 0 ∨ (p0).toInt ≤ ((v_5).toInt32).toInt ∧ ((v_5).toInt32).toInt ≤ (p1).toInt) from ⟨by omega, by omega, by omega, by omega, by omega, Or.inr (l2i_rng (fun q => absurd (hv_6.2.1.mpr q) (by rw [i_lt]; omega)) (by rcases (by omega : v_10.toInt < 0 ∨ v_10.toInt = 0) with q | q; (exact Or.inl (hv_10.2.1.mp ((i_lt _ _).mpr (by omega)))); (exact Or.inr (hv_10.1.mp ((i_eq _ _).mpr (by omega))))))⟩) [0, 1, 2, 3] (by decide) rfl (by decide) (by decide) dX11_takeNumber_101
          · skip
            have el_0 : (0 : Int32).toInt = 0 := rfl
            rw [i_le] at c_11
            refine j_aload_n (pc := 65) C dX11_takeNumber_65 rfl 0 rfl ?_
            refine j_iconst (pc := 66) (v := 4) C dX11_takeNumber_66 (by decide) ?_
            refine j_callV (pc := 67) (As := [.int 4]) (rest := []) (wr := [(msort, .inl (cyI, 1002, .inl m_sort)), (mvalue, .inl (cyJ, 1002, .inr (.inl m_value)))]) C (c_X11_wrong l D cyC cyI cyJ cyZ cyO m0 mplace mtape msort mvalue mwords mtold mop marg mnames mhasHabit mfactWords mfacts mpile mstates misMarked mrow mthr mmays mtall mweights mrowOfWare mneededOf mtried mbestRow mdigits 4 m_thrown m_taped m_size m_at m_fault m_codes m_isNew m_inShelf m_inStack m_inPlace m_rowMany m_goShelf m_goStack m_goLeft m_bestCost m_bestMany m_bestShelf m_bestSet m_place (by omega) (by omega) (by omega) (by omega) (by omega) (by omega) (by omega) (by omega) (by omega) (by omega) (by omega) (by omega) (by omega) (by decide) h_m_place) wd_657 wd_624 wd_658 wd_659 wd_660 ⟨by decide, by decide, rfl⟩ rfl ⟨rfl, rfl, by decide, by decide⟩ ⟨by decide, by decide⟩ [0, 2] [1, 3] rfl rfl ⟨by decide, by decide, by decide⟩ 0 rfl rfl rfl (Nat.le_of_ble_eq_true rfl) dX11_takeNumber_67 (fun u_14 hw_15 => ?_)
            refine j_eq (ws2 := [(msort, .inl (cyI, 1002, .inl m_sort)), (mvalue, .inl (cyJ, 1002, .inr (.inl m_value))), (m0, .inr (11, [.int m_thrown, .ref mtape, .int m_taped, .int m_size, .ref msort, .ref mplace, .ref mvalue, .int m_at, .int (u_14.2.1 0), .ref mwords, .ref mtold, .ref mop, .ref marg, .int m_codes, .ref mnames, .ref mhasHabit, .int m_isNew, .ref mfactWords, .ref mfacts, .ref mpile, .ref mstates, .ref misMarked, .int m_inShelf, .int m_inStack, .int m_inPlace, .ref mrow, .int m_rowMany, .ref mthr, .ref mmays, .ref mtall, .ref mweights, .ref mrowOfWare, .ref mneededOf, .int m_goShelf, .int m_goStack, .int m_goLeft, .ref mtried, .ref mbestRow, .int m_bestCost, .int m_bestMany, .int m_bestShelf, .int m_bestSet, .ref mdigits])), (mplace, .inl (cyI, 1002, .inl m_place))]) (pc2 := 70) (lv2 := [(0, .ref m0), (1, .int p0), (2, .int p1)]) (st2 := []) rfl rfl rfl rfl ?_
            have hw_15_0 : 1 ≤ (u_14.2.1 0).toInt ∧ (u_14.2.1 0).toInt ≤ 16005 := hw_15
            refine j_aload_n (pc := 70) C dX11_takeNumber_70 rfl 0 rfl ?_
            refine j_get (pc := 71) (ci := 11) (v := .int (u_14.2.1 0)) C inw_11 2 rfl rfl 8 (by decide) wd_638 rfl rfl dX11_takeNumber_71 ?_
            have el_0 : (0 : Int32).toInt = 0 := rfl
            refine j_if_le_f (pc := 74) (tgt := 79) C dX11_takeNumber_74 (by decide) (by rw [i_le]; omega) ?_
            refine j_iconst (pc := 77) (v := 0) C dX11_takeNumber_77 (by decide) ?_
            have el_0 : (0 : Int32).toInt = 0 := rfl
            have el_0 : (0 : Int32).toInt = 0 := rfl
            have el_0 : (0 : Int32).toInt = 0 := rfl
            have el_0 : (0 : Int32).toInt = 0 := rfl
            exact j_iret (pc := 78) C hr hk (fun i => [].getD i 0, fun i => [0, m_at, (u_14.2.1 0)].getD i 0, fun i => [].getD i (fun _ => 0), fun i => [].getD i (fun _ => 0)) rfl (show (0 ≤ (m_at).toInt ∧ (m_at).toInt ≤ 1000) ∧ (0 ≤ ((u_14.2.1 0)).toInt ∧ ((u_14.2.1 0)).toInt ≤ 16005) ∧ ((m_at).toInt ≤ (m_at).toInt) ∧ ((m_at).toInt ≤ ((eN m_sort : Nat) : Int)) ∧ ((m_fault).toInt = 0 ∨ ¬ ((u_14.2.1 0)).toInt = 0) ∧ ((0 : Int32).toInt = 0 ∨ (p0).toInt ≤ (0 : Int32).toInt ∧ (0 : Int32).toInt ≤ (p1).toInt) from ⟨by omega, by omega, by omega, by omega, by omega, by omega⟩) [2, 0, 3, 1] (by decide) rfl (by decide) (by decide) dX11_takeNumber_78
    · skip
      have el_2 : (2 : Int32).toInt = 2 := rfl
      rw [i_eq] at c_3
      refine j_aload_n (pc := 20) C dX11_takeNumber_20 rfl 0 rfl ?_
      refine j_iconst (pc := 21) (v := 1) C dX11_takeNumber_21 (by decide) ?_
      refine j_callV (pc := 22) (As := [.int 1]) (rest := []) (wr := [(msort, .inl (cyI, 1002, .inl m_sort)), (mvalue, .inl (cyJ, 1002, .inr (.inl m_value)))]) C (c_X11_wrong l D cyC cyI cyJ cyZ cyO m0 mplace mtape msort mvalue mwords mtold mop marg mnames mhasHabit mfactWords mfacts mpile mstates misMarked mrow mthr mmays mtall mweights mrowOfWare mneededOf mtried mbestRow mdigits 1 m_thrown m_taped m_size m_at m_fault m_codes m_isNew m_inShelf m_inStack m_inPlace m_rowMany m_goShelf m_goStack m_goLeft m_bestCost m_bestMany m_bestShelf m_bestSet m_place (by omega) (by omega) (by omega) (by omega) (by omega) (by omega) (by omega) (by omega) (by omega) (by omega) (by omega) (by omega) (by omega) (by decide) h_m_place) wd_657 wd_624 wd_658 wd_659 wd_660 ⟨by decide, by decide, rfl⟩ rfl ⟨rfl, rfl, by decide, by decide⟩ ⟨by decide, by decide⟩ [0, 2] [1, 3] rfl rfl ⟨by decide, by decide, by decide⟩ 0 rfl rfl rfl (Nat.le_of_ble_eq_true rfl) dX11_takeNumber_22 (fun u_16 hw_17 => ?_)
      refine j_eq (ws2 := [(msort, .inl (cyI, 1002, .inl m_sort)), (mvalue, .inl (cyJ, 1002, .inr (.inl m_value))), (m0, .inr (11, [.int m_thrown, .ref mtape, .int m_taped, .int m_size, .ref msort, .ref mplace, .ref mvalue, .int m_at, .int (u_16.2.1 0), .ref mwords, .ref mtold, .ref mop, .ref marg, .int m_codes, .ref mnames, .ref mhasHabit, .int m_isNew, .ref mfactWords, .ref mfacts, .ref mpile, .ref mstates, .ref misMarked, .int m_inShelf, .int m_inStack, .int m_inPlace, .ref mrow, .int m_rowMany, .ref mthr, .ref mmays, .ref mtall, .ref mweights, .ref mrowOfWare, .ref mneededOf, .int m_goShelf, .int m_goStack, .int m_goLeft, .ref mtried, .ref mbestRow, .int m_bestCost, .int m_bestMany, .int m_bestShelf, .int m_bestSet, .ref mdigits])), (mplace, .inl (cyI, 1002, .inl m_place))]) (pc2 := 25) (lv2 := [(0, .ref m0), (1, .int p0), (2, .int p1)]) (st2 := []) rfl rfl rfl rfl ?_
      have hw_17_0 : 1 ≤ (u_16.2.1 0).toInt ∧ (u_16.2.1 0).toInt ≤ 16005 := hw_17
      refine j_goto (pc := 25) (tgt := 70) C dX11_takeNumber_25 (by decide) ?_
      refine j_aload_n (pc := 70) C dX11_takeNumber_70 rfl 0 rfl ?_
      refine j_get (pc := 71) (ci := 11) (v := .int (u_16.2.1 0)) C inw_11 2 rfl rfl 8 (by decide) wd_638 rfl rfl dX11_takeNumber_71 ?_
      have el_0 : (0 : Int32).toInt = 0 := rfl
      refine j_if_le_f (pc := 74) (tgt := 79) C dX11_takeNumber_74 (by decide) (by rw [i_le]; omega) ?_
      refine j_iconst (pc := 77) (v := 0) C dX11_takeNumber_77 (by decide) ?_
      have el_0 : (0 : Int32).toInt = 0 := rfl
      have el_0 : (0 : Int32).toInt = 0 := rfl
      have el_0 : (0 : Int32).toInt = 0 := rfl
      have el_0 : (0 : Int32).toInt = 0 := rfl
      exact j_iret (pc := 78) C hr hk (fun i => [].getD i 0, fun i => [0, m_at, (u_16.2.1 0)].getD i 0, fun i => [].getD i (fun _ => 0), fun i => [].getD i (fun _ => 0)) rfl (show (0 ≤ (m_at).toInt ∧ (m_at).toInt ≤ 1000) ∧ (0 ≤ ((u_16.2.1 0)).toInt ∧ ((u_16.2.1 0)).toInt ≤ 16005) ∧ ((m_at).toInt ≤ (m_at).toInt) ∧ ((m_at).toInt ≤ ((eN m_sort : Nat) : Int)) ∧ ((m_fault).toInt = 0 ∨ ¬ ((u_16.2.1 0)).toInt = 0) ∧ ((0 : Int32).toInt = 0 ∨ (p0).toInt ≤ (0 : Int32).toInt ∧ (0 : Int32).toInt ≤ (p1).toInt) from ⟨by omega, by omega, by omega, by omega, by omega, by omega⟩) [2, 0, 3, 1] (by decide) rfl (by decide) (by decide) dX11_takeNumber_78
set_option maxHeartbeats 4000000 in
set_option maxRecDepth 100000 in
theorem c_X11_isName (l : Launch) (D : DG) (cyC cyI cyJ cyZ cyO : ClassId) (m0 : Nat) (msort : Nat) (mvalue : Nat) (mwords : Nat) (mtape : Nat) (mplace : Nat) (mtold : Nat) (mop : Nat) (marg : Nat) (mnames : Nat) (mhasHabit : Nat) (mfactWords : Nat) (mfacts : Nat) (mpile : Nat) (mstates : Nat) (misMarked : Nat) (mrow : Nat) (mthr : Nat) (mmays : Nat) (mtall : Nat) (mweights : Nat) (mrowOfWare : Nat) (mneededOf : Nat) (mtried : Nat) (mbestRow : Nat) (mdigits : Nat) (m_thrown : Int32) (m_taped : Int32) (m_size : Int32) (m_at : Int32) (m_fault : Int32) (m_codes : Int32) (m_isNew : Int32) (m_inShelf : Int32) (m_inStack : Int32) (m_inPlace : Int32) (m_rowMany : Int32) (m_goShelf : Int32) (m_goStack : Int32) (m_goLeft : Int32) (m_bestCost : Int32) (m_bestMany : Int32) (m_bestShelf : Int32) (m_bestSet : Int32) (m_sort : Nat → Int32) (m_value : Nat → Int64) (m_words : Nat → Int64) (h_m_taped : 0 ≤ (m_taped).toInt ∧ (m_taped).toInt ≤ 1000) (h_m_size : 0 ≤ (m_size).toInt ∧ (m_size).toInt ≤ 1000) (h_m_at : 0 ≤ (m_at).toInt ∧ (m_at).toInt ≤ 1000) (h_m_fault : 0 ≤ (m_fault).toInt ∧ (m_fault).toInt ≤ 16005) (h_m_codes : 0 ≤ (m_codes).toInt ∧ (m_codes).toInt ≤ 1000) (h_m_isNew : 0 ≤ (m_isNew).toInt ∧ (m_isNew).toInt ≤ 1) (h_m_inShelf : 0 ≤ (m_inShelf).toInt ∧ (m_inShelf).toInt ≤ 3) (h_m_inStack : 0 ≤ (m_inStack).toInt ∧ (m_inStack).toInt ≤ 7) (h_m_inPlace : 0 ≤ (m_inPlace).toInt ∧ (m_inPlace).toInt ≤ 11) (h_m_rowMany : 0 ≤ (m_rowMany).toInt ∧ (m_rowMany).toInt ≤ 12) (h_m_goShelf : -1 ≤ (m_goShelf).toInt ∧ (m_goShelf).toInt ≤ 3) (h_m_bestMany : 0 ≤ (m_bestMany).toInt ∧ (m_bestMany).toInt ≤ 7) (h_m_bestShelf : 0 ≤ (m_bestShelf).toInt ∧ (m_bestShelf).toInt ≤ 3) (hN1 : eN m_sort ≤ 1000) (hN2 : (m_at).toInt ≤ ((eN m_sort : Nat) : Int)) : KK l D (TY cyC cyI cyJ cyZ cyO) yX11_isName cX11_isName 3 (some .boolean) ({ frames := 0, cells := 0, slots := 0, locals := 0 } : Room) 0 0 [.ref m0] [(m0, .inr (11, [.int m_thrown, .ref mtape, .int m_taped, .int m_size, .ref msort, .ref mplace, .ref mvalue, .int m_at, .int m_fault, .ref mwords, .ref mtold, .ref mop, .ref marg, .int m_codes, .ref mnames, .ref mhasHabit, .int m_isNew, .ref mfactWords, .ref mfacts, .ref mpile, .ref mstates, .ref misMarked, .int m_inShelf, .int m_inStack, .int m_inPlace, .ref mrow, .int m_rowMany, .ref mthr, .ref mmays, .ref mtall, .ref mweights, .ref mrowOfWare, .ref mneededOf, .int m_goShelf, .int m_goStack, .int m_goLeft, .ref mtried, .ref mbestRow, .int m_bestCost, .int m_bestMany, .int m_bestShelf, .int m_bestSet, .ref mdigits])), (msort, .inl (cyI, 1002, .inl m_sort)), (mvalue, .inl (cyJ, 1002, .inr (.inl m_value))), (mwords, .inl (cyJ, 23, .inr (.inl m_words)))] (fun u => some (.int (u.2.1 0))) (fun u => (0 ≤ (u.2.1 0).toInt ∧ (u.2.1 0).toInt ≤ 1) ∧ ((u.2.1 0).toInt = 0 ∨ (m_at).toInt < ((eN m_sort : Nat) : Int) ∧ (m_fault).toInt = 0)) (fun u => [(m0, .inr (11, [.int m_thrown, .ref mtape, .int m_taped, .int m_size, .ref msort, .ref mplace, .ref mvalue, .int m_at, .int m_fault, .ref mwords, .ref mtold, .ref mop, .ref marg, .int m_codes, .ref mnames, .ref mhasHabit, .int m_isNew, .ref mfactWords, .ref mfacts, .ref mpile, .ref mstates, .ref misMarked, .int m_inShelf, .int m_inStack, .int m_inPlace, .ref mrow, .int m_rowMany, .ref mthr, .ref mmays, .ref mtall, .ref mweights, .ref mrowOfWare, .ref mneededOf, .int m_goShelf, .int m_goStack, .int m_goLeft, .ref mtried, .ref mbestRow, .int m_bestCost, .int m_bestMany, .int m_bestShelf, .int m_bestSet, .ref mdigits])), (msort, .inl (cyI, 1002, .inl m_sort)), (mvalue, .inl (cyJ, 1002, .inr (.inl m_value))), (mwords, .inl (cyJ, 23, .inr (.inl m_words)))]) := by
  refine KK.of (lv0 := [(0, .ref m0)]) (by decide) rfl (Nat.le_of_ble_eq_true rfl) ?_
  intro p e s m args below meth c A C hr hk hin
  refine j_aload_n (pc := 0) C dX11_isName_0 rfl 0 rfl ?_
  refine j_get (pc := 1) (ci := 11) (v := .int m_fault) C inw_11 0 rfl rfl 8 (by decide) wd_638 rfl rfl dX11_isName_1 ?_
  refine j_if_ne (pc := 4) (tgt := 24) C dX11_isName_4 (by decide) (fun c_1 => ?_) (fun c_1 => ?_)
  · skip
    have el_0 : (0 : Int32).toInt = 0 := rfl
    rw [i_eq] at c_1
    refine j_iconst (pc := 24) (v := 0) C dX11_isName_24 (by decide) ?_
    refine j_istore_n (pc := 25) (lv' := [(1, .int 0), (0, .ref m0)]) C dX11_isName_25 rfl (by decide) rfl ?_
    refine j_iconst (pc := 26) (v := 0) C dX11_isName_26 (by decide) ?_
    refine j_istore_n (pc := 27) (lv' := [(2, .int 0), (1, .int 0), (0, .ref m0)]) C dX11_isName_27 rfl (by decide) rfl ?_
    have loop_2 : ∀ (k_2 : Nat) (x2_2 : Int32) (x2_1 : Int32), (0 ≤ (x2_2).toInt ∧ (x2_2).toInt ≤ 17) → (0 ≤ (x2_1).toInt ∧ (x2_1).toInt ≤ 1) → (x2_1.toInt = 0 ∨ (m_at).toInt < ((eN m_sort : Nat) : Int) ∧ (m_fault).toInt = 0) → (17 - x2_2.toInt).toNat < k_2 → J p l e ({ frames := 0, cells := 0, slots := 0, locals := 0 } : Room) s m args below meth c D A 3 0 0 (QX below D (TY cyC cyI cyJ cyZ cyO) A (fun u => some (.int (u.2.1 0))) (fun u => (0 ≤ (u.2.1 0).toInt ∧ (u.2.1 0).toInt ≤ 1) ∧ ((u.2.1 0).toInt = 0 ∨ (m_at).toInt < ((eN m_sort : Nat) : Int) ∧ (m_fault).toInt = 0)) (fun u => [(m0, .inr (11, [.int m_thrown, .ref mtape, .int m_taped, .int m_size, .ref msort, .ref mplace, .ref mvalue, .int m_at, .int m_fault, .ref mwords, .ref mtold, .ref mop, .ref marg, .int m_codes, .ref mnames, .ref mhasHabit, .int m_isNew, .ref mfactWords, .ref mfacts, .ref mpile, .ref mstates, .ref misMarked, .int m_inShelf, .int m_inStack, .int m_inPlace, .ref mrow, .int m_rowMany, .ref mthr, .ref mmays, .ref mtall, .ref mweights, .ref mrowOfWare, .ref mneededOf, .int m_goShelf, .int m_goStack, .int m_goLeft, .ref mtried, .ref mbestRow, .int m_bestCost, .int m_bestMany, .int m_bestShelf, .int m_bestSet, .ref mdigits])), (msort, .inl (cyI, 1002, .inl m_sort)), (mvalue, .inl (cyJ, 1002, .inr (.inl m_value))), (mwords, .inl (cyJ, 23, .inr (.inl m_words)))]) args s 0 0) [(m0, .inr (11, [.int m_thrown, .ref mtape, .int m_taped, .int m_size, .ref msort, .ref mplace, .ref mvalue, .int m_at, .int m_fault, .ref mwords, .ref mtold, .ref mop, .ref marg, .int m_codes, .ref mnames, .ref mhasHabit, .int m_isNew, .ref mfactWords, .ref mfacts, .ref mpile, .ref mstates, .ref misMarked, .int m_inShelf, .int m_inStack, .int m_inPlace, .ref mrow, .int m_rowMany, .ref mthr, .ref mmays, .ref mtall, .ref mweights, .ref mrowOfWare, .ref mneededOf, .int m_goShelf, .int m_goStack, .int m_goLeft, .ref mtried, .ref mbestRow, .int m_bestCost, .int m_bestMany, .int m_bestShelf, .int m_bestSet, .ref mdigits])), (msort, .inl (cyI, 1002, .inl m_sort)), (mvalue, .inl (cyJ, 1002, .inr (.inl m_value))), (mwords, .inl (cyJ, 23, .inr (.inl m_words)))] 28 [(2, .int x2_2), (1, .int x2_1), (0, .ref m0)] [] := by
      intro k_2
      induction k_2 with
      | zero =>
        intro x2_2 x2_1 hi_2_0 hi_2_1 hr_2 hm_2
        exact absurd hm_2 (Nat.not_lt_zero _)
      | succ k_2 ih_2 =>
        intro x2_2 x2_1 hi_2_0 hi_2_1 hr_2 hm_2
        refine j_iload_n (pc := 28) C dX11_isName_28 rfl 0 rfl ?_
        refine j_bipush (pc := 29) (v := 17) C dX11_isName_29 (by decide) ?_
        refine j_icmp_ge (pc := 31) (tgt := 69) C dX11_isName_31 (by decide) (fun c_3 => ?_) (fun c_3 => ?_)
        · skip
          have el_17 : (17 : Int32).toInt = 17 := rfl
          rw [i_le] at c_3
          refine j_iload_n (pc := 69) C dX11_isName_69 rfl 1 rfl ?_
          exact j_zret (pc := 70) C hr (nb_01 ⟨by omega, by omega⟩).1 hk (fun i => [].getD i 0, fun i => [x2_1].getD i 0, fun i => [].getD i (fun _ => 0), fun i => [].getD i (fun _ => 0)) rfl (show (0 ≤ (x2_1).toInt ∧ (x2_1).toInt ≤ 1) ∧ (x2_1.toInt = 0 ∨ (m_at).toInt < ((eN m_sort : Nat) : Int) ∧ (m_fault).toInt = 0) from ⟨by omega, by omega⟩) [0, 1, 2, 3] (by decide) rfl (by decide) (by decide) dX11_isName_70
        · skip
          have el_17 : (17 : Int32).toInt = 17 := rfl
          rw [i_le] at c_3
          refine j_iload_n (pc := 34) C dX11_isName_34 rfl 1 rfl ?_
          refine j_if_eq (pc := 35) (tgt := 61) C dX11_isName_35 (by decide) (fun c_4 => ?_) (fun c_4 => ?_)
          · skip
            have el_0 : (0 : Int32).toInt = 0 := rfl
            rw [i_eq] at c_4
            refine j_iconst (pc := 61) (v := 0) C dX11_isName_61 (by decide) ?_
            refine j_istore_n (pc := 62) (lv' := [(1, .int 0), (2, .int x2_2), (0, .ref m0)]) C dX11_isName_62 rfl (by decide) rfl ?_
            obtain ⟨v_5, ev_5⟩ : ∃ z : Int32, x2_2 + 1 = z := ⟨_, rfl⟩
            have el_1 : (1 : Int32).toInt = 1 := rfl
            have hv_5 : v_5.toInt = x2_2.toInt + (1 : Int32).toInt := by rw [← ev_5]; exact fb_addI (by omega) (by omega)
            refine j_iinc (pc := 63) (v := v_5) (lv' := [(2, .int v_5), (1, .int 0), (0, .ref m0)]) C dX11_isName_63 1 rfl ev_5 (by decide) rfl ?_
            refine j_goto (pc := 66) (tgt := 28) C dX11_isName_66 (by decide) ?_
            have el_0 : (0 : Int32).toInt = 0 := rfl
            exact j_lv [0, 1, 2] rfl (ih_2 v_5 0 (by omega) (by decide) (by omega) (by omega))
          · skip
            have el_0 : (0 : Int32).toInt = 0 := rfl
            rw [i_eq] at c_4
            refine j_aload_n (pc := 38) C dX11_isName_38 rfl 2 rfl ?_
            refine j_get (pc := 39) (ci := 11) (v := .ref mvalue) C inw_11 0 rfl rfl 6 (by decide) wd_645 rfl rfl dX11_isName_39 ?_
            refine j_aload_n (pc := 42) C dX11_isName_42 rfl 2 rfl ?_
            refine j_get (pc := 43) (ci := 11) (v := .int m_at) C inw_11 0 rfl rfl 7 (by decide) wd_637 rfl rfl dX11_isName_43 ?_
            obtain ⟨v_6, ev_6⟩ : ∃ z, m_value (m_at).toInt.toNat = z := ⟨_, rfl⟩
            refine j_lald (pc := 46) (v := v_6) (k := (m_at).toInt.toNat) C 2 2 rfl rfl (i_nn (by omega)) rfl (i_lt_n (by omega) (by omega)) ev_6 dX11_isName_46 ?_
            refine j_aload_n (pc := 47) C dX11_isName_47 rfl 2 rfl ?_
            refine j_get (pc := 48) (ci := 11) (v := .ref mwords) C inw_11 0 rfl rfl 9 (by decide) wd_652 rfl rfl dX11_isName_48 ?_
            refine j_iload_n (pc := 51) C dX11_isName_51 rfl 0 rfl ?_
            obtain ⟨v_7, ev_7⟩ : ∃ z, m_words (x2_2).toInt.toNat = z := ⟨_, rfl⟩
            refine j_lald (pc := 52) (v := v_7) (k := (x2_2).toInt.toNat) C 3 2 rfl rfl (i_nn (by omega)) rfl (i_lt_n (by omega) (by omega)) ev_7 dX11_isName_52 ?_
            obtain ⟨v_8, ev_8⟩ : ∃ z : Int32, lc v_6 v_7 = z := ⟨_, rfl⟩
            have hv_8 := lc_eq ev_8
            refine j_lcmp (pc := 53) (v := v_8) C dX11_isName_53 ev_8 ?_
            refine j_if_eq (pc := 54) (tgt := 61) C dX11_isName_54 (by decide) (fun c_9 => ?_) (fun c_9 => ?_)
            · skip
              have el_0 : (0 : Int32).toInt = 0 := rfl
              rw [i_eq] at c_9
              refine j_iconst (pc := 61) (v := 0) C dX11_isName_61 (by decide) ?_
              refine j_istore_n (pc := 62) (lv' := [(1, .int 0), (2, .int x2_2), (0, .ref m0)]) C dX11_isName_62 rfl (by decide) rfl ?_
              obtain ⟨v_10, ev_10⟩ : ∃ z : Int32, x2_2 + 1 = z := ⟨_, rfl⟩
              have el_1 : (1 : Int32).toInt = 1 := rfl
              have hv_10 : v_10.toInt = x2_2.toInt + (1 : Int32).toInt := by rw [← ev_10]; exact fb_addI (by omega) (by omega)
              refine j_iinc (pc := 63) (v := v_10) (lv' := [(2, .int v_10), (1, .int 0), (0, .ref m0)]) C dX11_isName_63 1 rfl ev_10 (by decide) rfl ?_
              refine j_goto (pc := 66) (tgt := 28) C dX11_isName_66 (by decide) ?_
              have el_0 : (0 : Int32).toInt = 0 := rfl
              exact j_lv [0, 1, 2] rfl (ih_2 v_10 0 (by omega) (by decide) (by omega) (by omega))
            · skip
              have el_0 : (0 : Int32).toInt = 0 := rfl
              rw [i_eq] at c_9
              refine j_iconst (pc := 57) (v := 1) C dX11_isName_57 (by decide) ?_
              refine j_goto (pc := 58) (tgt := 62) C dX11_isName_58 (by decide) ?_
              refine j_istore_n (pc := 62) (lv' := [(1, .int 1), (2, .int x2_2), (0, .ref m0)]) C dX11_isName_62 rfl (by decide) rfl ?_
              obtain ⟨v_11, ev_11⟩ : ∃ z : Int32, x2_2 + 1 = z := ⟨_, rfl⟩
              have el_1 : (1 : Int32).toInt = 1 := rfl
              have hv_11 : v_11.toInt = x2_2.toInt + (1 : Int32).toInt := by rw [← ev_11]; exact fb_addI (by omega) (by omega)
              refine j_iinc (pc := 63) (v := v_11) (lv' := [(2, .int v_11), (1, .int 1), (0, .ref m0)]) C dX11_isName_63 1 rfl ev_11 (by decide) rfl ?_
              refine j_goto (pc := 66) (tgt := 28) C dX11_isName_66 (by decide) ?_
              have el_1 : (1 : Int32).toInt = 1 := rfl
              exact j_lv [0, 1, 2] rfl (ih_2 v_11 1 (by omega) (by decide) (by omega) (by omega))
    have el_0 : (0 : Int32).toInt = 0 := rfl
    have el_0 : (0 : Int32).toInt = 0 := rfl
    exact j_lv [0, 1, 2] rfl (loop_2 4096 0 0 (by decide) (by decide) (by omega) (by omega))
  · skip
    have el_0 : (0 : Int32).toInt = 0 := rfl
    rw [i_eq] at c_1
    refine j_aload_n (pc := 7) C dX11_isName_7 rfl 0 rfl ?_
    refine j_get (pc := 8) (ci := 11) (v := .ref msort) C inw_11 0 rfl rfl 4 (by decide) wd_635 rfl rfl dX11_isName_8 ?_
    refine j_aload_n (pc := 11) C dX11_isName_11 rfl 0 rfl ?_
    refine j_get (pc := 12) (ci := 11) (v := .int m_at) C inw_11 0 rfl rfl 7 (by decide) wd_637 rfl rfl dX11_isName_12 ?_
    obtain ⟨v_12, ev_12⟩ : ∃ z, m_sort (m_at).toInt.toNat = z := ⟨_, rfl⟩
    have env_12 : (m_sort (m_at).toInt.toNat).toInt = v_12.toInt := by rw [ev_12]
    have hNv_12 := eN_rd (f := m_sort) (x := m_at) ev_12 (by omega) (by omega)
    refine j_iald (pc := 15) (v := v_12) (k := (m_at).toInt.toNat) C 1 1 rfl rfl (i_nn (by omega)) rfl (i_lt_n (by omega) (by omega)) ev_12 dX11_isName_15 ?_
    refine j_iconst (pc := 16) (v := 1) C dX11_isName_16 (by decide) ?_
    refine j_icmp_ne (pc := 17) (tgt := 24) C dX11_isName_17 (by decide) (fun c_13 => ?_) (fun c_13 => ?_)
    · skip
      have el_1 : (1 : Int32).toInt = 1 := rfl
      rw [i_eq] at c_13
      refine j_iconst (pc := 24) (v := 0) C dX11_isName_24 (by decide) ?_
      refine j_istore_n (pc := 25) (lv' := [(1, .int 0), (0, .ref m0)]) C dX11_isName_25 rfl (by decide) rfl ?_
      refine j_iconst (pc := 26) (v := 0) C dX11_isName_26 (by decide) ?_
      refine j_istore_n (pc := 27) (lv' := [(2, .int 0), (1, .int 0), (0, .ref m0)]) C dX11_isName_27 rfl (by decide) rfl ?_
      have loop_14 : ∀ (k_14 : Nat) (x14_2 : Int32) (x14_1 : Int32), (0 ≤ (x14_2).toInt ∧ (x14_2).toInt ≤ 17) → (0 ≤ (x14_1).toInt ∧ (x14_1).toInt ≤ 1) → (x14_1.toInt = 0 ∨ (m_at).toInt < ((eN m_sort : Nat) : Int) ∧ (m_fault).toInt = 0) → (17 - x14_2.toInt).toNat < k_14 → J p l e ({ frames := 0, cells := 0, slots := 0, locals := 0 } : Room) s m args below meth c D A 3 0 0 (QX below D (TY cyC cyI cyJ cyZ cyO) A (fun u => some (.int (u.2.1 0))) (fun u => (0 ≤ (u.2.1 0).toInt ∧ (u.2.1 0).toInt ≤ 1) ∧ ((u.2.1 0).toInt = 0 ∨ (m_at).toInt < ((eN m_sort : Nat) : Int) ∧ (m_fault).toInt = 0)) (fun u => [(m0, .inr (11, [.int m_thrown, .ref mtape, .int m_taped, .int m_size, .ref msort, .ref mplace, .ref mvalue, .int m_at, .int m_fault, .ref mwords, .ref mtold, .ref mop, .ref marg, .int m_codes, .ref mnames, .ref mhasHabit, .int m_isNew, .ref mfactWords, .ref mfacts, .ref mpile, .ref mstates, .ref misMarked, .int m_inShelf, .int m_inStack, .int m_inPlace, .ref mrow, .int m_rowMany, .ref mthr, .ref mmays, .ref mtall, .ref mweights, .ref mrowOfWare, .ref mneededOf, .int m_goShelf, .int m_goStack, .int m_goLeft, .ref mtried, .ref mbestRow, .int m_bestCost, .int m_bestMany, .int m_bestShelf, .int m_bestSet, .ref mdigits])), (msort, .inl (cyI, 1002, .inl m_sort)), (mvalue, .inl (cyJ, 1002, .inr (.inl m_value))), (mwords, .inl (cyJ, 23, .inr (.inl m_words)))]) args s 0 0) [(m0, .inr (11, [.int m_thrown, .ref mtape, .int m_taped, .int m_size, .ref msort, .ref mplace, .ref mvalue, .int m_at, .int m_fault, .ref mwords, .ref mtold, .ref mop, .ref marg, .int m_codes, .ref mnames, .ref mhasHabit, .int m_isNew, .ref mfactWords, .ref mfacts, .ref mpile, .ref mstates, .ref misMarked, .int m_inShelf, .int m_inStack, .int m_inPlace, .ref mrow, .int m_rowMany, .ref mthr, .ref mmays, .ref mtall, .ref mweights, .ref mrowOfWare, .ref mneededOf, .int m_goShelf, .int m_goStack, .int m_goLeft, .ref mtried, .ref mbestRow, .int m_bestCost, .int m_bestMany, .int m_bestShelf, .int m_bestSet, .ref mdigits])), (msort, .inl (cyI, 1002, .inl m_sort)), (mvalue, .inl (cyJ, 1002, .inr (.inl m_value))), (mwords, .inl (cyJ, 23, .inr (.inl m_words)))] 28 [(2, .int x14_2), (1, .int x14_1), (0, .ref m0)] [] := by
        intro k_14
        induction k_14 with
        | zero =>
          intro x14_2 x14_1 hi_14_0 hi_14_1 hr_14 hm_14
          exact absurd hm_14 (Nat.not_lt_zero _)
        | succ k_14 ih_14 =>
          intro x14_2 x14_1 hi_14_0 hi_14_1 hr_14 hm_14
          refine j_iload_n (pc := 28) C dX11_isName_28 rfl 0 rfl ?_
          refine j_bipush (pc := 29) (v := 17) C dX11_isName_29 (by decide) ?_
          refine j_icmp_ge (pc := 31) (tgt := 69) C dX11_isName_31 (by decide) (fun c_15 => ?_) (fun c_15 => ?_)
          · skip
            have el_17 : (17 : Int32).toInt = 17 := rfl
            rw [i_le] at c_15
            refine j_iload_n (pc := 69) C dX11_isName_69 rfl 1 rfl ?_
            exact j_zret (pc := 70) C hr (nb_01 ⟨by omega, by omega⟩).1 hk (fun i => [].getD i 0, fun i => [x14_1].getD i 0, fun i => [].getD i (fun _ => 0), fun i => [].getD i (fun _ => 0)) rfl (show (0 ≤ (x14_1).toInt ∧ (x14_1).toInt ≤ 1) ∧ (x14_1.toInt = 0 ∨ (m_at).toInt < ((eN m_sort : Nat) : Int) ∧ (m_fault).toInt = 0) from ⟨by omega, by omega⟩) [0, 1, 2, 3] (by decide) rfl (by decide) (by decide) dX11_isName_70
          · skip
            have el_17 : (17 : Int32).toInt = 17 := rfl
            rw [i_le] at c_15
            refine j_iload_n (pc := 34) C dX11_isName_34 rfl 1 rfl ?_
            refine j_if_eq (pc := 35) (tgt := 61) C dX11_isName_35 (by decide) (fun c_16 => ?_) (fun c_16 => ?_)
            · skip
              have el_0 : (0 : Int32).toInt = 0 := rfl
              rw [i_eq] at c_16
              refine j_iconst (pc := 61) (v := 0) C dX11_isName_61 (by decide) ?_
              refine j_istore_n (pc := 62) (lv' := [(1, .int 0), (2, .int x14_2), (0, .ref m0)]) C dX11_isName_62 rfl (by decide) rfl ?_
              obtain ⟨v_17, ev_17⟩ : ∃ z : Int32, x14_2 + 1 = z := ⟨_, rfl⟩
              have el_1 : (1 : Int32).toInt = 1 := rfl
              have hv_17 : v_17.toInt = x14_2.toInt + (1 : Int32).toInt := by rw [← ev_17]; exact fb_addI (by omega) (by omega)
              refine j_iinc (pc := 63) (v := v_17) (lv' := [(2, .int v_17), (1, .int 0), (0, .ref m0)]) C dX11_isName_63 1 rfl ev_17 (by decide) rfl ?_
              refine j_goto (pc := 66) (tgt := 28) C dX11_isName_66 (by decide) ?_
              have el_0 : (0 : Int32).toInt = 0 := rfl
              exact j_lv [0, 1, 2] rfl (ih_14 v_17 0 (by omega) (by decide) (by omega) (by omega))
            · skip
              have el_0 : (0 : Int32).toInt = 0 := rfl
              rw [i_eq] at c_16
              refine j_aload_n (pc := 38) C dX11_isName_38 rfl 2 rfl ?_
              refine j_get (pc := 39) (ci := 11) (v := .ref mvalue) C inw_11 0 rfl rfl 6 (by decide) wd_645 rfl rfl dX11_isName_39 ?_
              refine j_aload_n (pc := 42) C dX11_isName_42 rfl 2 rfl ?_
              refine j_get (pc := 43) (ci := 11) (v := .int m_at) C inw_11 0 rfl rfl 7 (by decide) wd_637 rfl rfl dX11_isName_43 ?_
              obtain ⟨v_18, ev_18⟩ : ∃ z, m_value (m_at).toInt.toNat = z := ⟨_, rfl⟩
              refine j_lald (pc := 46) (v := v_18) (k := (m_at).toInt.toNat) C 2 2 rfl rfl (i_nn (by omega)) rfl (i_lt_n (by omega) (by omega)) ev_18 dX11_isName_46 ?_
              refine j_aload_n (pc := 47) C dX11_isName_47 rfl 2 rfl ?_
              refine j_get (pc := 48) (ci := 11) (v := .ref mwords) C inw_11 0 rfl rfl 9 (by decide) wd_652 rfl rfl dX11_isName_48 ?_
              refine j_iload_n (pc := 51) C dX11_isName_51 rfl 0 rfl ?_
              obtain ⟨v_19, ev_19⟩ : ∃ z, m_words (x14_2).toInt.toNat = z := ⟨_, rfl⟩
              refine j_lald (pc := 52) (v := v_19) (k := (x14_2).toInt.toNat) C 3 2 rfl rfl (i_nn (by omega)) rfl (i_lt_n (by omega) (by omega)) ev_19 dX11_isName_52 ?_
              obtain ⟨v_20, ev_20⟩ : ∃ z : Int32, lc v_18 v_19 = z := ⟨_, rfl⟩
              have hv_20 := lc_eq ev_20
              refine j_lcmp (pc := 53) (v := v_20) C dX11_isName_53 ev_20 ?_
              refine j_if_eq (pc := 54) (tgt := 61) C dX11_isName_54 (by decide) (fun c_21 => ?_) (fun c_21 => ?_)
              · skip
                have el_0 : (0 : Int32).toInt = 0 := rfl
                rw [i_eq] at c_21
                refine j_iconst (pc := 61) (v := 0) C dX11_isName_61 (by decide) ?_
                refine j_istore_n (pc := 62) (lv' := [(1, .int 0), (2, .int x14_2), (0, .ref m0)]) C dX11_isName_62 rfl (by decide) rfl ?_
                obtain ⟨v_22, ev_22⟩ : ∃ z : Int32, x14_2 + 1 = z := ⟨_, rfl⟩
                have el_1 : (1 : Int32).toInt = 1 := rfl
                have hv_22 : v_22.toInt = x14_2.toInt + (1 : Int32).toInt := by rw [← ev_22]; exact fb_addI (by omega) (by omega)
                refine j_iinc (pc := 63) (v := v_22) (lv' := [(2, .int v_22), (1, .int 0), (0, .ref m0)]) C dX11_isName_63 1 rfl ev_22 (by decide) rfl ?_
                refine j_goto (pc := 66) (tgt := 28) C dX11_isName_66 (by decide) ?_
                have el_0 : (0 : Int32).toInt = 0 := rfl
                exact j_lv [0, 1, 2] rfl (ih_14 v_22 0 (by omega) (by decide) (by omega) (by omega))
              · skip
                have el_0 : (0 : Int32).toInt = 0 := rfl
                rw [i_eq] at c_21
                refine j_iconst (pc := 57) (v := 1) C dX11_isName_57 (by decide) ?_
                refine j_goto (pc := 58) (tgt := 62) C dX11_isName_58 (by decide) ?_
                refine j_istore_n (pc := 62) (lv' := [(1, .int 1), (2, .int x14_2), (0, .ref m0)]) C dX11_isName_62 rfl (by decide) rfl ?_
                obtain ⟨v_23, ev_23⟩ : ∃ z : Int32, x14_2 + 1 = z := ⟨_, rfl⟩
                have el_1 : (1 : Int32).toInt = 1 := rfl
                have hv_23 : v_23.toInt = x14_2.toInt + (1 : Int32).toInt := by rw [← ev_23]; exact fb_addI (by omega) (by omega)
                refine j_iinc (pc := 63) (v := v_23) (lv' := [(2, .int v_23), (1, .int 1), (0, .ref m0)]) C dX11_isName_63 1 rfl ev_23 (by decide) rfl ?_
                refine j_goto (pc := 66) (tgt := 28) C dX11_isName_66 (by decide) ?_
                have el_1 : (1 : Int32).toInt = 1 := rfl
                exact j_lv [0, 1, 2] rfl (ih_14 v_23 1 (by omega) (by decide) (by omega) (by omega))
      have el_0 : (0 : Int32).toInt = 0 := rfl
      have el_0 : (0 : Int32).toInt = 0 := rfl
      exact j_lv [0, 1, 2] rfl (loop_14 4096 0 0 (by decide) (by decide) (by omega) (by omega))
    · skip
      have el_1 : (1 : Int32).toInt = 1 := rfl
      rw [i_eq] at c_13
      refine j_iconst (pc := 20) (v := 1) C dX11_isName_20 (by decide) ?_
      refine j_goto (pc := 21) (tgt := 25) C dX11_isName_21 (by decide) ?_
      refine j_istore_n (pc := 25) (lv' := [(1, .int 1), (0, .ref m0)]) C dX11_isName_25 rfl (by decide) rfl ?_
      refine j_iconst (pc := 26) (v := 0) C dX11_isName_26 (by decide) ?_
      refine j_istore_n (pc := 27) (lv' := [(2, .int 0), (1, .int 1), (0, .ref m0)]) C dX11_isName_27 rfl (by decide) rfl ?_
      have loop_24 : ∀ (k_24 : Nat) (x24_2 : Int32) (x24_1 : Int32), (0 ≤ (x24_2).toInt ∧ (x24_2).toInt ≤ 17) → (0 ≤ (x24_1).toInt ∧ (x24_1).toInt ≤ 1) → (x24_1.toInt = 0 ∨ (m_at).toInt < ((eN m_sort : Nat) : Int) ∧ (m_fault).toInt = 0) → (17 - x24_2.toInt).toNat < k_24 → J p l e ({ frames := 0, cells := 0, slots := 0, locals := 0 } : Room) s m args below meth c D A 3 0 0 (QX below D (TY cyC cyI cyJ cyZ cyO) A (fun u => some (.int (u.2.1 0))) (fun u => (0 ≤ (u.2.1 0).toInt ∧ (u.2.1 0).toInt ≤ 1) ∧ ((u.2.1 0).toInt = 0 ∨ (m_at).toInt < ((eN m_sort : Nat) : Int) ∧ (m_fault).toInt = 0)) (fun u => [(m0, .inr (11, [.int m_thrown, .ref mtape, .int m_taped, .int m_size, .ref msort, .ref mplace, .ref mvalue, .int m_at, .int m_fault, .ref mwords, .ref mtold, .ref mop, .ref marg, .int m_codes, .ref mnames, .ref mhasHabit, .int m_isNew, .ref mfactWords, .ref mfacts, .ref mpile, .ref mstates, .ref misMarked, .int m_inShelf, .int m_inStack, .int m_inPlace, .ref mrow, .int m_rowMany, .ref mthr, .ref mmays, .ref mtall, .ref mweights, .ref mrowOfWare, .ref mneededOf, .int m_goShelf, .int m_goStack, .int m_goLeft, .ref mtried, .ref mbestRow, .int m_bestCost, .int m_bestMany, .int m_bestShelf, .int m_bestSet, .ref mdigits])), (msort, .inl (cyI, 1002, .inl m_sort)), (mvalue, .inl (cyJ, 1002, .inr (.inl m_value))), (mwords, .inl (cyJ, 23, .inr (.inl m_words)))]) args s 0 0) [(m0, .inr (11, [.int m_thrown, .ref mtape, .int m_taped, .int m_size, .ref msort, .ref mplace, .ref mvalue, .int m_at, .int m_fault, .ref mwords, .ref mtold, .ref mop, .ref marg, .int m_codes, .ref mnames, .ref mhasHabit, .int m_isNew, .ref mfactWords, .ref mfacts, .ref mpile, .ref mstates, .ref misMarked, .int m_inShelf, .int m_inStack, .int m_inPlace, .ref mrow, .int m_rowMany, .ref mthr, .ref mmays, .ref mtall, .ref mweights, .ref mrowOfWare, .ref mneededOf, .int m_goShelf, .int m_goStack, .int m_goLeft, .ref mtried, .ref mbestRow, .int m_bestCost, .int m_bestMany, .int m_bestShelf, .int m_bestSet, .ref mdigits])), (msort, .inl (cyI, 1002, .inl m_sort)), (mvalue, .inl (cyJ, 1002, .inr (.inl m_value))), (mwords, .inl (cyJ, 23, .inr (.inl m_words)))] 28 [(2, .int x24_2), (1, .int x24_1), (0, .ref m0)] [] := by
        intro k_24
        induction k_24 with
        | zero =>
          intro x24_2 x24_1 hi_24_0 hi_24_1 hr_24 hm_24
          exact absurd hm_24 (Nat.not_lt_zero _)
        | succ k_24 ih_24 =>
          intro x24_2 x24_1 hi_24_0 hi_24_1 hr_24 hm_24
          refine j_iload_n (pc := 28) C dX11_isName_28 rfl 0 rfl ?_
          refine j_bipush (pc := 29) (v := 17) C dX11_isName_29 (by decide) ?_
          refine j_icmp_ge (pc := 31) (tgt := 69) C dX11_isName_31 (by decide) (fun c_25 => ?_) (fun c_25 => ?_)
          · skip
            have el_17 : (17 : Int32).toInt = 17 := rfl
            rw [i_le] at c_25
            refine j_iload_n (pc := 69) C dX11_isName_69 rfl 1 rfl ?_
            exact j_zret (pc := 70) C hr (nb_01 ⟨by omega, by omega⟩).1 hk (fun i => [].getD i 0, fun i => [x24_1].getD i 0, fun i => [].getD i (fun _ => 0), fun i => [].getD i (fun _ => 0)) rfl (show (0 ≤ (x24_1).toInt ∧ (x24_1).toInt ≤ 1) ∧ (x24_1.toInt = 0 ∨ (m_at).toInt < ((eN m_sort : Nat) : Int) ∧ (m_fault).toInt = 0) from ⟨by omega, by omega⟩) [0, 1, 2, 3] (by decide) rfl (by decide) (by decide) dX11_isName_70
          · skip
            have el_17 : (17 : Int32).toInt = 17 := rfl
            rw [i_le] at c_25
            refine j_iload_n (pc := 34) C dX11_isName_34 rfl 1 rfl ?_
            refine j_if_eq (pc := 35) (tgt := 61) C dX11_isName_35 (by decide) (fun c_26 => ?_) (fun c_26 => ?_)
            · skip
              have el_0 : (0 : Int32).toInt = 0 := rfl
              rw [i_eq] at c_26
              refine j_iconst (pc := 61) (v := 0) C dX11_isName_61 (by decide) ?_
              refine j_istore_n (pc := 62) (lv' := [(1, .int 0), (2, .int x24_2), (0, .ref m0)]) C dX11_isName_62 rfl (by decide) rfl ?_
              obtain ⟨v_27, ev_27⟩ : ∃ z : Int32, x24_2 + 1 = z := ⟨_, rfl⟩
              have el_1 : (1 : Int32).toInt = 1 := rfl
              have hv_27 : v_27.toInt = x24_2.toInt + (1 : Int32).toInt := by rw [← ev_27]; exact fb_addI (by omega) (by omega)
              refine j_iinc (pc := 63) (v := v_27) (lv' := [(2, .int v_27), (1, .int 0), (0, .ref m0)]) C dX11_isName_63 1 rfl ev_27 (by decide) rfl ?_
              refine j_goto (pc := 66) (tgt := 28) C dX11_isName_66 (by decide) ?_
              have el_0 : (0 : Int32).toInt = 0 := rfl
              exact j_lv [0, 1, 2] rfl (ih_24 v_27 0 (by omega) (by decide) (by omega) (by omega))
            · skip
              have el_0 : (0 : Int32).toInt = 0 := rfl
              rw [i_eq] at c_26
              refine j_aload_n (pc := 38) C dX11_isName_38 rfl 2 rfl ?_
              refine j_get (pc := 39) (ci := 11) (v := .ref mvalue) C inw_11 0 rfl rfl 6 (by decide) wd_645 rfl rfl dX11_isName_39 ?_
              refine j_aload_n (pc := 42) C dX11_isName_42 rfl 2 rfl ?_
              refine j_get (pc := 43) (ci := 11) (v := .int m_at) C inw_11 0 rfl rfl 7 (by decide) wd_637 rfl rfl dX11_isName_43 ?_
              obtain ⟨v_28, ev_28⟩ : ∃ z, m_value (m_at).toInt.toNat = z := ⟨_, rfl⟩
              refine j_lald (pc := 46) (v := v_28) (k := (m_at).toInt.toNat) C 2 2 rfl rfl (i_nn (by omega)) rfl (i_lt_n (by omega) (by omega)) ev_28 dX11_isName_46 ?_
              refine j_aload_n (pc := 47) C dX11_isName_47 rfl 2 rfl ?_
              refine j_get (pc := 48) (ci := 11) (v := .ref mwords) C inw_11 0 rfl rfl 9 (by decide) wd_652 rfl rfl dX11_isName_48 ?_
              refine j_iload_n (pc := 51) C dX11_isName_51 rfl 0 rfl ?_
              obtain ⟨v_29, ev_29⟩ : ∃ z, m_words (x24_2).toInt.toNat = z := ⟨_, rfl⟩
              refine j_lald (pc := 52) (v := v_29) (k := (x24_2).toInt.toNat) C 3 2 rfl rfl (i_nn (by omega)) rfl (i_lt_n (by omega) (by omega)) ev_29 dX11_isName_52 ?_
              obtain ⟨v_30, ev_30⟩ : ∃ z : Int32, lc v_28 v_29 = z := ⟨_, rfl⟩
              have hv_30 := lc_eq ev_30
              refine j_lcmp (pc := 53) (v := v_30) C dX11_isName_53 ev_30 ?_
              refine j_if_eq (pc := 54) (tgt := 61) C dX11_isName_54 (by decide) (fun c_31 => ?_) (fun c_31 => ?_)
              · skip
                have el_0 : (0 : Int32).toInt = 0 := rfl
                rw [i_eq] at c_31
                refine j_iconst (pc := 61) (v := 0) C dX11_isName_61 (by decide) ?_
                refine j_istore_n (pc := 62) (lv' := [(1, .int 0), (2, .int x24_2), (0, .ref m0)]) C dX11_isName_62 rfl (by decide) rfl ?_
                obtain ⟨v_32, ev_32⟩ : ∃ z : Int32, x24_2 + 1 = z := ⟨_, rfl⟩
                have el_1 : (1 : Int32).toInt = 1 := rfl
                have hv_32 : v_32.toInt = x24_2.toInt + (1 : Int32).toInt := by rw [← ev_32]; exact fb_addI (by omega) (by omega)
                refine j_iinc (pc := 63) (v := v_32) (lv' := [(2, .int v_32), (1, .int 0), (0, .ref m0)]) C dX11_isName_63 1 rfl ev_32 (by decide) rfl ?_
                refine j_goto (pc := 66) (tgt := 28) C dX11_isName_66 (by decide) ?_
                have el_0 : (0 : Int32).toInt = 0 := rfl
                exact j_lv [0, 1, 2] rfl (ih_24 v_32 0 (by omega) (by decide) (by omega) (by omega))
              · skip
                have el_0 : (0 : Int32).toInt = 0 := rfl
                rw [i_eq] at c_31
                refine j_iconst (pc := 57) (v := 1) C dX11_isName_57 (by decide) ?_
                refine j_goto (pc := 58) (tgt := 62) C dX11_isName_58 (by decide) ?_
                refine j_istore_n (pc := 62) (lv' := [(1, .int 1), (2, .int x24_2), (0, .ref m0)]) C dX11_isName_62 rfl (by decide) rfl ?_
                obtain ⟨v_33, ev_33⟩ : ∃ z : Int32, x24_2 + 1 = z := ⟨_, rfl⟩
                have el_1 : (1 : Int32).toInt = 1 := rfl
                have hv_33 : v_33.toInt = x24_2.toInt + (1 : Int32).toInt := by rw [← ev_33]; exact fb_addI (by omega) (by omega)
                refine j_iinc (pc := 63) (v := v_33) (lv' := [(2, .int v_33), (1, .int 1), (0, .ref m0)]) C dX11_isName_63 1 rfl ev_33 (by decide) rfl ?_
                refine j_goto (pc := 66) (tgt := 28) C dX11_isName_66 (by decide) ?_
                have el_1 : (1 : Int32).toInt = 1 := rfl
                exact j_lv [0, 1, 2] rfl (ih_24 v_33 1 (by omega) (by decide) (by omega) (by omega))
      have el_0 : (0 : Int32).toInt = 0 := rfl
      have el_1 : (1 : Int32).toInt = 1 := rfl
      exact j_lv [0, 1, 2] rfl (loop_24 4096 0 1 (by decide) (by decide) (by omega) (by omega))
set_option maxHeartbeats 4000000 in
set_option maxRecDepth 100000 in
theorem c_X11_nameOf (l : Launch) (D : DG) (cyC cyI cyJ cyZ cyO : ClassId) (m0 : Nat) (mtold : Nat) (mnames : Nat) (mtape : Nat) (msort : Nat) (mplace : Nat) (mvalue : Nat) (mwords : Nat) (mop : Nat) (marg : Nat) (mhasHabit : Nat) (mfactWords : Nat) (mfacts : Nat) (mpile : Nat) (mstates : Nat) (misMarked : Nat) (mrow : Nat) (mthr : Nat) (mmays : Nat) (mtall : Nat) (mweights : Nat) (mrowOfWare : Nat) (mneededOf : Nat) (mtried : Nat) (mbestRow : Nat) (mdigits : Nat) (m_thrown : Int32) (m_taped : Int32) (m_size : Int32) (m_at : Int32) (m_fault : Int32) (m_codes : Int32) (m_isNew : Int32) (m_inShelf : Int32) (m_inStack : Int32) (m_inPlace : Int32) (m_rowMany : Int32) (m_goShelf : Int32) (m_goStack : Int32) (m_goLeft : Int32) (m_bestCost : Int32) (m_bestMany : Int32) (m_bestShelf : Int32) (m_bestSet : Int32) (p0 : Int64) (m_told : Nat → Int32) (m_names : Nat → Int64) (h_m_taped : 0 ≤ (m_taped).toInt ∧ (m_taped).toInt ≤ 1000) (h_m_size : 0 ≤ (m_size).toInt ∧ (m_size).toInt ≤ 1000) (h_m_at : 0 ≤ (m_at).toInt ∧ (m_at).toInt ≤ 1000) (h_m_fault : 0 ≤ (m_fault).toInt ∧ (m_fault).toInt ≤ 16005) (h_m_codes : 0 ≤ (m_codes).toInt ∧ (m_codes).toInt ≤ 1000) (h_m_isNew : 0 ≤ (m_isNew).toInt ∧ (m_isNew).toInt ≤ 1) (h_m_inShelf : 0 ≤ (m_inShelf).toInt ∧ (m_inShelf).toInt ≤ 3) (h_m_inStack : 0 ≤ (m_inStack).toInt ∧ (m_inStack).toInt ≤ 7) (h_m_inPlace : 0 ≤ (m_inPlace).toInt ∧ (m_inPlace).toInt ≤ 11) (h_m_rowMany : 0 ≤ (m_rowMany).toInt ∧ (m_rowMany).toInt ≤ 12) (h_m_goShelf : -1 ≤ (m_goShelf).toInt ∧ (m_goShelf).toInt ≤ 3) (h_m_bestMany : 0 ≤ (m_bestMany).toInt ∧ (m_bestMany).toInt ≤ 7) (h_m_bestShelf : 0 ≤ (m_bestShelf).toInt ∧ (m_bestShelf).toInt ≤ 3) (h_m_told : TV m_told) : KK l D (TY cyC cyI cyJ cyZ cyO) yX11_nameOf cX11_nameOf 5 (some .int) ({ frames := 0, cells := 0, slots := 0, locals := 0 } : Room) 0 0 [.ref m0, .long p0] [(m0, .inr (11, [.int m_thrown, .ref mtape, .int m_taped, .int m_size, .ref msort, .ref mplace, .ref mvalue, .int m_at, .int m_fault, .ref mwords, .ref mtold, .ref mop, .ref marg, .int m_codes, .ref mnames, .ref mhasHabit, .int m_isNew, .ref mfactWords, .ref mfacts, .ref mpile, .ref mstates, .ref misMarked, .int m_inShelf, .int m_inStack, .int m_inPlace, .ref mrow, .int m_rowMany, .ref mthr, .ref mmays, .ref mtall, .ref mweights, .ref mrowOfWare, .ref mneededOf, .int m_goShelf, .int m_goStack, .int m_goLeft, .ref mtried, .ref mbestRow, .int m_bestCost, .int m_bestMany, .int m_bestShelf, .int m_bestSet, .ref mdigits])), (mtold, .inl (cyI, 240, .inl m_told)), (mnames, .inl (cyJ, 16, .inr (.inl m_names)))] (fun u => some (.int (u.2.1 0))) (fun u => (-1 ≤ (u.2.1 0).toInt ∧ (u.2.1 0).toInt ≤ 15)) (fun u => [(m0, .inr (11, [.int m_thrown, .ref mtape, .int m_taped, .int m_size, .ref msort, .ref mplace, .ref mvalue, .int m_at, .int m_fault, .ref mwords, .ref mtold, .ref mop, .ref marg, .int m_codes, .ref mnames, .ref mhasHabit, .int m_isNew, .ref mfactWords, .ref mfacts, .ref mpile, .ref mstates, .ref misMarked, .int m_inShelf, .int m_inStack, .int m_inPlace, .ref mrow, .int m_rowMany, .ref mthr, .ref mmays, .ref mtall, .ref mweights, .ref mrowOfWare, .ref mneededOf, .int m_goShelf, .int m_goStack, .int m_goLeft, .ref mtried, .ref mbestRow, .int m_bestCost, .int m_bestMany, .int m_bestShelf, .int m_bestSet, .ref mdigits])), (mtold, .inl (cyI, 240, .inl m_told)), (mnames, .inl (cyJ, 16, .inr (.inl m_names)))]) := by
  refine KK.of (lv0 := [(0, .ref m0), (1, .long p0)]) (by decide) rfl (Nat.le_of_ble_eq_true rfl) ?_
  intro p e s m args below meth c A C hr hk hin
  refine j_iconst (pc := 0) (v := 0) C dX11_nameOf_0 (by decide) ?_
  refine j_istore_n (pc := 1) (lv' := [(3, .int 0), (0, .ref m0), (1, .long p0)]) C dX11_nameOf_1 rfl (by decide) rfl ?_
  have loop_1 : ∀ (k_1 : Nat) (x1_3 : Int32), (0 ≤ (x1_3).toInt ∧ (x1_3).toInt ≤ 16) → (16 - x1_3.toInt).toNat < k_1 → J p l e ({ frames := 0, cells := 0, slots := 0, locals := 0 } : Room) s m args below meth c D A 5 0 0 (QX below D (TY cyC cyI cyJ cyZ cyO) A (fun u => some (.int (u.2.1 0))) (fun u => (-1 ≤ (u.2.1 0).toInt ∧ (u.2.1 0).toInt ≤ 15)) (fun u => [(m0, .inr (11, [.int m_thrown, .ref mtape, .int m_taped, .int m_size, .ref msort, .ref mplace, .ref mvalue, .int m_at, .int m_fault, .ref mwords, .ref mtold, .ref mop, .ref marg, .int m_codes, .ref mnames, .ref mhasHabit, .int m_isNew, .ref mfactWords, .ref mfacts, .ref mpile, .ref mstates, .ref misMarked, .int m_inShelf, .int m_inStack, .int m_inPlace, .ref mrow, .int m_rowMany, .ref mthr, .ref mmays, .ref mtall, .ref mweights, .ref mrowOfWare, .ref mneededOf, .int m_goShelf, .int m_goStack, .int m_goLeft, .ref mtried, .ref mbestRow, .int m_bestCost, .int m_bestMany, .int m_bestShelf, .int m_bestSet, .ref mdigits])), (mtold, .inl (cyI, 240, .inl m_told)), (mnames, .inl (cyJ, 16, .inr (.inl m_names)))]) args s 0 0) [(m0, .inr (11, [.int m_thrown, .ref mtape, .int m_taped, .int m_size, .ref msort, .ref mplace, .ref mvalue, .int m_at, .int m_fault, .ref mwords, .ref mtold, .ref mop, .ref marg, .int m_codes, .ref mnames, .ref mhasHabit, .int m_isNew, .ref mfactWords, .ref mfacts, .ref mpile, .ref mstates, .ref misMarked, .int m_inShelf, .int m_inStack, .int m_inPlace, .ref mrow, .int m_rowMany, .ref mthr, .ref mmays, .ref mtall, .ref mweights, .ref mrowOfWare, .ref mneededOf, .int m_goShelf, .int m_goStack, .int m_goLeft, .ref mtried, .ref mbestRow, .int m_bestCost, .int m_bestMany, .int m_bestShelf, .int m_bestSet, .ref mdigits])), (mtold, .inl (cyI, 240, .inl m_told)), (mnames, .inl (cyJ, 16, .inr (.inl m_names)))] 2 [(3, .int x1_3), (0, .ref m0), (1, .long p0)] [] := by
    intro k_1
    induction k_1 with
    | zero =>
      intro x1_3 hi_1_0 hm_1
      exact absurd hm_1 (Nat.not_lt_zero _)
    | succ k_1 ih_1 =>
      intro x1_3 hi_1_0 hm_1
      refine j_iload_n (pc := 2) C dX11_nameOf_2 rfl 0 rfl ?_
      refine j_bipush (pc := 3) (v := 16) C dX11_nameOf_3 (by decide) ?_
      refine j_icmp_ge (pc := 5) (tgt := 78) C dX11_nameOf_5 (by decide) (fun c_2 => ?_) (fun c_2 => ?_)
      · skip
        have el_16 : (16 : Int32).toInt = 16 := rfl
        rw [i_le] at c_2
        refine j_iconst (pc := 78) (v := (-1)) C dX11_nameOf_78 (by decide) ?_
        have el_m1 : ((-1) : Int32).toInt = (-1) := rfl
        exact j_iret (pc := 79) C hr hk (fun i => [].getD i 0, fun i => [(-1)].getD i 0, fun i => [].getD i (fun _ => 0), fun i => [].getD i (fun _ => 0)) rfl (show (-1 ≤ (((-1) : Int32)).toInt ∧ (((-1) : Int32)).toInt ≤ 15) from (by omega)) [0, 1, 2] (by decide) rfl (by decide) (by decide) dX11_nameOf_79
      · skip
        have el_16 : (16 : Int32).toInt = 16 := rfl
        rw [i_le] at c_2
        refine j_iload_n (pc := 8) C dX11_nameOf_8 rfl 0 rfl ?_
        refine j_bipush (pc := 9) (v := 12) C dX11_nameOf_9 (by decide) ?_
        refine j_icmp_ge (pc := 11) (tgt := 33) C dX11_nameOf_11 (by decide) (fun c_3 => ?_) (fun c_3 => ?_)
        · skip
          have el_12 : (12 : Int32).toInt = 12 := rfl
          rw [i_le] at c_3
          refine j_iload_n (pc := 33) C dX11_nameOf_33 rfl 0 rfl ?_
          refine j_bipush (pc := 34) (v := 12) C dX11_nameOf_34 (by decide) ?_
          obtain ⟨v_4, ev_4⟩ : ∃ z : Int32, x1_3 - 12 = z := ⟨_, rfl⟩
          have el_12 : (12 : Int32).toInt = 12 := rfl
          have hv_4 : v_4.toInt = x1_3.toInt - (12 : Int32).toInt := by rw [← ev_4]; exact fb_subI (by omega) (by omega)
          refine j_isub (pc := 36) (v := v_4) C dX11_nameOf_36 ev_4 ?_
          refine j_aload_n (pc := 37) C dX11_nameOf_37 rfl 1 rfl ?_
          refine j_get (pc := 38) (ci := 11) (v := .ref mtold) C inw_11 0 rfl rfl 10 (by decide) wd_669 rfl rfl dX11_nameOf_38 ?_
          refine j_bipush (pc := 41) (v := 121) C dX11_nameOf_41 (by decide) ?_
          obtain ⟨v_5, ev_5⟩ : ∃ z, m_told 121 = z := ⟨_, rfl⟩
          have env_5 : (m_told 121).toInt = v_5.toInt := by rw [ev_5]
          have hv_5 : 0 ≤ v_5.toInt ∧ v_5.toInt ≤ 4 := by have z := h_m_told 121 (by decide); rw [ev_5] at z; exact z
          refine j_iald (pc := 43) (v := v_5) (k := 121) C 1 1 rfl rfl (by decide) (by decide) (by decide) ev_5 dX11_nameOf_43 ?_
          refine j_icmp_ge (pc := 44) (tgt := 51) C dX11_nameOf_44 (by decide) (fun c_6 => ?_) (fun c_6 => ?_)
          · skip
            rw [i_le] at c_6
            refine j_iconst (pc := 51) (v := 0) C dX11_nameOf_51 (by decide) ?_
            refine j_istore (pc := 52) (lv' := [(4, .int 0), (3, .int x1_3), (0, .ref m0), (1, .long p0)]) C dX11_nameOf_52 (by decide) rfl ?_
            refine j_iload (pc := 54) C dX11_nameOf_54 0 rfl ?_
            refine j_if_eq_t (pc := 56) (tgt := 72) C dX11_nameOf_56 (by decide) (by decide) ?_
            obtain ⟨v_7, ev_7⟩ : ∃ z : Int32, x1_3 + 1 = z := ⟨_, rfl⟩
            have el_1 : (1 : Int32).toInt = 1 := rfl
            have hv_7 : v_7.toInt = x1_3.toInt + (1 : Int32).toInt := by rw [← ev_7]; exact fb_addI (by omega) (by omega)
            refine j_iinc (pc := 72) (v := v_7) (lv' := [(3, .int v_7), (4, .int 0), (0, .ref m0), (1, .long p0)]) C dX11_nameOf_72 1 rfl ev_7 (by decide) rfl ?_
            refine j_goto (pc := 75) (tgt := 2) C dX11_nameOf_75 (by decide) ?_
            exact j_lv [0, 2, 3] rfl (ih_1 v_7 (by omega) (by omega))
          · skip
            rw [i_le] at c_6
            refine j_iconst (pc := 47) (v := 1) C dX11_nameOf_47 (by decide) ?_
            refine j_goto (pc := 48) (tgt := 52) C dX11_nameOf_48 (by decide) ?_
            refine j_istore (pc := 52) (lv' := [(4, .int 1), (3, .int x1_3), (0, .ref m0), (1, .long p0)]) C dX11_nameOf_52 (by decide) rfl ?_
            refine j_iload (pc := 54) C dX11_nameOf_54 0 rfl ?_
            refine j_if_eq_f (pc := 56) (tgt := 72) C dX11_nameOf_56 (by decide) (by decide) ?_
            refine j_aload_n (pc := 59) C dX11_nameOf_59 rfl 2 rfl ?_
            refine j_get (pc := 60) (ci := 11) (v := .ref mnames) C inw_11 0 rfl rfl 14 (by decide) wd_670 rfl rfl dX11_nameOf_60 ?_
            refine j_iload_n (pc := 63) C dX11_nameOf_63 rfl 1 rfl ?_
            obtain ⟨v_8, ev_8⟩ : ∃ z, m_names (x1_3).toInt.toNat = z := ⟨_, rfl⟩
            refine j_lald (pc := 64) (v := v_8) (k := (x1_3).toInt.toNat) C 2 2 rfl rfl (i_nn (by omega)) rfl (i_lt_n (by omega) (by omega)) ev_8 dX11_nameOf_64 ?_
            refine j_lload_n (pc := 65) C dX11_nameOf_65 rfl 3 rfl ?_
            obtain ⟨v_9, ev_9⟩ : ∃ z : Int32, lc v_8 p0 = z := ⟨_, rfl⟩
            have hv_9 := lc_eq ev_9
            refine j_lcmp (pc := 66) (v := v_9) C dX11_nameOf_66 ev_9 ?_
            refine j_if_ne (pc := 67) (tgt := 72) C dX11_nameOf_67 (by decide) (fun c_10 => ?_) (fun c_10 => ?_)
            · skip
              have el_0 : (0 : Int32).toInt = 0 := rfl
              rw [i_eq] at c_10
              obtain ⟨v_11, ev_11⟩ : ∃ z : Int32, x1_3 + 1 = z := ⟨_, rfl⟩
              have el_1 : (1 : Int32).toInt = 1 := rfl
              have hv_11 : v_11.toInt = x1_3.toInt + (1 : Int32).toInt := by rw [← ev_11]; exact fb_addI (by omega) (by omega)
              refine j_iinc (pc := 72) (v := v_11) (lv' := [(3, .int v_11), (4, .int 1), (0, .ref m0), (1, .long p0)]) C dX11_nameOf_72 1 rfl ev_11 (by decide) rfl ?_
              refine j_goto (pc := 75) (tgt := 2) C dX11_nameOf_75 (by decide) ?_
              exact j_lv [0, 2, 3] rfl (ih_1 v_11 (by omega) (by omega))
            · skip
              have el_0 : (0 : Int32).toInt = 0 := rfl
              rw [i_eq] at c_10
              refine j_iload_n (pc := 70) C dX11_nameOf_70 rfl 1 rfl ?_
              exact j_iret (pc := 71) C hr hk (fun i => [].getD i 0, fun i => [x1_3].getD i 0, fun i => [].getD i (fun _ => 0), fun i => [].getD i (fun _ => 0)) rfl (show (-1 ≤ (x1_3).toInt ∧ (x1_3).toInt ≤ 15) from (by omega)) [0, 1, 2] (by decide) rfl (by decide) (by decide) dX11_nameOf_71
        · skip
          have el_12 : (12 : Int32).toInt = 12 := rfl
          rw [i_le] at c_3
          refine j_iload_n (pc := 14) C dX11_nameOf_14 rfl 0 rfl ?_
          refine j_aload_n (pc := 15) C dX11_nameOf_15 rfl 1 rfl ?_
          refine j_get (pc := 16) (ci := 11) (v := .ref mtold) C inw_11 0 rfl rfl 10 (by decide) wd_669 rfl rfl dX11_nameOf_16 ?_
          refine j_bipush (pc := 19) (v := 120) C dX11_nameOf_19 (by decide) ?_
          obtain ⟨v_12, ev_12⟩ : ∃ z, m_told 120 = z := ⟨_, rfl⟩
          have env_12 : (m_told 120).toInt = v_12.toInt := by rw [ev_12]
          have hv_12 : 0 ≤ v_12.toInt ∧ v_12.toInt ≤ 12 := by have z := h_m_told 120 (by decide); rw [ev_12] at z; exact z
          refine j_iald (pc := 21) (v := v_12) (k := 120) C 1 1 rfl rfl (by decide) (by decide) (by decide) ev_12 dX11_nameOf_21 ?_
          refine j_icmp_ge (pc := 22) (tgt := 29) C dX11_nameOf_22 (by decide) (fun c_13 => ?_) (fun c_13 => ?_)
          · skip
            rw [i_le] at c_13
            refine j_iconst (pc := 29) (v := 0) C dX11_nameOf_29 (by decide) ?_
            refine j_goto (pc := 30) (tgt := 52) C dX11_nameOf_30 (by decide) ?_
            refine j_istore (pc := 52) (lv' := [(4, .int 0), (3, .int x1_3), (0, .ref m0), (1, .long p0)]) C dX11_nameOf_52 (by decide) rfl ?_
            refine j_iload (pc := 54) C dX11_nameOf_54 0 rfl ?_
            refine j_if_eq_t (pc := 56) (tgt := 72) C dX11_nameOf_56 (by decide) (by decide) ?_
            obtain ⟨v_14, ev_14⟩ : ∃ z : Int32, x1_3 + 1 = z := ⟨_, rfl⟩
            have el_1 : (1 : Int32).toInt = 1 := rfl
            have hv_14 : v_14.toInt = x1_3.toInt + (1 : Int32).toInt := by rw [← ev_14]; exact fb_addI (by omega) (by omega)
            refine j_iinc (pc := 72) (v := v_14) (lv' := [(3, .int v_14), (4, .int 0), (0, .ref m0), (1, .long p0)]) C dX11_nameOf_72 1 rfl ev_14 (by decide) rfl ?_
            refine j_goto (pc := 75) (tgt := 2) C dX11_nameOf_75 (by decide) ?_
            exact j_lv [0, 2, 3] rfl (ih_1 v_14 (by omega) (by omega))
          · skip
            rw [i_le] at c_13
            refine j_iconst (pc := 25) (v := 1) C dX11_nameOf_25 (by decide) ?_
            refine j_goto (pc := 26) (tgt := 52) C dX11_nameOf_26 (by decide) ?_
            refine j_istore (pc := 52) (lv' := [(4, .int 1), (3, .int x1_3), (0, .ref m0), (1, .long p0)]) C dX11_nameOf_52 (by decide) rfl ?_
            refine j_iload (pc := 54) C dX11_nameOf_54 0 rfl ?_
            refine j_if_eq_f (pc := 56) (tgt := 72) C dX11_nameOf_56 (by decide) (by decide) ?_
            refine j_aload_n (pc := 59) C dX11_nameOf_59 rfl 2 rfl ?_
            refine j_get (pc := 60) (ci := 11) (v := .ref mnames) C inw_11 0 rfl rfl 14 (by decide) wd_670 rfl rfl dX11_nameOf_60 ?_
            refine j_iload_n (pc := 63) C dX11_nameOf_63 rfl 1 rfl ?_
            obtain ⟨v_15, ev_15⟩ : ∃ z, m_names (x1_3).toInt.toNat = z := ⟨_, rfl⟩
            refine j_lald (pc := 64) (v := v_15) (k := (x1_3).toInt.toNat) C 2 2 rfl rfl (i_nn (by omega)) rfl (i_lt_n (by omega) (by omega)) ev_15 dX11_nameOf_64 ?_
            refine j_lload_n (pc := 65) C dX11_nameOf_65 rfl 3 rfl ?_
            obtain ⟨v_16, ev_16⟩ : ∃ z : Int32, lc v_15 p0 = z := ⟨_, rfl⟩
            have hv_16 := lc_eq ev_16
            refine j_lcmp (pc := 66) (v := v_16) C dX11_nameOf_66 ev_16 ?_
            refine j_if_ne (pc := 67) (tgt := 72) C dX11_nameOf_67 (by decide) (fun c_17 => ?_) (fun c_17 => ?_)
            · skip
              have el_0 : (0 : Int32).toInt = 0 := rfl
              rw [i_eq] at c_17
              obtain ⟨v_18, ev_18⟩ : ∃ z : Int32, x1_3 + 1 = z := ⟨_, rfl⟩
              have el_1 : (1 : Int32).toInt = 1 := rfl
              have hv_18 : v_18.toInt = x1_3.toInt + (1 : Int32).toInt := by rw [← ev_18]; exact fb_addI (by omega) (by omega)
              refine j_iinc (pc := 72) (v := v_18) (lv' := [(3, .int v_18), (4, .int 1), (0, .ref m0), (1, .long p0)]) C dX11_nameOf_72 1 rfl ev_18 (by decide) rfl ?_
              refine j_goto (pc := 75) (tgt := 2) C dX11_nameOf_75 (by decide) ?_
              exact j_lv [0, 2, 3] rfl (ih_1 v_18 (by omega) (by omega))
            · skip
              have el_0 : (0 : Int32).toInt = 0 := rfl
              rw [i_eq] at c_17
              refine j_iload_n (pc := 70) C dX11_nameOf_70 rfl 1 rfl ?_
              exact j_iret (pc := 71) C hr hk (fun i => [].getD i 0, fun i => [x1_3].getD i 0, fun i => [].getD i (fun _ => 0), fun i => [].getD i (fun _ => 0)) rfl (show (-1 ≤ (x1_3).toInt ∧ (x1_3).toInt ≤ 15) from (by omega)) [0, 1, 2] (by decide) rfl (by decide) (by decide) dX11_nameOf_71
  have el_0 : (0 : Int32).toInt = 0 := rfl
  exact j_lv [0, 1, 2] rfl (loop_1 4096 0 (by decide) (by omega))
set_option maxHeartbeats 4000000 in
set_option maxRecDepth 100000 in
theorem c_X11_newName (l : Launch) (D : DG) (cyC cyI cyJ cyZ cyO : ClassId) (m0 : Nat) (msort : Nat) (mplace : Nat) (mvalue : Nat) (mwords : Nat) (mtold : Nat) (mnames : Nat) (mtape : Nat) (mop : Nat) (marg : Nat) (mhasHabit : Nat) (mfactWords : Nat) (mfacts : Nat) (mpile : Nat) (mstates : Nat) (misMarked : Nat) (mrow : Nat) (mthr : Nat) (mmays : Nat) (mtall : Nat) (mweights : Nat) (mrowOfWare : Nat) (mneededOf : Nat) (mtried : Nat) (mbestRow : Nat) (mdigits : Nat) (m_thrown : Int32) (m_taped : Int32) (m_size : Int32) (m_at : Int32) (m_fault : Int32) (m_codes : Int32) (m_isNew : Int32) (m_inShelf : Int32) (m_inStack : Int32) (m_inPlace : Int32) (m_rowMany : Int32) (m_goShelf : Int32) (m_goStack : Int32) (m_goLeft : Int32) (m_bestCost : Int32) (m_bestMany : Int32) (m_bestShelf : Int32) (m_bestSet : Int32) (m_sort : Nat → Int32) (m_place : Nat → Int32) (m_value : Nat → Int64) (m_words : Nat → Int64) (m_told : Nat → Int32) (m_names : Nat → Int64) (h_m_taped : 0 ≤ (m_taped).toInt ∧ (m_taped).toInt ≤ 1000) (h_m_size : 0 ≤ (m_size).toInt ∧ (m_size).toInt ≤ 1000) (h_m_at : 0 ≤ (m_at).toInt ∧ (m_at).toInt ≤ 1000) (h_m_fault : 0 ≤ (m_fault).toInt ∧ (m_fault).toInt ≤ 16005) (h_m_codes : 0 ≤ (m_codes).toInt ∧ (m_codes).toInt ≤ 1000) (h_m_isNew : 0 ≤ (m_isNew).toInt ∧ (m_isNew).toInt ≤ 1) (h_m_inShelf : 0 ≤ (m_inShelf).toInt ∧ (m_inShelf).toInt ≤ 3) (h_m_inStack : 0 ≤ (m_inStack).toInt ∧ (m_inStack).toInt ≤ 7) (h_m_inPlace : 0 ≤ (m_inPlace).toInt ∧ (m_inPlace).toInt ≤ 11) (h_m_rowMany : 0 ≤ (m_rowMany).toInt ∧ (m_rowMany).toInt ≤ 12) (h_m_goShelf : -1 ≤ (m_goShelf).toInt ∧ (m_goShelf).toInt ≤ 3) (h_m_bestMany : 0 ≤ (m_bestMany).toInt ∧ (m_bestMany).toInt ≤ 7) (h_m_bestShelf : 0 ≤ (m_bestShelf).toInt ∧ (m_bestShelf).toInt ≤ 3) (h_m_place : Iv 1002 (0) (1000) m_place) (h_m_told : TV m_told) (hN1 : eN m_sort ≤ 1000) (hN2 : (m_at).toInt ≤ ((eN m_sort : Nat) : Int)) : KK l D (TY cyC cyI cyJ cyZ cyO) yX11_newName cX11_newName 1 (some .long) ({ frames := 1, cells := 0, slots := 0, locals := 24 } : Room) 0 0 [.ref m0] [(m0, .inr (11, [.int m_thrown, .ref mtape, .int m_taped, .int m_size, .ref msort, .ref mplace, .ref mvalue, .int m_at, .int m_fault, .ref mwords, .ref mtold, .ref mop, .ref marg, .int m_codes, .ref mnames, .ref mhasHabit, .int m_isNew, .ref mfactWords, .ref mfacts, .ref mpile, .ref mstates, .ref misMarked, .int m_inShelf, .int m_inStack, .int m_inPlace, .ref mrow, .int m_rowMany, .ref mthr, .ref mmays, .ref mtall, .ref mweights, .ref mrowOfWare, .ref mneededOf, .int m_goShelf, .int m_goStack, .int m_goLeft, .ref mtried, .ref mbestRow, .int m_bestCost, .int m_bestMany, .int m_bestShelf, .int m_bestSet, .ref mdigits])), (msort, .inl (cyI, 1002, .inl m_sort)), (mplace, .inl (cyI, 1002, .inl m_place)), (mvalue, .inl (cyJ, 1002, .inr (.inl m_value))), (mwords, .inl (cyJ, 23, .inr (.inl m_words))), (mtold, .inl (cyI, 240, .inl m_told)), (mnames, .inl (cyJ, 16, .inr (.inl m_names)))] (fun u => some (.long (u.2.2.2 0 0))) (fun u => (0 ≤ (u.2.1 0).toInt ∧ (u.2.1 0).toInt ≤ 1000) ∧ (0 ≤ (u.2.1 1).toInt ∧ (u.2.1 1).toInt ≤ 16005) ∧ ((m_at).toInt ≤ ((u.2.1 0)).toInt) ∧ (((u.2.1 0)).toInt ≤ ((eN m_sort : Nat) : Int)) ∧ ((m_fault).toInt = 0 ∨ ¬ ((u.2.1 1)).toInt = 0)) (fun u => [(m0, .inr (11, [.int m_thrown, .ref mtape, .int m_taped, .int m_size, .ref msort, .ref mplace, .ref mvalue, .int (u.2.1 0), .int (u.2.1 1), .ref mwords, .ref mtold, .ref mop, .ref marg, .int m_codes, .ref mnames, .ref mhasHabit, .int m_isNew, .ref mfactWords, .ref mfacts, .ref mpile, .ref mstates, .ref misMarked, .int m_inShelf, .int m_inStack, .int m_inPlace, .ref mrow, .int m_rowMany, .ref mthr, .ref mmays, .ref mtall, .ref mweights, .ref mrowOfWare, .ref mneededOf, .int m_goShelf, .int m_goStack, .int m_goLeft, .ref mtried, .ref mbestRow, .int m_bestCost, .int m_bestMany, .int m_bestShelf, .int m_bestSet, .ref mdigits])), (msort, .inl (cyI, 1002, .inl m_sort)), (mplace, .inl (cyI, 1002, .inl m_place)), (mvalue, .inl (cyJ, 1002, .inr (.inl m_value))), (mwords, .inl (cyJ, 23, .inr (.inl m_words))), (mtold, .inl (cyI, 240, .inl m_told)), (mnames, .inl (cyJ, 16, .inr (.inl m_names)))]) := by
  refine KK.of (lv0 := [(0, .ref m0)]) (by decide) rfl (Nat.le_of_ble_eq_true rfl) ?_
  intro p e s m args below meth c A C hr hk hin
  refine j_aload_n (pc := 0) C dX11_newName_0 rfl 0 rfl ?_
  refine j_callV (pc := 1) (As := []) (rest := []) (wr := [(mplace, .inl (cyI, 1002, .inl m_place)), (mtold, .inl (cyI, 240, .inl m_told)), (mnames, .inl (cyJ, 16, .inr (.inl m_names)))]) C (c_X11_isName l D cyC cyI cyJ cyZ cyO m0 msort mvalue mwords mtape mplace mtold mop marg mnames mhasHabit mfactWords mfacts mpile mstates misMarked mrow mthr mmays mtall mweights mrowOfWare mneededOf mtried mbestRow mdigits m_thrown m_taped m_size m_at m_fault m_codes m_isNew m_inShelf m_inStack m_inPlace m_rowMany m_goShelf m_goStack m_goLeft m_bestCost m_bestMany m_bestShelf m_bestSet m_sort m_value m_words (by omega) (by omega) (by omega) (by omega) (by omega) (by omega) (by omega) (by omega) (by omega) (by omega) (by omega) (by omega) (by omega) (by omega) (by omega)) wd_671 wd_624 wd_672 wd_673 wd_674 ⟨by decide, by decide, rfl⟩ rfl ⟨rfl, rfl, by decide, by decide⟩ ⟨by decide, by decide⟩ [0, 1, 3, 4] [2, 5, 6] rfl rfl ⟨by decide, by decide, by decide⟩ 0 rfl rfl rfl (Nat.le_of_ble_eq_true rfl) dX11_newName_1 (fun u_1 hw_2 => ?_)
  refine j_eq (ws2 := [(mplace, .inl (cyI, 1002, .inl m_place)), (mtold, .inl (cyI, 240, .inl m_told)), (mnames, .inl (cyJ, 16, .inr (.inl m_names))), (m0, .inr (11, [.int m_thrown, .ref mtape, .int m_taped, .int m_size, .ref msort, .ref mplace, .ref mvalue, .int m_at, .int m_fault, .ref mwords, .ref mtold, .ref mop, .ref marg, .int m_codes, .ref mnames, .ref mhasHabit, .int m_isNew, .ref mfactWords, .ref mfacts, .ref mpile, .ref mstates, .ref misMarked, .int m_inShelf, .int m_inStack, .int m_inPlace, .ref mrow, .int m_rowMany, .ref mthr, .ref mmays, .ref mtall, .ref mweights, .ref mrowOfWare, .ref mneededOf, .int m_goShelf, .int m_goStack, .int m_goLeft, .ref mtried, .ref mbestRow, .int m_bestCost, .int m_bestMany, .int m_bestShelf, .int m_bestSet, .ref mdigits])), (msort, .inl (cyI, 1002, .inl m_sort)), (mvalue, .inl (cyJ, 1002, .inr (.inl m_value))), (mwords, .inl (cyJ, 23, .inr (.inl m_words)))]) (pc2 := 4) (lv2 := [(0, .ref m0)]) (st2 := [.int (u_1.2.1 0)]) rfl rfl rfl rfl ?_
  obtain ⟨hw_2_0, hw_2_1⟩ := hw_2
  refine j_if_ne (pc := 4) (tgt := 15) C dX11_newName_4 (by decide) (fun c_3 => ?_) (fun c_3 => ?_)
  · skip
    have el_0 : (0 : Int32).toInt = 0 := rfl
    rw [i_eq] at c_3
    refine j_aload_n (pc := 15) C dX11_newName_15 rfl 0 rfl ?_
    refine j_aload_n (pc := 16) C dX11_newName_16 rfl 0 rfl ?_
    refine j_get (pc := 17) (ci := 11) (v := .ref mvalue) C inw_11 3 rfl rfl 6 (by decide) wd_645 rfl rfl dX11_newName_17 ?_
    refine j_aload_n (pc := 20) C dX11_newName_20 rfl 0 rfl ?_
    refine j_get (pc := 21) (ci := 11) (v := .int m_at) C inw_11 3 rfl rfl 7 (by decide) wd_637 rfl rfl dX11_newName_21 ?_
    obtain ⟨v_4, ev_4⟩ : ∃ z, m_value (m_at).toInt.toNat = z := ⟨_, rfl⟩
    refine j_lald (pc := 24) (v := v_4) (k := (m_at).toInt.toNat) C 5 2 rfl rfl (i_nn (by omega)) rfl (i_lt_n (by omega) (by omega)) ev_4 dX11_newName_24 ?_
    refine j_callV (pc := 25) (As := [.long v_4]) (rest := []) (wr := [(mplace, .inl (cyI, 1002, .inl m_place)), (msort, .inl (cyI, 1002, .inl m_sort)), (mvalue, .inl (cyJ, 1002, .inr (.inl m_value))), (mwords, .inl (cyJ, 23, .inr (.inl m_words)))]) C (c_X11_nameOf l D cyC cyI cyJ cyZ cyO m0 mtold mnames mtape msort mplace mvalue mwords mop marg mhasHabit mfactWords mfacts mpile mstates misMarked mrow mthr mmays mtall mweights mrowOfWare mneededOf mtried mbestRow mdigits m_thrown m_taped m_size m_at m_fault m_codes m_isNew m_inShelf m_inStack m_inPlace m_rowMany m_goShelf m_goStack m_goLeft m_bestCost m_bestMany m_bestShelf m_bestSet v_4 m_told m_names (by omega) (by omega) (by omega) (by omega) (by omega) (by omega) (by omega) (by omega) (by omega) (by omega) (by omega) (by omega) (by omega) h_m_told) wd_675 wd_624 wd_676 wd_677 wd_678 ⟨by decide, by decide, rfl⟩ rfl ⟨rfl, rfl, by decide, by decide⟩ ⟨by decide, by decide⟩ [3, 1, 2] [0, 4, 5, 6] rfl rfl ⟨by decide, by decide, by decide⟩ 3 rfl rfl rfl (Nat.le_of_ble_eq_true rfl) dX11_newName_25 (fun u_5 hw_6 => ?_)
    refine j_eq (ws2 := [(mplace, .inl (cyI, 1002, .inl m_place)), (msort, .inl (cyI, 1002, .inl m_sort)), (mvalue, .inl (cyJ, 1002, .inr (.inl m_value))), (mwords, .inl (cyJ, 23, .inr (.inl m_words))), (m0, .inr (11, [.int m_thrown, .ref mtape, .int m_taped, .int m_size, .ref msort, .ref mplace, .ref mvalue, .int m_at, .int m_fault, .ref mwords, .ref mtold, .ref mop, .ref marg, .int m_codes, .ref mnames, .ref mhasHabit, .int m_isNew, .ref mfactWords, .ref mfacts, .ref mpile, .ref mstates, .ref misMarked, .int m_inShelf, .int m_inStack, .int m_inPlace, .ref mrow, .int m_rowMany, .ref mthr, .ref mmays, .ref mtall, .ref mweights, .ref mrowOfWare, .ref mneededOf, .int m_goShelf, .int m_goStack, .int m_goLeft, .ref mtried, .ref mbestRow, .int m_bestCost, .int m_bestMany, .int m_bestShelf, .int m_bestSet, .ref mdigits])), (mtold, .inl (cyI, 240, .inl m_told)), (mnames, .inl (cyJ, 16, .inr (.inl m_names)))]) (pc2 := 28) (lv2 := [(0, .ref m0)]) (st2 := [.int (u_5.2.1 0)]) rfl rfl rfl rfl ?_
    have hw_6_0 : -1 ≤ (u_5.2.1 0).toInt ∧ (u_5.2.1 0).toInt ≤ 15 := hw_6
    refine j_if_lt (pc := 28) (tgt := 36) C dX11_newName_28 (by decide) (fun c_7 => ?_) (fun c_7 => ?_)
    · skip
      have el_0 : (0 : Int32).toInt = 0 := rfl
      rw [i_lt] at c_7
      refine j_aload_n (pc := 36) C dX11_newName_36 rfl 0 rfl ?_
      refine j_get (pc := 37) (ci := 11) (v := .int m_fault) C inw_11 4 rfl rfl 8 (by decide) wd_638 rfl rfl dX11_newName_37 ?_
      refine j_if_le (pc := 40) (tgt := 45) C dX11_newName_40 (by decide) (fun c_8 => ?_) (fun c_8 => ?_)
      · skip
        have el_0 : (0 : Int32).toInt = 0 := rfl
        rw [i_le] at c_8
        refine j_aload_n (pc := 45) C dX11_newName_45 rfl 0 rfl ?_
        refine j_dup (pc := 46) C dX11_newName_46 rfl ?_
        refine j_get (pc := 47) (ci := 11) (v := .int m_at) C inw_11 4 rfl rfl 7 (by decide) wd_637 rfl rfl dX11_newName_47 ?_
        refine j_iconst (pc := 50) (v := 1) C dX11_newName_50 (by decide) ?_
        obtain ⟨v_9, ev_9⟩ : ∃ z : Int32, m_at + 1 = z := ⟨_, rfl⟩
        have el_1 : (1 : Int32).toInt = 1 := rfl
        have hv_9 : v_9.toInt = m_at.toInt + (1 : Int32).toInt := by rw [← ev_9]; exact fb_addI (by omega) (by omega)
        refine j_iadd (pc := 51) (v := v_9) C dX11_newName_51 ev_9 ?_
        refine j_put (pc := 52) (ci := 11) (v := .int v_9) (ws' := [(mplace, .inl (cyI, 1002, .inl m_place)), (msort, .inl (cyI, 1002, .inl m_sort)), (mvalue, .inl (cyJ, 1002, .inr (.inl m_value))), (mwords, .inl (cyJ, 23, .inr (.inl m_words))), (m0, .inr (11, [.int m_thrown, .ref mtape, .int m_taped, .int m_size, .ref msort, .ref mplace, .ref mvalue, .int v_9, .int m_fault, .ref mwords, .ref mtold, .ref mop, .ref marg, .int m_codes, .ref mnames, .ref mhasHabit, .int m_isNew, .ref mfactWords, .ref mfacts, .ref mpile, .ref mstates, .ref misMarked, .int m_inShelf, .int m_inStack, .int m_inPlace, .ref mrow, .int m_rowMany, .ref mthr, .ref mmays, .ref mtall, .ref mweights, .ref mrowOfWare, .ref mneededOf, .int m_goShelf, .int m_goStack, .int m_goLeft, .ref mtried, .ref mbestRow, .int m_bestCost, .int m_bestMany, .int m_bestShelf, .int m_bestSet, .ref mdigits])), (mtold, .inl (cyI, 240, .inl m_told)), (mnames, .inl (cyJ, 16, .inr (.inl m_names)))]) C inw_11 4 rfl rfl 7 (by decide) wd_637 rfl tyX11_ok nmX11 rfl (tyX11_ok 7 (by decide)) rfl rfl (Nat.le_of_ble_eq_true rfl) dX11_newName_52 rfl ?_
        refine j_aload_n (pc := 55) C dX11_newName_55 rfl 0 rfl ?_
        refine j_get (pc := 56) (ci := 11) (v := .ref mvalue) C inw_11 4 rfl rfl 6 (by decide) wd_645 rfl rfl dX11_newName_56 ?_
        refine j_aload_n (pc := 59) C dX11_newName_59 rfl 0 rfl ?_
        refine j_get (pc := 60) (ci := 11) (v := .int v_9) C inw_11 4 rfl rfl 7 (by decide) wd_637 rfl rfl dX11_newName_60 ?_
        refine j_iconst (pc := 63) (v := 1) C dX11_newName_63 (by decide) ?_
        obtain ⟨v_10, ev_10⟩ : ∃ z : Int32, v_9 - 1 = z := ⟨_, rfl⟩
        have el_1 : (1 : Int32).toInt = 1 := rfl
        have hv_10 : v_10.toInt = v_9.toInt - (1 : Int32).toInt := by rw [← ev_10]; exact fb_subI (by omega) (by omega)
        refine j_isub (pc := 64) (v := v_10) C dX11_newName_64 ev_10 ?_
        refine j_lald (pc := 65) (v := v_4) (k := (v_10).toInt.toNat) C 2 2 rfl rfl (i_nn (by omega)) rfl (i_lt_n (by omega) (by omega)) (by rw [show (v_10).toInt.toNat = (m_at).toInt.toNat from (by omega)]; exact ev_4) dX11_newName_65 ?_
        exact j_lret (pc := 66) C hr hk (fun i => [].getD i 0, fun i => [v_9, m_fault].getD i 0, fun i => [].getD i (fun _ => 0), fun i => [(fun _ => v_4)].getD i (fun _ => 0)) rfl (show (0 ≤ (v_9).toInt ∧ (v_9).toInt ≤ 1000) ∧ (0 ≤ (m_fault).toInt ∧ (m_fault).toInt ≤ 16005) ∧ ((m_at).toInt ≤ (v_9).toInt) ∧ ((v_9).toInt ≤ ((eN m_sort : Nat) : Int)) ∧ ((m_fault).toInt = 0 ∨ ¬ (m_fault).toInt = 0) from ⟨by omega, by omega, by omega, by omega, by omega⟩) [4, 1, 0, 2, 3, 5, 6] (by decide) rfl (by decide) (by decide) dX11_newName_66
      · skip
        have el_0 : (0 : Int32).toInt = 0 := rfl
        rw [i_le] at c_8
        refine j_lconst (pc := 43) (v := 0) C dX11_newName_43 rfl ?_
        exact j_lret (pc := 44) C hr hk (fun i => [].getD i 0, fun i => [m_at, m_fault].getD i 0, fun i => [].getD i (fun _ => 0), fun i => [(fun _ => 0)].getD i (fun _ => 0)) rfl (show (0 ≤ (m_at).toInt ∧ (m_at).toInt ≤ 1000) ∧ (0 ≤ (m_fault).toInt ∧ (m_fault).toInt ≤ 16005) ∧ ((m_at).toInt ≤ (m_at).toInt) ∧ ((m_at).toInt ≤ ((eN m_sort : Nat) : Int)) ∧ ((m_fault).toInt = 0 ∨ ¬ (m_fault).toInt = 0) from ⟨by omega, by omega, by omega, by omega, by omega⟩) [4, 1, 0, 2, 3, 5, 6] (by decide) rfl (by decide) (by decide) dX11_newName_44
    · skip
      have el_0 : (0 : Int32).toInt = 0 := rfl
      rw [i_lt] at c_7
      refine j_aload_n (pc := 31) C dX11_newName_31 rfl 0 rfl ?_
      refine j_iconst (pc := 32) (v := 3) C dX11_newName_32 (by decide) ?_
      refine j_callV (pc := 33) (As := [.int 3]) (rest := []) (wr := [(msort, .inl (cyI, 1002, .inl m_sort)), (mvalue, .inl (cyJ, 1002, .inr (.inl m_value))), (mwords, .inl (cyJ, 23, .inr (.inl m_words))), (mtold, .inl (cyI, 240, .inl m_told)), (mnames, .inl (cyJ, 16, .inr (.inl m_names)))]) C (c_X11_wrong l D cyC cyI cyJ cyZ cyO m0 mplace mtape msort mvalue mwords mtold mop marg mnames mhasHabit mfactWords mfacts mpile mstates misMarked mrow mthr mmays mtall mweights mrowOfWare mneededOf mtried mbestRow mdigits 3 m_thrown m_taped m_size m_at m_fault m_codes m_isNew m_inShelf m_inStack m_inPlace m_rowMany m_goShelf m_goStack m_goLeft m_bestCost m_bestMany m_bestShelf m_bestSet m_place (by omega) (by omega) (by omega) (by omega) (by omega) (by omega) (by omega) (by omega) (by omega) (by omega) (by omega) (by omega) (by omega) (by decide) h_m_place) wd_657 wd_624 wd_658 wd_659 wd_660 ⟨by decide, by decide, rfl⟩ rfl ⟨rfl, rfl, by decide, by decide⟩ ⟨by decide, by decide⟩ [4, 0] [1, 2, 3, 5, 6] rfl rfl ⟨by decide, by decide, by decide⟩ 4 rfl rfl rfl (Nat.le_of_ble_eq_true rfl) dX11_newName_33 (fun u_11 hw_12 => ?_)
      refine j_eq (ws2 := [(msort, .inl (cyI, 1002, .inl m_sort)), (mvalue, .inl (cyJ, 1002, .inr (.inl m_value))), (mwords, .inl (cyJ, 23, .inr (.inl m_words))), (mtold, .inl (cyI, 240, .inl m_told)), (mnames, .inl (cyJ, 16, .inr (.inl m_names))), (m0, .inr (11, [.int m_thrown, .ref mtape, .int m_taped, .int m_size, .ref msort, .ref mplace, .ref mvalue, .int m_at, .int (u_11.2.1 0), .ref mwords, .ref mtold, .ref mop, .ref marg, .int m_codes, .ref mnames, .ref mhasHabit, .int m_isNew, .ref mfactWords, .ref mfacts, .ref mpile, .ref mstates, .ref misMarked, .int m_inShelf, .int m_inStack, .int m_inPlace, .ref mrow, .int m_rowMany, .ref mthr, .ref mmays, .ref mtall, .ref mweights, .ref mrowOfWare, .ref mneededOf, .int m_goShelf, .int m_goStack, .int m_goLeft, .ref mtried, .ref mbestRow, .int m_bestCost, .int m_bestMany, .int m_bestShelf, .int m_bestSet, .ref mdigits])), (mplace, .inl (cyI, 1002, .inl m_place))]) (pc2 := 36) (lv2 := [(0, .ref m0)]) (st2 := []) rfl rfl rfl rfl ?_
      have hw_12_0 : 1 ≤ (u_11.2.1 0).toInt ∧ (u_11.2.1 0).toInt ≤ 16005 := hw_12
      refine j_aload_n (pc := 36) C dX11_newName_36 rfl 0 rfl ?_
      refine j_get (pc := 37) (ci := 11) (v := .int (u_11.2.1 0)) C inw_11 5 rfl rfl 8 (by decide) wd_638 rfl rfl dX11_newName_37 ?_
      have el_0 : (0 : Int32).toInt = 0 := rfl
      refine j_if_le_f (pc := 40) (tgt := 45) C dX11_newName_40 (by decide) (by rw [i_le]; omega) ?_
      refine j_lconst (pc := 43) (v := 0) C dX11_newName_43 rfl ?_
      exact j_lret (pc := 44) C hr hk (fun i => [].getD i 0, fun i => [m_at, (u_11.2.1 0)].getD i 0, fun i => [].getD i (fun _ => 0), fun i => [(fun _ => 0)].getD i (fun _ => 0)) rfl (show (0 ≤ (m_at).toInt ∧ (m_at).toInt ≤ 1000) ∧ (0 ≤ ((u_11.2.1 0)).toInt ∧ ((u_11.2.1 0)).toInt ≤ 16005) ∧ ((m_at).toInt ≤ (m_at).toInt) ∧ ((m_at).toInt ≤ ((eN m_sort : Nat) : Int)) ∧ ((m_fault).toInt = 0 ∨ ¬ ((u_11.2.1 0)).toInt = 0) from ⟨by omega, by omega, by omega, by omega, by omega⟩) [5, 0, 6, 1, 2, 3, 4] (by decide) rfl (by decide) (by decide) dX11_newName_44
  · skip
    have el_0 : (0 : Int32).toInt = 0 := rfl
    rw [i_eq] at c_3
    refine j_aload_n (pc := 7) C dX11_newName_7 rfl 0 rfl ?_
    refine j_iconst (pc := 8) (v := 1) C dX11_newName_8 (by decide) ?_
    refine j_callV (pc := 9) (As := [.int 1]) (rest := []) (wr := [(mtold, .inl (cyI, 240, .inl m_told)), (mnames, .inl (cyJ, 16, .inr (.inl m_names))), (msort, .inl (cyI, 1002, .inl m_sort)), (mvalue, .inl (cyJ, 1002, .inr (.inl m_value))), (mwords, .inl (cyJ, 23, .inr (.inl m_words)))]) C (c_X11_wrong l D cyC cyI cyJ cyZ cyO m0 mplace mtape msort mvalue mwords mtold mop marg mnames mhasHabit mfactWords mfacts mpile mstates misMarked mrow mthr mmays mtall mweights mrowOfWare mneededOf mtried mbestRow mdigits 1 m_thrown m_taped m_size m_at m_fault m_codes m_isNew m_inShelf m_inStack m_inPlace m_rowMany m_goShelf m_goStack m_goLeft m_bestCost m_bestMany m_bestShelf m_bestSet m_place (by omega) (by omega) (by omega) (by omega) (by omega) (by omega) (by omega) (by omega) (by omega) (by omega) (by omega) (by omega) (by omega) (by decide) h_m_place) wd_657 wd_624 wd_658 wd_659 wd_660 ⟨by decide, by decide, rfl⟩ rfl ⟨rfl, rfl, by decide, by decide⟩ ⟨by decide, by decide⟩ [3, 0] [1, 2, 4, 5, 6] rfl rfl ⟨by decide, by decide, by decide⟩ 3 rfl rfl rfl (Nat.le_of_ble_eq_true rfl) dX11_newName_9 (fun u_13 hw_14 => ?_)
    refine j_eq (ws2 := [(mtold, .inl (cyI, 240, .inl m_told)), (mnames, .inl (cyJ, 16, .inr (.inl m_names))), (msort, .inl (cyI, 1002, .inl m_sort)), (mvalue, .inl (cyJ, 1002, .inr (.inl m_value))), (mwords, .inl (cyJ, 23, .inr (.inl m_words))), (m0, .inr (11, [.int m_thrown, .ref mtape, .int m_taped, .int m_size, .ref msort, .ref mplace, .ref mvalue, .int m_at, .int (u_13.2.1 0), .ref mwords, .ref mtold, .ref mop, .ref marg, .int m_codes, .ref mnames, .ref mhasHabit, .int m_isNew, .ref mfactWords, .ref mfacts, .ref mpile, .ref mstates, .ref misMarked, .int m_inShelf, .int m_inStack, .int m_inPlace, .ref mrow, .int m_rowMany, .ref mthr, .ref mmays, .ref mtall, .ref mweights, .ref mrowOfWare, .ref mneededOf, .int m_goShelf, .int m_goStack, .int m_goLeft, .ref mtried, .ref mbestRow, .int m_bestCost, .int m_bestMany, .int m_bestShelf, .int m_bestSet, .ref mdigits])), (mplace, .inl (cyI, 1002, .inl m_place))]) (pc2 := 12) (lv2 := [(0, .ref m0)]) (st2 := []) rfl rfl rfl rfl ?_
    have hw_14_0 : 1 ≤ (u_13.2.1 0).toInt ∧ (u_13.2.1 0).toInt ≤ 16005 := hw_14
    refine j_goto (pc := 12) (tgt := 36) C dX11_newName_12 (by decide) ?_
    refine j_aload_n (pc := 36) C dX11_newName_36 rfl 0 rfl ?_
    refine j_get (pc := 37) (ci := 11) (v := .int (u_13.2.1 0)) C inw_11 5 rfl rfl 8 (by decide) wd_638 rfl rfl dX11_newName_37 ?_
    have el_0 : (0 : Int32).toInt = 0 := rfl
    refine j_if_le_f (pc := 40) (tgt := 45) C dX11_newName_40 (by decide) (by rw [i_le]; omega) ?_
    refine j_lconst (pc := 43) (v := 0) C dX11_newName_43 rfl ?_
    exact j_lret (pc := 44) C hr hk (fun i => [].getD i 0, fun i => [m_at, (u_13.2.1 0)].getD i 0, fun i => [].getD i (fun _ => 0), fun i => [(fun _ => 0)].getD i (fun _ => 0)) rfl (show (0 ≤ (m_at).toInt ∧ (m_at).toInt ≤ 1000) ∧ (0 ≤ ((u_13.2.1 0)).toInt ∧ ((u_13.2.1 0)).toInt ≤ 16005) ∧ ((m_at).toInt ≤ (m_at).toInt) ∧ ((m_at).toInt ≤ ((eN m_sort : Nat) : Int)) ∧ ((m_fault).toInt = 0 ∨ ¬ ((u_13.2.1 0)).toInt = 0) from ⟨by omega, by omega, by omega, by omega, by omega⟩) [5, 2, 6, 3, 4, 0, 1] (by decide) rfl (by decide) (by decide) dX11_newName_44
set_option maxHeartbeats 4000000 in
set_option maxRecDepth 100000 in
theorem c_X11_takeAfter (l : Launch) (D : DG) (cyC cyI cyJ cyZ cyO : ClassId) (m0 : Nat) (msort : Nat) (mplace : Nat) (mvalue : Nat) (mwords : Nat) (mtape : Nat) (mtold : Nat) (mop : Nat) (marg : Nat) (mnames : Nat) (mhasHabit : Nat) (mfactWords : Nat) (mfacts : Nat) (mpile : Nat) (mstates : Nat) (misMarked : Nat) (mrow : Nat) (mthr : Nat) (mmays : Nat) (mtall : Nat) (mweights : Nat) (mrowOfWare : Nat) (mneededOf : Nat) (mtried : Nat) (mbestRow : Nat) (mdigits : Nat) (p2 : Int32) (p0 : Int32) (p1 : Int32) (m_thrown : Int32) (m_taped : Int32) (m_size : Int32) (m_at : Int32) (m_fault : Int32) (m_codes : Int32) (m_isNew : Int32) (m_inShelf : Int32) (m_inStack : Int32) (m_inPlace : Int32) (m_rowMany : Int32) (m_goShelf : Int32) (m_goStack : Int32) (m_goLeft : Int32) (m_bestCost : Int32) (m_bestMany : Int32) (m_bestShelf : Int32) (m_bestSet : Int32) (m_sort : Nat → Int32) (m_place : Nat → Int32) (m_value : Nat → Int64) (m_words : Nat → Int64) (h_m_taped : 0 ≤ (m_taped).toInt ∧ (m_taped).toInt ≤ 1000) (h_m_size : 0 ≤ (m_size).toInt ∧ (m_size).toInt ≤ 1000) (h_m_at : 0 ≤ (m_at).toInt ∧ (m_at).toInt ≤ 1000) (h_m_fault : 0 ≤ (m_fault).toInt ∧ (m_fault).toInt ≤ 16005) (h_m_codes : 0 ≤ (m_codes).toInt ∧ (m_codes).toInt ≤ 1000) (h_m_isNew : 0 ≤ (m_isNew).toInt ∧ (m_isNew).toInt ≤ 1) (h_m_inShelf : 0 ≤ (m_inShelf).toInt ∧ (m_inShelf).toInt ≤ 3) (h_m_inStack : 0 ≤ (m_inStack).toInt ∧ (m_inStack).toInt ≤ 7) (h_m_inPlace : 0 ≤ (m_inPlace).toInt ∧ (m_inPlace).toInt ≤ 11) (h_m_rowMany : 0 ≤ (m_rowMany).toInt ∧ (m_rowMany).toInt ≤ 12) (h_m_goShelf : -1 ≤ (m_goShelf).toInt ∧ (m_goShelf).toInt ≤ 3) (h_m_bestMany : 0 ≤ (m_bestMany).toInt ∧ (m_bestMany).toInt ≤ 7) (h_m_bestShelf : 0 ≤ (m_bestShelf).toInt ∧ (m_bestShelf).toInt ≤ 3) (h_p2 : 0 ≤ (p2).toInt ∧ (p2).toInt ≤ 22) (h_m_place : Iv 1002 (0) (1000) m_place) (hN1 : eN m_sort ≤ 1000) (hN2 : (m_at).toInt ≤ ((eN m_sort : Nat) : Int)) : KK l D (TY cyC cyI cyJ cyZ cyO) yX11_takeAfter cX11_takeAfter 4 (some .int) ({ frames := 3, cells := 0, slots := 0, locals := 64 } : Room) 0 0 [.ref m0, .int p2, .int p0, .int p1] [(m0, .inr (11, [.int m_thrown, .ref mtape, .int m_taped, .int m_size, .ref msort, .ref mplace, .ref mvalue, .int m_at, .int m_fault, .ref mwords, .ref mtold, .ref mop, .ref marg, .int m_codes, .ref mnames, .ref mhasHabit, .int m_isNew, .ref mfactWords, .ref mfacts, .ref mpile, .ref mstates, .ref misMarked, .int m_inShelf, .int m_inStack, .int m_inPlace, .ref mrow, .int m_rowMany, .ref mthr, .ref mmays, .ref mtall, .ref mweights, .ref mrowOfWare, .ref mneededOf, .int m_goShelf, .int m_goStack, .int m_goLeft, .ref mtried, .ref mbestRow, .int m_bestCost, .int m_bestMany, .int m_bestShelf, .int m_bestSet, .ref mdigits])), (msort, .inl (cyI, 1002, .inl m_sort)), (mplace, .inl (cyI, 1002, .inl m_place)), (mvalue, .inl (cyJ, 1002, .inr (.inl m_value))), (mwords, .inl (cyJ, 23, .inr (.inl m_words)))] (fun u => some (.int (u.2.1 0))) (fun u => (0 ≤ (u.2.1 1).toInt ∧ (u.2.1 1).toInt ≤ 1000) ∧ (0 ≤ (u.2.1 2).toInt ∧ (u.2.1 2).toInt ≤ 16005) ∧ ((m_at).toInt ≤ ((u.2.1 1)).toInt) ∧ (((u.2.1 1)).toInt ≤ ((eN m_sort : Nat) : Int)) ∧ ((m_fault).toInt = 0 ∨ ¬ ((u.2.1 2)).toInt = 0) ∧ ((u.2.1 0).toInt = 0 ∨ (p0).toInt ≤ (u.2.1 0).toInt ∧ (u.2.1 0).toInt ≤ (p1).toInt)) (fun u => [(m0, .inr (11, [.int m_thrown, .ref mtape, .int m_taped, .int m_size, .ref msort, .ref mplace, .ref mvalue, .int (u.2.1 1), .int (u.2.1 2), .ref mwords, .ref mtold, .ref mop, .ref marg, .int m_codes, .ref mnames, .ref mhasHabit, .int m_isNew, .ref mfactWords, .ref mfacts, .ref mpile, .ref mstates, .ref misMarked, .int m_inShelf, .int m_inStack, .int m_inPlace, .ref mrow, .int m_rowMany, .ref mthr, .ref mmays, .ref mtall, .ref mweights, .ref mrowOfWare, .ref mneededOf, .int m_goShelf, .int m_goStack, .int m_goLeft, .ref mtried, .ref mbestRow, .int m_bestCost, .int m_bestMany, .int m_bestShelf, .int m_bestSet, .ref mdigits])), (msort, .inl (cyI, 1002, .inl m_sort)), (mplace, .inl (cyI, 1002, .inl m_place)), (mvalue, .inl (cyJ, 1002, .inr (.inl m_value))), (mwords, .inl (cyJ, 23, .inr (.inl m_words)))]) := by
  refine KK.of (lv0 := [(0, .ref m0), (1, .int p2), (2, .int p0), (3, .int p1)]) (by decide) rfl (Nat.le_of_ble_eq_true rfl) ?_
  intro p e s m args below meth c A C hr hk hin
  refine j_aload_n (pc := 0) C dX11_takeAfter_0 rfl 0 rfl ?_
  refine j_iload_n (pc := 1) C dX11_takeAfter_1 rfl 1 rfl ?_
  refine j_callV (pc := 2) (As := [.int p2]) (rest := []) (wr := []) C (c_X11_takeWord l D cyC cyI cyJ cyZ cyO m0 msort mplace mvalue mwords mtape mtold mop marg mnames mhasHabit mfactWords mfacts mpile mstates misMarked mrow mthr mmays mtall mweights mrowOfWare mneededOf mtried mbestRow mdigits p2 m_thrown m_taped m_size m_at m_fault m_codes m_isNew m_inShelf m_inStack m_inPlace m_rowMany m_goShelf m_goStack m_goLeft m_bestCost m_bestMany m_bestShelf m_bestSet m_sort m_place m_value m_words (by omega) (by omega) (by omega) (by omega) (by omega) (by omega) (by omega) (by omega) (by omega) (by omega) (by omega) (by omega) (by omega) (by omega) h_m_place (by omega) (by omega)) wd_679 wd_624 wd_680 wd_681 wd_682 ⟨by decide, by decide, rfl⟩ rfl ⟨rfl, rfl, by decide, by decide⟩ ⟨by decide, by decide⟩ [0, 1, 2, 3, 4] [] rfl rfl ⟨by decide, by decide, by decide⟩ 0 rfl rfl rfl (Nat.le_of_ble_eq_true rfl) dX11_takeAfter_2 (fun u_1 hw_2 => ?_)
  refine j_eq (ws2 := [(m0, .inr (11, [.int m_thrown, .ref mtape, .int m_taped, .int m_size, .ref msort, .ref mplace, .ref mvalue, .int (u_1.2.1 0), .int (u_1.2.1 1), .ref mwords, .ref mtold, .ref mop, .ref marg, .int m_codes, .ref mnames, .ref mhasHabit, .int m_isNew, .ref mfactWords, .ref mfacts, .ref mpile, .ref mstates, .ref misMarked, .int m_inShelf, .int m_inStack, .int m_inPlace, .ref mrow, .int m_rowMany, .ref mthr, .ref mmays, .ref mtall, .ref mweights, .ref mrowOfWare, .ref mneededOf, .int m_goShelf, .int m_goStack, .int m_goLeft, .ref mtried, .ref mbestRow, .int m_bestCost, .int m_bestMany, .int m_bestShelf, .int m_bestSet, .ref mdigits])), (msort, .inl (cyI, 1002, .inl m_sort)), (mplace, .inl (cyI, 1002, .inl m_place)), (mvalue, .inl (cyJ, 1002, .inr (.inl m_value))), (mwords, .inl (cyJ, 23, .inr (.inl m_words)))]) (pc2 := 5) (lv2 := [(0, .ref m0), (1, .int p2), (2, .int p0), (3, .int p1)]) (st2 := []) rfl rfl rfl rfl ?_
  obtain ⟨hw_2_0, hw_2_1, hw_2_2, hw_2_3, hw_2_4⟩ := hw_2
  refine j_aload_n (pc := 5) C dX11_takeAfter_5 rfl 0 rfl ?_
  refine j_iload_n (pc := 6) C dX11_takeAfter_6 rfl 2 rfl ?_
  refine j_iload_n (pc := 7) C dX11_takeAfter_7 rfl 3 rfl ?_
  refine j_callV (pc := 8) (As := [.int p0, .int p1]) (rest := []) (wr := [(mwords, .inl (cyJ, 23, .inr (.inl m_words)))]) C (c_X11_takeNumber l D cyC cyI cyJ cyZ cyO m0 msort mplace mvalue mtape mwords mtold mop marg mnames mhasHabit mfactWords mfacts mpile mstates misMarked mrow mthr mmays mtall mweights mrowOfWare mneededOf mtried mbestRow mdigits p0 p1 m_thrown m_taped m_size (u_1.2.1 0) (u_1.2.1 1) m_codes m_isNew m_inShelf m_inStack m_inPlace m_rowMany m_goShelf m_goStack m_goLeft m_bestCost m_bestMany m_bestShelf m_bestSet m_sort m_place m_value (by omega) (by omega) (by omega) (by omega) (by omega) (by omega) (by omega) (by omega) (by omega) (by omega) (by omega) (by omega) (by omega) h_m_place (by omega) (by omega)) wd_683 wd_624 wd_684 wd_685 wd_686 ⟨by decide, by decide, rfl⟩ rfl ⟨rfl, rfl, by decide, by decide⟩ ⟨by decide, by decide⟩ [0, 1, 2, 3] [4] rfl rfl ⟨by decide, by decide, by decide⟩ 0 rfl rfl rfl (Nat.le_of_ble_eq_true rfl) dX11_takeAfter_8 (fun u_3 hw_4 => ?_)
  refine j_eq (ws2 := [(mwords, .inl (cyJ, 23, .inr (.inl m_words))), (m0, .inr (11, [.int m_thrown, .ref mtape, .int m_taped, .int m_size, .ref msort, .ref mplace, .ref mvalue, .int (u_3.2.1 1), .int (u_3.2.1 2), .ref mwords, .ref mtold, .ref mop, .ref marg, .int m_codes, .ref mnames, .ref mhasHabit, .int m_isNew, .ref mfactWords, .ref mfacts, .ref mpile, .ref mstates, .ref misMarked, .int m_inShelf, .int m_inStack, .int m_inPlace, .ref mrow, .int m_rowMany, .ref mthr, .ref mmays, .ref mtall, .ref mweights, .ref mrowOfWare, .ref mneededOf, .int m_goShelf, .int m_goStack, .int m_goLeft, .ref mtried, .ref mbestRow, .int m_bestCost, .int m_bestMany, .int m_bestShelf, .int m_bestSet, .ref mdigits])), (msort, .inl (cyI, 1002, .inl m_sort)), (mplace, .inl (cyI, 1002, .inl m_place)), (mvalue, .inl (cyJ, 1002, .inr (.inl m_value)))]) (pc2 := 11) (lv2 := [(0, .ref m0), (1, .int p2), (2, .int p0), (3, .int p1)]) (st2 := [.int (u_3.2.1 0)]) rfl rfl rfl rfl ?_
  obtain ⟨hw_4_0, hw_4_1, hw_4_2, hw_4_3, hw_4_4, hw_4_5⟩ := hw_4
  exact j_iret (pc := 11) C hr hk (fun i => [].getD i 0, fun i => [(u_3.2.1 0), (u_3.2.1 1), (u_3.2.1 2)].getD i 0, fun i => [].getD i (fun _ => 0), fun i => [].getD i (fun _ => 0)) rfl (show (0 ≤ ((u_3.2.1 1)).toInt ∧ ((u_3.2.1 1)).toInt ≤ 1000) ∧ (0 ≤ ((u_3.2.1 2)).toInt ∧ ((u_3.2.1 2)).toInt ≤ 16005) ∧ ((m_at).toInt ≤ ((u_3.2.1 1)).toInt) ∧ (((u_3.2.1 1)).toInt ≤ ((eN m_sort : Nat) : Int)) ∧ ((m_fault).toInt = 0 ∨ ¬ ((u_3.2.1 2)).toInt = 0) ∧ ((u_3.2.1 0).toInt = 0 ∨ (p0).toInt ≤ (u_3.2.1 0).toInt ∧ (u_3.2.1 0).toInt ≤ (p1).toInt) from ⟨by omega, by omega, by omega, by omega, by omega, by omega⟩) [1, 2, 3, 4, 0] (by decide) rfl (by decide) (by decide) dX11_takeAfter_11
set_option maxHeartbeats 4000000 in
set_option maxRecDepth 100000 in
theorem c_X11_readWare (l : Launch) (D : DG) (cyC cyI cyJ cyZ cyO : ClassId) (m0 : Nat) (msort : Nat) (mplace : Nat) (mvalue : Nat) (mwords : Nat) (mtold : Nat) (mnames : Nat) (mtape : Nat) (mop : Nat) (marg : Nat) (mhasHabit : Nat) (mfactWords : Nat) (mfacts : Nat) (mpile : Nat) (mstates : Nat) (misMarked : Nat) (mrow : Nat) (mthr : Nat) (mmays : Nat) (mtall : Nat) (mweights : Nat) (mrowOfWare : Nat) (mneededOf : Nat) (mtried : Nat) (mbestRow : Nat) (mdigits : Nat) (p0 : Int32) (m_thrown : Int32) (m_taped : Int32) (m_size : Int32) (m_at : Int32) (m_fault : Int32) (m_codes : Int32) (m_isNew : Int32) (m_inShelf : Int32) (m_inStack : Int32) (m_inPlace : Int32) (m_rowMany : Int32) (m_goShelf : Int32) (m_goStack : Int32) (m_goLeft : Int32) (m_bestCost : Int32) (m_bestMany : Int32) (m_bestShelf : Int32) (m_bestSet : Int32) (m_sort : Nat → Int32) (m_place : Nat → Int32) (m_value : Nat → Int64) (m_words : Nat → Int64) (m_told : Nat → Int32) (m_names : Nat → Int64) (h_m_taped : 0 ≤ (m_taped).toInt ∧ (m_taped).toInt ≤ 1000) (h_m_size : 0 ≤ (m_size).toInt ∧ (m_size).toInt ≤ 1000) (h_m_at : 0 ≤ (m_at).toInt ∧ (m_at).toInt ≤ 1000) (h_m_fault : 0 ≤ (m_fault).toInt ∧ (m_fault).toInt ≤ 16005) (h_m_codes : 0 ≤ (m_codes).toInt ∧ (m_codes).toInt ≤ 1000) (h_m_isNew : 0 ≤ (m_isNew).toInt ∧ (m_isNew).toInt ≤ 1) (h_m_inShelf : 0 ≤ (m_inShelf).toInt ∧ (m_inShelf).toInt ≤ 3) (h_m_inStack : 0 ≤ (m_inStack).toInt ∧ (m_inStack).toInt ≤ 7) (h_m_inPlace : 0 ≤ (m_inPlace).toInt ∧ (m_inPlace).toInt ≤ 11) (h_m_rowMany : 0 ≤ (m_rowMany).toInt ∧ (m_rowMany).toInt ≤ 12) (h_m_goShelf : -1 ≤ (m_goShelf).toInt ∧ (m_goShelf).toInt ≤ 3) (h_m_bestMany : 0 ≤ (m_bestMany).toInt ∧ (m_bestMany).toInt ≤ 7) (h_m_bestShelf : 0 ≤ (m_bestShelf).toInt ∧ (m_bestShelf).toInt ≤ 3) (h_m_place : Iv 1002 (0) (1000) m_place) (h_m_told : TV m_told) (hN1 : eN m_sort ≤ 1000) (hN2 : (m_at).toInt ≤ ((eN m_sort : Nat) : Int)) (hN3 : (m_at).toInt < ((eN m_sort : Nat) : Int)) : KK l D (TY cyC cyI cyJ cyZ cyO) yX11_readWare cX11_readWare 6 none ({ frames := 4, cells := 0, slots := 0, locals := 87 } : Room) 0 0 [.ref m0, .int p0] [(m0, .inr (11, [.int m_thrown, .ref mtape, .int m_taped, .int m_size, .ref msort, .ref mplace, .ref mvalue, .int m_at, .int m_fault, .ref mwords, .ref mtold, .ref mop, .ref marg, .int m_codes, .ref mnames, .ref mhasHabit, .int m_isNew, .ref mfactWords, .ref mfacts, .ref mpile, .ref mstates, .ref misMarked, .int m_inShelf, .int m_inStack, .int m_inPlace, .ref mrow, .int m_rowMany, .ref mthr, .ref mmays, .ref mtall, .ref mweights, .ref mrowOfWare, .ref mneededOf, .int m_goShelf, .int m_goStack, .int m_goLeft, .ref mtried, .ref mbestRow, .int m_bestCost, .int m_bestMany, .int m_bestShelf, .int m_bestSet, .ref mdigits])), (msort, .inl (cyI, 1002, .inl m_sort)), (mplace, .inl (cyI, 1002, .inl m_place)), (mvalue, .inl (cyJ, 1002, .inr (.inl m_value))), (mwords, .inl (cyJ, 23, .inr (.inl m_words))), (mtold, .inl (cyI, 240, .inl m_told)), (mnames, .inl (cyJ, 16, .inr (.inl m_names)))] (fun u => none) (fun u => (0 ≤ (u.2.1 0).toInt ∧ (u.2.1 0).toInt ≤ 1000) ∧ (0 ≤ (u.2.1 1).toInt ∧ (u.2.1 1).toInt ≤ 16005) ∧ (TV (u.2.2.1 0)) ∧ ((m_at).toInt ≤ ((u.2.1 0)).toInt) ∧ (((u.2.1 0)).toInt ≤ ((eN m_sort : Nat) : Int)) ∧ ((m_fault).toInt = 0 ∨ ¬ ((u.2.1 1)).toInt = 0) ∧ (∀ j : Nat, (j < 120 ∨ j = 122 ∨ 231 ≤ j) → (u.2.2.1 0) j = m_told j)) (fun u => [(m0, .inr (11, [.int m_thrown, .ref mtape, .int m_taped, .int m_size, .ref msort, .ref mplace, .ref mvalue, .int (u.2.1 0), .int (u.2.1 1), .ref mwords, .ref mtold, .ref mop, .ref marg, .int m_codes, .ref mnames, .ref mhasHabit, .int m_isNew, .ref mfactWords, .ref mfacts, .ref mpile, .ref mstates, .ref misMarked, .int m_inShelf, .int m_inStack, .int m_inPlace, .ref mrow, .int m_rowMany, .ref mthr, .ref mmays, .ref mtall, .ref mweights, .ref mrowOfWare, .ref mneededOf, .int m_goShelf, .int m_goStack, .int m_goLeft, .ref mtried, .ref mbestRow, .int m_bestCost, .int m_bestMany, .int m_bestShelf, .int m_bestSet, .ref mdigits])), (msort, .inl (cyI, 1002, .inl m_sort)), (mplace, .inl (cyI, 1002, .inl m_place)), (mvalue, .inl (cyJ, 1002, .inr (.inl m_value))), (mwords, .inl (cyJ, 23, .inr (.inl m_words))), (mtold, .inl (cyI, 240, .inl (u.2.2.1 0))), (mnames, .inl (cyJ, 16, .inr (.inl (u.2.2.2 0))))]) := by
  refine KK.of (lv0 := [(0, .ref m0), (1, .int p0)]) (by decide) rfl (Nat.le_of_ble_eq_true rfl) ?_
  intro p e s m args below meth c A C hr hk hin
  refine j_aload_n (pc := 0) C dX11_readWare_0 rfl 0 rfl ?_
  refine j_get (pc := 1) (ci := 11) (v := .ref mtold) C inw_11 0 rfl rfl 10 (by decide) wd_669 rfl rfl dX11_readWare_1 ?_
  refine j_bipush (pc := 4) (v := 120) C dX11_readWare_4 (by decide) ?_
  obtain ⟨v_1, ev_1⟩ : ∃ z, m_told 120 = z := ⟨_, rfl⟩
  have env_1 : (m_told 120).toInt = v_1.toInt := by rw [ev_1]
  have hv_1 : 0 ≤ v_1.toInt ∧ v_1.toInt ≤ 12 := by have z := h_m_told 120 (by decide); rw [ev_1] at z; exact z
  refine j_iald (pc := 6) (v := v_1) (k := 120) C 5 1 rfl rfl (by decide) (by decide) (by decide) ev_1 dX11_readWare_6 ?_
  refine j_istore_n (pc := 7) (lv' := [(2, .int v_1), (0, .ref m0), (1, .int p0)]) C dX11_readWare_7 rfl (by decide) rfl ?_
  refine j_iload_n (pc := 8) C dX11_readWare_8 rfl 0 rfl ?_
  refine j_bipush (pc := 9) (v := 12) C dX11_readWare_9 (by decide) ?_
  refine j_icmp_ne (pc := 11) (tgt := 20) C dX11_readWare_11 (by decide) (fun c_2 => ?_) (fun c_2 => ?_)
  · skip
    have el_12 : (12 : Int32).toInt = 12 := rfl
    rw [i_eq] at c_2
    refine j_aload_n (pc := 20) C dX11_readWare_20 rfl 1 rfl ?_
    refine j_dup (pc := 21) C dX11_readWare_21 rfl ?_
    refine j_get (pc := 22) (ci := 11) (v := .int m_at) C inw_11 0 rfl rfl 7 (by decide) wd_637 rfl rfl dX11_readWare_22 ?_
    refine j_iconst (pc := 25) (v := 1) C dX11_readWare_25 (by decide) ?_
    obtain ⟨v_3, ev_3⟩ : ∃ z : Int32, m_at + 1 = z := ⟨_, rfl⟩
    have el_1 : (1 : Int32).toInt = 1 := rfl
    have hv_3 : v_3.toInt = m_at.toInt + (1 : Int32).toInt := by rw [← ev_3]; exact fb_addI (by omega) (by omega)
    refine j_iadd (pc := 26) (v := v_3) C dX11_readWare_26 ev_3 ?_
    refine j_put (pc := 27) (ci := 11) (v := .int v_3) (ws' := [(m0, .inr (11, [.int m_thrown, .ref mtape, .int m_taped, .int m_size, .ref msort, .ref mplace, .ref mvalue, .int v_3, .int m_fault, .ref mwords, .ref mtold, .ref mop, .ref marg, .int m_codes, .ref mnames, .ref mhasHabit, .int m_isNew, .ref mfactWords, .ref mfacts, .ref mpile, .ref mstates, .ref misMarked, .int m_inShelf, .int m_inStack, .int m_inPlace, .ref mrow, .int m_rowMany, .ref mthr, .ref mmays, .ref mtall, .ref mweights, .ref mrowOfWare, .ref mneededOf, .int m_goShelf, .int m_goStack, .int m_goLeft, .ref mtried, .ref mbestRow, .int m_bestCost, .int m_bestMany, .int m_bestShelf, .int m_bestSet, .ref mdigits])), (msort, .inl (cyI, 1002, .inl m_sort)), (mplace, .inl (cyI, 1002, .inl m_place)), (mvalue, .inl (cyJ, 1002, .inr (.inl m_value))), (mwords, .inl (cyJ, 23, .inr (.inl m_words))), (mtold, .inl (cyI, 240, .inl m_told)), (mnames, .inl (cyJ, 16, .inr (.inl m_names)))]) C inw_11 0 rfl rfl 7 (by decide) wd_637 rfl tyX11_ok nmX11 rfl (tyX11_ok 7 (by decide)) rfl rfl (Nat.le_of_ble_eq_true rfl) dX11_readWare_27 rfl ?_
    refine j_aload_n (pc := 30) C dX11_readWare_30 rfl 1 rfl ?_
    refine j_callV (pc := 31) (As := []) (rest := []) (wr := []) C (c_X11_newName l D cyC cyI cyJ cyZ cyO m0 msort mplace mvalue mwords mtold mnames mtape mop marg mhasHabit mfactWords mfacts mpile mstates misMarked mrow mthr mmays mtall mweights mrowOfWare mneededOf mtried mbestRow mdigits m_thrown m_taped m_size v_3 m_fault m_codes m_isNew m_inShelf m_inStack m_inPlace m_rowMany m_goShelf m_goStack m_goLeft m_bestCost m_bestMany m_bestShelf m_bestSet m_sort m_place m_value m_words m_told m_names (by omega) (by omega) (by omega) (by omega) (by omega) (by omega) (by omega) (by omega) (by omega) (by omega) (by omega) (by omega) (by omega) h_m_place h_m_told (by omega) (by omega)) wd_687 wd_624 wd_688 wd_689 wd_690 ⟨by decide, by decide, rfl⟩ rfl ⟨rfl, rfl, by decide, by decide⟩ ⟨by decide, by decide⟩ [0, 1, 2, 3, 4, 5, 6] [] rfl rfl ⟨by decide, by decide, by decide⟩ 0 rfl rfl rfl (Nat.le_of_ble_eq_true rfl) dX11_readWare_31 (fun u_4 hw_5 => ?_)
    refine j_eq (ws2 := [(m0, .inr (11, [.int m_thrown, .ref mtape, .int m_taped, .int m_size, .ref msort, .ref mplace, .ref mvalue, .int (u_4.2.1 0), .int (u_4.2.1 1), .ref mwords, .ref mtold, .ref mop, .ref marg, .int m_codes, .ref mnames, .ref mhasHabit, .int m_isNew, .ref mfactWords, .ref mfacts, .ref mpile, .ref mstates, .ref misMarked, .int m_inShelf, .int m_inStack, .int m_inPlace, .ref mrow, .int m_rowMany, .ref mthr, .ref mmays, .ref mtall, .ref mweights, .ref mrowOfWare, .ref mneededOf, .int m_goShelf, .int m_goStack, .int m_goLeft, .ref mtried, .ref mbestRow, .int m_bestCost, .int m_bestMany, .int m_bestShelf, .int m_bestSet, .ref mdigits])), (msort, .inl (cyI, 1002, .inl m_sort)), (mplace, .inl (cyI, 1002, .inl m_place)), (mvalue, .inl (cyJ, 1002, .inr (.inl m_value))), (mwords, .inl (cyJ, 23, .inr (.inl m_words))), (mtold, .inl (cyI, 240, .inl m_told)), (mnames, .inl (cyJ, 16, .inr (.inl m_names)))]) (pc2 := 34) (lv2 := [(2, .int v_1), (0, .ref m0), (1, .int p0)]) (st2 := [.long (u_4.2.2.2 0 0)]) rfl rfl rfl rfl ?_
    obtain ⟨hw_5_0, hw_5_1, hw_5_2, hw_5_3, hw_5_4⟩ := hw_5
    refine j_lstore_n (pc := 34) (lv' := [(3, .long (u_4.2.2.2 0 0)), (2, .int v_1), (0, .ref m0), (1, .int p0)]) C dX11_readWare_34 rfl (by decide) rfl ?_
    refine j_bipush (pc := 35) (v := 123) C dX11_readWare_35 (by decide) ?_
    refine j_bipush (pc := 37) (v := 8) C dX11_readWare_37 (by decide) ?_
    refine j_iload_n (pc := 39) C dX11_readWare_39 rfl 1 rfl ?_
    obtain ⟨v_6, ev_6⟩ : ∃ z : Int32, 8 * v_1 = z := ⟨_, rfl⟩
    have el_8 : (8 : Int32).toInt = 8 := rfl
    have hv_6 : v_6.toInt = 8 * v_1.toInt := by rw [← ev_6]; exact mulL (c := 8) rfl (by omega) (by omega)
    refine j_imul (pc := 40) (v := v_6) C dX11_readWare_40 ev_6 ?_
    obtain ⟨v_7, ev_7⟩ : ∃ z : Int32, 123 + v_6 = z := ⟨_, rfl⟩
    have el_123 : (123 : Int32).toInt = 123 := rfl
    have hv_7 : v_7.toInt = (123 : Int32).toInt + v_6.toInt := by rw [← ev_7]; exact fb_addI (by omega) (by omega)
    refine j_iadd (pc := 41) (v := v_7) C dX11_readWare_41 ev_7 ?_
    refine j_istore (pc := 42) (lv' := [(5, .int v_7), (3, .long (u_4.2.2.2 0 0)), (2, .int v_1), (0, .ref m0), (1, .int p0)]) C dX11_readWare_42 (by decide) rfl ?_
    refine j_aload_n (pc := 44) C dX11_readWare_44 rfl 3 rfl ?_
    refine j_get (pc := 45) (ci := 11) (v := .ref mtold) C inw_11 0 rfl rfl 10 (by decide) wd_669 rfl rfl dX11_readWare_45 ?_
    refine j_iload (pc := 48) C dX11_readWare_48 0 rfl ?_
    refine j_iconst (pc := 50) (v := 0) C dX11_readWare_50 (by decide) ?_
    obtain ⟨v_8, ev_8⟩ : ∃ z : Int32, v_7 + 0 = z := ⟨_, rfl⟩
    have el_0 : (0 : Int32).toInt = 0 := rfl
    have hv_8 : v_8.toInt = v_7.toInt + (0 : Int32).toInt := by rw [← ev_8]; exact fb_addI (by omega) (by omega)
    refine j_iadd (pc := 51) (v := v_8) C dX11_readWare_51 ev_8 ?_
    refine j_aload_n (pc := 52) C dX11_readWare_52 rfl 3 rfl ?_
    refine j_bipush (pc := 53) (v := 6) C dX11_readWare_53 (by decide) ?_
    refine j_iconst (pc := 55) (v := 1) C dX11_readWare_55 (by decide) ?_
    refine j_bipush (pc := 56) (v := 99) C dX11_readWare_56 (by decide) ?_
    refine j_callV (pc := 58) (As := [.int 6, .int 1, .int 99]) (rest := [.int v_8, .ref mtold]) (wr := [(mtold, .inl (cyI, 240, .inl m_told)), (mnames, .inl (cyJ, 16, .inr (.inl m_names)))]) C (c_X11_takeAfter l D cyC cyI cyJ cyZ cyO m0 msort mplace mvalue mwords mtape mtold mop marg mnames mhasHabit mfactWords mfacts mpile mstates misMarked mrow mthr mmays mtall mweights mrowOfWare mneededOf mtried mbestRow mdigits 6 1 99 m_thrown m_taped m_size (u_4.2.1 0) (u_4.2.1 1) m_codes m_isNew m_inShelf m_inStack m_inPlace m_rowMany m_goShelf m_goStack m_goLeft m_bestCost m_bestMany m_bestShelf m_bestSet m_sort m_place m_value m_words (by omega) (by omega) (by omega) (by omega) (by omega) (by omega) (by omega) (by omega) (by omega) (by omega) (by omega) (by omega) (by omega) (by decide) h_m_place (by omega) (by omega)) wd_691 wd_624 wd_692 wd_693 wd_694 ⟨by decide, by decide, rfl⟩ rfl ⟨rfl, rfl, by decide, by decide⟩ ⟨by decide, by decide⟩ [0, 1, 2, 3, 4] [5, 6] rfl rfl ⟨by decide, by decide, by decide⟩ 0 rfl rfl rfl (Nat.le_of_ble_eq_true rfl) dX11_readWare_58 (fun u_9 hw_10 => ?_)
    refine j_eq (ws2 := [(mtold, .inl (cyI, 240, .inl m_told)), (mnames, .inl (cyJ, 16, .inr (.inl m_names))), (m0, .inr (11, [.int m_thrown, .ref mtape, .int m_taped, .int m_size, .ref msort, .ref mplace, .ref mvalue, .int (u_9.2.1 1), .int (u_9.2.1 2), .ref mwords, .ref mtold, .ref mop, .ref marg, .int m_codes, .ref mnames, .ref mhasHabit, .int m_isNew, .ref mfactWords, .ref mfacts, .ref mpile, .ref mstates, .ref misMarked, .int m_inShelf, .int m_inStack, .int m_inPlace, .ref mrow, .int m_rowMany, .ref mthr, .ref mmays, .ref mtall, .ref mweights, .ref mrowOfWare, .ref mneededOf, .int m_goShelf, .int m_goStack, .int m_goLeft, .ref mtried, .ref mbestRow, .int m_bestCost, .int m_bestMany, .int m_bestShelf, .int m_bestSet, .ref mdigits])), (msort, .inl (cyI, 1002, .inl m_sort)), (mplace, .inl (cyI, 1002, .inl m_place)), (mvalue, .inl (cyJ, 1002, .inr (.inl m_value))), (mwords, .inl (cyJ, 23, .inr (.inl m_words)))]) (pc2 := 61) (lv2 := [(5, .int v_7), (3, .long (u_4.2.2.2 0 0)), (2, .int v_1), (0, .ref m0), (1, .int p0)]) (st2 := [.int (u_9.2.1 0), .int v_8, .ref mtold]) rfl rfl rfl rfl ?_
    obtain ⟨hw_10_0, hw_10_1, hw_10_2, hw_10_3, hw_10_4, hw_10_5⟩ := hw_10
    have el_6 : (6 : Int32).toInt = 6 := rfl
    have el_1 : (1 : Int32).toInt = 1 := rfl
    have el_99 : (99 : Int32).toInt = 99 := rfl
    obtain ⟨f_11, ef_11⟩ : ∃ z, z = upd m_told (v_8).toInt.toNat (u_9.2.1 0) := ⟨_, rfl⟩
    have hf_11 : TV f_11 := by rw [ef_11]; exact TV.upd h_m_told (by omega) (Int.le_trans (show _ ≤ (999 : Int) from (by omega)) (hiT_k (by omega)))
    refine j_iast (pc := 61) (k := (v_8).toInt.toNat) (ws' := [(mtold, .inl (cyI, 240, .inl f_11)), (mnames, .inl (cyJ, 16, .inr (.inl m_names))), (m0, .inr (11, [.int m_thrown, .ref mtape, .int m_taped, .int m_size, .ref msort, .ref mplace, .ref mvalue, .int (u_9.2.1 1), .int (u_9.2.1 2), .ref mwords, .ref mtold, .ref mop, .ref marg, .int m_codes, .ref mnames, .ref mhasHabit, .int m_isNew, .ref mfactWords, .ref mfacts, .ref mpile, .ref mstates, .ref misMarked, .int m_inShelf, .int m_inStack, .int m_inPlace, .ref mrow, .int m_rowMany, .ref mthr, .ref mmays, .ref mtall, .ref mweights, .ref mrowOfWare, .ref mneededOf, .int m_goShelf, .int m_goStack, .int m_goLeft, .ref mtried, .ref mbestRow, .int m_bestCost, .int m_bestMany, .int m_bestShelf, .int m_bestSet, .ref mdigits])), (msort, .inl (cyI, 1002, .inl m_sort)), (mplace, .inl (cyI, 1002, .inl m_place)), (mvalue, .inl (cyJ, 1002, .inr (.inl m_value))), (mwords, .inl (cyJ, 23, .inr (.inl m_words)))]) C 0 1 rfl rfl (i_nn (by omega)) rfl (i_lt_n (by omega) (by omega)) dX11_readWare_61 (by rw [ef_11]; rfl) ?_
    refine j_aload_n (pc := 62) C dX11_readWare_62 rfl 3 rfl ?_
    refine j_get (pc := 63) (ci := 11) (v := .ref mtold) C inw_11 2 rfl rfl 10 (by decide) wd_669 rfl rfl dX11_readWare_63 ?_
    refine j_iload (pc := 66) C dX11_readWare_66 0 rfl ?_
    refine j_iconst (pc := 68) (v := 1) C dX11_readWare_68 (by decide) ?_
    obtain ⟨v_12, ev_12⟩ : ∃ z : Int32, v_7 + 1 = z := ⟨_, rfl⟩
    have el_1 : (1 : Int32).toInt = 1 := rfl
    have hv_12 : v_12.toInt = v_7.toInt + (1 : Int32).toInt := by rw [← ev_12]; exact fb_addI (by omega) (by omega)
    refine j_iadd (pc := 69) (v := v_12) C dX11_readWare_69 ev_12 ?_
    refine j_iload_n (pc := 70) C dX11_readWare_70 rfl 4 rfl ?_
    refine j_if_eq (pc := 71) (tgt := 78) C dX11_readWare_71 (by decide) (fun c_13 => ?_) (fun c_13 => ?_)
    · skip
      have el_0 : (0 : Int32).toInt = 0 := rfl
      rw [i_eq] at c_13
      refine j_aload_n (pc := 78) C dX11_readWare_78 rfl 3 rfl ?_
      refine j_bipush (pc := 79) (v := 7) C dX11_readWare_79 (by decide) ?_
      refine j_iconst (pc := 81) (v := 1) C dX11_readWare_81 (by decide) ?_
      refine j_bipush (pc := 82) (v := 99) C dX11_readWare_82 (by decide) ?_
      refine j_callV (pc := 84) (As := [.int 7, .int 1, .int 99]) (rest := [.int v_12, .ref mtold]) (wr := [(mtold, .inl (cyI, 240, .inl f_11)), (mnames, .inl (cyJ, 16, .inr (.inl m_names)))]) C (c_X11_takeAfter l D cyC cyI cyJ cyZ cyO m0 msort mplace mvalue mwords mtape mtold mop marg mnames mhasHabit mfactWords mfacts mpile mstates misMarked mrow mthr mmays mtall mweights mrowOfWare mneededOf mtried mbestRow mdigits 7 1 99 m_thrown m_taped m_size (u_9.2.1 1) (u_9.2.1 2) m_codes m_isNew m_inShelf m_inStack m_inPlace m_rowMany m_goShelf m_goStack m_goLeft m_bestCost m_bestMany m_bestShelf m_bestSet m_sort m_place m_value m_words (by omega) (by omega) (by omega) (by omega) (by omega) (by omega) (by omega) (by omega) (by omega) (by omega) (by omega) (by omega) (by omega) (by decide) h_m_place (by omega) (by omega)) wd_691 wd_624 wd_692 wd_693 wd_694 ⟨by decide, by decide, rfl⟩ rfl ⟨rfl, rfl, by decide, by decide⟩ ⟨by decide, by decide⟩ [2, 3, 4, 5, 6] [0, 1] rfl rfl ⟨by decide, by decide, by decide⟩ 2 rfl rfl rfl (Nat.le_of_ble_eq_true rfl) dX11_readWare_84 (fun u_14 hw_15 => ?_)
      refine j_eq (ws2 := [(mtold, .inl (cyI, 240, .inl f_11)), (mnames, .inl (cyJ, 16, .inr (.inl m_names))), (m0, .inr (11, [.int m_thrown, .ref mtape, .int m_taped, .int m_size, .ref msort, .ref mplace, .ref mvalue, .int (u_14.2.1 1), .int (u_14.2.1 2), .ref mwords, .ref mtold, .ref mop, .ref marg, .int m_codes, .ref mnames, .ref mhasHabit, .int m_isNew, .ref mfactWords, .ref mfacts, .ref mpile, .ref mstates, .ref misMarked, .int m_inShelf, .int m_inStack, .int m_inPlace, .ref mrow, .int m_rowMany, .ref mthr, .ref mmays, .ref mtall, .ref mweights, .ref mrowOfWare, .ref mneededOf, .int m_goShelf, .int m_goStack, .int m_goLeft, .ref mtried, .ref mbestRow, .int m_bestCost, .int m_bestMany, .int m_bestShelf, .int m_bestSet, .ref mdigits])), (msort, .inl (cyI, 1002, .inl m_sort)), (mplace, .inl (cyI, 1002, .inl m_place)), (mvalue, .inl (cyJ, 1002, .inr (.inl m_value))), (mwords, .inl (cyJ, 23, .inr (.inl m_words)))]) (pc2 := 87) (lv2 := [(5, .int v_7), (3, .long (u_4.2.2.2 0 0)), (2, .int v_1), (0, .ref m0), (1, .int p0)]) (st2 := [.int (u_14.2.1 0), .int v_12, .ref mtold]) rfl rfl rfl rfl ?_
      obtain ⟨hw_15_0, hw_15_1, hw_15_2, hw_15_3, hw_15_4, hw_15_5⟩ := hw_15
      have el_7 : (7 : Int32).toInt = 7 := rfl
      have el_1 : (1 : Int32).toInt = 1 := rfl
      have el_99 : (99 : Int32).toInt = 99 := rfl
      obtain ⟨f_16, ef_16⟩ : ∃ z, z = upd f_11 (v_12).toInt.toNat (u_14.2.1 0) := ⟨_, rfl⟩
      have hf_16 : TV f_16 := by rw [ef_16]; exact TV.upd hf_11 (by omega) (Int.le_trans (show _ ≤ (999 : Int) from (by omega)) (hiT_k (by omega)))
      refine j_iast (pc := 87) (k := (v_12).toInt.toNat) (ws' := [(mtold, .inl (cyI, 240, .inl f_16)), (mnames, .inl (cyJ, 16, .inr (.inl m_names))), (m0, .inr (11, [.int m_thrown, .ref mtape, .int m_taped, .int m_size, .ref msort, .ref mplace, .ref mvalue, .int (u_14.2.1 1), .int (u_14.2.1 2), .ref mwords, .ref mtold, .ref mop, .ref marg, .int m_codes, .ref mnames, .ref mhasHabit, .int m_isNew, .ref mfactWords, .ref mfacts, .ref mpile, .ref mstates, .ref misMarked, .int m_inShelf, .int m_inStack, .int m_inPlace, .ref mrow, .int m_rowMany, .ref mthr, .ref mmays, .ref mtall, .ref mweights, .ref mrowOfWare, .ref mneededOf, .int m_goShelf, .int m_goStack, .int m_goLeft, .ref mtried, .ref mbestRow, .int m_bestCost, .int m_bestMany, .int m_bestShelf, .int m_bestSet, .ref mdigits])), (msort, .inl (cyI, 1002, .inl m_sort)), (mplace, .inl (cyI, 1002, .inl m_place)), (mvalue, .inl (cyJ, 1002, .inr (.inl m_value))), (mwords, .inl (cyJ, 23, .inr (.inl m_words)))]) C 0 1 rfl rfl (i_nn (by omega)) rfl (i_lt_n (by omega) (by omega)) dX11_readWare_87 (by rw [ef_16]; rfl) ?_
      refine j_aload_n (pc := 88) C dX11_readWare_88 rfl 3 rfl ?_
      refine j_get (pc := 89) (ci := 11) (v := .ref mtold) C inw_11 2 rfl rfl 10 (by decide) wd_669 rfl rfl dX11_readWare_89 ?_
      refine j_iload (pc := 92) C dX11_readWare_92 0 rfl ?_
      refine j_iconst (pc := 94) (v := 2) C dX11_readWare_94 (by decide) ?_
      obtain ⟨v_17, ev_17⟩ : ∃ z : Int32, v_7 + 2 = z := ⟨_, rfl⟩
      have el_2 : (2 : Int32).toInt = 2 := rfl
      have hv_17 : v_17.toInt = v_7.toInt + (2 : Int32).toInt := by rw [← ev_17]; exact fb_addI (by omega) (by omega)
      refine j_iadd (pc := 95) (v := v_17) C dX11_readWare_95 ev_17 ?_
      refine j_aload_n (pc := 96) C dX11_readWare_96 rfl 3 rfl ?_
      refine j_bipush (pc := 97) (v := 8) C dX11_readWare_97 (by decide) ?_
      refine j_iconst (pc := 99) (v := 1) C dX11_readWare_99 (by decide) ?_
      refine j_bipush (pc := 100) (v := 99) C dX11_readWare_100 (by decide) ?_
      refine j_callV (pc := 102) (As := [.int 8, .int 1, .int 99]) (rest := [.int v_17, .ref mtold]) (wr := [(mtold, .inl (cyI, 240, .inl f_16)), (mnames, .inl (cyJ, 16, .inr (.inl m_names)))]) C (c_X11_takeAfter l D cyC cyI cyJ cyZ cyO m0 msort mplace mvalue mwords mtape mtold mop marg mnames mhasHabit mfactWords mfacts mpile mstates misMarked mrow mthr mmays mtall mweights mrowOfWare mneededOf mtried mbestRow mdigits 8 1 99 m_thrown m_taped m_size (u_14.2.1 1) (u_14.2.1 2) m_codes m_isNew m_inShelf m_inStack m_inPlace m_rowMany m_goShelf m_goStack m_goLeft m_bestCost m_bestMany m_bestShelf m_bestSet m_sort m_place m_value m_words (by omega) (by omega) (by omega) (by omega) (by omega) (by omega) (by omega) (by omega) (by omega) (by omega) (by omega) (by omega) (by omega) (by decide) h_m_place (by omega) (by omega)) wd_691 wd_624 wd_692 wd_693 wd_694 ⟨by decide, by decide, rfl⟩ rfl ⟨rfl, rfl, by decide, by decide⟩ ⟨by decide, by decide⟩ [2, 3, 4, 5, 6] [0, 1] rfl rfl ⟨by decide, by decide, by decide⟩ 2 rfl rfl rfl (Nat.le_of_ble_eq_true rfl) dX11_readWare_102 (fun u_18 hw_19 => ?_)
      refine j_eq (ws2 := [(mtold, .inl (cyI, 240, .inl f_16)), (mnames, .inl (cyJ, 16, .inr (.inl m_names))), (m0, .inr (11, [.int m_thrown, .ref mtape, .int m_taped, .int m_size, .ref msort, .ref mplace, .ref mvalue, .int (u_18.2.1 1), .int (u_18.2.1 2), .ref mwords, .ref mtold, .ref mop, .ref marg, .int m_codes, .ref mnames, .ref mhasHabit, .int m_isNew, .ref mfactWords, .ref mfacts, .ref mpile, .ref mstates, .ref misMarked, .int m_inShelf, .int m_inStack, .int m_inPlace, .ref mrow, .int m_rowMany, .ref mthr, .ref mmays, .ref mtall, .ref mweights, .ref mrowOfWare, .ref mneededOf, .int m_goShelf, .int m_goStack, .int m_goLeft, .ref mtried, .ref mbestRow, .int m_bestCost, .int m_bestMany, .int m_bestShelf, .int m_bestSet, .ref mdigits])), (msort, .inl (cyI, 1002, .inl m_sort)), (mplace, .inl (cyI, 1002, .inl m_place)), (mvalue, .inl (cyJ, 1002, .inr (.inl m_value))), (mwords, .inl (cyJ, 23, .inr (.inl m_words)))]) (pc2 := 105) (lv2 := [(5, .int v_7), (3, .long (u_4.2.2.2 0 0)), (2, .int v_1), (0, .ref m0), (1, .int p0)]) (st2 := [.int (u_18.2.1 0), .int v_17, .ref mtold]) rfl rfl rfl rfl ?_
      obtain ⟨hw_19_0, hw_19_1, hw_19_2, hw_19_3, hw_19_4, hw_19_5⟩ := hw_19
      have el_8 : (8 : Int32).toInt = 8 := rfl
      have el_1 : (1 : Int32).toInt = 1 := rfl
      have el_99 : (99 : Int32).toInt = 99 := rfl
      obtain ⟨f_20, ef_20⟩ : ∃ z, z = upd f_16 (v_17).toInt.toNat (u_18.2.1 0) := ⟨_, rfl⟩
      have hf_20 : TV f_20 := by rw [ef_20]; exact TV.upd hf_16 (by omega) (Int.le_trans (show _ ≤ (999 : Int) from (by omega)) (hiT_k (by omega)))
      refine j_iast (pc := 105) (k := (v_17).toInt.toNat) (ws' := [(mtold, .inl (cyI, 240, .inl f_20)), (mnames, .inl (cyJ, 16, .inr (.inl m_names))), (m0, .inr (11, [.int m_thrown, .ref mtape, .int m_taped, .int m_size, .ref msort, .ref mplace, .ref mvalue, .int (u_18.2.1 1), .int (u_18.2.1 2), .ref mwords, .ref mtold, .ref mop, .ref marg, .int m_codes, .ref mnames, .ref mhasHabit, .int m_isNew, .ref mfactWords, .ref mfacts, .ref mpile, .ref mstates, .ref misMarked, .int m_inShelf, .int m_inStack, .int m_inPlace, .ref mrow, .int m_rowMany, .ref mthr, .ref mmays, .ref mtall, .ref mweights, .ref mrowOfWare, .ref mneededOf, .int m_goShelf, .int m_goStack, .int m_goLeft, .ref mtried, .ref mbestRow, .int m_bestCost, .int m_bestMany, .int m_bestShelf, .int m_bestSet, .ref mdigits])), (msort, .inl (cyI, 1002, .inl m_sort)), (mplace, .inl (cyI, 1002, .inl m_place)), (mvalue, .inl (cyJ, 1002, .inr (.inl m_value))), (mwords, .inl (cyJ, 23, .inr (.inl m_words)))]) C 0 1 rfl rfl (i_nn (by omega)) rfl (i_lt_n (by omega) (by omega)) dX11_readWare_105 (by rw [ef_20]; rfl) ?_
      refine j_aload_n (pc := 106) C dX11_readWare_106 rfl 3 rfl ?_
      refine j_get (pc := 107) (ci := 11) (v := .ref mtold) C inw_11 2 rfl rfl 10 (by decide) wd_669 rfl rfl dX11_readWare_107 ?_
      refine j_iload (pc := 110) C dX11_readWare_110 0 rfl ?_
      refine j_iconst (pc := 112) (v := 3) C dX11_readWare_112 (by decide) ?_
      obtain ⟨v_21, ev_21⟩ : ∃ z : Int32, v_7 + 3 = z := ⟨_, rfl⟩
      have el_3 : (3 : Int32).toInt = 3 := rfl
      have hv_21 : v_21.toInt = v_7.toInt + (3 : Int32).toInt := by rw [← ev_21]; exact fb_addI (by omega) (by omega)
      refine j_iadd (pc := 113) (v := v_21) C dX11_readWare_113 ev_21 ?_
      refine j_iload_n (pc := 114) C dX11_readWare_114 rfl 4 rfl ?_
      refine j_if_eq (pc := 115) (tgt := 122) C dX11_readWare_115 (by decide) (fun c_22 => ?_) (fun c_22 => ?_)
      · skip
        have el_0 : (0 : Int32).toInt = 0 := rfl
        rw [i_eq] at c_22
        refine j_aload_n (pc := 122) C dX11_readWare_122 rfl 3 rfl ?_
        refine j_bipush (pc := 123) (v := 9) C dX11_readWare_123 (by decide) ?_
        refine j_iconst (pc := 125) (v := 0) C dX11_readWare_125 (by decide) ?_
        refine j_sipush (pc := 126) (v := 999) C dX11_readWare_126 (by decide) ?_
        refine j_callV (pc := 129) (As := [.int 9, .int 0, .int 999]) (rest := [.int v_21, .ref mtold]) (wr := [(mtold, .inl (cyI, 240, .inl f_20)), (mnames, .inl (cyJ, 16, .inr (.inl m_names)))]) C (c_X11_takeAfter l D cyC cyI cyJ cyZ cyO m0 msort mplace mvalue mwords mtape mtold mop marg mnames mhasHabit mfactWords mfacts mpile mstates misMarked mrow mthr mmays mtall mweights mrowOfWare mneededOf mtried mbestRow mdigits 9 0 999 m_thrown m_taped m_size (u_18.2.1 1) (u_18.2.1 2) m_codes m_isNew m_inShelf m_inStack m_inPlace m_rowMany m_goShelf m_goStack m_goLeft m_bestCost m_bestMany m_bestShelf m_bestSet m_sort m_place m_value m_words (by omega) (by omega) (by omega) (by omega) (by omega) (by omega) (by omega) (by omega) (by omega) (by omega) (by omega) (by omega) (by omega) (by decide) h_m_place (by omega) (by omega)) wd_691 wd_624 wd_692 wd_693 wd_694 ⟨by decide, by decide, rfl⟩ rfl ⟨rfl, rfl, by decide, by decide⟩ ⟨by decide, by decide⟩ [2, 3, 4, 5, 6] [0, 1] rfl rfl ⟨by decide, by decide, by decide⟩ 2 rfl rfl rfl (Nat.le_of_ble_eq_true rfl) dX11_readWare_129 (fun u_23 hw_24 => ?_)
        refine j_eq (ws2 := [(mtold, .inl (cyI, 240, .inl f_20)), (mnames, .inl (cyJ, 16, .inr (.inl m_names))), (m0, .inr (11, [.int m_thrown, .ref mtape, .int m_taped, .int m_size, .ref msort, .ref mplace, .ref mvalue, .int (u_23.2.1 1), .int (u_23.2.1 2), .ref mwords, .ref mtold, .ref mop, .ref marg, .int m_codes, .ref mnames, .ref mhasHabit, .int m_isNew, .ref mfactWords, .ref mfacts, .ref mpile, .ref mstates, .ref misMarked, .int m_inShelf, .int m_inStack, .int m_inPlace, .ref mrow, .int m_rowMany, .ref mthr, .ref mmays, .ref mtall, .ref mweights, .ref mrowOfWare, .ref mneededOf, .int m_goShelf, .int m_goStack, .int m_goLeft, .ref mtried, .ref mbestRow, .int m_bestCost, .int m_bestMany, .int m_bestShelf, .int m_bestSet, .ref mdigits])), (msort, .inl (cyI, 1002, .inl m_sort)), (mplace, .inl (cyI, 1002, .inl m_place)), (mvalue, .inl (cyJ, 1002, .inr (.inl m_value))), (mwords, .inl (cyJ, 23, .inr (.inl m_words)))]) (pc2 := 132) (lv2 := [(5, .int v_7), (3, .long (u_4.2.2.2 0 0)), (2, .int v_1), (0, .ref m0), (1, .int p0)]) (st2 := [.int (u_23.2.1 0), .int v_21, .ref mtold]) rfl rfl rfl rfl ?_
        obtain ⟨hw_24_0, hw_24_1, hw_24_2, hw_24_3, hw_24_4, hw_24_5⟩ := hw_24
        have el_9 : (9 : Int32).toInt = 9 := rfl
        have el_0 : (0 : Int32).toInt = 0 := rfl
        have el_999 : (999 : Int32).toInt = 999 := rfl
        obtain ⟨f_25, ef_25⟩ : ∃ z, z = upd f_20 (v_21).toInt.toNat (u_23.2.1 0) := ⟨_, rfl⟩
        have hf_25 : TV f_25 := by rw [ef_25]; exact TV.upd hf_20 (by omega) (Int.le_trans (show _ ≤ (999 : Int) from (by omega)) (hiT_k (by omega)))
        refine j_iast (pc := 132) (k := (v_21).toInt.toNat) (ws' := [(mtold, .inl (cyI, 240, .inl f_25)), (mnames, .inl (cyJ, 16, .inr (.inl m_names))), (m0, .inr (11, [.int m_thrown, .ref mtape, .int m_taped, .int m_size, .ref msort, .ref mplace, .ref mvalue, .int (u_23.2.1 1), .int (u_23.2.1 2), .ref mwords, .ref mtold, .ref mop, .ref marg, .int m_codes, .ref mnames, .ref mhasHabit, .int m_isNew, .ref mfactWords, .ref mfacts, .ref mpile, .ref mstates, .ref misMarked, .int m_inShelf, .int m_inStack, .int m_inPlace, .ref mrow, .int m_rowMany, .ref mthr, .ref mmays, .ref mtall, .ref mweights, .ref mrowOfWare, .ref mneededOf, .int m_goShelf, .int m_goStack, .int m_goLeft, .ref mtried, .ref mbestRow, .int m_bestCost, .int m_bestMany, .int m_bestShelf, .int m_bestSet, .ref mdigits])), (msort, .inl (cyI, 1002, .inl m_sort)), (mplace, .inl (cyI, 1002, .inl m_place)), (mvalue, .inl (cyJ, 1002, .inr (.inl m_value))), (mwords, .inl (cyJ, 23, .inr (.inl m_words)))]) C 0 1 rfl rfl (i_nn (by omega)) rfl (i_lt_n (by omega) (by omega)) dX11_readWare_132 (by rw [ef_25]; rfl) ?_
        refine j_aload_n (pc := 133) C dX11_readWare_133 rfl 3 rfl ?_
        refine j_get (pc := 134) (ci := 11) (v := .ref mtold) C inw_11 2 rfl rfl 10 (by decide) wd_669 rfl rfl dX11_readWare_134 ?_
        refine j_iload (pc := 137) C dX11_readWare_137 0 rfl ?_
        refine j_iconst (pc := 139) (v := 4) C dX11_readWare_139 (by decide) ?_
        obtain ⟨v_26, ev_26⟩ : ∃ z : Int32, v_7 + 4 = z := ⟨_, rfl⟩
        have el_4 : (4 : Int32).toInt = 4 := rfl
        have hv_26 : v_26.toInt = v_7.toInt + (4 : Int32).toInt := by rw [← ev_26]; exact fb_addI (by omega) (by omega)
        refine j_iadd (pc := 140) (v := v_26) C dX11_readWare_140 ev_26 ?_
        refine j_aload_n (pc := 141) C dX11_readWare_141 rfl 3 rfl ?_
        refine j_bipush (pc := 142) (v := 10) C dX11_readWare_142 (by decide) ?_
        refine j_iconst (pc := 144) (v := 0) C dX11_readWare_144 (by decide) ?_
        refine j_bipush (pc := 145) (v := 99) C dX11_readWare_145 (by decide) ?_
        refine j_callV (pc := 147) (As := [.int 10, .int 0, .int 99]) (rest := [.int v_26, .ref mtold]) (wr := [(mtold, .inl (cyI, 240, .inl f_25)), (mnames, .inl (cyJ, 16, .inr (.inl m_names)))]) C (c_X11_takeAfter l D cyC cyI cyJ cyZ cyO m0 msort mplace mvalue mwords mtape mtold mop marg mnames mhasHabit mfactWords mfacts mpile mstates misMarked mrow mthr mmays mtall mweights mrowOfWare mneededOf mtried mbestRow mdigits 10 0 99 m_thrown m_taped m_size (u_23.2.1 1) (u_23.2.1 2) m_codes m_isNew m_inShelf m_inStack m_inPlace m_rowMany m_goShelf m_goStack m_goLeft m_bestCost m_bestMany m_bestShelf m_bestSet m_sort m_place m_value m_words (by omega) (by omega) (by omega) (by omega) (by omega) (by omega) (by omega) (by omega) (by omega) (by omega) (by omega) (by omega) (by omega) (by decide) h_m_place (by omega) (by omega)) wd_691 wd_624 wd_692 wd_693 wd_694 ⟨by decide, by decide, rfl⟩ rfl ⟨rfl, rfl, by decide, by decide⟩ ⟨by decide, by decide⟩ [2, 3, 4, 5, 6] [0, 1] rfl rfl ⟨by decide, by decide, by decide⟩ 2 rfl rfl rfl (Nat.le_of_ble_eq_true rfl) dX11_readWare_147 (fun u_27 hw_28 => ?_)
        refine j_eq (ws2 := [(mtold, .inl (cyI, 240, .inl f_25)), (mnames, .inl (cyJ, 16, .inr (.inl m_names))), (m0, .inr (11, [.int m_thrown, .ref mtape, .int m_taped, .int m_size, .ref msort, .ref mplace, .ref mvalue, .int (u_27.2.1 1), .int (u_27.2.1 2), .ref mwords, .ref mtold, .ref mop, .ref marg, .int m_codes, .ref mnames, .ref mhasHabit, .int m_isNew, .ref mfactWords, .ref mfacts, .ref mpile, .ref mstates, .ref misMarked, .int m_inShelf, .int m_inStack, .int m_inPlace, .ref mrow, .int m_rowMany, .ref mthr, .ref mmays, .ref mtall, .ref mweights, .ref mrowOfWare, .ref mneededOf, .int m_goShelf, .int m_goStack, .int m_goLeft, .ref mtried, .ref mbestRow, .int m_bestCost, .int m_bestMany, .int m_bestShelf, .int m_bestSet, .ref mdigits])), (msort, .inl (cyI, 1002, .inl m_sort)), (mplace, .inl (cyI, 1002, .inl m_place)), (mvalue, .inl (cyJ, 1002, .inr (.inl m_value))), (mwords, .inl (cyJ, 23, .inr (.inl m_words)))]) (pc2 := 150) (lv2 := [(5, .int v_7), (3, .long (u_4.2.2.2 0 0)), (2, .int v_1), (0, .ref m0), (1, .int p0)]) (st2 := [.int (u_27.2.1 0), .int v_26, .ref mtold]) rfl rfl rfl rfl ?_
        obtain ⟨hw_28_0, hw_28_1, hw_28_2, hw_28_3, hw_28_4, hw_28_5⟩ := hw_28
        have el_10 : (10 : Int32).toInt = 10 := rfl
        have el_0 : (0 : Int32).toInt = 0 := rfl
        have el_99 : (99 : Int32).toInt = 99 := rfl
        obtain ⟨f_29, ef_29⟩ : ∃ z, z = upd f_25 (v_26).toInt.toNat (u_27.2.1 0) := ⟨_, rfl⟩
        have hf_29 : TV f_29 := by rw [ef_29]; exact TV.upd hf_25 (by omega) (Int.le_trans (show _ ≤ (999 : Int) from (by omega)) (hiT_k (by omega)))
        refine j_iast (pc := 150) (k := (v_26).toInt.toNat) (ws' := [(mtold, .inl (cyI, 240, .inl f_29)), (mnames, .inl (cyJ, 16, .inr (.inl m_names))), (m0, .inr (11, [.int m_thrown, .ref mtape, .int m_taped, .int m_size, .ref msort, .ref mplace, .ref mvalue, .int (u_27.2.1 1), .int (u_27.2.1 2), .ref mwords, .ref mtold, .ref mop, .ref marg, .int m_codes, .ref mnames, .ref mhasHabit, .int m_isNew, .ref mfactWords, .ref mfacts, .ref mpile, .ref mstates, .ref misMarked, .int m_inShelf, .int m_inStack, .int m_inPlace, .ref mrow, .int m_rowMany, .ref mthr, .ref mmays, .ref mtall, .ref mweights, .ref mrowOfWare, .ref mneededOf, .int m_goShelf, .int m_goStack, .int m_goLeft, .ref mtried, .ref mbestRow, .int m_bestCost, .int m_bestMany, .int m_bestShelf, .int m_bestSet, .ref mdigits])), (msort, .inl (cyI, 1002, .inl m_sort)), (mplace, .inl (cyI, 1002, .inl m_place)), (mvalue, .inl (cyJ, 1002, .inr (.inl m_value))), (mwords, .inl (cyJ, 23, .inr (.inl m_words)))]) C 0 1 rfl rfl (i_nn (by omega)) rfl (i_lt_n (by omega) (by omega)) dX11_readWare_150 (by rw [ef_29]; rfl) ?_
        refine j_aload_n (pc := 151) C dX11_readWare_151 rfl 3 rfl ?_
        refine j_get (pc := 152) (ci := 11) (v := .ref mtold) C inw_11 2 rfl rfl 10 (by decide) wd_669 rfl rfl dX11_readWare_152 ?_
        refine j_iload (pc := 155) C dX11_readWare_155 0 rfl ?_
        refine j_bipush (pc := 157) (v := 6) C dX11_readWare_157 (by decide) ?_
        obtain ⟨v_30, ev_30⟩ : ∃ z : Int32, v_7 + 6 = z := ⟨_, rfl⟩
        have el_6 : (6 : Int32).toInt = 6 := rfl
        have hv_30 : v_30.toInt = v_7.toInt + (6 : Int32).toInt := by rw [← ev_30]; exact fb_addI (by omega) (by omega)
        refine j_iadd (pc := 159) (v := v_30) C dX11_readWare_159 ev_30 ?_
        refine j_iload_n (pc := 160) C dX11_readWare_160 rfl 4 rfl ?_
        refine j_if_eq (pc := 161) (tgt := 168) C dX11_readWare_161 (by decide) (fun c_31 => ?_) (fun c_31 => ?_)
        · skip
          have el_0 : (0 : Int32).toInt = 0 := rfl
          rw [i_eq] at c_31
          refine j_iconst (pc := 168) (v := 0) C dX11_readWare_168 (by decide) ?_
          obtain ⟨f_32, ef_32⟩ : ∃ z, z = upd f_29 (v_30).toInt.toNat 0 := ⟨_, rfl⟩
          have el_0 : (0 : Int32).toInt = 0 := rfl
          have hf_32 : TV f_32 := by rw [ef_32]; exact TV.upd hf_29 (by omega) (Int.le_trans (show _ ≤ (999 : Int) from (by omega)) (hiT_k (by omega)))
          refine j_iast (pc := 169) (k := (v_30).toInt.toNat) (ws' := [(mtold, .inl (cyI, 240, .inl f_32)), (mnames, .inl (cyJ, 16, .inr (.inl m_names))), (m0, .inr (11, [.int m_thrown, .ref mtape, .int m_taped, .int m_size, .ref msort, .ref mplace, .ref mvalue, .int (u_27.2.1 1), .int (u_27.2.1 2), .ref mwords, .ref mtold, .ref mop, .ref marg, .int m_codes, .ref mnames, .ref mhasHabit, .int m_isNew, .ref mfactWords, .ref mfacts, .ref mpile, .ref mstates, .ref misMarked, .int m_inShelf, .int m_inStack, .int m_inPlace, .ref mrow, .int m_rowMany, .ref mthr, .ref mmays, .ref mtall, .ref mweights, .ref mrowOfWare, .ref mneededOf, .int m_goShelf, .int m_goStack, .int m_goLeft, .ref mtried, .ref mbestRow, .int m_bestCost, .int m_bestMany, .int m_bestShelf, .int m_bestSet, .ref mdigits])), (msort, .inl (cyI, 1002, .inl m_sort)), (mplace, .inl (cyI, 1002, .inl m_place)), (mvalue, .inl (cyJ, 1002, .inr (.inl m_value))), (mwords, .inl (cyJ, 23, .inr (.inl m_words)))]) C 0 1 rfl rfl (i_nn (by omega)) rfl (i_lt_n (by omega) (by omega)) dX11_readWare_169 (by rw [ef_32]; rfl) ?_
          refine j_aload_n (pc := 170) C dX11_readWare_170 rfl 3 rfl ?_
          refine j_get (pc := 171) (ci := 11) (v := .ref mnames) C inw_11 2 rfl rfl 14 (by decide) wd_670 rfl rfl dX11_readWare_171 ?_
          refine j_iload_n (pc := 174) C dX11_readWare_174 rfl 2 rfl ?_
          refine j_lload_n (pc := 175) C dX11_readWare_175 rfl 1 rfl ?_
          obtain ⟨f_33, ef_33⟩ : ∃ z, z = vp_updL m_names (v_1).toInt.toNat (u_4.2.2.2 0 0) := ⟨_, rfl⟩
          refine j_last (pc := 176) (k := (v_1).toInt.toNat) (ws' := [(mtold, .inl (cyI, 240, .inl f_32)), (mnames, .inl (cyJ, 16, .inr (.inl f_33))), (m0, .inr (11, [.int m_thrown, .ref mtape, .int m_taped, .int m_size, .ref msort, .ref mplace, .ref mvalue, .int (u_27.2.1 1), .int (u_27.2.1 2), .ref mwords, .ref mtold, .ref mop, .ref marg, .int m_codes, .ref mnames, .ref mhasHabit, .int m_isNew, .ref mfactWords, .ref mfacts, .ref mpile, .ref mstates, .ref misMarked, .int m_inShelf, .int m_inStack, .int m_inPlace, .ref mrow, .int m_rowMany, .ref mthr, .ref mmays, .ref mtall, .ref mweights, .ref mrowOfWare, .ref mneededOf, .int m_goShelf, .int m_goStack, .int m_goLeft, .ref mtried, .ref mbestRow, .int m_bestCost, .int m_bestMany, .int m_bestShelf, .int m_bestSet, .ref mdigits])), (msort, .inl (cyI, 1002, .inl m_sort)), (mplace, .inl (cyI, 1002, .inl m_place)), (mvalue, .inl (cyJ, 1002, .inr (.inl m_value))), (mwords, .inl (cyJ, 23, .inr (.inl m_words)))]) C 1 2 rfl rfl (i_nn (by omega)) rfl (i_lt_n (by omega) (by omega)) dX11_readWare_176 (by rw [ef_33]; rfl) ?_
          refine j_aload_n (pc := 177) C dX11_readWare_177 rfl 3 rfl ?_
          refine j_get (pc := 178) (ci := 11) (v := .ref mtold) C inw_11 2 rfl rfl 10 (by decide) wd_669 rfl rfl dX11_readWare_178 ?_
          refine j_bipush (pc := 181) (v := 120) C dX11_readWare_181 (by decide) ?_
          refine j_dup2 (pc := 183) C dX11_readWare_183 rfl rfl ?_
          obtain ⟨v_34, ev_34⟩ : ∃ z, f_32 120 = z := ⟨_, rfl⟩
          have qv_34 : v_34 = v_1 := by rw [← ev_34]; exact (by rw [ef_32, pk_un (show ¬ 120 = (v_30).toInt.toNat from (by omega))]; exact (by rw [ef_29, pk_un (show ¬ 120 = (v_26).toInt.toNat from (by omega))]; exact (by rw [ef_25, pk_un (show ¬ 120 = (v_21).toInt.toNat from (by omega))]; exact (by rw [ef_20, pk_un (show ¬ 120 = (v_17).toInt.toNat from (by omega))]; exact (by rw [ef_16, pk_un (show ¬ 120 = (v_12).toInt.toNat from (by omega))]; exact (by rw [ef_11, pk_un (show ¬ 120 = (v_8).toInt.toNat from (by omega))]; exact ev_1))))))
          have env_34 : v_34.toInt = (v_1).toInt := by rw [qv_34]
          refine j_iald (pc := 184) (v := v_34) (k := 120) C 0 1 rfl rfl (by decide) (by decide) (by decide) ev_34 dX11_readWare_184 ?_
          refine j_iconst (pc := 185) (v := 1) C dX11_readWare_185 (by decide) ?_
          obtain ⟨v_35, ev_35⟩ : ∃ z : Int32, v_34 + 1 = z := ⟨_, rfl⟩
          have el_1 : (1 : Int32).toInt = 1 := rfl
          have hv_35 : v_35.toInt = v_34.toInt + (1 : Int32).toInt := by rw [← ev_35]; exact fb_addI (by omega) (by omega)
          refine j_iadd (pc := 186) (v := v_35) C dX11_readWare_186 ev_35 ?_
          obtain ⟨f_36, ef_36⟩ : ∃ z, z = upd f_32 120 v_35 := ⟨_, rfl⟩
          have hf_36 : TV f_36 := by rw [ef_36]; exact TV.upd hf_32 (by omega) (show _ ≤ (12 : Int) from (by omega))
          refine j_iast (pc := 187) (k := 120) (ws' := [(mtold, .inl (cyI, 240, .inl f_36)), (mnames, .inl (cyJ, 16, .inr (.inl f_33))), (m0, .inr (11, [.int m_thrown, .ref mtape, .int m_taped, .int m_size, .ref msort, .ref mplace, .ref mvalue, .int (u_27.2.1 1), .int (u_27.2.1 2), .ref mwords, .ref mtold, .ref mop, .ref marg, .int m_codes, .ref mnames, .ref mhasHabit, .int m_isNew, .ref mfactWords, .ref mfacts, .ref mpile, .ref mstates, .ref misMarked, .int m_inShelf, .int m_inStack, .int m_inPlace, .ref mrow, .int m_rowMany, .ref mthr, .ref mmays, .ref mtall, .ref mweights, .ref mrowOfWare, .ref mneededOf, .int m_goShelf, .int m_goStack, .int m_goLeft, .ref mtried, .ref mbestRow, .int m_bestCost, .int m_bestMany, .int m_bestShelf, .int m_bestSet, .ref mdigits])), (msort, .inl (cyI, 1002, .inl m_sort)), (mplace, .inl (cyI, 1002, .inl m_place)), (mvalue, .inl (cyJ, 1002, .inr (.inl m_value))), (mwords, .inl (cyJ, 23, .inr (.inl m_words)))]) C 0 1 rfl rfl (by decide) (by decide) (by decide) dX11_readWare_187 (by rw [ef_36]; rfl) ?_
          exact j_vret (pc := 188) C hr hk (fun i => [].getD i 0, fun i => [(u_27.2.1 1), (u_27.2.1 2)].getD i 0, fun i => [f_36].getD i (fun _ => 0), fun i => [f_33].getD i (fun _ => 0)) rfl (show (0 ≤ ((u_27.2.1 1)).toInt ∧ ((u_27.2.1 1)).toInt ≤ 1000) ∧ (0 ≤ ((u_27.2.1 2)).toInt ∧ ((u_27.2.1 2)).toInt ≤ 16005) ∧ (TV f_36) ∧ ((m_at).toInt ≤ ((u_27.2.1 1)).toInt) ∧ (((u_27.2.1 1)).toInt ≤ ((eN m_sort : Nat) : Int)) ∧ ((m_fault).toInt = 0 ∨ ¬ ((u_27.2.1 2)).toInt = 0) ∧ (∀ j : Nat, (j < 120 ∨ j = 122 ∨ 231 ≤ j) → f_36 j = m_told j) from ⟨by omega, by omega, hf_36, by omega, by omega, by omega, (fun j hj => by rw [ef_36, pk_un (show ¬ j = 120 from (by omega)), ef_32, pk_un (show ¬ j = (v_30).toInt.toNat from (by omega)), ef_29, pk_un (show ¬ j = (v_26).toInt.toNat from (by omega)), ef_25, pk_un (show ¬ j = (v_21).toInt.toNat from (by omega)), ef_20, pk_un (show ¬ j = (v_17).toInt.toNat from (by omega)), ef_16, pk_un (show ¬ j = (v_12).toInt.toNat from (by omega)), ef_11, pk_un (show ¬ j = (v_8).toInt.toNat from (by omega))])⟩) [2, 3, 4, 5, 6, 0, 1] (by decide) rfl (by decide) (by decide) dX11_readWare_188
        · skip
          have el_0 : (0 : Int32).toInt = 0 := rfl
          rw [i_eq] at c_31
          refine j_iconst (pc := 164) (v := 1) C dX11_readWare_164 (by decide) ?_
          refine j_goto (pc := 165) (tgt := 169) C dX11_readWare_165 (by decide) ?_
          obtain ⟨f_37, ef_37⟩ : ∃ z, z = upd f_29 (v_30).toInt.toNat 1 := ⟨_, rfl⟩
          have el_1 : (1 : Int32).toInt = 1 := rfl
          have hf_37 : TV f_37 := by rw [ef_37]; exact TV.upd hf_29 (by omega) (Int.le_trans (show _ ≤ (999 : Int) from (by omega)) (hiT_k (by omega)))
          refine j_iast (pc := 169) (k := (v_30).toInt.toNat) (ws' := [(mtold, .inl (cyI, 240, .inl f_37)), (mnames, .inl (cyJ, 16, .inr (.inl m_names))), (m0, .inr (11, [.int m_thrown, .ref mtape, .int m_taped, .int m_size, .ref msort, .ref mplace, .ref mvalue, .int (u_27.2.1 1), .int (u_27.2.1 2), .ref mwords, .ref mtold, .ref mop, .ref marg, .int m_codes, .ref mnames, .ref mhasHabit, .int m_isNew, .ref mfactWords, .ref mfacts, .ref mpile, .ref mstates, .ref misMarked, .int m_inShelf, .int m_inStack, .int m_inPlace, .ref mrow, .int m_rowMany, .ref mthr, .ref mmays, .ref mtall, .ref mweights, .ref mrowOfWare, .ref mneededOf, .int m_goShelf, .int m_goStack, .int m_goLeft, .ref mtried, .ref mbestRow, .int m_bestCost, .int m_bestMany, .int m_bestShelf, .int m_bestSet, .ref mdigits])), (msort, .inl (cyI, 1002, .inl m_sort)), (mplace, .inl (cyI, 1002, .inl m_place)), (mvalue, .inl (cyJ, 1002, .inr (.inl m_value))), (mwords, .inl (cyJ, 23, .inr (.inl m_words)))]) C 0 1 rfl rfl (i_nn (by omega)) rfl (i_lt_n (by omega) (by omega)) dX11_readWare_169 (by rw [ef_37]; rfl) ?_
          refine j_aload_n (pc := 170) C dX11_readWare_170 rfl 3 rfl ?_
          refine j_get (pc := 171) (ci := 11) (v := .ref mnames) C inw_11 2 rfl rfl 14 (by decide) wd_670 rfl rfl dX11_readWare_171 ?_
          refine j_iload_n (pc := 174) C dX11_readWare_174 rfl 2 rfl ?_
          refine j_lload_n (pc := 175) C dX11_readWare_175 rfl 1 rfl ?_
          obtain ⟨f_38, ef_38⟩ : ∃ z, z = vp_updL m_names (v_1).toInt.toNat (u_4.2.2.2 0 0) := ⟨_, rfl⟩
          refine j_last (pc := 176) (k := (v_1).toInt.toNat) (ws' := [(mtold, .inl (cyI, 240, .inl f_37)), (mnames, .inl (cyJ, 16, .inr (.inl f_38))), (m0, .inr (11, [.int m_thrown, .ref mtape, .int m_taped, .int m_size, .ref msort, .ref mplace, .ref mvalue, .int (u_27.2.1 1), .int (u_27.2.1 2), .ref mwords, .ref mtold, .ref mop, .ref marg, .int m_codes, .ref mnames, .ref mhasHabit, .int m_isNew, .ref mfactWords, .ref mfacts, .ref mpile, .ref mstates, .ref misMarked, .int m_inShelf, .int m_inStack, .int m_inPlace, .ref mrow, .int m_rowMany, .ref mthr, .ref mmays, .ref mtall, .ref mweights, .ref mrowOfWare, .ref mneededOf, .int m_goShelf, .int m_goStack, .int m_goLeft, .ref mtried, .ref mbestRow, .int m_bestCost, .int m_bestMany, .int m_bestShelf, .int m_bestSet, .ref mdigits])), (msort, .inl (cyI, 1002, .inl m_sort)), (mplace, .inl (cyI, 1002, .inl m_place)), (mvalue, .inl (cyJ, 1002, .inr (.inl m_value))), (mwords, .inl (cyJ, 23, .inr (.inl m_words)))]) C 1 2 rfl rfl (i_nn (by omega)) rfl (i_lt_n (by omega) (by omega)) dX11_readWare_176 (by rw [ef_38]; rfl) ?_
          refine j_aload_n (pc := 177) C dX11_readWare_177 rfl 3 rfl ?_
          refine j_get (pc := 178) (ci := 11) (v := .ref mtold) C inw_11 2 rfl rfl 10 (by decide) wd_669 rfl rfl dX11_readWare_178 ?_
          refine j_bipush (pc := 181) (v := 120) C dX11_readWare_181 (by decide) ?_
          refine j_dup2 (pc := 183) C dX11_readWare_183 rfl rfl ?_
          obtain ⟨v_39, ev_39⟩ : ∃ z, f_37 120 = z := ⟨_, rfl⟩
          have qv_39 : v_39 = v_1 := by rw [← ev_39]; exact (by rw [ef_37, pk_un (show ¬ 120 = (v_30).toInt.toNat from (by omega))]; exact (by rw [ef_29, pk_un (show ¬ 120 = (v_26).toInt.toNat from (by omega))]; exact (by rw [ef_25, pk_un (show ¬ 120 = (v_21).toInt.toNat from (by omega))]; exact (by rw [ef_20, pk_un (show ¬ 120 = (v_17).toInt.toNat from (by omega))]; exact (by rw [ef_16, pk_un (show ¬ 120 = (v_12).toInt.toNat from (by omega))]; exact (by rw [ef_11, pk_un (show ¬ 120 = (v_8).toInt.toNat from (by omega))]; exact ev_1))))))
          have env_39 : v_39.toInt = (v_1).toInt := by rw [qv_39]
          refine j_iald (pc := 184) (v := v_39) (k := 120) C 0 1 rfl rfl (by decide) (by decide) (by decide) ev_39 dX11_readWare_184 ?_
          refine j_iconst (pc := 185) (v := 1) C dX11_readWare_185 (by decide) ?_
          obtain ⟨v_40, ev_40⟩ : ∃ z : Int32, v_39 + 1 = z := ⟨_, rfl⟩
          have el_1 : (1 : Int32).toInt = 1 := rfl
          have hv_40 : v_40.toInt = v_39.toInt + (1 : Int32).toInt := by rw [← ev_40]; exact fb_addI (by omega) (by omega)
          refine j_iadd (pc := 186) (v := v_40) C dX11_readWare_186 ev_40 ?_
          obtain ⟨f_41, ef_41⟩ : ∃ z, z = upd f_37 120 v_40 := ⟨_, rfl⟩
          have hf_41 : TV f_41 := by rw [ef_41]; exact TV.upd hf_37 (by omega) (show _ ≤ (12 : Int) from (by omega))
          refine j_iast (pc := 187) (k := 120) (ws' := [(mtold, .inl (cyI, 240, .inl f_41)), (mnames, .inl (cyJ, 16, .inr (.inl f_38))), (m0, .inr (11, [.int m_thrown, .ref mtape, .int m_taped, .int m_size, .ref msort, .ref mplace, .ref mvalue, .int (u_27.2.1 1), .int (u_27.2.1 2), .ref mwords, .ref mtold, .ref mop, .ref marg, .int m_codes, .ref mnames, .ref mhasHabit, .int m_isNew, .ref mfactWords, .ref mfacts, .ref mpile, .ref mstates, .ref misMarked, .int m_inShelf, .int m_inStack, .int m_inPlace, .ref mrow, .int m_rowMany, .ref mthr, .ref mmays, .ref mtall, .ref mweights, .ref mrowOfWare, .ref mneededOf, .int m_goShelf, .int m_goStack, .int m_goLeft, .ref mtried, .ref mbestRow, .int m_bestCost, .int m_bestMany, .int m_bestShelf, .int m_bestSet, .ref mdigits])), (msort, .inl (cyI, 1002, .inl m_sort)), (mplace, .inl (cyI, 1002, .inl m_place)), (mvalue, .inl (cyJ, 1002, .inr (.inl m_value))), (mwords, .inl (cyJ, 23, .inr (.inl m_words)))]) C 0 1 rfl rfl (by decide) (by decide) (by decide) dX11_readWare_187 (by rw [ef_41]; rfl) ?_
          exact j_vret (pc := 188) C hr hk (fun i => [].getD i 0, fun i => [(u_27.2.1 1), (u_27.2.1 2)].getD i 0, fun i => [f_41].getD i (fun _ => 0), fun i => [f_38].getD i (fun _ => 0)) rfl (show (0 ≤ ((u_27.2.1 1)).toInt ∧ ((u_27.2.1 1)).toInt ≤ 1000) ∧ (0 ≤ ((u_27.2.1 2)).toInt ∧ ((u_27.2.1 2)).toInt ≤ 16005) ∧ (TV f_41) ∧ ((m_at).toInt ≤ ((u_27.2.1 1)).toInt) ∧ (((u_27.2.1 1)).toInt ≤ ((eN m_sort : Nat) : Int)) ∧ ((m_fault).toInt = 0 ∨ ¬ ((u_27.2.1 2)).toInt = 0) ∧ (∀ j : Nat, (j < 120 ∨ j = 122 ∨ 231 ≤ j) → f_41 j = m_told j) from ⟨by omega, by omega, hf_41, by omega, by omega, by omega, (fun j hj => by rw [ef_41, pk_un (show ¬ j = 120 from (by omega)), ef_37, pk_un (show ¬ j = (v_30).toInt.toNat from (by omega)), ef_29, pk_un (show ¬ j = (v_26).toInt.toNat from (by omega)), ef_25, pk_un (show ¬ j = (v_21).toInt.toNat from (by omega)), ef_20, pk_un (show ¬ j = (v_17).toInt.toNat from (by omega)), ef_16, pk_un (show ¬ j = (v_12).toInt.toNat from (by omega)), ef_11, pk_un (show ¬ j = (v_8).toInt.toNat from (by omega))])⟩) [2, 3, 4, 5, 6, 0, 1] (by decide) rfl (by decide) (by decide) dX11_readWare_188
      · skip
        have el_0 : (0 : Int32).toInt = 0 := rfl
        rw [i_eq] at c_22
        refine j_iconst (pc := 118) (v := 0) C dX11_readWare_118 (by decide) ?_
        refine j_goto (pc := 119) (tgt := 132) C dX11_readWare_119 (by decide) ?_
        obtain ⟨f_42, ef_42⟩ : ∃ z, z = upd f_20 (v_21).toInt.toNat 0 := ⟨_, rfl⟩
        have el_0 : (0 : Int32).toInt = 0 := rfl
        have hf_42 : TV f_42 := by rw [ef_42]; exact TV.upd hf_20 (by omega) (Int.le_trans (show _ ≤ (999 : Int) from (by omega)) (hiT_k (by omega)))
        refine j_iast (pc := 132) (k := (v_21).toInt.toNat) (ws' := [(mtold, .inl (cyI, 240, .inl f_42)), (mnames, .inl (cyJ, 16, .inr (.inl m_names))), (m0, .inr (11, [.int m_thrown, .ref mtape, .int m_taped, .int m_size, .ref msort, .ref mplace, .ref mvalue, .int (u_18.2.1 1), .int (u_18.2.1 2), .ref mwords, .ref mtold, .ref mop, .ref marg, .int m_codes, .ref mnames, .ref mhasHabit, .int m_isNew, .ref mfactWords, .ref mfacts, .ref mpile, .ref mstates, .ref misMarked, .int m_inShelf, .int m_inStack, .int m_inPlace, .ref mrow, .int m_rowMany, .ref mthr, .ref mmays, .ref mtall, .ref mweights, .ref mrowOfWare, .ref mneededOf, .int m_goShelf, .int m_goStack, .int m_goLeft, .ref mtried, .ref mbestRow, .int m_bestCost, .int m_bestMany, .int m_bestShelf, .int m_bestSet, .ref mdigits])), (msort, .inl (cyI, 1002, .inl m_sort)), (mplace, .inl (cyI, 1002, .inl m_place)), (mvalue, .inl (cyJ, 1002, .inr (.inl m_value))), (mwords, .inl (cyJ, 23, .inr (.inl m_words)))]) C 0 1 rfl rfl (i_nn (by omega)) rfl (i_lt_n (by omega) (by omega)) dX11_readWare_132 (by rw [ef_42]; rfl) ?_
        refine j_aload_n (pc := 133) C dX11_readWare_133 rfl 3 rfl ?_
        refine j_get (pc := 134) (ci := 11) (v := .ref mtold) C inw_11 2 rfl rfl 10 (by decide) wd_669 rfl rfl dX11_readWare_134 ?_
        refine j_iload (pc := 137) C dX11_readWare_137 0 rfl ?_
        refine j_iconst (pc := 139) (v := 4) C dX11_readWare_139 (by decide) ?_
        obtain ⟨v_43, ev_43⟩ : ∃ z : Int32, v_7 + 4 = z := ⟨_, rfl⟩
        have el_4 : (4 : Int32).toInt = 4 := rfl
        have hv_43 : v_43.toInt = v_7.toInt + (4 : Int32).toInt := by rw [← ev_43]; exact fb_addI (by omega) (by omega)
        refine j_iadd (pc := 140) (v := v_43) C dX11_readWare_140 ev_43 ?_
        refine j_aload_n (pc := 141) C dX11_readWare_141 rfl 3 rfl ?_
        refine j_bipush (pc := 142) (v := 10) C dX11_readWare_142 (by decide) ?_
        refine j_iconst (pc := 144) (v := 0) C dX11_readWare_144 (by decide) ?_
        refine j_bipush (pc := 145) (v := 99) C dX11_readWare_145 (by decide) ?_
        refine j_callV (pc := 147) (As := [.int 10, .int 0, .int 99]) (rest := [.int v_43, .ref mtold]) (wr := [(mtold, .inl (cyI, 240, .inl f_42)), (mnames, .inl (cyJ, 16, .inr (.inl m_names)))]) C (c_X11_takeAfter l D cyC cyI cyJ cyZ cyO m0 msort mplace mvalue mwords mtape mtold mop marg mnames mhasHabit mfactWords mfacts mpile mstates misMarked mrow mthr mmays mtall mweights mrowOfWare mneededOf mtried mbestRow mdigits 10 0 99 m_thrown m_taped m_size (u_18.2.1 1) (u_18.2.1 2) m_codes m_isNew m_inShelf m_inStack m_inPlace m_rowMany m_goShelf m_goStack m_goLeft m_bestCost m_bestMany m_bestShelf m_bestSet m_sort m_place m_value m_words (by omega) (by omega) (by omega) (by omega) (by omega) (by omega) (by omega) (by omega) (by omega) (by omega) (by omega) (by omega) (by omega) (by decide) h_m_place (by omega) (by omega)) wd_691 wd_624 wd_692 wd_693 wd_694 ⟨by decide, by decide, rfl⟩ rfl ⟨rfl, rfl, by decide, by decide⟩ ⟨by decide, by decide⟩ [2, 3, 4, 5, 6] [0, 1] rfl rfl ⟨by decide, by decide, by decide⟩ 2 rfl rfl rfl (Nat.le_of_ble_eq_true rfl) dX11_readWare_147 (fun u_44 hw_45 => ?_)
        refine j_eq (ws2 := [(mtold, .inl (cyI, 240, .inl f_42)), (mnames, .inl (cyJ, 16, .inr (.inl m_names))), (m0, .inr (11, [.int m_thrown, .ref mtape, .int m_taped, .int m_size, .ref msort, .ref mplace, .ref mvalue, .int (u_44.2.1 1), .int (u_44.2.1 2), .ref mwords, .ref mtold, .ref mop, .ref marg, .int m_codes, .ref mnames, .ref mhasHabit, .int m_isNew, .ref mfactWords, .ref mfacts, .ref mpile, .ref mstates, .ref misMarked, .int m_inShelf, .int m_inStack, .int m_inPlace, .ref mrow, .int m_rowMany, .ref mthr, .ref mmays, .ref mtall, .ref mweights, .ref mrowOfWare, .ref mneededOf, .int m_goShelf, .int m_goStack, .int m_goLeft, .ref mtried, .ref mbestRow, .int m_bestCost, .int m_bestMany, .int m_bestShelf, .int m_bestSet, .ref mdigits])), (msort, .inl (cyI, 1002, .inl m_sort)), (mplace, .inl (cyI, 1002, .inl m_place)), (mvalue, .inl (cyJ, 1002, .inr (.inl m_value))), (mwords, .inl (cyJ, 23, .inr (.inl m_words)))]) (pc2 := 150) (lv2 := [(5, .int v_7), (3, .long (u_4.2.2.2 0 0)), (2, .int v_1), (0, .ref m0), (1, .int p0)]) (st2 := [.int (u_44.2.1 0), .int v_43, .ref mtold]) rfl rfl rfl rfl ?_
        obtain ⟨hw_45_0, hw_45_1, hw_45_2, hw_45_3, hw_45_4, hw_45_5⟩ := hw_45
        have el_10 : (10 : Int32).toInt = 10 := rfl
        have el_0 : (0 : Int32).toInt = 0 := rfl
        have el_99 : (99 : Int32).toInt = 99 := rfl
        obtain ⟨f_46, ef_46⟩ : ∃ z, z = upd f_42 (v_43).toInt.toNat (u_44.2.1 0) := ⟨_, rfl⟩
        have hf_46 : TV f_46 := by rw [ef_46]; exact TV.upd hf_42 (by omega) (Int.le_trans (show _ ≤ (999 : Int) from (by omega)) (hiT_k (by omega)))
        refine j_iast (pc := 150) (k := (v_43).toInt.toNat) (ws' := [(mtold, .inl (cyI, 240, .inl f_46)), (mnames, .inl (cyJ, 16, .inr (.inl m_names))), (m0, .inr (11, [.int m_thrown, .ref mtape, .int m_taped, .int m_size, .ref msort, .ref mplace, .ref mvalue, .int (u_44.2.1 1), .int (u_44.2.1 2), .ref mwords, .ref mtold, .ref mop, .ref marg, .int m_codes, .ref mnames, .ref mhasHabit, .int m_isNew, .ref mfactWords, .ref mfacts, .ref mpile, .ref mstates, .ref misMarked, .int m_inShelf, .int m_inStack, .int m_inPlace, .ref mrow, .int m_rowMany, .ref mthr, .ref mmays, .ref mtall, .ref mweights, .ref mrowOfWare, .ref mneededOf, .int m_goShelf, .int m_goStack, .int m_goLeft, .ref mtried, .ref mbestRow, .int m_bestCost, .int m_bestMany, .int m_bestShelf, .int m_bestSet, .ref mdigits])), (msort, .inl (cyI, 1002, .inl m_sort)), (mplace, .inl (cyI, 1002, .inl m_place)), (mvalue, .inl (cyJ, 1002, .inr (.inl m_value))), (mwords, .inl (cyJ, 23, .inr (.inl m_words)))]) C 0 1 rfl rfl (i_nn (by omega)) rfl (i_lt_n (by omega) (by omega)) dX11_readWare_150 (by rw [ef_46]; rfl) ?_
        refine j_aload_n (pc := 151) C dX11_readWare_151 rfl 3 rfl ?_
        refine j_get (pc := 152) (ci := 11) (v := .ref mtold) C inw_11 2 rfl rfl 10 (by decide) wd_669 rfl rfl dX11_readWare_152 ?_
        refine j_iload (pc := 155) C dX11_readWare_155 0 rfl ?_
        refine j_bipush (pc := 157) (v := 6) C dX11_readWare_157 (by decide) ?_
        obtain ⟨v_47, ev_47⟩ : ∃ z : Int32, v_7 + 6 = z := ⟨_, rfl⟩
        have el_6 : (6 : Int32).toInt = 6 := rfl
        have hv_47 : v_47.toInt = v_7.toInt + (6 : Int32).toInt := by rw [← ev_47]; exact fb_addI (by omega) (by omega)
        refine j_iadd (pc := 159) (v := v_47) C dX11_readWare_159 ev_47 ?_
        refine j_iload_n (pc := 160) C dX11_readWare_160 rfl 4 rfl ?_
        have el_0 : (0 : Int32).toInt = 0 := rfl
        refine j_if_eq_f (pc := 161) (tgt := 168) C dX11_readWare_161 (by decide) (by rw [i_eq]; omega) ?_
        refine j_iconst (pc := 164) (v := 1) C dX11_readWare_164 (by decide) ?_
        refine j_goto (pc := 165) (tgt := 169) C dX11_readWare_165 (by decide) ?_
        obtain ⟨f_48, ef_48⟩ : ∃ z, z = upd f_46 (v_47).toInt.toNat 1 := ⟨_, rfl⟩
        have el_1 : (1 : Int32).toInt = 1 := rfl
        have hf_48 : TV f_48 := by rw [ef_48]; exact TV.upd hf_46 (by omega) (Int.le_trans (show _ ≤ (999 : Int) from (by omega)) (hiT_k (by omega)))
        refine j_iast (pc := 169) (k := (v_47).toInt.toNat) (ws' := [(mtold, .inl (cyI, 240, .inl f_48)), (mnames, .inl (cyJ, 16, .inr (.inl m_names))), (m0, .inr (11, [.int m_thrown, .ref mtape, .int m_taped, .int m_size, .ref msort, .ref mplace, .ref mvalue, .int (u_44.2.1 1), .int (u_44.2.1 2), .ref mwords, .ref mtold, .ref mop, .ref marg, .int m_codes, .ref mnames, .ref mhasHabit, .int m_isNew, .ref mfactWords, .ref mfacts, .ref mpile, .ref mstates, .ref misMarked, .int m_inShelf, .int m_inStack, .int m_inPlace, .ref mrow, .int m_rowMany, .ref mthr, .ref mmays, .ref mtall, .ref mweights, .ref mrowOfWare, .ref mneededOf, .int m_goShelf, .int m_goStack, .int m_goLeft, .ref mtried, .ref mbestRow, .int m_bestCost, .int m_bestMany, .int m_bestShelf, .int m_bestSet, .ref mdigits])), (msort, .inl (cyI, 1002, .inl m_sort)), (mplace, .inl (cyI, 1002, .inl m_place)), (mvalue, .inl (cyJ, 1002, .inr (.inl m_value))), (mwords, .inl (cyJ, 23, .inr (.inl m_words)))]) C 0 1 rfl rfl (i_nn (by omega)) rfl (i_lt_n (by omega) (by omega)) dX11_readWare_169 (by rw [ef_48]; rfl) ?_
        refine j_aload_n (pc := 170) C dX11_readWare_170 rfl 3 rfl ?_
        refine j_get (pc := 171) (ci := 11) (v := .ref mnames) C inw_11 2 rfl rfl 14 (by decide) wd_670 rfl rfl dX11_readWare_171 ?_
        refine j_iload_n (pc := 174) C dX11_readWare_174 rfl 2 rfl ?_
        refine j_lload_n (pc := 175) C dX11_readWare_175 rfl 1 rfl ?_
        obtain ⟨f_49, ef_49⟩ : ∃ z, z = vp_updL m_names (v_1).toInt.toNat (u_4.2.2.2 0 0) := ⟨_, rfl⟩
        refine j_last (pc := 176) (k := (v_1).toInt.toNat) (ws' := [(mtold, .inl (cyI, 240, .inl f_48)), (mnames, .inl (cyJ, 16, .inr (.inl f_49))), (m0, .inr (11, [.int m_thrown, .ref mtape, .int m_taped, .int m_size, .ref msort, .ref mplace, .ref mvalue, .int (u_44.2.1 1), .int (u_44.2.1 2), .ref mwords, .ref mtold, .ref mop, .ref marg, .int m_codes, .ref mnames, .ref mhasHabit, .int m_isNew, .ref mfactWords, .ref mfacts, .ref mpile, .ref mstates, .ref misMarked, .int m_inShelf, .int m_inStack, .int m_inPlace, .ref mrow, .int m_rowMany, .ref mthr, .ref mmays, .ref mtall, .ref mweights, .ref mrowOfWare, .ref mneededOf, .int m_goShelf, .int m_goStack, .int m_goLeft, .ref mtried, .ref mbestRow, .int m_bestCost, .int m_bestMany, .int m_bestShelf, .int m_bestSet, .ref mdigits])), (msort, .inl (cyI, 1002, .inl m_sort)), (mplace, .inl (cyI, 1002, .inl m_place)), (mvalue, .inl (cyJ, 1002, .inr (.inl m_value))), (mwords, .inl (cyJ, 23, .inr (.inl m_words)))]) C 1 2 rfl rfl (i_nn (by omega)) rfl (i_lt_n (by omega) (by omega)) dX11_readWare_176 (by rw [ef_49]; rfl) ?_
        refine j_aload_n (pc := 177) C dX11_readWare_177 rfl 3 rfl ?_
        refine j_get (pc := 178) (ci := 11) (v := .ref mtold) C inw_11 2 rfl rfl 10 (by decide) wd_669 rfl rfl dX11_readWare_178 ?_
        refine j_bipush (pc := 181) (v := 120) C dX11_readWare_181 (by decide) ?_
        refine j_dup2 (pc := 183) C dX11_readWare_183 rfl rfl ?_
        obtain ⟨v_50, ev_50⟩ : ∃ z, f_48 120 = z := ⟨_, rfl⟩
        have qv_50 : v_50 = v_1 := by rw [← ev_50]; exact (by rw [ef_48, pk_un (show ¬ 120 = (v_47).toInt.toNat from (by omega))]; exact (by rw [ef_46, pk_un (show ¬ 120 = (v_43).toInt.toNat from (by omega))]; exact (by rw [ef_42, pk_un (show ¬ 120 = (v_21).toInt.toNat from (by omega))]; exact (by rw [ef_20, pk_un (show ¬ 120 = (v_17).toInt.toNat from (by omega))]; exact (by rw [ef_16, pk_un (show ¬ 120 = (v_12).toInt.toNat from (by omega))]; exact (by rw [ef_11, pk_un (show ¬ 120 = (v_8).toInt.toNat from (by omega))]; exact ev_1))))))
        have env_50 : v_50.toInt = (v_1).toInt := by rw [qv_50]
        refine j_iald (pc := 184) (v := v_50) (k := 120) C 0 1 rfl rfl (by decide) (by decide) (by decide) ev_50 dX11_readWare_184 ?_
        refine j_iconst (pc := 185) (v := 1) C dX11_readWare_185 (by decide) ?_
        obtain ⟨v_51, ev_51⟩ : ∃ z : Int32, v_50 + 1 = z := ⟨_, rfl⟩
        have el_1 : (1 : Int32).toInt = 1 := rfl
        have hv_51 : v_51.toInt = v_50.toInt + (1 : Int32).toInt := by rw [← ev_51]; exact fb_addI (by omega) (by omega)
        refine j_iadd (pc := 186) (v := v_51) C dX11_readWare_186 ev_51 ?_
        obtain ⟨f_52, ef_52⟩ : ∃ z, z = upd f_48 120 v_51 := ⟨_, rfl⟩
        have hf_52 : TV f_52 := by rw [ef_52]; exact TV.upd hf_48 (by omega) (show _ ≤ (12 : Int) from (by omega))
        refine j_iast (pc := 187) (k := 120) (ws' := [(mtold, .inl (cyI, 240, .inl f_52)), (mnames, .inl (cyJ, 16, .inr (.inl f_49))), (m0, .inr (11, [.int m_thrown, .ref mtape, .int m_taped, .int m_size, .ref msort, .ref mplace, .ref mvalue, .int (u_44.2.1 1), .int (u_44.2.1 2), .ref mwords, .ref mtold, .ref mop, .ref marg, .int m_codes, .ref mnames, .ref mhasHabit, .int m_isNew, .ref mfactWords, .ref mfacts, .ref mpile, .ref mstates, .ref misMarked, .int m_inShelf, .int m_inStack, .int m_inPlace, .ref mrow, .int m_rowMany, .ref mthr, .ref mmays, .ref mtall, .ref mweights, .ref mrowOfWare, .ref mneededOf, .int m_goShelf, .int m_goStack, .int m_goLeft, .ref mtried, .ref mbestRow, .int m_bestCost, .int m_bestMany, .int m_bestShelf, .int m_bestSet, .ref mdigits])), (msort, .inl (cyI, 1002, .inl m_sort)), (mplace, .inl (cyI, 1002, .inl m_place)), (mvalue, .inl (cyJ, 1002, .inr (.inl m_value))), (mwords, .inl (cyJ, 23, .inr (.inl m_words)))]) C 0 1 rfl rfl (by decide) (by decide) (by decide) dX11_readWare_187 (by rw [ef_52]; rfl) ?_
        exact j_vret (pc := 188) C hr hk (fun i => [].getD i 0, fun i => [(u_44.2.1 1), (u_44.2.1 2)].getD i 0, fun i => [f_52].getD i (fun _ => 0), fun i => [f_49].getD i (fun _ => 0)) rfl (show (0 ≤ ((u_44.2.1 1)).toInt ∧ ((u_44.2.1 1)).toInt ≤ 1000) ∧ (0 ≤ ((u_44.2.1 2)).toInt ∧ ((u_44.2.1 2)).toInt ≤ 16005) ∧ (TV f_52) ∧ ((m_at).toInt ≤ ((u_44.2.1 1)).toInt) ∧ (((u_44.2.1 1)).toInt ≤ ((eN m_sort : Nat) : Int)) ∧ ((m_fault).toInt = 0 ∨ ¬ ((u_44.2.1 2)).toInt = 0) ∧ (∀ j : Nat, (j < 120 ∨ j = 122 ∨ 231 ≤ j) → f_52 j = m_told j) from ⟨by omega, by omega, hf_52, by omega, by omega, by omega, (fun j hj => by rw [ef_52, pk_un (show ¬ j = 120 from (by omega)), ef_48, pk_un (show ¬ j = (v_47).toInt.toNat from (by omega)), ef_46, pk_un (show ¬ j = (v_43).toInt.toNat from (by omega)), ef_42, pk_un (show ¬ j = (v_21).toInt.toNat from (by omega)), ef_20, pk_un (show ¬ j = (v_17).toInt.toNat from (by omega)), ef_16, pk_un (show ¬ j = (v_12).toInt.toNat from (by omega)), ef_11, pk_un (show ¬ j = (v_8).toInt.toNat from (by omega))])⟩) [2, 3, 4, 5, 6, 0, 1] (by decide) rfl (by decide) (by decide) dX11_readWare_188
    · skip
      have el_0 : (0 : Int32).toInt = 0 := rfl
      rw [i_eq] at c_13
      refine j_iconst (pc := 74) (v := 1) C dX11_readWare_74 (by decide) ?_
      refine j_goto (pc := 75) (tgt := 87) C dX11_readWare_75 (by decide) ?_
      obtain ⟨f_53, ef_53⟩ : ∃ z, z = upd f_11 (v_12).toInt.toNat 1 := ⟨_, rfl⟩
      have el_1 : (1 : Int32).toInt = 1 := rfl
      have hf_53 : TV f_53 := by rw [ef_53]; exact TV.upd hf_11 (by omega) (Int.le_trans (show _ ≤ (999 : Int) from (by omega)) (hiT_k (by omega)))
      refine j_iast (pc := 87) (k := (v_12).toInt.toNat) (ws' := [(mtold, .inl (cyI, 240, .inl f_53)), (mnames, .inl (cyJ, 16, .inr (.inl m_names))), (m0, .inr (11, [.int m_thrown, .ref mtape, .int m_taped, .int m_size, .ref msort, .ref mplace, .ref mvalue, .int (u_9.2.1 1), .int (u_9.2.1 2), .ref mwords, .ref mtold, .ref mop, .ref marg, .int m_codes, .ref mnames, .ref mhasHabit, .int m_isNew, .ref mfactWords, .ref mfacts, .ref mpile, .ref mstates, .ref misMarked, .int m_inShelf, .int m_inStack, .int m_inPlace, .ref mrow, .int m_rowMany, .ref mthr, .ref mmays, .ref mtall, .ref mweights, .ref mrowOfWare, .ref mneededOf, .int m_goShelf, .int m_goStack, .int m_goLeft, .ref mtried, .ref mbestRow, .int m_bestCost, .int m_bestMany, .int m_bestShelf, .int m_bestSet, .ref mdigits])), (msort, .inl (cyI, 1002, .inl m_sort)), (mplace, .inl (cyI, 1002, .inl m_place)), (mvalue, .inl (cyJ, 1002, .inr (.inl m_value))), (mwords, .inl (cyJ, 23, .inr (.inl m_words)))]) C 0 1 rfl rfl (i_nn (by omega)) rfl (i_lt_n (by omega) (by omega)) dX11_readWare_87 (by rw [ef_53]; rfl) ?_
      refine j_aload_n (pc := 88) C dX11_readWare_88 rfl 3 rfl ?_
      refine j_get (pc := 89) (ci := 11) (v := .ref mtold) C inw_11 2 rfl rfl 10 (by decide) wd_669 rfl rfl dX11_readWare_89 ?_
      refine j_iload (pc := 92) C dX11_readWare_92 0 rfl ?_
      refine j_iconst (pc := 94) (v := 2) C dX11_readWare_94 (by decide) ?_
      obtain ⟨v_54, ev_54⟩ : ∃ z : Int32, v_7 + 2 = z := ⟨_, rfl⟩
      have el_2 : (2 : Int32).toInt = 2 := rfl
      have hv_54 : v_54.toInt = v_7.toInt + (2 : Int32).toInt := by rw [← ev_54]; exact fb_addI (by omega) (by omega)
      refine j_iadd (pc := 95) (v := v_54) C dX11_readWare_95 ev_54 ?_
      refine j_aload_n (pc := 96) C dX11_readWare_96 rfl 3 rfl ?_
      refine j_bipush (pc := 97) (v := 8) C dX11_readWare_97 (by decide) ?_
      refine j_iconst (pc := 99) (v := 1) C dX11_readWare_99 (by decide) ?_
      refine j_bipush (pc := 100) (v := 99) C dX11_readWare_100 (by decide) ?_
      refine j_callV (pc := 102) (As := [.int 8, .int 1, .int 99]) (rest := [.int v_54, .ref mtold]) (wr := [(mtold, .inl (cyI, 240, .inl f_53)), (mnames, .inl (cyJ, 16, .inr (.inl m_names)))]) C (c_X11_takeAfter l D cyC cyI cyJ cyZ cyO m0 msort mplace mvalue mwords mtape mtold mop marg mnames mhasHabit mfactWords mfacts mpile mstates misMarked mrow mthr mmays mtall mweights mrowOfWare mneededOf mtried mbestRow mdigits 8 1 99 m_thrown m_taped m_size (u_9.2.1 1) (u_9.2.1 2) m_codes m_isNew m_inShelf m_inStack m_inPlace m_rowMany m_goShelf m_goStack m_goLeft m_bestCost m_bestMany m_bestShelf m_bestSet m_sort m_place m_value m_words (by omega) (by omega) (by omega) (by omega) (by omega) (by omega) (by omega) (by omega) (by omega) (by omega) (by omega) (by omega) (by omega) (by decide) h_m_place (by omega) (by omega)) wd_691 wd_624 wd_692 wd_693 wd_694 ⟨by decide, by decide, rfl⟩ rfl ⟨rfl, rfl, by decide, by decide⟩ ⟨by decide, by decide⟩ [2, 3, 4, 5, 6] [0, 1] rfl rfl ⟨by decide, by decide, by decide⟩ 2 rfl rfl rfl (Nat.le_of_ble_eq_true rfl) dX11_readWare_102 (fun u_55 hw_56 => ?_)
      refine j_eq (ws2 := [(mtold, .inl (cyI, 240, .inl f_53)), (mnames, .inl (cyJ, 16, .inr (.inl m_names))), (m0, .inr (11, [.int m_thrown, .ref mtape, .int m_taped, .int m_size, .ref msort, .ref mplace, .ref mvalue, .int (u_55.2.1 1), .int (u_55.2.1 2), .ref mwords, .ref mtold, .ref mop, .ref marg, .int m_codes, .ref mnames, .ref mhasHabit, .int m_isNew, .ref mfactWords, .ref mfacts, .ref mpile, .ref mstates, .ref misMarked, .int m_inShelf, .int m_inStack, .int m_inPlace, .ref mrow, .int m_rowMany, .ref mthr, .ref mmays, .ref mtall, .ref mweights, .ref mrowOfWare, .ref mneededOf, .int m_goShelf, .int m_goStack, .int m_goLeft, .ref mtried, .ref mbestRow, .int m_bestCost, .int m_bestMany, .int m_bestShelf, .int m_bestSet, .ref mdigits])), (msort, .inl (cyI, 1002, .inl m_sort)), (mplace, .inl (cyI, 1002, .inl m_place)), (mvalue, .inl (cyJ, 1002, .inr (.inl m_value))), (mwords, .inl (cyJ, 23, .inr (.inl m_words)))]) (pc2 := 105) (lv2 := [(5, .int v_7), (3, .long (u_4.2.2.2 0 0)), (2, .int v_1), (0, .ref m0), (1, .int p0)]) (st2 := [.int (u_55.2.1 0), .int v_54, .ref mtold]) rfl rfl rfl rfl ?_
      obtain ⟨hw_56_0, hw_56_1, hw_56_2, hw_56_3, hw_56_4, hw_56_5⟩ := hw_56
      have el_8 : (8 : Int32).toInt = 8 := rfl
      have el_1 : (1 : Int32).toInt = 1 := rfl
      have el_99 : (99 : Int32).toInt = 99 := rfl
      obtain ⟨f_57, ef_57⟩ : ∃ z, z = upd f_53 (v_54).toInt.toNat (u_55.2.1 0) := ⟨_, rfl⟩
      have hf_57 : TV f_57 := by rw [ef_57]; exact TV.upd hf_53 (by omega) (Int.le_trans (show _ ≤ (999 : Int) from (by omega)) (hiT_k (by omega)))
      refine j_iast (pc := 105) (k := (v_54).toInt.toNat) (ws' := [(mtold, .inl (cyI, 240, .inl f_57)), (mnames, .inl (cyJ, 16, .inr (.inl m_names))), (m0, .inr (11, [.int m_thrown, .ref mtape, .int m_taped, .int m_size, .ref msort, .ref mplace, .ref mvalue, .int (u_55.2.1 1), .int (u_55.2.1 2), .ref mwords, .ref mtold, .ref mop, .ref marg, .int m_codes, .ref mnames, .ref mhasHabit, .int m_isNew, .ref mfactWords, .ref mfacts, .ref mpile, .ref mstates, .ref misMarked, .int m_inShelf, .int m_inStack, .int m_inPlace, .ref mrow, .int m_rowMany, .ref mthr, .ref mmays, .ref mtall, .ref mweights, .ref mrowOfWare, .ref mneededOf, .int m_goShelf, .int m_goStack, .int m_goLeft, .ref mtried, .ref mbestRow, .int m_bestCost, .int m_bestMany, .int m_bestShelf, .int m_bestSet, .ref mdigits])), (msort, .inl (cyI, 1002, .inl m_sort)), (mplace, .inl (cyI, 1002, .inl m_place)), (mvalue, .inl (cyJ, 1002, .inr (.inl m_value))), (mwords, .inl (cyJ, 23, .inr (.inl m_words)))]) C 0 1 rfl rfl (i_nn (by omega)) rfl (i_lt_n (by omega) (by omega)) dX11_readWare_105 (by rw [ef_57]; rfl) ?_
      refine j_aload_n (pc := 106) C dX11_readWare_106 rfl 3 rfl ?_
      refine j_get (pc := 107) (ci := 11) (v := .ref mtold) C inw_11 2 rfl rfl 10 (by decide) wd_669 rfl rfl dX11_readWare_107 ?_
      refine j_iload (pc := 110) C dX11_readWare_110 0 rfl ?_
      refine j_iconst (pc := 112) (v := 3) C dX11_readWare_112 (by decide) ?_
      obtain ⟨v_58, ev_58⟩ : ∃ z : Int32, v_7 + 3 = z := ⟨_, rfl⟩
      have el_3 : (3 : Int32).toInt = 3 := rfl
      have hv_58 : v_58.toInt = v_7.toInt + (3 : Int32).toInt := by rw [← ev_58]; exact fb_addI (by omega) (by omega)
      refine j_iadd (pc := 113) (v := v_58) C dX11_readWare_113 ev_58 ?_
      refine j_iload_n (pc := 114) C dX11_readWare_114 rfl 4 rfl ?_
      refine j_if_eq (pc := 115) (tgt := 122) C dX11_readWare_115 (by decide) (fun c_59 => ?_) (fun c_59 => ?_)
      · skip
        have el_0 : (0 : Int32).toInt = 0 := rfl
        rw [i_eq] at c_59
        refine j_aload_n (pc := 122) C dX11_readWare_122 rfl 3 rfl ?_
        refine j_bipush (pc := 123) (v := 9) C dX11_readWare_123 (by decide) ?_
        refine j_iconst (pc := 125) (v := 0) C dX11_readWare_125 (by decide) ?_
        refine j_sipush (pc := 126) (v := 999) C dX11_readWare_126 (by decide) ?_
        refine j_callV (pc := 129) (As := [.int 9, .int 0, .int 999]) (rest := [.int v_58, .ref mtold]) (wr := [(mtold, .inl (cyI, 240, .inl f_57)), (mnames, .inl (cyJ, 16, .inr (.inl m_names)))]) C (c_X11_takeAfter l D cyC cyI cyJ cyZ cyO m0 msort mplace mvalue mwords mtape mtold mop marg mnames mhasHabit mfactWords mfacts mpile mstates misMarked mrow mthr mmays mtall mweights mrowOfWare mneededOf mtried mbestRow mdigits 9 0 999 m_thrown m_taped m_size (u_55.2.1 1) (u_55.2.1 2) m_codes m_isNew m_inShelf m_inStack m_inPlace m_rowMany m_goShelf m_goStack m_goLeft m_bestCost m_bestMany m_bestShelf m_bestSet m_sort m_place m_value m_words (by omega) (by omega) (by omega) (by omega) (by omega) (by omega) (by omega) (by omega) (by omega) (by omega) (by omega) (by omega) (by omega) (by decide) h_m_place (by omega) (by omega)) wd_691 wd_624 wd_692 wd_693 wd_694 ⟨by decide, by decide, rfl⟩ rfl ⟨rfl, rfl, by decide, by decide⟩ ⟨by decide, by decide⟩ [2, 3, 4, 5, 6] [0, 1] rfl rfl ⟨by decide, by decide, by decide⟩ 2 rfl rfl rfl (Nat.le_of_ble_eq_true rfl) dX11_readWare_129 (fun u_60 hw_61 => ?_)
        refine j_eq (ws2 := [(mtold, .inl (cyI, 240, .inl f_57)), (mnames, .inl (cyJ, 16, .inr (.inl m_names))), (m0, .inr (11, [.int m_thrown, .ref mtape, .int m_taped, .int m_size, .ref msort, .ref mplace, .ref mvalue, .int (u_60.2.1 1), .int (u_60.2.1 2), .ref mwords, .ref mtold, .ref mop, .ref marg, .int m_codes, .ref mnames, .ref mhasHabit, .int m_isNew, .ref mfactWords, .ref mfacts, .ref mpile, .ref mstates, .ref misMarked, .int m_inShelf, .int m_inStack, .int m_inPlace, .ref mrow, .int m_rowMany, .ref mthr, .ref mmays, .ref mtall, .ref mweights, .ref mrowOfWare, .ref mneededOf, .int m_goShelf, .int m_goStack, .int m_goLeft, .ref mtried, .ref mbestRow, .int m_bestCost, .int m_bestMany, .int m_bestShelf, .int m_bestSet, .ref mdigits])), (msort, .inl (cyI, 1002, .inl m_sort)), (mplace, .inl (cyI, 1002, .inl m_place)), (mvalue, .inl (cyJ, 1002, .inr (.inl m_value))), (mwords, .inl (cyJ, 23, .inr (.inl m_words)))]) (pc2 := 132) (lv2 := [(5, .int v_7), (3, .long (u_4.2.2.2 0 0)), (2, .int v_1), (0, .ref m0), (1, .int p0)]) (st2 := [.int (u_60.2.1 0), .int v_58, .ref mtold]) rfl rfl rfl rfl ?_
        obtain ⟨hw_61_0, hw_61_1, hw_61_2, hw_61_3, hw_61_4, hw_61_5⟩ := hw_61
        have el_9 : (9 : Int32).toInt = 9 := rfl
        have el_0 : (0 : Int32).toInt = 0 := rfl
        have el_999 : (999 : Int32).toInt = 999 := rfl
        obtain ⟨f_62, ef_62⟩ : ∃ z, z = upd f_57 (v_58).toInt.toNat (u_60.2.1 0) := ⟨_, rfl⟩
        have hf_62 : TV f_62 := by rw [ef_62]; exact TV.upd hf_57 (by omega) (Int.le_trans (show _ ≤ (999 : Int) from (by omega)) (hiT_k (by omega)))
        refine j_iast (pc := 132) (k := (v_58).toInt.toNat) (ws' := [(mtold, .inl (cyI, 240, .inl f_62)), (mnames, .inl (cyJ, 16, .inr (.inl m_names))), (m0, .inr (11, [.int m_thrown, .ref mtape, .int m_taped, .int m_size, .ref msort, .ref mplace, .ref mvalue, .int (u_60.2.1 1), .int (u_60.2.1 2), .ref mwords, .ref mtold, .ref mop, .ref marg, .int m_codes, .ref mnames, .ref mhasHabit, .int m_isNew, .ref mfactWords, .ref mfacts, .ref mpile, .ref mstates, .ref misMarked, .int m_inShelf, .int m_inStack, .int m_inPlace, .ref mrow, .int m_rowMany, .ref mthr, .ref mmays, .ref mtall, .ref mweights, .ref mrowOfWare, .ref mneededOf, .int m_goShelf, .int m_goStack, .int m_goLeft, .ref mtried, .ref mbestRow, .int m_bestCost, .int m_bestMany, .int m_bestShelf, .int m_bestSet, .ref mdigits])), (msort, .inl (cyI, 1002, .inl m_sort)), (mplace, .inl (cyI, 1002, .inl m_place)), (mvalue, .inl (cyJ, 1002, .inr (.inl m_value))), (mwords, .inl (cyJ, 23, .inr (.inl m_words)))]) C 0 1 rfl rfl (i_nn (by omega)) rfl (i_lt_n (by omega) (by omega)) dX11_readWare_132 (by rw [ef_62]; rfl) ?_
        refine j_aload_n (pc := 133) C dX11_readWare_133 rfl 3 rfl ?_
        refine j_get (pc := 134) (ci := 11) (v := .ref mtold) C inw_11 2 rfl rfl 10 (by decide) wd_669 rfl rfl dX11_readWare_134 ?_
        refine j_iload (pc := 137) C dX11_readWare_137 0 rfl ?_
        refine j_iconst (pc := 139) (v := 4) C dX11_readWare_139 (by decide) ?_
        obtain ⟨v_63, ev_63⟩ : ∃ z : Int32, v_7 + 4 = z := ⟨_, rfl⟩
        have el_4 : (4 : Int32).toInt = 4 := rfl
        have hv_63 : v_63.toInt = v_7.toInt + (4 : Int32).toInt := by rw [← ev_63]; exact fb_addI (by omega) (by omega)
        refine j_iadd (pc := 140) (v := v_63) C dX11_readWare_140 ev_63 ?_
        refine j_aload_n (pc := 141) C dX11_readWare_141 rfl 3 rfl ?_
        refine j_bipush (pc := 142) (v := 10) C dX11_readWare_142 (by decide) ?_
        refine j_iconst (pc := 144) (v := 0) C dX11_readWare_144 (by decide) ?_
        refine j_bipush (pc := 145) (v := 99) C dX11_readWare_145 (by decide) ?_
        refine j_callV (pc := 147) (As := [.int 10, .int 0, .int 99]) (rest := [.int v_63, .ref mtold]) (wr := [(mtold, .inl (cyI, 240, .inl f_62)), (mnames, .inl (cyJ, 16, .inr (.inl m_names)))]) C (c_X11_takeAfter l D cyC cyI cyJ cyZ cyO m0 msort mplace mvalue mwords mtape mtold mop marg mnames mhasHabit mfactWords mfacts mpile mstates misMarked mrow mthr mmays mtall mweights mrowOfWare mneededOf mtried mbestRow mdigits 10 0 99 m_thrown m_taped m_size (u_60.2.1 1) (u_60.2.1 2) m_codes m_isNew m_inShelf m_inStack m_inPlace m_rowMany m_goShelf m_goStack m_goLeft m_bestCost m_bestMany m_bestShelf m_bestSet m_sort m_place m_value m_words (by omega) (by omega) (by omega) (by omega) (by omega) (by omega) (by omega) (by omega) (by omega) (by omega) (by omega) (by omega) (by omega) (by decide) h_m_place (by omega) (by omega)) wd_691 wd_624 wd_692 wd_693 wd_694 ⟨by decide, by decide, rfl⟩ rfl ⟨rfl, rfl, by decide, by decide⟩ ⟨by decide, by decide⟩ [2, 3, 4, 5, 6] [0, 1] rfl rfl ⟨by decide, by decide, by decide⟩ 2 rfl rfl rfl (Nat.le_of_ble_eq_true rfl) dX11_readWare_147 (fun u_64 hw_65 => ?_)
        refine j_eq (ws2 := [(mtold, .inl (cyI, 240, .inl f_62)), (mnames, .inl (cyJ, 16, .inr (.inl m_names))), (m0, .inr (11, [.int m_thrown, .ref mtape, .int m_taped, .int m_size, .ref msort, .ref mplace, .ref mvalue, .int (u_64.2.1 1), .int (u_64.2.1 2), .ref mwords, .ref mtold, .ref mop, .ref marg, .int m_codes, .ref mnames, .ref mhasHabit, .int m_isNew, .ref mfactWords, .ref mfacts, .ref mpile, .ref mstates, .ref misMarked, .int m_inShelf, .int m_inStack, .int m_inPlace, .ref mrow, .int m_rowMany, .ref mthr, .ref mmays, .ref mtall, .ref mweights, .ref mrowOfWare, .ref mneededOf, .int m_goShelf, .int m_goStack, .int m_goLeft, .ref mtried, .ref mbestRow, .int m_bestCost, .int m_bestMany, .int m_bestShelf, .int m_bestSet, .ref mdigits])), (msort, .inl (cyI, 1002, .inl m_sort)), (mplace, .inl (cyI, 1002, .inl m_place)), (mvalue, .inl (cyJ, 1002, .inr (.inl m_value))), (mwords, .inl (cyJ, 23, .inr (.inl m_words)))]) (pc2 := 150) (lv2 := [(5, .int v_7), (3, .long (u_4.2.2.2 0 0)), (2, .int v_1), (0, .ref m0), (1, .int p0)]) (st2 := [.int (u_64.2.1 0), .int v_63, .ref mtold]) rfl rfl rfl rfl ?_
        obtain ⟨hw_65_0, hw_65_1, hw_65_2, hw_65_3, hw_65_4, hw_65_5⟩ := hw_65
        have el_10 : (10 : Int32).toInt = 10 := rfl
        have el_0 : (0 : Int32).toInt = 0 := rfl
        have el_99 : (99 : Int32).toInt = 99 := rfl
        obtain ⟨f_66, ef_66⟩ : ∃ z, z = upd f_62 (v_63).toInt.toNat (u_64.2.1 0) := ⟨_, rfl⟩
        have hf_66 : TV f_66 := by rw [ef_66]; exact TV.upd hf_62 (by omega) (Int.le_trans (show _ ≤ (999 : Int) from (by omega)) (hiT_k (by omega)))
        refine j_iast (pc := 150) (k := (v_63).toInt.toNat) (ws' := [(mtold, .inl (cyI, 240, .inl f_66)), (mnames, .inl (cyJ, 16, .inr (.inl m_names))), (m0, .inr (11, [.int m_thrown, .ref mtape, .int m_taped, .int m_size, .ref msort, .ref mplace, .ref mvalue, .int (u_64.2.1 1), .int (u_64.2.1 2), .ref mwords, .ref mtold, .ref mop, .ref marg, .int m_codes, .ref mnames, .ref mhasHabit, .int m_isNew, .ref mfactWords, .ref mfacts, .ref mpile, .ref mstates, .ref misMarked, .int m_inShelf, .int m_inStack, .int m_inPlace, .ref mrow, .int m_rowMany, .ref mthr, .ref mmays, .ref mtall, .ref mweights, .ref mrowOfWare, .ref mneededOf, .int m_goShelf, .int m_goStack, .int m_goLeft, .ref mtried, .ref mbestRow, .int m_bestCost, .int m_bestMany, .int m_bestShelf, .int m_bestSet, .ref mdigits])), (msort, .inl (cyI, 1002, .inl m_sort)), (mplace, .inl (cyI, 1002, .inl m_place)), (mvalue, .inl (cyJ, 1002, .inr (.inl m_value))), (mwords, .inl (cyJ, 23, .inr (.inl m_words)))]) C 0 1 rfl rfl (i_nn (by omega)) rfl (i_lt_n (by omega) (by omega)) dX11_readWare_150 (by rw [ef_66]; rfl) ?_
        refine j_aload_n (pc := 151) C dX11_readWare_151 rfl 3 rfl ?_
        refine j_get (pc := 152) (ci := 11) (v := .ref mtold) C inw_11 2 rfl rfl 10 (by decide) wd_669 rfl rfl dX11_readWare_152 ?_
        refine j_iload (pc := 155) C dX11_readWare_155 0 rfl ?_
        refine j_bipush (pc := 157) (v := 6) C dX11_readWare_157 (by decide) ?_
        obtain ⟨v_67, ev_67⟩ : ∃ z : Int32, v_7 + 6 = z := ⟨_, rfl⟩
        have el_6 : (6 : Int32).toInt = 6 := rfl
        have hv_67 : v_67.toInt = v_7.toInt + (6 : Int32).toInt := by rw [← ev_67]; exact fb_addI (by omega) (by omega)
        refine j_iadd (pc := 159) (v := v_67) C dX11_readWare_159 ev_67 ?_
        refine j_iload_n (pc := 160) C dX11_readWare_160 rfl 4 rfl ?_
        refine j_if_eq (pc := 161) (tgt := 168) C dX11_readWare_161 (by decide) (fun c_68 => ?_) (fun c_68 => ?_)
        · skip
          have el_0 : (0 : Int32).toInt = 0 := rfl
          rw [i_eq] at c_68
          refine j_iconst (pc := 168) (v := 0) C dX11_readWare_168 (by decide) ?_
          obtain ⟨f_69, ef_69⟩ : ∃ z, z = upd f_66 (v_67).toInt.toNat 0 := ⟨_, rfl⟩
          have el_0 : (0 : Int32).toInt = 0 := rfl
          have hf_69 : TV f_69 := by rw [ef_69]; exact TV.upd hf_66 (by omega) (Int.le_trans (show _ ≤ (999 : Int) from (by omega)) (hiT_k (by omega)))
          refine j_iast (pc := 169) (k := (v_67).toInt.toNat) (ws' := [(mtold, .inl (cyI, 240, .inl f_69)), (mnames, .inl (cyJ, 16, .inr (.inl m_names))), (m0, .inr (11, [.int m_thrown, .ref mtape, .int m_taped, .int m_size, .ref msort, .ref mplace, .ref mvalue, .int (u_64.2.1 1), .int (u_64.2.1 2), .ref mwords, .ref mtold, .ref mop, .ref marg, .int m_codes, .ref mnames, .ref mhasHabit, .int m_isNew, .ref mfactWords, .ref mfacts, .ref mpile, .ref mstates, .ref misMarked, .int m_inShelf, .int m_inStack, .int m_inPlace, .ref mrow, .int m_rowMany, .ref mthr, .ref mmays, .ref mtall, .ref mweights, .ref mrowOfWare, .ref mneededOf, .int m_goShelf, .int m_goStack, .int m_goLeft, .ref mtried, .ref mbestRow, .int m_bestCost, .int m_bestMany, .int m_bestShelf, .int m_bestSet, .ref mdigits])), (msort, .inl (cyI, 1002, .inl m_sort)), (mplace, .inl (cyI, 1002, .inl m_place)), (mvalue, .inl (cyJ, 1002, .inr (.inl m_value))), (mwords, .inl (cyJ, 23, .inr (.inl m_words)))]) C 0 1 rfl rfl (i_nn (by omega)) rfl (i_lt_n (by omega) (by omega)) dX11_readWare_169 (by rw [ef_69]; rfl) ?_
          refine j_aload_n (pc := 170) C dX11_readWare_170 rfl 3 rfl ?_
          refine j_get (pc := 171) (ci := 11) (v := .ref mnames) C inw_11 2 rfl rfl 14 (by decide) wd_670 rfl rfl dX11_readWare_171 ?_
          refine j_iload_n (pc := 174) C dX11_readWare_174 rfl 2 rfl ?_
          refine j_lload_n (pc := 175) C dX11_readWare_175 rfl 1 rfl ?_
          obtain ⟨f_70, ef_70⟩ : ∃ z, z = vp_updL m_names (v_1).toInt.toNat (u_4.2.2.2 0 0) := ⟨_, rfl⟩
          refine j_last (pc := 176) (k := (v_1).toInt.toNat) (ws' := [(mtold, .inl (cyI, 240, .inl f_69)), (mnames, .inl (cyJ, 16, .inr (.inl f_70))), (m0, .inr (11, [.int m_thrown, .ref mtape, .int m_taped, .int m_size, .ref msort, .ref mplace, .ref mvalue, .int (u_64.2.1 1), .int (u_64.2.1 2), .ref mwords, .ref mtold, .ref mop, .ref marg, .int m_codes, .ref mnames, .ref mhasHabit, .int m_isNew, .ref mfactWords, .ref mfacts, .ref mpile, .ref mstates, .ref misMarked, .int m_inShelf, .int m_inStack, .int m_inPlace, .ref mrow, .int m_rowMany, .ref mthr, .ref mmays, .ref mtall, .ref mweights, .ref mrowOfWare, .ref mneededOf, .int m_goShelf, .int m_goStack, .int m_goLeft, .ref mtried, .ref mbestRow, .int m_bestCost, .int m_bestMany, .int m_bestShelf, .int m_bestSet, .ref mdigits])), (msort, .inl (cyI, 1002, .inl m_sort)), (mplace, .inl (cyI, 1002, .inl m_place)), (mvalue, .inl (cyJ, 1002, .inr (.inl m_value))), (mwords, .inl (cyJ, 23, .inr (.inl m_words)))]) C 1 2 rfl rfl (i_nn (by omega)) rfl (i_lt_n (by omega) (by omega)) dX11_readWare_176 (by rw [ef_70]; rfl) ?_
          refine j_aload_n (pc := 177) C dX11_readWare_177 rfl 3 rfl ?_
          refine j_get (pc := 178) (ci := 11) (v := .ref mtold) C inw_11 2 rfl rfl 10 (by decide) wd_669 rfl rfl dX11_readWare_178 ?_
          refine j_bipush (pc := 181) (v := 120) C dX11_readWare_181 (by decide) ?_
          refine j_dup2 (pc := 183) C dX11_readWare_183 rfl rfl ?_
          obtain ⟨v_71, ev_71⟩ : ∃ z, f_69 120 = z := ⟨_, rfl⟩
          have qv_71 : v_71 = v_1 := by rw [← ev_71]; exact (by rw [ef_69, pk_un (show ¬ 120 = (v_67).toInt.toNat from (by omega))]; exact (by rw [ef_66, pk_un (show ¬ 120 = (v_63).toInt.toNat from (by omega))]; exact (by rw [ef_62, pk_un (show ¬ 120 = (v_58).toInt.toNat from (by omega))]; exact (by rw [ef_57, pk_un (show ¬ 120 = (v_54).toInt.toNat from (by omega))]; exact (by rw [ef_53, pk_un (show ¬ 120 = (v_12).toInt.toNat from (by omega))]; exact (by rw [ef_11, pk_un (show ¬ 120 = (v_8).toInt.toNat from (by omega))]; exact ev_1))))))
          have env_71 : v_71.toInt = (v_1).toInt := by rw [qv_71]
          refine j_iald (pc := 184) (v := v_71) (k := 120) C 0 1 rfl rfl (by decide) (by decide) (by decide) ev_71 dX11_readWare_184 ?_
          refine j_iconst (pc := 185) (v := 1) C dX11_readWare_185 (by decide) ?_
          obtain ⟨v_72, ev_72⟩ : ∃ z : Int32, v_71 + 1 = z := ⟨_, rfl⟩
          have el_1 : (1 : Int32).toInt = 1 := rfl
          have hv_72 : v_72.toInt = v_71.toInt + (1 : Int32).toInt := by rw [← ev_72]; exact fb_addI (by omega) (by omega)
          refine j_iadd (pc := 186) (v := v_72) C dX11_readWare_186 ev_72 ?_
          obtain ⟨f_73, ef_73⟩ : ∃ z, z = upd f_69 120 v_72 := ⟨_, rfl⟩
          have hf_73 : TV f_73 := by rw [ef_73]; exact TV.upd hf_69 (by omega) (show _ ≤ (12 : Int) from (by omega))
          refine j_iast (pc := 187) (k := 120) (ws' := [(mtold, .inl (cyI, 240, .inl f_73)), (mnames, .inl (cyJ, 16, .inr (.inl f_70))), (m0, .inr (11, [.int m_thrown, .ref mtape, .int m_taped, .int m_size, .ref msort, .ref mplace, .ref mvalue, .int (u_64.2.1 1), .int (u_64.2.1 2), .ref mwords, .ref mtold, .ref mop, .ref marg, .int m_codes, .ref mnames, .ref mhasHabit, .int m_isNew, .ref mfactWords, .ref mfacts, .ref mpile, .ref mstates, .ref misMarked, .int m_inShelf, .int m_inStack, .int m_inPlace, .ref mrow, .int m_rowMany, .ref mthr, .ref mmays, .ref mtall, .ref mweights, .ref mrowOfWare, .ref mneededOf, .int m_goShelf, .int m_goStack, .int m_goLeft, .ref mtried, .ref mbestRow, .int m_bestCost, .int m_bestMany, .int m_bestShelf, .int m_bestSet, .ref mdigits])), (msort, .inl (cyI, 1002, .inl m_sort)), (mplace, .inl (cyI, 1002, .inl m_place)), (mvalue, .inl (cyJ, 1002, .inr (.inl m_value))), (mwords, .inl (cyJ, 23, .inr (.inl m_words)))]) C 0 1 rfl rfl (by decide) (by decide) (by decide) dX11_readWare_187 (by rw [ef_73]; rfl) ?_
          exact j_vret (pc := 188) C hr hk (fun i => [].getD i 0, fun i => [(u_64.2.1 1), (u_64.2.1 2)].getD i 0, fun i => [f_73].getD i (fun _ => 0), fun i => [f_70].getD i (fun _ => 0)) rfl (show (0 ≤ ((u_64.2.1 1)).toInt ∧ ((u_64.2.1 1)).toInt ≤ 1000) ∧ (0 ≤ ((u_64.2.1 2)).toInt ∧ ((u_64.2.1 2)).toInt ≤ 16005) ∧ (TV f_73) ∧ ((m_at).toInt ≤ ((u_64.2.1 1)).toInt) ∧ (((u_64.2.1 1)).toInt ≤ ((eN m_sort : Nat) : Int)) ∧ ((m_fault).toInt = 0 ∨ ¬ ((u_64.2.1 2)).toInt = 0) ∧ (∀ j : Nat, (j < 120 ∨ j = 122 ∨ 231 ≤ j) → f_73 j = m_told j) from ⟨by omega, by omega, hf_73, by omega, by omega, by omega, (fun j hj => by rw [ef_73, pk_un (show ¬ j = 120 from (by omega)), ef_69, pk_un (show ¬ j = (v_67).toInt.toNat from (by omega)), ef_66, pk_un (show ¬ j = (v_63).toInt.toNat from (by omega)), ef_62, pk_un (show ¬ j = (v_58).toInt.toNat from (by omega)), ef_57, pk_un (show ¬ j = (v_54).toInt.toNat from (by omega)), ef_53, pk_un (show ¬ j = (v_12).toInt.toNat from (by omega)), ef_11, pk_un (show ¬ j = (v_8).toInt.toNat from (by omega))])⟩) [2, 3, 4, 5, 6, 0, 1] (by decide) rfl (by decide) (by decide) dX11_readWare_188
        · skip
          have el_0 : (0 : Int32).toInt = 0 := rfl
          rw [i_eq] at c_68
          refine j_iconst (pc := 164) (v := 1) C dX11_readWare_164 (by decide) ?_
          refine j_goto (pc := 165) (tgt := 169) C dX11_readWare_165 (by decide) ?_
          obtain ⟨f_74, ef_74⟩ : ∃ z, z = upd f_66 (v_67).toInt.toNat 1 := ⟨_, rfl⟩
          have el_1 : (1 : Int32).toInt = 1 := rfl
          have hf_74 : TV f_74 := by rw [ef_74]; exact TV.upd hf_66 (by omega) (Int.le_trans (show _ ≤ (999 : Int) from (by omega)) (hiT_k (by omega)))
          refine j_iast (pc := 169) (k := (v_67).toInt.toNat) (ws' := [(mtold, .inl (cyI, 240, .inl f_74)), (mnames, .inl (cyJ, 16, .inr (.inl m_names))), (m0, .inr (11, [.int m_thrown, .ref mtape, .int m_taped, .int m_size, .ref msort, .ref mplace, .ref mvalue, .int (u_64.2.1 1), .int (u_64.2.1 2), .ref mwords, .ref mtold, .ref mop, .ref marg, .int m_codes, .ref mnames, .ref mhasHabit, .int m_isNew, .ref mfactWords, .ref mfacts, .ref mpile, .ref mstates, .ref misMarked, .int m_inShelf, .int m_inStack, .int m_inPlace, .ref mrow, .int m_rowMany, .ref mthr, .ref mmays, .ref mtall, .ref mweights, .ref mrowOfWare, .ref mneededOf, .int m_goShelf, .int m_goStack, .int m_goLeft, .ref mtried, .ref mbestRow, .int m_bestCost, .int m_bestMany, .int m_bestShelf, .int m_bestSet, .ref mdigits])), (msort, .inl (cyI, 1002, .inl m_sort)), (mplace, .inl (cyI, 1002, .inl m_place)), (mvalue, .inl (cyJ, 1002, .inr (.inl m_value))), (mwords, .inl (cyJ, 23, .inr (.inl m_words)))]) C 0 1 rfl rfl (i_nn (by omega)) rfl (i_lt_n (by omega) (by omega)) dX11_readWare_169 (by rw [ef_74]; rfl) ?_
          refine j_aload_n (pc := 170) C dX11_readWare_170 rfl 3 rfl ?_
          refine j_get (pc := 171) (ci := 11) (v := .ref mnames) C inw_11 2 rfl rfl 14 (by decide) wd_670 rfl rfl dX11_readWare_171 ?_
          refine j_iload_n (pc := 174) C dX11_readWare_174 rfl 2 rfl ?_
          refine j_lload_n (pc := 175) C dX11_readWare_175 rfl 1 rfl ?_
          obtain ⟨f_75, ef_75⟩ : ∃ z, z = vp_updL m_names (v_1).toInt.toNat (u_4.2.2.2 0 0) := ⟨_, rfl⟩
          refine j_last (pc := 176) (k := (v_1).toInt.toNat) (ws' := [(mtold, .inl (cyI, 240, .inl f_74)), (mnames, .inl (cyJ, 16, .inr (.inl f_75))), (m0, .inr (11, [.int m_thrown, .ref mtape, .int m_taped, .int m_size, .ref msort, .ref mplace, .ref mvalue, .int (u_64.2.1 1), .int (u_64.2.1 2), .ref mwords, .ref mtold, .ref mop, .ref marg, .int m_codes, .ref mnames, .ref mhasHabit, .int m_isNew, .ref mfactWords, .ref mfacts, .ref mpile, .ref mstates, .ref misMarked, .int m_inShelf, .int m_inStack, .int m_inPlace, .ref mrow, .int m_rowMany, .ref mthr, .ref mmays, .ref mtall, .ref mweights, .ref mrowOfWare, .ref mneededOf, .int m_goShelf, .int m_goStack, .int m_goLeft, .ref mtried, .ref mbestRow, .int m_bestCost, .int m_bestMany, .int m_bestShelf, .int m_bestSet, .ref mdigits])), (msort, .inl (cyI, 1002, .inl m_sort)), (mplace, .inl (cyI, 1002, .inl m_place)), (mvalue, .inl (cyJ, 1002, .inr (.inl m_value))), (mwords, .inl (cyJ, 23, .inr (.inl m_words)))]) C 1 2 rfl rfl (i_nn (by omega)) rfl (i_lt_n (by omega) (by omega)) dX11_readWare_176 (by rw [ef_75]; rfl) ?_
          refine j_aload_n (pc := 177) C dX11_readWare_177 rfl 3 rfl ?_
          refine j_get (pc := 178) (ci := 11) (v := .ref mtold) C inw_11 2 rfl rfl 10 (by decide) wd_669 rfl rfl dX11_readWare_178 ?_
          refine j_bipush (pc := 181) (v := 120) C dX11_readWare_181 (by decide) ?_
          refine j_dup2 (pc := 183) C dX11_readWare_183 rfl rfl ?_
          obtain ⟨v_76, ev_76⟩ : ∃ z, f_74 120 = z := ⟨_, rfl⟩
          have qv_76 : v_76 = v_1 := by rw [← ev_76]; exact (by rw [ef_74, pk_un (show ¬ 120 = (v_67).toInt.toNat from (by omega))]; exact (by rw [ef_66, pk_un (show ¬ 120 = (v_63).toInt.toNat from (by omega))]; exact (by rw [ef_62, pk_un (show ¬ 120 = (v_58).toInt.toNat from (by omega))]; exact (by rw [ef_57, pk_un (show ¬ 120 = (v_54).toInt.toNat from (by omega))]; exact (by rw [ef_53, pk_un (show ¬ 120 = (v_12).toInt.toNat from (by omega))]; exact (by rw [ef_11, pk_un (show ¬ 120 = (v_8).toInt.toNat from (by omega))]; exact ev_1))))))
          have env_76 : v_76.toInt = (v_1).toInt := by rw [qv_76]
          refine j_iald (pc := 184) (v := v_76) (k := 120) C 0 1 rfl rfl (by decide) (by decide) (by decide) ev_76 dX11_readWare_184 ?_
          refine j_iconst (pc := 185) (v := 1) C dX11_readWare_185 (by decide) ?_
          obtain ⟨v_77, ev_77⟩ : ∃ z : Int32, v_76 + 1 = z := ⟨_, rfl⟩
          have el_1 : (1 : Int32).toInt = 1 := rfl
          have hv_77 : v_77.toInt = v_76.toInt + (1 : Int32).toInt := by rw [← ev_77]; exact fb_addI (by omega) (by omega)
          refine j_iadd (pc := 186) (v := v_77) C dX11_readWare_186 ev_77 ?_
          obtain ⟨f_78, ef_78⟩ : ∃ z, z = upd f_74 120 v_77 := ⟨_, rfl⟩
          have hf_78 : TV f_78 := by rw [ef_78]; exact TV.upd hf_74 (by omega) (show _ ≤ (12 : Int) from (by omega))
          refine j_iast (pc := 187) (k := 120) (ws' := [(mtold, .inl (cyI, 240, .inl f_78)), (mnames, .inl (cyJ, 16, .inr (.inl f_75))), (m0, .inr (11, [.int m_thrown, .ref mtape, .int m_taped, .int m_size, .ref msort, .ref mplace, .ref mvalue, .int (u_64.2.1 1), .int (u_64.2.1 2), .ref mwords, .ref mtold, .ref mop, .ref marg, .int m_codes, .ref mnames, .ref mhasHabit, .int m_isNew, .ref mfactWords, .ref mfacts, .ref mpile, .ref mstates, .ref misMarked, .int m_inShelf, .int m_inStack, .int m_inPlace, .ref mrow, .int m_rowMany, .ref mthr, .ref mmays, .ref mtall, .ref mweights, .ref mrowOfWare, .ref mneededOf, .int m_goShelf, .int m_goStack, .int m_goLeft, .ref mtried, .ref mbestRow, .int m_bestCost, .int m_bestMany, .int m_bestShelf, .int m_bestSet, .ref mdigits])), (msort, .inl (cyI, 1002, .inl m_sort)), (mplace, .inl (cyI, 1002, .inl m_place)), (mvalue, .inl (cyJ, 1002, .inr (.inl m_value))), (mwords, .inl (cyJ, 23, .inr (.inl m_words)))]) C 0 1 rfl rfl (by decide) (by decide) (by decide) dX11_readWare_187 (by rw [ef_78]; rfl) ?_
          exact j_vret (pc := 188) C hr hk (fun i => [].getD i 0, fun i => [(u_64.2.1 1), (u_64.2.1 2)].getD i 0, fun i => [f_78].getD i (fun _ => 0), fun i => [f_75].getD i (fun _ => 0)) rfl (show (0 ≤ ((u_64.2.1 1)).toInt ∧ ((u_64.2.1 1)).toInt ≤ 1000) ∧ (0 ≤ ((u_64.2.1 2)).toInt ∧ ((u_64.2.1 2)).toInt ≤ 16005) ∧ (TV f_78) ∧ ((m_at).toInt ≤ ((u_64.2.1 1)).toInt) ∧ (((u_64.2.1 1)).toInt ≤ ((eN m_sort : Nat) : Int)) ∧ ((m_fault).toInt = 0 ∨ ¬ ((u_64.2.1 2)).toInt = 0) ∧ (∀ j : Nat, (j < 120 ∨ j = 122 ∨ 231 ≤ j) → f_78 j = m_told j) from ⟨by omega, by omega, hf_78, by omega, by omega, by omega, (fun j hj => by rw [ef_78, pk_un (show ¬ j = 120 from (by omega)), ef_74, pk_un (show ¬ j = (v_67).toInt.toNat from (by omega)), ef_66, pk_un (show ¬ j = (v_63).toInt.toNat from (by omega)), ef_62, pk_un (show ¬ j = (v_58).toInt.toNat from (by omega)), ef_57, pk_un (show ¬ j = (v_54).toInt.toNat from (by omega)), ef_53, pk_un (show ¬ j = (v_12).toInt.toNat from (by omega)), ef_11, pk_un (show ¬ j = (v_8).toInt.toNat from (by omega))])⟩) [2, 3, 4, 5, 6, 0, 1] (by decide) rfl (by decide) (by decide) dX11_readWare_188
      · skip
        have el_0 : (0 : Int32).toInt = 0 := rfl
        rw [i_eq] at c_59
        refine j_iconst (pc := 118) (v := 0) C dX11_readWare_118 (by decide) ?_
        refine j_goto (pc := 119) (tgt := 132) C dX11_readWare_119 (by decide) ?_
        obtain ⟨f_79, ef_79⟩ : ∃ z, z = upd f_57 (v_58).toInt.toNat 0 := ⟨_, rfl⟩
        have el_0 : (0 : Int32).toInt = 0 := rfl
        have hf_79 : TV f_79 := by rw [ef_79]; exact TV.upd hf_57 (by omega) (Int.le_trans (show _ ≤ (999 : Int) from (by omega)) (hiT_k (by omega)))
        refine j_iast (pc := 132) (k := (v_58).toInt.toNat) (ws' := [(mtold, .inl (cyI, 240, .inl f_79)), (mnames, .inl (cyJ, 16, .inr (.inl m_names))), (m0, .inr (11, [.int m_thrown, .ref mtape, .int m_taped, .int m_size, .ref msort, .ref mplace, .ref mvalue, .int (u_55.2.1 1), .int (u_55.2.1 2), .ref mwords, .ref mtold, .ref mop, .ref marg, .int m_codes, .ref mnames, .ref mhasHabit, .int m_isNew, .ref mfactWords, .ref mfacts, .ref mpile, .ref mstates, .ref misMarked, .int m_inShelf, .int m_inStack, .int m_inPlace, .ref mrow, .int m_rowMany, .ref mthr, .ref mmays, .ref mtall, .ref mweights, .ref mrowOfWare, .ref mneededOf, .int m_goShelf, .int m_goStack, .int m_goLeft, .ref mtried, .ref mbestRow, .int m_bestCost, .int m_bestMany, .int m_bestShelf, .int m_bestSet, .ref mdigits])), (msort, .inl (cyI, 1002, .inl m_sort)), (mplace, .inl (cyI, 1002, .inl m_place)), (mvalue, .inl (cyJ, 1002, .inr (.inl m_value))), (mwords, .inl (cyJ, 23, .inr (.inl m_words)))]) C 0 1 rfl rfl (i_nn (by omega)) rfl (i_lt_n (by omega) (by omega)) dX11_readWare_132 (by rw [ef_79]; rfl) ?_
        refine j_aload_n (pc := 133) C dX11_readWare_133 rfl 3 rfl ?_
        refine j_get (pc := 134) (ci := 11) (v := .ref mtold) C inw_11 2 rfl rfl 10 (by decide) wd_669 rfl rfl dX11_readWare_134 ?_
        refine j_iload (pc := 137) C dX11_readWare_137 0 rfl ?_
        refine j_iconst (pc := 139) (v := 4) C dX11_readWare_139 (by decide) ?_
        obtain ⟨v_80, ev_80⟩ : ∃ z : Int32, v_7 + 4 = z := ⟨_, rfl⟩
        have el_4 : (4 : Int32).toInt = 4 := rfl
        have hv_80 : v_80.toInt = v_7.toInt + (4 : Int32).toInt := by rw [← ev_80]; exact fb_addI (by omega) (by omega)
        refine j_iadd (pc := 140) (v := v_80) C dX11_readWare_140 ev_80 ?_
        refine j_aload_n (pc := 141) C dX11_readWare_141 rfl 3 rfl ?_
        refine j_bipush (pc := 142) (v := 10) C dX11_readWare_142 (by decide) ?_
        refine j_iconst (pc := 144) (v := 0) C dX11_readWare_144 (by decide) ?_
        refine j_bipush (pc := 145) (v := 99) C dX11_readWare_145 (by decide) ?_
        refine j_callV (pc := 147) (As := [.int 10, .int 0, .int 99]) (rest := [.int v_80, .ref mtold]) (wr := [(mtold, .inl (cyI, 240, .inl f_79)), (mnames, .inl (cyJ, 16, .inr (.inl m_names)))]) C (c_X11_takeAfter l D cyC cyI cyJ cyZ cyO m0 msort mplace mvalue mwords mtape mtold mop marg mnames mhasHabit mfactWords mfacts mpile mstates misMarked mrow mthr mmays mtall mweights mrowOfWare mneededOf mtried mbestRow mdigits 10 0 99 m_thrown m_taped m_size (u_55.2.1 1) (u_55.2.1 2) m_codes m_isNew m_inShelf m_inStack m_inPlace m_rowMany m_goShelf m_goStack m_goLeft m_bestCost m_bestMany m_bestShelf m_bestSet m_sort m_place m_value m_words (by omega) (by omega) (by omega) (by omega) (by omega) (by omega) (by omega) (by omega) (by omega) (by omega) (by omega) (by omega) (by omega) (by decide) h_m_place (by omega) (by omega)) wd_691 wd_624 wd_692 wd_693 wd_694 ⟨by decide, by decide, rfl⟩ rfl ⟨rfl, rfl, by decide, by decide⟩ ⟨by decide, by decide⟩ [2, 3, 4, 5, 6] [0, 1] rfl rfl ⟨by decide, by decide, by decide⟩ 2 rfl rfl rfl (Nat.le_of_ble_eq_true rfl) dX11_readWare_147 (fun u_81 hw_82 => ?_)
        refine j_eq (ws2 := [(mtold, .inl (cyI, 240, .inl f_79)), (mnames, .inl (cyJ, 16, .inr (.inl m_names))), (m0, .inr (11, [.int m_thrown, .ref mtape, .int m_taped, .int m_size, .ref msort, .ref mplace, .ref mvalue, .int (u_81.2.1 1), .int (u_81.2.1 2), .ref mwords, .ref mtold, .ref mop, .ref marg, .int m_codes, .ref mnames, .ref mhasHabit, .int m_isNew, .ref mfactWords, .ref mfacts, .ref mpile, .ref mstates, .ref misMarked, .int m_inShelf, .int m_inStack, .int m_inPlace, .ref mrow, .int m_rowMany, .ref mthr, .ref mmays, .ref mtall, .ref mweights, .ref mrowOfWare, .ref mneededOf, .int m_goShelf, .int m_goStack, .int m_goLeft, .ref mtried, .ref mbestRow, .int m_bestCost, .int m_bestMany, .int m_bestShelf, .int m_bestSet, .ref mdigits])), (msort, .inl (cyI, 1002, .inl m_sort)), (mplace, .inl (cyI, 1002, .inl m_place)), (mvalue, .inl (cyJ, 1002, .inr (.inl m_value))), (mwords, .inl (cyJ, 23, .inr (.inl m_words)))]) (pc2 := 150) (lv2 := [(5, .int v_7), (3, .long (u_4.2.2.2 0 0)), (2, .int v_1), (0, .ref m0), (1, .int p0)]) (st2 := [.int (u_81.2.1 0), .int v_80, .ref mtold]) rfl rfl rfl rfl ?_
        obtain ⟨hw_82_0, hw_82_1, hw_82_2, hw_82_3, hw_82_4, hw_82_5⟩ := hw_82
        have el_10 : (10 : Int32).toInt = 10 := rfl
        have el_0 : (0 : Int32).toInt = 0 := rfl
        have el_99 : (99 : Int32).toInt = 99 := rfl
        obtain ⟨f_83, ef_83⟩ : ∃ z, z = upd f_79 (v_80).toInt.toNat (u_81.2.1 0) := ⟨_, rfl⟩
        have hf_83 : TV f_83 := by rw [ef_83]; exact TV.upd hf_79 (by omega) (Int.le_trans (show _ ≤ (999 : Int) from (by omega)) (hiT_k (by omega)))
        refine j_iast (pc := 150) (k := (v_80).toInt.toNat) (ws' := [(mtold, .inl (cyI, 240, .inl f_83)), (mnames, .inl (cyJ, 16, .inr (.inl m_names))), (m0, .inr (11, [.int m_thrown, .ref mtape, .int m_taped, .int m_size, .ref msort, .ref mplace, .ref mvalue, .int (u_81.2.1 1), .int (u_81.2.1 2), .ref mwords, .ref mtold, .ref mop, .ref marg, .int m_codes, .ref mnames, .ref mhasHabit, .int m_isNew, .ref mfactWords, .ref mfacts, .ref mpile, .ref mstates, .ref misMarked, .int m_inShelf, .int m_inStack, .int m_inPlace, .ref mrow, .int m_rowMany, .ref mthr, .ref mmays, .ref mtall, .ref mweights, .ref mrowOfWare, .ref mneededOf, .int m_goShelf, .int m_goStack, .int m_goLeft, .ref mtried, .ref mbestRow, .int m_bestCost, .int m_bestMany, .int m_bestShelf, .int m_bestSet, .ref mdigits])), (msort, .inl (cyI, 1002, .inl m_sort)), (mplace, .inl (cyI, 1002, .inl m_place)), (mvalue, .inl (cyJ, 1002, .inr (.inl m_value))), (mwords, .inl (cyJ, 23, .inr (.inl m_words)))]) C 0 1 rfl rfl (i_nn (by omega)) rfl (i_lt_n (by omega) (by omega)) dX11_readWare_150 (by rw [ef_83]; rfl) ?_
        refine j_aload_n (pc := 151) C dX11_readWare_151 rfl 3 rfl ?_
        refine j_get (pc := 152) (ci := 11) (v := .ref mtold) C inw_11 2 rfl rfl 10 (by decide) wd_669 rfl rfl dX11_readWare_152 ?_
        refine j_iload (pc := 155) C dX11_readWare_155 0 rfl ?_
        refine j_bipush (pc := 157) (v := 6) C dX11_readWare_157 (by decide) ?_
        obtain ⟨v_84, ev_84⟩ : ∃ z : Int32, v_7 + 6 = z := ⟨_, rfl⟩
        have el_6 : (6 : Int32).toInt = 6 := rfl
        have hv_84 : v_84.toInt = v_7.toInt + (6 : Int32).toInt := by rw [← ev_84]; exact fb_addI (by omega) (by omega)
        refine j_iadd (pc := 159) (v := v_84) C dX11_readWare_159 ev_84 ?_
        refine j_iload_n (pc := 160) C dX11_readWare_160 rfl 4 rfl ?_
        refine j_if_eq (pc := 161) (tgt := 168) C dX11_readWare_161 (by decide) (fun c_85 => ?_) (fun c_85 => ?_)
        · skip
          have el_0 : (0 : Int32).toInt = 0 := rfl
          rw [i_eq] at c_85
          refine j_iconst (pc := 168) (v := 0) C dX11_readWare_168 (by decide) ?_
          obtain ⟨f_86, ef_86⟩ : ∃ z, z = upd f_83 (v_84).toInt.toNat 0 := ⟨_, rfl⟩
          have el_0 : (0 : Int32).toInt = 0 := rfl
          have hf_86 : TV f_86 := by rw [ef_86]; exact TV.upd hf_83 (by omega) (Int.le_trans (show _ ≤ (999 : Int) from (by omega)) (hiT_k (by omega)))
          refine j_iast (pc := 169) (k := (v_84).toInt.toNat) (ws' := [(mtold, .inl (cyI, 240, .inl f_86)), (mnames, .inl (cyJ, 16, .inr (.inl m_names))), (m0, .inr (11, [.int m_thrown, .ref mtape, .int m_taped, .int m_size, .ref msort, .ref mplace, .ref mvalue, .int (u_81.2.1 1), .int (u_81.2.1 2), .ref mwords, .ref mtold, .ref mop, .ref marg, .int m_codes, .ref mnames, .ref mhasHabit, .int m_isNew, .ref mfactWords, .ref mfacts, .ref mpile, .ref mstates, .ref misMarked, .int m_inShelf, .int m_inStack, .int m_inPlace, .ref mrow, .int m_rowMany, .ref mthr, .ref mmays, .ref mtall, .ref mweights, .ref mrowOfWare, .ref mneededOf, .int m_goShelf, .int m_goStack, .int m_goLeft, .ref mtried, .ref mbestRow, .int m_bestCost, .int m_bestMany, .int m_bestShelf, .int m_bestSet, .ref mdigits])), (msort, .inl (cyI, 1002, .inl m_sort)), (mplace, .inl (cyI, 1002, .inl m_place)), (mvalue, .inl (cyJ, 1002, .inr (.inl m_value))), (mwords, .inl (cyJ, 23, .inr (.inl m_words)))]) C 0 1 rfl rfl (i_nn (by omega)) rfl (i_lt_n (by omega) (by omega)) dX11_readWare_169 (by rw [ef_86]; rfl) ?_
          refine j_aload_n (pc := 170) C dX11_readWare_170 rfl 3 rfl ?_
          refine j_get (pc := 171) (ci := 11) (v := .ref mnames) C inw_11 2 rfl rfl 14 (by decide) wd_670 rfl rfl dX11_readWare_171 ?_
          refine j_iload_n (pc := 174) C dX11_readWare_174 rfl 2 rfl ?_
          refine j_lload_n (pc := 175) C dX11_readWare_175 rfl 1 rfl ?_
          obtain ⟨f_87, ef_87⟩ : ∃ z, z = vp_updL m_names (v_1).toInt.toNat (u_4.2.2.2 0 0) := ⟨_, rfl⟩
          refine j_last (pc := 176) (k := (v_1).toInt.toNat) (ws' := [(mtold, .inl (cyI, 240, .inl f_86)), (mnames, .inl (cyJ, 16, .inr (.inl f_87))), (m0, .inr (11, [.int m_thrown, .ref mtape, .int m_taped, .int m_size, .ref msort, .ref mplace, .ref mvalue, .int (u_81.2.1 1), .int (u_81.2.1 2), .ref mwords, .ref mtold, .ref mop, .ref marg, .int m_codes, .ref mnames, .ref mhasHabit, .int m_isNew, .ref mfactWords, .ref mfacts, .ref mpile, .ref mstates, .ref misMarked, .int m_inShelf, .int m_inStack, .int m_inPlace, .ref mrow, .int m_rowMany, .ref mthr, .ref mmays, .ref mtall, .ref mweights, .ref mrowOfWare, .ref mneededOf, .int m_goShelf, .int m_goStack, .int m_goLeft, .ref mtried, .ref mbestRow, .int m_bestCost, .int m_bestMany, .int m_bestShelf, .int m_bestSet, .ref mdigits])), (msort, .inl (cyI, 1002, .inl m_sort)), (mplace, .inl (cyI, 1002, .inl m_place)), (mvalue, .inl (cyJ, 1002, .inr (.inl m_value))), (mwords, .inl (cyJ, 23, .inr (.inl m_words)))]) C 1 2 rfl rfl (i_nn (by omega)) rfl (i_lt_n (by omega) (by omega)) dX11_readWare_176 (by rw [ef_87]; rfl) ?_
          refine j_aload_n (pc := 177) C dX11_readWare_177 rfl 3 rfl ?_
          refine j_get (pc := 178) (ci := 11) (v := .ref mtold) C inw_11 2 rfl rfl 10 (by decide) wd_669 rfl rfl dX11_readWare_178 ?_
          refine j_bipush (pc := 181) (v := 120) C dX11_readWare_181 (by decide) ?_
          refine j_dup2 (pc := 183) C dX11_readWare_183 rfl rfl ?_
          obtain ⟨v_88, ev_88⟩ : ∃ z, f_86 120 = z := ⟨_, rfl⟩
          have qv_88 : v_88 = v_1 := by rw [← ev_88]; exact (by rw [ef_86, pk_un (show ¬ 120 = (v_84).toInt.toNat from (by omega))]; exact (by rw [ef_83, pk_un (show ¬ 120 = (v_80).toInt.toNat from (by omega))]; exact (by rw [ef_79, pk_un (show ¬ 120 = (v_58).toInt.toNat from (by omega))]; exact (by rw [ef_57, pk_un (show ¬ 120 = (v_54).toInt.toNat from (by omega))]; exact (by rw [ef_53, pk_un (show ¬ 120 = (v_12).toInt.toNat from (by omega))]; exact (by rw [ef_11, pk_un (show ¬ 120 = (v_8).toInt.toNat from (by omega))]; exact ev_1))))))
          have env_88 : v_88.toInt = (v_1).toInt := by rw [qv_88]
          refine j_iald (pc := 184) (v := v_88) (k := 120) C 0 1 rfl rfl (by decide) (by decide) (by decide) ev_88 dX11_readWare_184 ?_
          refine j_iconst (pc := 185) (v := 1) C dX11_readWare_185 (by decide) ?_
          obtain ⟨v_89, ev_89⟩ : ∃ z : Int32, v_88 + 1 = z := ⟨_, rfl⟩
          have el_1 : (1 : Int32).toInt = 1 := rfl
          have hv_89 : v_89.toInt = v_88.toInt + (1 : Int32).toInt := by rw [← ev_89]; exact fb_addI (by omega) (by omega)
          refine j_iadd (pc := 186) (v := v_89) C dX11_readWare_186 ev_89 ?_
          obtain ⟨f_90, ef_90⟩ : ∃ z, z = upd f_86 120 v_89 := ⟨_, rfl⟩
          have hf_90 : TV f_90 := by rw [ef_90]; exact TV.upd hf_86 (by omega) (show _ ≤ (12 : Int) from (by omega))
          refine j_iast (pc := 187) (k := 120) (ws' := [(mtold, .inl (cyI, 240, .inl f_90)), (mnames, .inl (cyJ, 16, .inr (.inl f_87))), (m0, .inr (11, [.int m_thrown, .ref mtape, .int m_taped, .int m_size, .ref msort, .ref mplace, .ref mvalue, .int (u_81.2.1 1), .int (u_81.2.1 2), .ref mwords, .ref mtold, .ref mop, .ref marg, .int m_codes, .ref mnames, .ref mhasHabit, .int m_isNew, .ref mfactWords, .ref mfacts, .ref mpile, .ref mstates, .ref misMarked, .int m_inShelf, .int m_inStack, .int m_inPlace, .ref mrow, .int m_rowMany, .ref mthr, .ref mmays, .ref mtall, .ref mweights, .ref mrowOfWare, .ref mneededOf, .int m_goShelf, .int m_goStack, .int m_goLeft, .ref mtried, .ref mbestRow, .int m_bestCost, .int m_bestMany, .int m_bestShelf, .int m_bestSet, .ref mdigits])), (msort, .inl (cyI, 1002, .inl m_sort)), (mplace, .inl (cyI, 1002, .inl m_place)), (mvalue, .inl (cyJ, 1002, .inr (.inl m_value))), (mwords, .inl (cyJ, 23, .inr (.inl m_words)))]) C 0 1 rfl rfl (by decide) (by decide) (by decide) dX11_readWare_187 (by rw [ef_90]; rfl) ?_
          exact j_vret (pc := 188) C hr hk (fun i => [].getD i 0, fun i => [(u_81.2.1 1), (u_81.2.1 2)].getD i 0, fun i => [f_90].getD i (fun _ => 0), fun i => [f_87].getD i (fun _ => 0)) rfl (show (0 ≤ ((u_81.2.1 1)).toInt ∧ ((u_81.2.1 1)).toInt ≤ 1000) ∧ (0 ≤ ((u_81.2.1 2)).toInt ∧ ((u_81.2.1 2)).toInt ≤ 16005) ∧ (TV f_90) ∧ ((m_at).toInt ≤ ((u_81.2.1 1)).toInt) ∧ (((u_81.2.1 1)).toInt ≤ ((eN m_sort : Nat) : Int)) ∧ ((m_fault).toInt = 0 ∨ ¬ ((u_81.2.1 2)).toInt = 0) ∧ (∀ j : Nat, (j < 120 ∨ j = 122 ∨ 231 ≤ j) → f_90 j = m_told j) from ⟨by omega, by omega, hf_90, by omega, by omega, by omega, (fun j hj => by rw [ef_90, pk_un (show ¬ j = 120 from (by omega)), ef_86, pk_un (show ¬ j = (v_84).toInt.toNat from (by omega)), ef_83, pk_un (show ¬ j = (v_80).toInt.toNat from (by omega)), ef_79, pk_un (show ¬ j = (v_58).toInt.toNat from (by omega)), ef_57, pk_un (show ¬ j = (v_54).toInt.toNat from (by omega)), ef_53, pk_un (show ¬ j = (v_12).toInt.toNat from (by omega)), ef_11, pk_un (show ¬ j = (v_8).toInt.toNat from (by omega))])⟩) [2, 3, 4, 5, 6, 0, 1] (by decide) rfl (by decide) (by decide) dX11_readWare_188
        · skip
          have el_0 : (0 : Int32).toInt = 0 := rfl
          rw [i_eq] at c_85
          refine j_iconst (pc := 164) (v := 1) C dX11_readWare_164 (by decide) ?_
          refine j_goto (pc := 165) (tgt := 169) C dX11_readWare_165 (by decide) ?_
          obtain ⟨f_91, ef_91⟩ : ∃ z, z = upd f_83 (v_84).toInt.toNat 1 := ⟨_, rfl⟩
          have el_1 : (1 : Int32).toInt = 1 := rfl
          have hf_91 : TV f_91 := by rw [ef_91]; exact TV.upd hf_83 (by omega) (Int.le_trans (show _ ≤ (999 : Int) from (by omega)) (hiT_k (by omega)))
          refine j_iast (pc := 169) (k := (v_84).toInt.toNat) (ws' := [(mtold, .inl (cyI, 240, .inl f_91)), (mnames, .inl (cyJ, 16, .inr (.inl m_names))), (m0, .inr (11, [.int m_thrown, .ref mtape, .int m_taped, .int m_size, .ref msort, .ref mplace, .ref mvalue, .int (u_81.2.1 1), .int (u_81.2.1 2), .ref mwords, .ref mtold, .ref mop, .ref marg, .int m_codes, .ref mnames, .ref mhasHabit, .int m_isNew, .ref mfactWords, .ref mfacts, .ref mpile, .ref mstates, .ref misMarked, .int m_inShelf, .int m_inStack, .int m_inPlace, .ref mrow, .int m_rowMany, .ref mthr, .ref mmays, .ref mtall, .ref mweights, .ref mrowOfWare, .ref mneededOf, .int m_goShelf, .int m_goStack, .int m_goLeft, .ref mtried, .ref mbestRow, .int m_bestCost, .int m_bestMany, .int m_bestShelf, .int m_bestSet, .ref mdigits])), (msort, .inl (cyI, 1002, .inl m_sort)), (mplace, .inl (cyI, 1002, .inl m_place)), (mvalue, .inl (cyJ, 1002, .inr (.inl m_value))), (mwords, .inl (cyJ, 23, .inr (.inl m_words)))]) C 0 1 rfl rfl (i_nn (by omega)) rfl (i_lt_n (by omega) (by omega)) dX11_readWare_169 (by rw [ef_91]; rfl) ?_
          refine j_aload_n (pc := 170) C dX11_readWare_170 rfl 3 rfl ?_
          refine j_get (pc := 171) (ci := 11) (v := .ref mnames) C inw_11 2 rfl rfl 14 (by decide) wd_670 rfl rfl dX11_readWare_171 ?_
          refine j_iload_n (pc := 174) C dX11_readWare_174 rfl 2 rfl ?_
          refine j_lload_n (pc := 175) C dX11_readWare_175 rfl 1 rfl ?_
          obtain ⟨f_92, ef_92⟩ : ∃ z, z = vp_updL m_names (v_1).toInt.toNat (u_4.2.2.2 0 0) := ⟨_, rfl⟩
          refine j_last (pc := 176) (k := (v_1).toInt.toNat) (ws' := [(mtold, .inl (cyI, 240, .inl f_91)), (mnames, .inl (cyJ, 16, .inr (.inl f_92))), (m0, .inr (11, [.int m_thrown, .ref mtape, .int m_taped, .int m_size, .ref msort, .ref mplace, .ref mvalue, .int (u_81.2.1 1), .int (u_81.2.1 2), .ref mwords, .ref mtold, .ref mop, .ref marg, .int m_codes, .ref mnames, .ref mhasHabit, .int m_isNew, .ref mfactWords, .ref mfacts, .ref mpile, .ref mstates, .ref misMarked, .int m_inShelf, .int m_inStack, .int m_inPlace, .ref mrow, .int m_rowMany, .ref mthr, .ref mmays, .ref mtall, .ref mweights, .ref mrowOfWare, .ref mneededOf, .int m_goShelf, .int m_goStack, .int m_goLeft, .ref mtried, .ref mbestRow, .int m_bestCost, .int m_bestMany, .int m_bestShelf, .int m_bestSet, .ref mdigits])), (msort, .inl (cyI, 1002, .inl m_sort)), (mplace, .inl (cyI, 1002, .inl m_place)), (mvalue, .inl (cyJ, 1002, .inr (.inl m_value))), (mwords, .inl (cyJ, 23, .inr (.inl m_words)))]) C 1 2 rfl rfl (i_nn (by omega)) rfl (i_lt_n (by omega) (by omega)) dX11_readWare_176 (by rw [ef_92]; rfl) ?_
          refine j_aload_n (pc := 177) C dX11_readWare_177 rfl 3 rfl ?_
          refine j_get (pc := 178) (ci := 11) (v := .ref mtold) C inw_11 2 rfl rfl 10 (by decide) wd_669 rfl rfl dX11_readWare_178 ?_
          refine j_bipush (pc := 181) (v := 120) C dX11_readWare_181 (by decide) ?_
          refine j_dup2 (pc := 183) C dX11_readWare_183 rfl rfl ?_
          obtain ⟨v_93, ev_93⟩ : ∃ z, f_91 120 = z := ⟨_, rfl⟩
          have qv_93 : v_93 = v_1 := by rw [← ev_93]; exact (by rw [ef_91, pk_un (show ¬ 120 = (v_84).toInt.toNat from (by omega))]; exact (by rw [ef_83, pk_un (show ¬ 120 = (v_80).toInt.toNat from (by omega))]; exact (by rw [ef_79, pk_un (show ¬ 120 = (v_58).toInt.toNat from (by omega))]; exact (by rw [ef_57, pk_un (show ¬ 120 = (v_54).toInt.toNat from (by omega))]; exact (by rw [ef_53, pk_un (show ¬ 120 = (v_12).toInt.toNat from (by omega))]; exact (by rw [ef_11, pk_un (show ¬ 120 = (v_8).toInt.toNat from (by omega))]; exact ev_1))))))
          have env_93 : v_93.toInt = (v_1).toInt := by rw [qv_93]
          refine j_iald (pc := 184) (v := v_93) (k := 120) C 0 1 rfl rfl (by decide) (by decide) (by decide) ev_93 dX11_readWare_184 ?_
          refine j_iconst (pc := 185) (v := 1) C dX11_readWare_185 (by decide) ?_
          obtain ⟨v_94, ev_94⟩ : ∃ z : Int32, v_93 + 1 = z := ⟨_, rfl⟩
          have el_1 : (1 : Int32).toInt = 1 := rfl
          have hv_94 : v_94.toInt = v_93.toInt + (1 : Int32).toInt := by rw [← ev_94]; exact fb_addI (by omega) (by omega)
          refine j_iadd (pc := 186) (v := v_94) C dX11_readWare_186 ev_94 ?_
          obtain ⟨f_95, ef_95⟩ : ∃ z, z = upd f_91 120 v_94 := ⟨_, rfl⟩
          have hf_95 : TV f_95 := by rw [ef_95]; exact TV.upd hf_91 (by omega) (show _ ≤ (12 : Int) from (by omega))
          refine j_iast (pc := 187) (k := 120) (ws' := [(mtold, .inl (cyI, 240, .inl f_95)), (mnames, .inl (cyJ, 16, .inr (.inl f_92))), (m0, .inr (11, [.int m_thrown, .ref mtape, .int m_taped, .int m_size, .ref msort, .ref mplace, .ref mvalue, .int (u_81.2.1 1), .int (u_81.2.1 2), .ref mwords, .ref mtold, .ref mop, .ref marg, .int m_codes, .ref mnames, .ref mhasHabit, .int m_isNew, .ref mfactWords, .ref mfacts, .ref mpile, .ref mstates, .ref misMarked, .int m_inShelf, .int m_inStack, .int m_inPlace, .ref mrow, .int m_rowMany, .ref mthr, .ref mmays, .ref mtall, .ref mweights, .ref mrowOfWare, .ref mneededOf, .int m_goShelf, .int m_goStack, .int m_goLeft, .ref mtried, .ref mbestRow, .int m_bestCost, .int m_bestMany, .int m_bestShelf, .int m_bestSet, .ref mdigits])), (msort, .inl (cyI, 1002, .inl m_sort)), (mplace, .inl (cyI, 1002, .inl m_place)), (mvalue, .inl (cyJ, 1002, .inr (.inl m_value))), (mwords, .inl (cyJ, 23, .inr (.inl m_words)))]) C 0 1 rfl rfl (by decide) (by decide) (by decide) dX11_readWare_187 (by rw [ef_95]; rfl) ?_
          exact j_vret (pc := 188) C hr hk (fun i => [].getD i 0, fun i => [(u_81.2.1 1), (u_81.2.1 2)].getD i 0, fun i => [f_95].getD i (fun _ => 0), fun i => [f_92].getD i (fun _ => 0)) rfl (show (0 ≤ ((u_81.2.1 1)).toInt ∧ ((u_81.2.1 1)).toInt ≤ 1000) ∧ (0 ≤ ((u_81.2.1 2)).toInt ∧ ((u_81.2.1 2)).toInt ≤ 16005) ∧ (TV f_95) ∧ ((m_at).toInt ≤ ((u_81.2.1 1)).toInt) ∧ (((u_81.2.1 1)).toInt ≤ ((eN m_sort : Nat) : Int)) ∧ ((m_fault).toInt = 0 ∨ ¬ ((u_81.2.1 2)).toInt = 0) ∧ (∀ j : Nat, (j < 120 ∨ j = 122 ∨ 231 ≤ j) → f_95 j = m_told j) from ⟨by omega, by omega, hf_95, by omega, by omega, by omega, (fun j hj => by rw [ef_95, pk_un (show ¬ j = 120 from (by omega)), ef_91, pk_un (show ¬ j = (v_84).toInt.toNat from (by omega)), ef_83, pk_un (show ¬ j = (v_80).toInt.toNat from (by omega)), ef_79, pk_un (show ¬ j = (v_58).toInt.toNat from (by omega)), ef_57, pk_un (show ¬ j = (v_54).toInt.toNat from (by omega)), ef_53, pk_un (show ¬ j = (v_12).toInt.toNat from (by omega)), ef_11, pk_un (show ¬ j = (v_8).toInt.toNat from (by omega))])⟩) [2, 3, 4, 5, 6, 0, 1] (by decide) rfl (by decide) (by decide) dX11_readWare_188
  · skip
    have el_12 : (12 : Int32).toInt = 12 := rfl
    rw [i_eq] at c_2
    refine j_aload_n (pc := 14) C dX11_readWare_14 rfl 1 rfl ?_
    refine j_iconst (pc := 15) (v := 5) C dX11_readWare_15 (by decide) ?_
    refine j_callV (pc := 16) (As := [.int 5]) (rest := []) (wr := [(msort, .inl (cyI, 1002, .inl m_sort)), (mvalue, .inl (cyJ, 1002, .inr (.inl m_value))), (mwords, .inl (cyJ, 23, .inr (.inl m_words))), (mtold, .inl (cyI, 240, .inl m_told)), (mnames, .inl (cyJ, 16, .inr (.inl m_names)))]) C (c_X11_wrong l D cyC cyI cyJ cyZ cyO m0 mplace mtape msort mvalue mwords mtold mop marg mnames mhasHabit mfactWords mfacts mpile mstates misMarked mrow mthr mmays mtall mweights mrowOfWare mneededOf mtried mbestRow mdigits 5 m_thrown m_taped m_size m_at m_fault m_codes m_isNew m_inShelf m_inStack m_inPlace m_rowMany m_goShelf m_goStack m_goLeft m_bestCost m_bestMany m_bestShelf m_bestSet m_place (by omega) (by omega) (by omega) (by omega) (by omega) (by omega) (by omega) (by omega) (by omega) (by omega) (by omega) (by omega) (by omega) (by decide) h_m_place) wd_657 wd_624 wd_658 wd_659 wd_660 ⟨by decide, by decide, rfl⟩ rfl ⟨rfl, rfl, by decide, by decide⟩ ⟨by decide, by decide⟩ [0, 2] [1, 3, 4, 5, 6] rfl rfl ⟨by decide, by decide, by decide⟩ 0 rfl rfl rfl (Nat.le_of_ble_eq_true rfl) dX11_readWare_16 (fun u_96 hw_97 => ?_)
    refine j_eq (ws2 := [(msort, .inl (cyI, 1002, .inl m_sort)), (mvalue, .inl (cyJ, 1002, .inr (.inl m_value))), (mwords, .inl (cyJ, 23, .inr (.inl m_words))), (mtold, .inl (cyI, 240, .inl m_told)), (mnames, .inl (cyJ, 16, .inr (.inl m_names))), (m0, .inr (11, [.int m_thrown, .ref mtape, .int m_taped, .int m_size, .ref msort, .ref mplace, .ref mvalue, .int m_at, .int (u_96.2.1 0), .ref mwords, .ref mtold, .ref mop, .ref marg, .int m_codes, .ref mnames, .ref mhasHabit, .int m_isNew, .ref mfactWords, .ref mfacts, .ref mpile, .ref mstates, .ref misMarked, .int m_inShelf, .int m_inStack, .int m_inPlace, .ref mrow, .int m_rowMany, .ref mthr, .ref mmays, .ref mtall, .ref mweights, .ref mrowOfWare, .ref mneededOf, .int m_goShelf, .int m_goStack, .int m_goLeft, .ref mtried, .ref mbestRow, .int m_bestCost, .int m_bestMany, .int m_bestShelf, .int m_bestSet, .ref mdigits])), (mplace, .inl (cyI, 1002, .inl m_place))]) (pc2 := 19) (lv2 := [(2, .int v_1), (0, .ref m0), (1, .int p0)]) (st2 := []) rfl rfl rfl rfl ?_
    have hw_97_0 : 1 ≤ (u_96.2.1 0).toInt ∧ (u_96.2.1 0).toInt ≤ 16005 := hw_97
    exact j_vret (pc := 19) C hr hk (fun i => [].getD i 0, fun i => [m_at, (u_96.2.1 0)].getD i 0, fun i => [m_told].getD i (fun _ => 0), fun i => [m_names].getD i (fun _ => 0)) rfl (show (0 ≤ (m_at).toInt ∧ (m_at).toInt ≤ 1000) ∧ (0 ≤ ((u_96.2.1 0)).toInt ∧ ((u_96.2.1 0)).toInt ≤ 16005) ∧ (TV m_told) ∧ ((m_at).toInt ≤ (m_at).toInt) ∧ ((m_at).toInt ≤ ((eN m_sort : Nat) : Int)) ∧ ((m_fault).toInt = 0 ∨ ¬ ((u_96.2.1 0)).toInt = 0) ∧ (∀ j : Nat, (j < 120 ∨ j = 122 ∨ 231 ≤ j) → m_told j = m_told j) from ⟨by omega, by omega, h_m_told, by omega, by omega, by omega, (fun j hj => rfl)⟩) [5, 0, 6, 1, 2, 3, 4] (by decide) rfl (by decide) (by decide) dX11_readWare_19
set_option maxHeartbeats 4000000 in
set_option maxRecDepth 100000 in
theorem c_X11_readShelf (l : Launch) (D : DG) (cyC cyI cyJ cyZ cyO : ClassId) (m0 : Nat) (msort : Nat) (mplace : Nat) (mvalue : Nat) (mwords : Nat) (mtold : Nat) (mnames : Nat) (mtape : Nat) (mop : Nat) (marg : Nat) (mhasHabit : Nat) (mfactWords : Nat) (mfacts : Nat) (mpile : Nat) (mstates : Nat) (misMarked : Nat) (mrow : Nat) (mthr : Nat) (mmays : Nat) (mtall : Nat) (mweights : Nat) (mrowOfWare : Nat) (mneededOf : Nat) (mtried : Nat) (mbestRow : Nat) (mdigits : Nat) (m_thrown : Int32) (m_taped : Int32) (m_size : Int32) (m_at : Int32) (m_fault : Int32) (m_codes : Int32) (m_isNew : Int32) (m_inShelf : Int32) (m_inStack : Int32) (m_inPlace : Int32) (m_rowMany : Int32) (m_goShelf : Int32) (m_goStack : Int32) (m_goLeft : Int32) (m_bestCost : Int32) (m_bestMany : Int32) (m_bestShelf : Int32) (m_bestSet : Int32) (m_sort : Nat → Int32) (m_place : Nat → Int32) (m_value : Nat → Int64) (m_words : Nat → Int64) (m_told : Nat → Int32) (m_names : Nat → Int64) (h_m_taped : 0 ≤ (m_taped).toInt ∧ (m_taped).toInt ≤ 1000) (h_m_size : 0 ≤ (m_size).toInt ∧ (m_size).toInt ≤ 1000) (h_m_at : 0 ≤ (m_at).toInt ∧ (m_at).toInt ≤ 1000) (h_m_fault : 0 ≤ (m_fault).toInt ∧ (m_fault).toInt ≤ 16005) (h_m_codes : 0 ≤ (m_codes).toInt ∧ (m_codes).toInt ≤ 1000) (h_m_isNew : 0 ≤ (m_isNew).toInt ∧ (m_isNew).toInt ≤ 1) (h_m_inShelf : 0 ≤ (m_inShelf).toInt ∧ (m_inShelf).toInt ≤ 3) (h_m_inStack : 0 ≤ (m_inStack).toInt ∧ (m_inStack).toInt ≤ 7) (h_m_inPlace : 0 ≤ (m_inPlace).toInt ∧ (m_inPlace).toInt ≤ 11) (h_m_rowMany : 0 ≤ (m_rowMany).toInt ∧ (m_rowMany).toInt ≤ 12) (h_m_goShelf : -1 ≤ (m_goShelf).toInt ∧ (m_goShelf).toInt ≤ 3) (h_m_bestMany : 0 ≤ (m_bestMany).toInt ∧ (m_bestMany).toInt ≤ 7) (h_m_bestShelf : 0 ≤ (m_bestShelf).toInt ∧ (m_bestShelf).toInt ≤ 3) (h_m_place : Iv 1002 (0) (1000) m_place) (h_m_told : TV m_told) (hN1 : eN m_sort ≤ 1000) (hN2 : (m_at).toInt ≤ ((eN m_sort : Nat) : Int)) (hN3 : (m_at).toInt < ((eN m_sort : Nat) : Int)) : KK l D (TY cyC cyI cyJ cyZ cyO) yX11_readShelf cX11_readShelf 5 none ({ frames := 4, cells := 0, slots := 0, locals := 87 } : Room) 0 0 [.ref m0] [(m0, .inr (11, [.int m_thrown, .ref mtape, .int m_taped, .int m_size, .ref msort, .ref mplace, .ref mvalue, .int m_at, .int m_fault, .ref mwords, .ref mtold, .ref mop, .ref marg, .int m_codes, .ref mnames, .ref mhasHabit, .int m_isNew, .ref mfactWords, .ref mfacts, .ref mpile, .ref mstates, .ref misMarked, .int m_inShelf, .int m_inStack, .int m_inPlace, .ref mrow, .int m_rowMany, .ref mthr, .ref mmays, .ref mtall, .ref mweights, .ref mrowOfWare, .ref mneededOf, .int m_goShelf, .int m_goStack, .int m_goLeft, .ref mtried, .ref mbestRow, .int m_bestCost, .int m_bestMany, .int m_bestShelf, .int m_bestSet, .ref mdigits])), (msort, .inl (cyI, 1002, .inl m_sort)), (mplace, .inl (cyI, 1002, .inl m_place)), (mvalue, .inl (cyJ, 1002, .inr (.inl m_value))), (mwords, .inl (cyJ, 23, .inr (.inl m_words))), (mtold, .inl (cyI, 240, .inl m_told)), (mnames, .inl (cyJ, 16, .inr (.inl m_names)))] (fun u => none) (fun u => (0 ≤ (u.2.1 0).toInt ∧ (u.2.1 0).toInt ≤ 1000) ∧ (0 ≤ (u.2.1 1).toInt ∧ (u.2.1 1).toInt ≤ 16005) ∧ (TV (u.2.2.1 0)) ∧ ((m_at).toInt ≤ ((u.2.1 0)).toInt) ∧ (((u.2.1 0)).toInt ≤ ((eN m_sort : Nat) : Int)) ∧ ((m_fault).toInt = 0 ∨ ¬ ((u.2.1 1)).toInt = 0) ∧ (∀ j : Nat, (j < 120 ∨ j = 122 ∨ 231 ≤ j) → (u.2.2.1 0) j = m_told j)) (fun u => [(m0, .inr (11, [.int m_thrown, .ref mtape, .int m_taped, .int m_size, .ref msort, .ref mplace, .ref mvalue, .int (u.2.1 0), .int (u.2.1 1), .ref mwords, .ref mtold, .ref mop, .ref marg, .int m_codes, .ref mnames, .ref mhasHabit, .int m_isNew, .ref mfactWords, .ref mfacts, .ref mpile, .ref mstates, .ref misMarked, .int m_inShelf, .int m_inStack, .int m_inPlace, .ref mrow, .int m_rowMany, .ref mthr, .ref mmays, .ref mtall, .ref mweights, .ref mrowOfWare, .ref mneededOf, .int m_goShelf, .int m_goStack, .int m_goLeft, .ref mtried, .ref mbestRow, .int m_bestCost, .int m_bestMany, .int m_bestShelf, .int m_bestSet, .ref mdigits])), (msort, .inl (cyI, 1002, .inl m_sort)), (mplace, .inl (cyI, 1002, .inl m_place)), (mvalue, .inl (cyJ, 1002, .inr (.inl m_value))), (mwords, .inl (cyJ, 23, .inr (.inl m_words))), (mtold, .inl (cyI, 240, .inl (u.2.2.1 0))), (mnames, .inl (cyJ, 16, .inr (.inl (u.2.2.2 0))))]) := by
  refine KK.of (lv0 := [(0, .ref m0)]) (by decide) rfl (Nat.le_of_ble_eq_true rfl) ?_
  intro p e s m args below meth c A C hr hk hin
  refine j_aload_n (pc := 0) C dX11_readShelf_0 rfl 0 rfl ?_
  refine j_get (pc := 1) (ci := 11) (v := .ref mtold) C inw_11 0 rfl rfl 10 (by decide) wd_669 rfl rfl dX11_readShelf_1 ?_
  refine j_bipush (pc := 4) (v := 121) C dX11_readShelf_4 (by decide) ?_
  obtain ⟨v_1, ev_1⟩ : ∃ z, m_told 121 = z := ⟨_, rfl⟩
  have env_1 : (m_told 121).toInt = v_1.toInt := by rw [ev_1]
  have hv_1 : 0 ≤ v_1.toInt ∧ v_1.toInt ≤ 4 := by have z := h_m_told 121 (by decide); rw [ev_1] at z; exact z
  refine j_iald (pc := 6) (v := v_1) (k := 121) C 5 1 rfl rfl (by decide) (by decide) (by decide) ev_1 dX11_readShelf_6 ?_
  refine j_istore_n (pc := 7) (lv' := [(1, .int v_1), (0, .ref m0)]) C dX11_readShelf_7 rfl (by decide) rfl ?_
  refine j_iload_n (pc := 8) C dX11_readShelf_8 rfl 0 rfl ?_
  refine j_iconst (pc := 9) (v := 4) C dX11_readShelf_9 (by decide) ?_
  refine j_icmp_ne (pc := 10) (tgt := 19) C dX11_readShelf_10 (by decide) (fun c_2 => ?_) (fun c_2 => ?_)
  · skip
    have el_4 : (4 : Int32).toInt = 4 := rfl
    rw [i_eq] at c_2
    refine j_aload_n (pc := 19) C dX11_readShelf_19 rfl 1 rfl ?_
    refine j_dup (pc := 20) C dX11_readShelf_20 rfl ?_
    refine j_get (pc := 21) (ci := 11) (v := .int m_at) C inw_11 0 rfl rfl 7 (by decide) wd_637 rfl rfl dX11_readShelf_21 ?_
    refine j_iconst (pc := 24) (v := 1) C dX11_readShelf_24 (by decide) ?_
    obtain ⟨v_3, ev_3⟩ : ∃ z : Int32, m_at + 1 = z := ⟨_, rfl⟩
    have el_1 : (1 : Int32).toInt = 1 := rfl
    have hv_3 : v_3.toInt = m_at.toInt + (1 : Int32).toInt := by rw [← ev_3]; exact fb_addI (by omega) (by omega)
    refine j_iadd (pc := 25) (v := v_3) C dX11_readShelf_25 ev_3 ?_
    refine j_put (pc := 26) (ci := 11) (v := .int v_3) (ws' := [(m0, .inr (11, [.int m_thrown, .ref mtape, .int m_taped, .int m_size, .ref msort, .ref mplace, .ref mvalue, .int v_3, .int m_fault, .ref mwords, .ref mtold, .ref mop, .ref marg, .int m_codes, .ref mnames, .ref mhasHabit, .int m_isNew, .ref mfactWords, .ref mfacts, .ref mpile, .ref mstates, .ref misMarked, .int m_inShelf, .int m_inStack, .int m_inPlace, .ref mrow, .int m_rowMany, .ref mthr, .ref mmays, .ref mtall, .ref mweights, .ref mrowOfWare, .ref mneededOf, .int m_goShelf, .int m_goStack, .int m_goLeft, .ref mtried, .ref mbestRow, .int m_bestCost, .int m_bestMany, .int m_bestShelf, .int m_bestSet, .ref mdigits])), (msort, .inl (cyI, 1002, .inl m_sort)), (mplace, .inl (cyI, 1002, .inl m_place)), (mvalue, .inl (cyJ, 1002, .inr (.inl m_value))), (mwords, .inl (cyJ, 23, .inr (.inl m_words))), (mtold, .inl (cyI, 240, .inl m_told)), (mnames, .inl (cyJ, 16, .inr (.inl m_names)))]) C inw_11 0 rfl rfl 7 (by decide) wd_637 rfl tyX11_ok nmX11 rfl (tyX11_ok 7 (by decide)) rfl rfl (Nat.le_of_ble_eq_true rfl) dX11_readShelf_26 rfl ?_
    refine j_aload_n (pc := 29) C dX11_readShelf_29 rfl 1 rfl ?_
    refine j_callV (pc := 30) (As := []) (rest := []) (wr := []) C (c_X11_newName l D cyC cyI cyJ cyZ cyO m0 msort mplace mvalue mwords mtold mnames mtape mop marg mhasHabit mfactWords mfacts mpile mstates misMarked mrow mthr mmays mtall mweights mrowOfWare mneededOf mtried mbestRow mdigits m_thrown m_taped m_size v_3 m_fault m_codes m_isNew m_inShelf m_inStack m_inPlace m_rowMany m_goShelf m_goStack m_goLeft m_bestCost m_bestMany m_bestShelf m_bestSet m_sort m_place m_value m_words m_told m_names (by omega) (by omega) (by omega) (by omega) (by omega) (by omega) (by omega) (by omega) (by omega) (by omega) (by omega) (by omega) (by omega) h_m_place h_m_told (by omega) (by omega)) wd_687 wd_624 wd_688 wd_689 wd_690 ⟨by decide, by decide, rfl⟩ rfl ⟨rfl, rfl, by decide, by decide⟩ ⟨by decide, by decide⟩ [0, 1, 2, 3, 4, 5, 6] [] rfl rfl ⟨by decide, by decide, by decide⟩ 0 rfl rfl rfl (Nat.le_of_ble_eq_true rfl) dX11_readShelf_30 (fun u_4 hw_5 => ?_)
    refine j_eq (ws2 := [(m0, .inr (11, [.int m_thrown, .ref mtape, .int m_taped, .int m_size, .ref msort, .ref mplace, .ref mvalue, .int (u_4.2.1 0), .int (u_4.2.1 1), .ref mwords, .ref mtold, .ref mop, .ref marg, .int m_codes, .ref mnames, .ref mhasHabit, .int m_isNew, .ref mfactWords, .ref mfacts, .ref mpile, .ref mstates, .ref misMarked, .int m_inShelf, .int m_inStack, .int m_inPlace, .ref mrow, .int m_rowMany, .ref mthr, .ref mmays, .ref mtall, .ref mweights, .ref mrowOfWare, .ref mneededOf, .int m_goShelf, .int m_goStack, .int m_goLeft, .ref mtried, .ref mbestRow, .int m_bestCost, .int m_bestMany, .int m_bestShelf, .int m_bestSet, .ref mdigits])), (msort, .inl (cyI, 1002, .inl m_sort)), (mplace, .inl (cyI, 1002, .inl m_place)), (mvalue, .inl (cyJ, 1002, .inr (.inl m_value))), (mwords, .inl (cyJ, 23, .inr (.inl m_words))), (mtold, .inl (cyI, 240, .inl m_told)), (mnames, .inl (cyJ, 16, .inr (.inl m_names)))]) (pc2 := 33) (lv2 := [(1, .int v_1), (0, .ref m0)]) (st2 := [.long (u_4.2.2.2 0 0)]) rfl rfl rfl rfl ?_
    obtain ⟨hw_5_0, hw_5_1, hw_5_2, hw_5_3, hw_5_4⟩ := hw_5
    refine j_lstore_n (pc := 33) (lv' := [(2, .long (u_4.2.2.2 0 0)), (1, .int v_1), (0, .ref m0)]) C dX11_readShelf_33 rfl (by decide) rfl ?_
    refine j_sipush (pc := 34) (v := 219) C dX11_readShelf_34 (by decide) ?_
    refine j_iconst (pc := 37) (v := 3) C dX11_readShelf_37 (by decide) ?_
    refine j_iload_n (pc := 38) C dX11_readShelf_38 rfl 1 rfl ?_
    obtain ⟨v_6, ev_6⟩ : ∃ z : Int32, 3 * v_1 = z := ⟨_, rfl⟩
    have el_3 : (3 : Int32).toInt = 3 := rfl
    have hv_6 : v_6.toInt = 3 * v_1.toInt := by rw [← ev_6]; exact mulL (c := 3) rfl (by omega) (by omega)
    refine j_imul (pc := 39) (v := v_6) C dX11_readShelf_39 ev_6 ?_
    obtain ⟨v_7, ev_7⟩ : ∃ z : Int32, 219 + v_6 = z := ⟨_, rfl⟩
    have el_219 : (219 : Int32).toInt = 219 := rfl
    have hv_7 : v_7.toInt = (219 : Int32).toInt + v_6.toInt := by rw [← ev_7]; exact fb_addI (by omega) (by omega)
    refine j_iadd (pc := 40) (v := v_7) C dX11_readShelf_40 ev_7 ?_
    refine j_istore (pc := 41) (lv' := [(4, .int v_7), (2, .long (u_4.2.2.2 0 0)), (1, .int v_1), (0, .ref m0)]) C dX11_readShelf_41 (by decide) rfl ?_
    refine j_aload_n (pc := 43) C dX11_readShelf_43 rfl 3 rfl ?_
    refine j_get (pc := 44) (ci := 11) (v := .ref mtold) C inw_11 0 rfl rfl 10 (by decide) wd_669 rfl rfl dX11_readShelf_44 ?_
    refine j_iload (pc := 47) C dX11_readShelf_47 0 rfl ?_
    refine j_aload_n (pc := 49) C dX11_readShelf_49 rfl 3 rfl ?_
    refine j_bipush (pc := 50) (v := 11) C dX11_readShelf_50 (by decide) ?_
    refine j_iconst (pc := 52) (v := 1) C dX11_readShelf_52 (by decide) ?_
    refine j_sipush (pc := 53) (v := 999) C dX11_readShelf_53 (by decide) ?_
    refine j_callV (pc := 56) (As := [.int 11, .int 1, .int 999]) (rest := [.int v_7, .ref mtold]) (wr := [(mtold, .inl (cyI, 240, .inl m_told)), (mnames, .inl (cyJ, 16, .inr (.inl m_names)))]) C (c_X11_takeAfter l D cyC cyI cyJ cyZ cyO m0 msort mplace mvalue mwords mtape mtold mop marg mnames mhasHabit mfactWords mfacts mpile mstates misMarked mrow mthr mmays mtall mweights mrowOfWare mneededOf mtried mbestRow mdigits 11 1 999 m_thrown m_taped m_size (u_4.2.1 0) (u_4.2.1 1) m_codes m_isNew m_inShelf m_inStack m_inPlace m_rowMany m_goShelf m_goStack m_goLeft m_bestCost m_bestMany m_bestShelf m_bestSet m_sort m_place m_value m_words (by omega) (by omega) (by omega) (by omega) (by omega) (by omega) (by omega) (by omega) (by omega) (by omega) (by omega) (by omega) (by omega) (by decide) h_m_place (by omega) (by omega)) wd_691 wd_624 wd_692 wd_693 wd_694 ⟨by decide, by decide, rfl⟩ rfl ⟨rfl, rfl, by decide, by decide⟩ ⟨by decide, by decide⟩ [0, 1, 2, 3, 4] [5, 6] rfl rfl ⟨by decide, by decide, by decide⟩ 0 rfl rfl rfl (Nat.le_of_ble_eq_true rfl) dX11_readShelf_56 (fun u_8 hw_9 => ?_)
    refine j_eq (ws2 := [(mtold, .inl (cyI, 240, .inl m_told)), (mnames, .inl (cyJ, 16, .inr (.inl m_names))), (m0, .inr (11, [.int m_thrown, .ref mtape, .int m_taped, .int m_size, .ref msort, .ref mplace, .ref mvalue, .int (u_8.2.1 1), .int (u_8.2.1 2), .ref mwords, .ref mtold, .ref mop, .ref marg, .int m_codes, .ref mnames, .ref mhasHabit, .int m_isNew, .ref mfactWords, .ref mfacts, .ref mpile, .ref mstates, .ref misMarked, .int m_inShelf, .int m_inStack, .int m_inPlace, .ref mrow, .int m_rowMany, .ref mthr, .ref mmays, .ref mtall, .ref mweights, .ref mrowOfWare, .ref mneededOf, .int m_goShelf, .int m_goStack, .int m_goLeft, .ref mtried, .ref mbestRow, .int m_bestCost, .int m_bestMany, .int m_bestShelf, .int m_bestSet, .ref mdigits])), (msort, .inl (cyI, 1002, .inl m_sort)), (mplace, .inl (cyI, 1002, .inl m_place)), (mvalue, .inl (cyJ, 1002, .inr (.inl m_value))), (mwords, .inl (cyJ, 23, .inr (.inl m_words)))]) (pc2 := 59) (lv2 := [(4, .int v_7), (2, .long (u_4.2.2.2 0 0)), (1, .int v_1), (0, .ref m0)]) (st2 := [.int (u_8.2.1 0), .int v_7, .ref mtold]) rfl rfl rfl rfl ?_
    obtain ⟨hw_9_0, hw_9_1, hw_9_2, hw_9_3, hw_9_4, hw_9_5⟩ := hw_9
    have el_11 : (11 : Int32).toInt = 11 := rfl
    have el_1 : (1 : Int32).toInt = 1 := rfl
    have el_999 : (999 : Int32).toInt = 999 := rfl
    obtain ⟨f_10, ef_10⟩ : ∃ z, z = upd m_told (v_7).toInt.toNat (u_8.2.1 0) := ⟨_, rfl⟩
    have hf_10 : TV f_10 := by rw [ef_10]; exact TV.upd h_m_told (by omega) (Int.le_trans (show _ ≤ (999 : Int) from (by omega)) (hiT_k (by omega)))
    refine j_iast (pc := 59) (k := (v_7).toInt.toNat) (ws' := [(mtold, .inl (cyI, 240, .inl f_10)), (mnames, .inl (cyJ, 16, .inr (.inl m_names))), (m0, .inr (11, [.int m_thrown, .ref mtape, .int m_taped, .int m_size, .ref msort, .ref mplace, .ref mvalue, .int (u_8.2.1 1), .int (u_8.2.1 2), .ref mwords, .ref mtold, .ref mop, .ref marg, .int m_codes, .ref mnames, .ref mhasHabit, .int m_isNew, .ref mfactWords, .ref mfacts, .ref mpile, .ref mstates, .ref misMarked, .int m_inShelf, .int m_inStack, .int m_inPlace, .ref mrow, .int m_rowMany, .ref mthr, .ref mmays, .ref mtall, .ref mweights, .ref mrowOfWare, .ref mneededOf, .int m_goShelf, .int m_goStack, .int m_goLeft, .ref mtried, .ref mbestRow, .int m_bestCost, .int m_bestMany, .int m_bestShelf, .int m_bestSet, .ref mdigits])), (msort, .inl (cyI, 1002, .inl m_sort)), (mplace, .inl (cyI, 1002, .inl m_place)), (mvalue, .inl (cyJ, 1002, .inr (.inl m_value))), (mwords, .inl (cyJ, 23, .inr (.inl m_words)))]) C 0 1 rfl rfl (i_nn (by omega)) rfl (i_lt_n (by omega) (by omega)) dX11_readShelf_59 (by rw [ef_10]; rfl) ?_
    refine j_aload_n (pc := 60) C dX11_readShelf_60 rfl 3 rfl ?_
    refine j_get (pc := 61) (ci := 11) (v := .ref mtold) C inw_11 2 rfl rfl 10 (by decide) wd_669 rfl rfl dX11_readShelf_61 ?_
    refine j_iload (pc := 64) C dX11_readShelf_64 0 rfl ?_
    refine j_iconst (pc := 66) (v := 1) C dX11_readShelf_66 (by decide) ?_
    obtain ⟨v_11, ev_11⟩ : ∃ z : Int32, v_7 + 1 = z := ⟨_, rfl⟩
    have el_1 : (1 : Int32).toInt = 1 := rfl
    have hv_11 : v_11.toInt = v_7.toInt + (1 : Int32).toInt := by rw [← ev_11]; exact fb_addI (by omega) (by omega)
    refine j_iadd (pc := 67) (v := v_11) C dX11_readShelf_67 ev_11 ?_
    refine j_aload_n (pc := 68) C dX11_readShelf_68 rfl 3 rfl ?_
    refine j_bipush (pc := 69) (v := 12) C dX11_readShelf_69 (by decide) ?_
    refine j_iconst (pc := 71) (v := 0) C dX11_readShelf_71 (by decide) ?_
    refine j_bipush (pc := 72) (v := 99) C dX11_readShelf_72 (by decide) ?_
    refine j_callV (pc := 74) (As := [.int 12, .int 0, .int 99]) (rest := [.int v_11, .ref mtold]) (wr := [(mtold, .inl (cyI, 240, .inl f_10)), (mnames, .inl (cyJ, 16, .inr (.inl m_names)))]) C (c_X11_takeAfter l D cyC cyI cyJ cyZ cyO m0 msort mplace mvalue mwords mtape mtold mop marg mnames mhasHabit mfactWords mfacts mpile mstates misMarked mrow mthr mmays mtall mweights mrowOfWare mneededOf mtried mbestRow mdigits 12 0 99 m_thrown m_taped m_size (u_8.2.1 1) (u_8.2.1 2) m_codes m_isNew m_inShelf m_inStack m_inPlace m_rowMany m_goShelf m_goStack m_goLeft m_bestCost m_bestMany m_bestShelf m_bestSet m_sort m_place m_value m_words (by omega) (by omega) (by omega) (by omega) (by omega) (by omega) (by omega) (by omega) (by omega) (by omega) (by omega) (by omega) (by omega) (by decide) h_m_place (by omega) (by omega)) wd_691 wd_624 wd_692 wd_693 wd_694 ⟨by decide, by decide, rfl⟩ rfl ⟨rfl, rfl, by decide, by decide⟩ ⟨by decide, by decide⟩ [2, 3, 4, 5, 6] [0, 1] rfl rfl ⟨by decide, by decide, by decide⟩ 2 rfl rfl rfl (Nat.le_of_ble_eq_true rfl) dX11_readShelf_74 (fun u_12 hw_13 => ?_)
    refine j_eq (ws2 := [(mtold, .inl (cyI, 240, .inl f_10)), (mnames, .inl (cyJ, 16, .inr (.inl m_names))), (m0, .inr (11, [.int m_thrown, .ref mtape, .int m_taped, .int m_size, .ref msort, .ref mplace, .ref mvalue, .int (u_12.2.1 1), .int (u_12.2.1 2), .ref mwords, .ref mtold, .ref mop, .ref marg, .int m_codes, .ref mnames, .ref mhasHabit, .int m_isNew, .ref mfactWords, .ref mfacts, .ref mpile, .ref mstates, .ref misMarked, .int m_inShelf, .int m_inStack, .int m_inPlace, .ref mrow, .int m_rowMany, .ref mthr, .ref mmays, .ref mtall, .ref mweights, .ref mrowOfWare, .ref mneededOf, .int m_goShelf, .int m_goStack, .int m_goLeft, .ref mtried, .ref mbestRow, .int m_bestCost, .int m_bestMany, .int m_bestShelf, .int m_bestSet, .ref mdigits])), (msort, .inl (cyI, 1002, .inl m_sort)), (mplace, .inl (cyI, 1002, .inl m_place)), (mvalue, .inl (cyJ, 1002, .inr (.inl m_value))), (mwords, .inl (cyJ, 23, .inr (.inl m_words)))]) (pc2 := 77) (lv2 := [(4, .int v_7), (2, .long (u_4.2.2.2 0 0)), (1, .int v_1), (0, .ref m0)]) (st2 := [.int (u_12.2.1 0), .int v_11, .ref mtold]) rfl rfl rfl rfl ?_
    obtain ⟨hw_13_0, hw_13_1, hw_13_2, hw_13_3, hw_13_4, hw_13_5⟩ := hw_13
    have el_12 : (12 : Int32).toInt = 12 := rfl
    have el_0 : (0 : Int32).toInt = 0 := rfl
    have el_99 : (99 : Int32).toInt = 99 := rfl
    obtain ⟨f_14, ef_14⟩ : ∃ z, z = upd f_10 (v_11).toInt.toNat (u_12.2.1 0) := ⟨_, rfl⟩
    have hf_14 : TV f_14 := by rw [ef_14]; exact TV.upd hf_10 (by omega) (Int.le_trans (show _ ≤ (999 : Int) from (by omega)) (hiT_k (by omega)))
    refine j_iast (pc := 77) (k := (v_11).toInt.toNat) (ws' := [(mtold, .inl (cyI, 240, .inl f_14)), (mnames, .inl (cyJ, 16, .inr (.inl m_names))), (m0, .inr (11, [.int m_thrown, .ref mtape, .int m_taped, .int m_size, .ref msort, .ref mplace, .ref mvalue, .int (u_12.2.1 1), .int (u_12.2.1 2), .ref mwords, .ref mtold, .ref mop, .ref marg, .int m_codes, .ref mnames, .ref mhasHabit, .int m_isNew, .ref mfactWords, .ref mfacts, .ref mpile, .ref mstates, .ref misMarked, .int m_inShelf, .int m_inStack, .int m_inPlace, .ref mrow, .int m_rowMany, .ref mthr, .ref mmays, .ref mtall, .ref mweights, .ref mrowOfWare, .ref mneededOf, .int m_goShelf, .int m_goStack, .int m_goLeft, .ref mtried, .ref mbestRow, .int m_bestCost, .int m_bestMany, .int m_bestShelf, .int m_bestSet, .ref mdigits])), (msort, .inl (cyI, 1002, .inl m_sort)), (mplace, .inl (cyI, 1002, .inl m_place)), (mvalue, .inl (cyJ, 1002, .inr (.inl m_value))), (mwords, .inl (cyJ, 23, .inr (.inl m_words)))]) C 0 1 rfl rfl (i_nn (by omega)) rfl (i_lt_n (by omega) (by omega)) dX11_readShelf_77 (by rw [ef_14]; rfl) ?_
    refine j_aload_n (pc := 78) C dX11_readShelf_78 rfl 3 rfl ?_
    refine j_get (pc := 79) (ci := 11) (v := .ref mtold) C inw_11 2 rfl rfl 10 (by decide) wd_669 rfl rfl dX11_readShelf_79 ?_
    refine j_iload (pc := 82) C dX11_readShelf_82 0 rfl ?_
    refine j_iconst (pc := 84) (v := 2) C dX11_readShelf_84 (by decide) ?_
    obtain ⟨v_15, ev_15⟩ : ∃ z : Int32, v_7 + 2 = z := ⟨_, rfl⟩
    have el_2 : (2 : Int32).toInt = 2 := rfl
    have hv_15 : v_15.toInt = v_7.toInt + (2 : Int32).toInt := by rw [← ev_15]; exact fb_addI (by omega) (by omega)
    refine j_iadd (pc := 85) (v := v_15) C dX11_readShelf_85 ev_15 ?_
    refine j_aload_n (pc := 86) C dX11_readShelf_86 rfl 3 rfl ?_
    refine j_bipush (pc := 87) (v := 13) C dX11_readShelf_87 (by decide) ?_
    refine j_iconst (pc := 89) (v := 1) C dX11_readShelf_89 (by decide) ?_
    refine j_bipush (pc := 90) (v := 8) C dX11_readShelf_90 (by decide) ?_
    refine j_callV (pc := 92) (As := [.int 13, .int 1, .int 8]) (rest := [.int v_15, .ref mtold]) (wr := [(mtold, .inl (cyI, 240, .inl f_14)), (mnames, .inl (cyJ, 16, .inr (.inl m_names)))]) C (c_X11_takeAfter l D cyC cyI cyJ cyZ cyO m0 msort mplace mvalue mwords mtape mtold mop marg mnames mhasHabit mfactWords mfacts mpile mstates misMarked mrow mthr mmays mtall mweights mrowOfWare mneededOf mtried mbestRow mdigits 13 1 8 m_thrown m_taped m_size (u_12.2.1 1) (u_12.2.1 2) m_codes m_isNew m_inShelf m_inStack m_inPlace m_rowMany m_goShelf m_goStack m_goLeft m_bestCost m_bestMany m_bestShelf m_bestSet m_sort m_place m_value m_words (by omega) (by omega) (by omega) (by omega) (by omega) (by omega) (by omega) (by omega) (by omega) (by omega) (by omega) (by omega) (by omega) (by decide) h_m_place (by omega) (by omega)) wd_691 wd_624 wd_692 wd_693 wd_694 ⟨by decide, by decide, rfl⟩ rfl ⟨rfl, rfl, by decide, by decide⟩ ⟨by decide, by decide⟩ [2, 3, 4, 5, 6] [0, 1] rfl rfl ⟨by decide, by decide, by decide⟩ 2 rfl rfl rfl (Nat.le_of_ble_eq_true rfl) dX11_readShelf_92 (fun u_16 hw_17 => ?_)
    refine j_eq (ws2 := [(mtold, .inl (cyI, 240, .inl f_14)), (mnames, .inl (cyJ, 16, .inr (.inl m_names))), (m0, .inr (11, [.int m_thrown, .ref mtape, .int m_taped, .int m_size, .ref msort, .ref mplace, .ref mvalue, .int (u_16.2.1 1), .int (u_16.2.1 2), .ref mwords, .ref mtold, .ref mop, .ref marg, .int m_codes, .ref mnames, .ref mhasHabit, .int m_isNew, .ref mfactWords, .ref mfacts, .ref mpile, .ref mstates, .ref misMarked, .int m_inShelf, .int m_inStack, .int m_inPlace, .ref mrow, .int m_rowMany, .ref mthr, .ref mmays, .ref mtall, .ref mweights, .ref mrowOfWare, .ref mneededOf, .int m_goShelf, .int m_goStack, .int m_goLeft, .ref mtried, .ref mbestRow, .int m_bestCost, .int m_bestMany, .int m_bestShelf, .int m_bestSet, .ref mdigits])), (msort, .inl (cyI, 1002, .inl m_sort)), (mplace, .inl (cyI, 1002, .inl m_place)), (mvalue, .inl (cyJ, 1002, .inr (.inl m_value))), (mwords, .inl (cyJ, 23, .inr (.inl m_words)))]) (pc2 := 95) (lv2 := [(4, .int v_7), (2, .long (u_4.2.2.2 0 0)), (1, .int v_1), (0, .ref m0)]) (st2 := [.int (u_16.2.1 0), .int v_15, .ref mtold]) rfl rfl rfl rfl ?_
    obtain ⟨hw_17_0, hw_17_1, hw_17_2, hw_17_3, hw_17_4, hw_17_5⟩ := hw_17
    have el_13 : (13 : Int32).toInt = 13 := rfl
    have el_1 : (1 : Int32).toInt = 1 := rfl
    have el_8 : (8 : Int32).toInt = 8 := rfl
    obtain ⟨f_18, ef_18⟩ : ∃ z, z = upd f_14 (v_15).toInt.toNat (u_16.2.1 0) := ⟨_, rfl⟩
    have hf_18 : TV f_18 := by rw [ef_18]; exact TV.upd hf_14 (by omega) (by rw [hiT_room (by omega)]; omega)
    refine j_iast (pc := 95) (k := (v_15).toInt.toNat) (ws' := [(mtold, .inl (cyI, 240, .inl f_18)), (mnames, .inl (cyJ, 16, .inr (.inl m_names))), (m0, .inr (11, [.int m_thrown, .ref mtape, .int m_taped, .int m_size, .ref msort, .ref mplace, .ref mvalue, .int (u_16.2.1 1), .int (u_16.2.1 2), .ref mwords, .ref mtold, .ref mop, .ref marg, .int m_codes, .ref mnames, .ref mhasHabit, .int m_isNew, .ref mfactWords, .ref mfacts, .ref mpile, .ref mstates, .ref misMarked, .int m_inShelf, .int m_inStack, .int m_inPlace, .ref mrow, .int m_rowMany, .ref mthr, .ref mmays, .ref mtall, .ref mweights, .ref mrowOfWare, .ref mneededOf, .int m_goShelf, .int m_goStack, .int m_goLeft, .ref mtried, .ref mbestRow, .int m_bestCost, .int m_bestMany, .int m_bestShelf, .int m_bestSet, .ref mdigits])), (msort, .inl (cyI, 1002, .inl m_sort)), (mplace, .inl (cyI, 1002, .inl m_place)), (mvalue, .inl (cyJ, 1002, .inr (.inl m_value))), (mwords, .inl (cyJ, 23, .inr (.inl m_words)))]) C 0 1 rfl rfl (i_nn (by omega)) rfl (i_lt_n (by omega) (by omega)) dX11_readShelf_95 (by rw [ef_18]; rfl) ?_
    refine j_aload_n (pc := 96) C dX11_readShelf_96 rfl 3 rfl ?_
    refine j_get (pc := 97) (ci := 11) (v := .ref mnames) C inw_11 2 rfl rfl 14 (by decide) wd_670 rfl rfl dX11_readShelf_97 ?_
    refine j_bipush (pc := 100) (v := 12) C dX11_readShelf_100 (by decide) ?_
    refine j_iload_n (pc := 102) C dX11_readShelf_102 rfl 2 rfl ?_
    obtain ⟨v_19, ev_19⟩ : ∃ z : Int32, 12 + v_1 = z := ⟨_, rfl⟩
    have el_12 : (12 : Int32).toInt = 12 := rfl
    have hv_19 : v_19.toInt = (12 : Int32).toInt + v_1.toInt := by rw [← ev_19]; exact fb_addI (by omega) (by omega)
    refine j_iadd (pc := 103) (v := v_19) C dX11_readShelf_103 ev_19 ?_
    refine j_lload_n (pc := 104) C dX11_readShelf_104 rfl 1 rfl ?_
    obtain ⟨f_20, ef_20⟩ : ∃ z, z = vp_updL m_names (v_19).toInt.toNat (u_4.2.2.2 0 0) := ⟨_, rfl⟩
    refine j_last (pc := 105) (k := (v_19).toInt.toNat) (ws' := [(mtold, .inl (cyI, 240, .inl f_18)), (mnames, .inl (cyJ, 16, .inr (.inl f_20))), (m0, .inr (11, [.int m_thrown, .ref mtape, .int m_taped, .int m_size, .ref msort, .ref mplace, .ref mvalue, .int (u_16.2.1 1), .int (u_16.2.1 2), .ref mwords, .ref mtold, .ref mop, .ref marg, .int m_codes, .ref mnames, .ref mhasHabit, .int m_isNew, .ref mfactWords, .ref mfacts, .ref mpile, .ref mstates, .ref misMarked, .int m_inShelf, .int m_inStack, .int m_inPlace, .ref mrow, .int m_rowMany, .ref mthr, .ref mmays, .ref mtall, .ref mweights, .ref mrowOfWare, .ref mneededOf, .int m_goShelf, .int m_goStack, .int m_goLeft, .ref mtried, .ref mbestRow, .int m_bestCost, .int m_bestMany, .int m_bestShelf, .int m_bestSet, .ref mdigits])), (msort, .inl (cyI, 1002, .inl m_sort)), (mplace, .inl (cyI, 1002, .inl m_place)), (mvalue, .inl (cyJ, 1002, .inr (.inl m_value))), (mwords, .inl (cyJ, 23, .inr (.inl m_words)))]) C 1 2 rfl rfl (i_nn (by omega)) rfl (i_lt_n (by omega) (by omega)) dX11_readShelf_105 (by rw [ef_20]; rfl) ?_
    refine j_aload_n (pc := 106) C dX11_readShelf_106 rfl 3 rfl ?_
    refine j_get (pc := 107) (ci := 11) (v := .ref mtold) C inw_11 2 rfl rfl 10 (by decide) wd_669 rfl rfl dX11_readShelf_107 ?_
    refine j_bipush (pc := 110) (v := 121) C dX11_readShelf_110 (by decide) ?_
    refine j_dup2 (pc := 112) C dX11_readShelf_112 rfl rfl ?_
    obtain ⟨v_21, ev_21⟩ : ∃ z, f_18 121 = z := ⟨_, rfl⟩
    have qv_21 : v_21 = v_1 := by rw [← ev_21]; exact (by rw [ef_18, pk_un (show ¬ 121 = (v_15).toInt.toNat from (by omega))]; exact (by rw [ef_14, pk_un (show ¬ 121 = (v_11).toInt.toNat from (by omega))]; exact (by rw [ef_10, pk_un (show ¬ 121 = (v_7).toInt.toNat from (by omega))]; exact ev_1)))
    have env_21 : v_21.toInt = (v_1).toInt := by rw [qv_21]
    refine j_iald (pc := 113) (v := v_21) (k := 121) C 0 1 rfl rfl (by decide) (by decide) (by decide) ev_21 dX11_readShelf_113 ?_
    refine j_iconst (pc := 114) (v := 1) C dX11_readShelf_114 (by decide) ?_
    obtain ⟨v_22, ev_22⟩ : ∃ z : Int32, v_21 + 1 = z := ⟨_, rfl⟩
    have el_1 : (1 : Int32).toInt = 1 := rfl
    have hv_22 : v_22.toInt = v_21.toInt + (1 : Int32).toInt := by rw [← ev_22]; exact fb_addI (by omega) (by omega)
    refine j_iadd (pc := 115) (v := v_22) C dX11_readShelf_115 ev_22 ?_
    obtain ⟨f_23, ef_23⟩ : ∃ z, z = upd f_18 121 v_22 := ⟨_, rfl⟩
    have hf_23 : TV f_23 := by rw [ef_23]; exact TV.upd hf_18 (by omega) (show _ ≤ (4 : Int) from (by omega))
    refine j_iast (pc := 116) (k := 121) (ws' := [(mtold, .inl (cyI, 240, .inl f_23)), (mnames, .inl (cyJ, 16, .inr (.inl f_20))), (m0, .inr (11, [.int m_thrown, .ref mtape, .int m_taped, .int m_size, .ref msort, .ref mplace, .ref mvalue, .int (u_16.2.1 1), .int (u_16.2.1 2), .ref mwords, .ref mtold, .ref mop, .ref marg, .int m_codes, .ref mnames, .ref mhasHabit, .int m_isNew, .ref mfactWords, .ref mfacts, .ref mpile, .ref mstates, .ref misMarked, .int m_inShelf, .int m_inStack, .int m_inPlace, .ref mrow, .int m_rowMany, .ref mthr, .ref mmays, .ref mtall, .ref mweights, .ref mrowOfWare, .ref mneededOf, .int m_goShelf, .int m_goStack, .int m_goLeft, .ref mtried, .ref mbestRow, .int m_bestCost, .int m_bestMany, .int m_bestShelf, .int m_bestSet, .ref mdigits])), (msort, .inl (cyI, 1002, .inl m_sort)), (mplace, .inl (cyI, 1002, .inl m_place)), (mvalue, .inl (cyJ, 1002, .inr (.inl m_value))), (mwords, .inl (cyJ, 23, .inr (.inl m_words)))]) C 0 1 rfl rfl (by decide) (by decide) (by decide) dX11_readShelf_116 (by rw [ef_23]; rfl) ?_
    exact j_vret (pc := 117) C hr hk (fun i => [].getD i 0, fun i => [(u_16.2.1 1), (u_16.2.1 2)].getD i 0, fun i => [f_23].getD i (fun _ => 0), fun i => [f_20].getD i (fun _ => 0)) rfl (show (0 ≤ ((u_16.2.1 1)).toInt ∧ ((u_16.2.1 1)).toInt ≤ 1000) ∧ (0 ≤ ((u_16.2.1 2)).toInt ∧ ((u_16.2.1 2)).toInt ≤ 16005) ∧ (TV f_23) ∧ ((m_at).toInt ≤ ((u_16.2.1 1)).toInt) ∧ (((u_16.2.1 1)).toInt ≤ ((eN m_sort : Nat) : Int)) ∧ ((m_fault).toInt = 0 ∨ ¬ ((u_16.2.1 2)).toInt = 0) ∧ (∀ j : Nat, (j < 120 ∨ j = 122 ∨ 231 ≤ j) → f_23 j = m_told j) from ⟨by omega, by omega, hf_23, by omega, by omega, by omega, (fun j hj => by rw [ef_23, pk_un (show ¬ j = 121 from (by omega)), ef_18, pk_un (show ¬ j = (v_15).toInt.toNat from (by omega)), ef_14, pk_un (show ¬ j = (v_11).toInt.toNat from (by omega)), ef_10, pk_un (show ¬ j = (v_7).toInt.toNat from (by omega))])⟩) [2, 3, 4, 5, 6, 0, 1] (by decide) rfl (by decide) (by decide) dX11_readShelf_117
  · skip
    have el_4 : (4 : Int32).toInt = 4 := rfl
    rw [i_eq] at c_2
    refine j_aload_n (pc := 13) C dX11_readShelf_13 rfl 1 rfl ?_
    refine j_iconst (pc := 14) (v := 5) C dX11_readShelf_14 (by decide) ?_
    refine j_callV (pc := 15) (As := [.int 5]) (rest := []) (wr := [(msort, .inl (cyI, 1002, .inl m_sort)), (mvalue, .inl (cyJ, 1002, .inr (.inl m_value))), (mwords, .inl (cyJ, 23, .inr (.inl m_words))), (mtold, .inl (cyI, 240, .inl m_told)), (mnames, .inl (cyJ, 16, .inr (.inl m_names)))]) C (c_X11_wrong l D cyC cyI cyJ cyZ cyO m0 mplace mtape msort mvalue mwords mtold mop marg mnames mhasHabit mfactWords mfacts mpile mstates misMarked mrow mthr mmays mtall mweights mrowOfWare mneededOf mtried mbestRow mdigits 5 m_thrown m_taped m_size m_at m_fault m_codes m_isNew m_inShelf m_inStack m_inPlace m_rowMany m_goShelf m_goStack m_goLeft m_bestCost m_bestMany m_bestShelf m_bestSet m_place (by omega) (by omega) (by omega) (by omega) (by omega) (by omega) (by omega) (by omega) (by omega) (by omega) (by omega) (by omega) (by omega) (by decide) h_m_place) wd_657 wd_624 wd_658 wd_659 wd_660 ⟨by decide, by decide, rfl⟩ rfl ⟨rfl, rfl, by decide, by decide⟩ ⟨by decide, by decide⟩ [0, 2] [1, 3, 4, 5, 6] rfl rfl ⟨by decide, by decide, by decide⟩ 0 rfl rfl rfl (Nat.le_of_ble_eq_true rfl) dX11_readShelf_15 (fun u_24 hw_25 => ?_)
    refine j_eq (ws2 := [(msort, .inl (cyI, 1002, .inl m_sort)), (mvalue, .inl (cyJ, 1002, .inr (.inl m_value))), (mwords, .inl (cyJ, 23, .inr (.inl m_words))), (mtold, .inl (cyI, 240, .inl m_told)), (mnames, .inl (cyJ, 16, .inr (.inl m_names))), (m0, .inr (11, [.int m_thrown, .ref mtape, .int m_taped, .int m_size, .ref msort, .ref mplace, .ref mvalue, .int m_at, .int (u_24.2.1 0), .ref mwords, .ref mtold, .ref mop, .ref marg, .int m_codes, .ref mnames, .ref mhasHabit, .int m_isNew, .ref mfactWords, .ref mfacts, .ref mpile, .ref mstates, .ref misMarked, .int m_inShelf, .int m_inStack, .int m_inPlace, .ref mrow, .int m_rowMany, .ref mthr, .ref mmays, .ref mtall, .ref mweights, .ref mrowOfWare, .ref mneededOf, .int m_goShelf, .int m_goStack, .int m_goLeft, .ref mtried, .ref mbestRow, .int m_bestCost, .int m_bestMany, .int m_bestShelf, .int m_bestSet, .ref mdigits])), (mplace, .inl (cyI, 1002, .inl m_place))]) (pc2 := 18) (lv2 := [(1, .int v_1), (0, .ref m0)]) (st2 := []) rfl rfl rfl rfl ?_
    have hw_25_0 : 1 ≤ (u_24.2.1 0).toInt ∧ (u_24.2.1 0).toInt ≤ 16005 := hw_25
    exact j_vret (pc := 18) C hr hk (fun i => [].getD i 0, fun i => [m_at, (u_24.2.1 0)].getD i 0, fun i => [m_told].getD i (fun _ => 0), fun i => [m_names].getD i (fun _ => 0)) rfl (show (0 ≤ (m_at).toInt ∧ (m_at).toInt ≤ 1000) ∧ (0 ≤ ((u_24.2.1 0)).toInt ∧ ((u_24.2.1 0)).toInt ≤ 16005) ∧ (TV m_told) ∧ ((m_at).toInt ≤ (m_at).toInt) ∧ ((m_at).toInt ≤ ((eN m_sort : Nat) : Int)) ∧ ((m_fault).toInt = 0 ∨ ¬ ((u_24.2.1 0)).toInt = 0) ∧ (∀ j : Nat, (j < 120 ∨ j = 122 ∨ 231 ≤ j) → m_told j = m_told j) from ⟨by omega, by omega, h_m_told, by omega, by omega, by omega, (fun j hj => rfl)⟩) [5, 0, 6, 1, 2, 3, 4] (by decide) rfl (by decide) (by decide) dX11_readShelf_18
set_option maxHeartbeats 4000000 in
set_option maxRecDepth 100000 in
theorem c_X11_readOf (l : Launch) (D : DG) (cyC cyI cyJ cyZ cyO : ClassId) (m0 : Nat) (msort : Nat) (mplace : Nat) (mvalue : Nat) (mwords : Nat) (mtold : Nat) (mnames : Nat) (mhasHabit : Nat) (mtape : Nat) (mop : Nat) (marg : Nat) (mfactWords : Nat) (mfacts : Nat) (mpile : Nat) (mstates : Nat) (misMarked : Nat) (mrow : Nat) (mthr : Nat) (mmays : Nat) (mtall : Nat) (mweights : Nat) (mrowOfWare : Nat) (mneededOf : Nat) (mtried : Nat) (mbestRow : Nat) (mdigits : Nat) (p0 : Int32) (m_thrown : Int32) (m_taped : Int32) (m_size : Int32) (m_at : Int32) (m_fault : Int32) (m_codes : Int32) (m_isNew : Int32) (m_inShelf : Int32) (m_inStack : Int32) (m_inPlace : Int32) (m_rowMany : Int32) (m_goShelf : Int32) (m_goStack : Int32) (m_goLeft : Int32) (m_bestCost : Int32) (m_bestMany : Int32) (m_bestShelf : Int32) (m_bestSet : Int32) (m_sort : Nat → Int32) (m_place : Nat → Int32) (m_value : Nat → Int64) (m_words : Nat → Int64) (m_told : Nat → Int32) (m_names : Nat → Int64) (m_hasHabit : Nat → Int32) (h_m_taped : 0 ≤ (m_taped).toInt ∧ (m_taped).toInt ≤ 1000) (h_m_size : 0 ≤ (m_size).toInt ∧ (m_size).toInt ≤ 1000) (h_m_at : 0 ≤ (m_at).toInt ∧ (m_at).toInt ≤ 1000) (h_m_fault : 0 ≤ (m_fault).toInt ∧ (m_fault).toInt ≤ 16005) (h_m_codes : 0 ≤ (m_codes).toInt ∧ (m_codes).toInt ≤ 1000) (h_m_isNew : 0 ≤ (m_isNew).toInt ∧ (m_isNew).toInt ≤ 1) (h_m_inShelf : 0 ≤ (m_inShelf).toInt ∧ (m_inShelf).toInt ≤ 3) (h_m_inStack : 0 ≤ (m_inStack).toInt ∧ (m_inStack).toInt ≤ 7) (h_m_inPlace : 0 ≤ (m_inPlace).toInt ∧ (m_inPlace).toInt ≤ 11) (h_m_rowMany : 0 ≤ (m_rowMany).toInt ∧ (m_rowMany).toInt ≤ 12) (h_m_goShelf : -1 ≤ (m_goShelf).toInt ∧ (m_goShelf).toInt ≤ 3) (h_m_bestMany : 0 ≤ (m_bestMany).toInt ∧ (m_bestMany).toInt ≤ 7) (h_m_bestShelf : 0 ≤ (m_bestShelf).toInt ∧ (m_bestShelf).toInt ≤ 3) (h_m_place : Iv 1002 (0) (1000) m_place) (h_m_told : TV m_told) (hN1 : eN m_sort ≤ 1000) (hN2 : (m_at).toInt ≤ ((eN m_sort : Nat) : Int)) : KK l D (TY cyC cyI cyJ cyZ cyO) yX11_readOf cX11_readOf 3 none ({ frames := 2, cells := 0, slots := 0, locals := 43 } : Room) 0 0 [.ref m0, .int p0] [(m0, .inr (11, [.int m_thrown, .ref mtape, .int m_taped, .int m_size, .ref msort, .ref mplace, .ref mvalue, .int m_at, .int m_fault, .ref mwords, .ref mtold, .ref mop, .ref marg, .int m_codes, .ref mnames, .ref mhasHabit, .int m_isNew, .ref mfactWords, .ref mfacts, .ref mpile, .ref mstates, .ref misMarked, .int m_inShelf, .int m_inStack, .int m_inPlace, .ref mrow, .int m_rowMany, .ref mthr, .ref mmays, .ref mtall, .ref mweights, .ref mrowOfWare, .ref mneededOf, .int m_goShelf, .int m_goStack, .int m_goLeft, .ref mtried, .ref mbestRow, .int m_bestCost, .int m_bestMany, .int m_bestShelf, .int m_bestSet, .ref mdigits])), (msort, .inl (cyI, 1002, .inl m_sort)), (mplace, .inl (cyI, 1002, .inl m_place)), (mvalue, .inl (cyJ, 1002, .inr (.inl m_value))), (mwords, .inl (cyJ, 23, .inr (.inl m_words))), (mtold, .inl (cyI, 240, .inl m_told)), (mnames, .inl (cyJ, 16, .inr (.inl m_names))), (mhasHabit, .inl (cyZ, 12, .inl m_hasHabit))] (fun u => none) (fun u => (0 ≤ (u.2.1 0).toInt ∧ (u.2.1 0).toInt ≤ 1000) ∧ (0 ≤ (u.2.1 1).toInt ∧ (u.2.1 1).toInt ≤ 16005) ∧ (TV (u.2.2.1 0)) ∧ ((m_at).toInt ≤ ((u.2.1 0)).toInt) ∧ (((u.2.1 0)).toInt ≤ ((eN m_sort : Nat) : Int)) ∧ ((m_fault).toInt = 0 ∨ ¬ ((u.2.1 1)).toInt = 0) ∧ (∀ j : Nat, (j < 120 ∨ j = 122 ∨ 231 ≤ j) → (u.2.2.1 0) j = m_told j)) (fun u => [(m0, .inr (11, [.int m_thrown, .ref mtape, .int m_taped, .int m_size, .ref msort, .ref mplace, .ref mvalue, .int (u.2.1 0), .int (u.2.1 1), .ref mwords, .ref mtold, .ref mop, .ref marg, .int m_codes, .ref mnames, .ref mhasHabit, .int m_isNew, .ref mfactWords, .ref mfacts, .ref mpile, .ref mstates, .ref misMarked, .int m_inShelf, .int m_inStack, .int m_inPlace, .ref mrow, .int m_rowMany, .ref mthr, .ref mmays, .ref mtall, .ref mweights, .ref mrowOfWare, .ref mneededOf, .int m_goShelf, .int m_goStack, .int m_goLeft, .ref mtried, .ref mbestRow, .int m_bestCost, .int m_bestMany, .int m_bestShelf, .int m_bestSet, .ref mdigits])), (msort, .inl (cyI, 1002, .inl m_sort)), (mplace, .inl (cyI, 1002, .inl m_place)), (mvalue, .inl (cyJ, 1002, .inr (.inl m_value))), (mwords, .inl (cyJ, 23, .inr (.inl m_words))), (mtold, .inl (cyI, 240, .inl (u.2.2.1 0))), (mnames, .inl (cyJ, 16, .inr (.inl m_names))), (mhasHabit, .inl (cyZ, 12, .inl (u.2.2.1 1)))]) := by
  refine KK.of (lv0 := [(0, .ref m0), (1, .int p0)]) (by decide) rfl (Nat.le_of_ble_eq_true rfl) ?_
  intro p e s m args below meth c A C hr hk hin
  refine j_aload_n (pc := 0) C dX11_readOf_0 rfl 0 rfl ?_
  refine j_callV (pc := 1) (As := []) (rest := []) (wr := [(mplace, .inl (cyI, 1002, .inl m_place)), (mtold, .inl (cyI, 240, .inl m_told)), (mnames, .inl (cyJ, 16, .inr (.inl m_names))), (mhasHabit, .inl (cyZ, 12, .inl m_hasHabit))]) C (c_X11_isName l D cyC cyI cyJ cyZ cyO m0 msort mvalue mwords mtape mplace mtold mop marg mnames mhasHabit mfactWords mfacts mpile mstates misMarked mrow mthr mmays mtall mweights mrowOfWare mneededOf mtried mbestRow mdigits m_thrown m_taped m_size m_at m_fault m_codes m_isNew m_inShelf m_inStack m_inPlace m_rowMany m_goShelf m_goStack m_goLeft m_bestCost m_bestMany m_bestShelf m_bestSet m_sort m_value m_words (by omega) (by omega) (by omega) (by omega) (by omega) (by omega) (by omega) (by omega) (by omega) (by omega) (by omega) (by omega) (by omega) (by omega) (by omega)) wd_671 wd_624 wd_672 wd_673 wd_674 ⟨by decide, by decide, rfl⟩ rfl ⟨rfl, rfl, by decide, by decide⟩ ⟨by decide, by decide⟩ [0, 1, 3, 4] [2, 5, 6, 7] rfl rfl ⟨by decide, by decide, by decide⟩ 0 rfl rfl rfl (Nat.le_of_ble_eq_true rfl) dX11_readOf_1 (fun u_1 hw_2 => ?_)
  refine j_eq (ws2 := [(mplace, .inl (cyI, 1002, .inl m_place)), (mtold, .inl (cyI, 240, .inl m_told)), (mnames, .inl (cyJ, 16, .inr (.inl m_names))), (mhasHabit, .inl (cyZ, 12, .inl m_hasHabit)), (m0, .inr (11, [.int m_thrown, .ref mtape, .int m_taped, .int m_size, .ref msort, .ref mplace, .ref mvalue, .int m_at, .int m_fault, .ref mwords, .ref mtold, .ref mop, .ref marg, .int m_codes, .ref mnames, .ref mhasHabit, .int m_isNew, .ref mfactWords, .ref mfacts, .ref mpile, .ref mstates, .ref misMarked, .int m_inShelf, .int m_inStack, .int m_inPlace, .ref mrow, .int m_rowMany, .ref mthr, .ref mmays, .ref mtall, .ref mweights, .ref mrowOfWare, .ref mneededOf, .int m_goShelf, .int m_goStack, .int m_goLeft, .ref mtried, .ref mbestRow, .int m_bestCost, .int m_bestMany, .int m_bestShelf, .int m_bestSet, .ref mdigits])), (msort, .inl (cyI, 1002, .inl m_sort)), (mvalue, .inl (cyJ, 1002, .inr (.inl m_value))), (mwords, .inl (cyJ, 23, .inr (.inl m_words)))]) (pc2 := 4) (lv2 := [(0, .ref m0), (1, .int p0)]) (st2 := [.int (u_1.2.1 0)]) rfl rfl rfl rfl ?_
  obtain ⟨hw_2_0, hw_2_1⟩ := hw_2
  refine j_if_eq (pc := 4) (tgt := 23) C dX11_readOf_4 (by decide) (fun c_3 => ?_) (fun c_3 => ?_)
  · skip
    have el_0 : (0 : Int32).toInt = 0 := rfl
    rw [i_eq] at c_3
    refine j_iconst (pc := 23) (v := (-1)) C dX11_readOf_23 (by decide) ?_
    refine j_istore_n (pc := 24) (lv' := [(2, .int (-1)), (0, .ref m0), (1, .int p0)]) C dX11_readOf_24 rfl (by decide) rfl ?_
    refine j_aload_n (pc := 25) C dX11_readOf_25 rfl 1 rfl ?_
    refine j_callV (pc := 26) (As := []) (rest := []) (wr := [(mplace, .inl (cyI, 1002, .inl m_place)), (mtold, .inl (cyI, 240, .inl m_told)), (mnames, .inl (cyJ, 16, .inr (.inl m_names))), (mhasHabit, .inl (cyZ, 12, .inl m_hasHabit))]) C (c_X11_isName l D cyC cyI cyJ cyZ cyO m0 msort mvalue mwords mtape mplace mtold mop marg mnames mhasHabit mfactWords mfacts mpile mstates misMarked mrow mthr mmays mtall mweights mrowOfWare mneededOf mtried mbestRow mdigits m_thrown m_taped m_size m_at m_fault m_codes m_isNew m_inShelf m_inStack m_inPlace m_rowMany m_goShelf m_goStack m_goLeft m_bestCost m_bestMany m_bestShelf m_bestSet m_sort m_value m_words (by omega) (by omega) (by omega) (by omega) (by omega) (by omega) (by omega) (by omega) (by omega) (by omega) (by omega) (by omega) (by omega) (by omega) (by omega)) wd_671 wd_624 wd_672 wd_673 wd_674 ⟨by decide, by decide, rfl⟩ rfl ⟨rfl, rfl, by decide, by decide⟩ ⟨by decide, by decide⟩ [4, 5, 6, 7] [0, 1, 2, 3] rfl rfl ⟨by decide, by decide, by decide⟩ 4 rfl rfl rfl (Nat.le_of_ble_eq_true rfl) dX11_readOf_26 (fun u_4 hw_5 => ?_)
    refine j_eq (ws2 := [(mplace, .inl (cyI, 1002, .inl m_place)), (mtold, .inl (cyI, 240, .inl m_told)), (mnames, .inl (cyJ, 16, .inr (.inl m_names))), (mhasHabit, .inl (cyZ, 12, .inl m_hasHabit)), (m0, .inr (11, [.int m_thrown, .ref mtape, .int m_taped, .int m_size, .ref msort, .ref mplace, .ref mvalue, .int m_at, .int m_fault, .ref mwords, .ref mtold, .ref mop, .ref marg, .int m_codes, .ref mnames, .ref mhasHabit, .int m_isNew, .ref mfactWords, .ref mfacts, .ref mpile, .ref mstates, .ref misMarked, .int m_inShelf, .int m_inStack, .int m_inPlace, .ref mrow, .int m_rowMany, .ref mthr, .ref mmays, .ref mtall, .ref mweights, .ref mrowOfWare, .ref mneededOf, .int m_goShelf, .int m_goStack, .int m_goLeft, .ref mtried, .ref mbestRow, .int m_bestCost, .int m_bestMany, .int m_bestShelf, .int m_bestSet, .ref mdigits])), (msort, .inl (cyI, 1002, .inl m_sort)), (mvalue, .inl (cyJ, 1002, .inr (.inl m_value))), (mwords, .inl (cyJ, 23, .inr (.inl m_words)))]) (pc2 := 29) (lv2 := [(2, .int (-1)), (0, .ref m0), (1, .int p0)]) (st2 := [.int (u_4.2.1 0)]) rfl rfl rfl rfl ?_
    obtain ⟨hw_5_0, hw_5_1⟩ := hw_5
    refine j_if_ne (pc := 29) (tgt := 40) C dX11_readOf_29 (by decide) (fun c_6 => ?_) (fun c_6 => ?_)
    · skip
      have el_0 : (0 : Int32).toInt = 0 := rfl
      rw [i_eq] at c_6
      refine j_iload_n (pc := 40) C dX11_readOf_40 rfl 0 rfl ?_
      refine j_if_lt_t (pc := 41) (tgt := 50) C dX11_readOf_41 (by decide) (by decide) ?_
      refine j_aload_n (pc := 50) C dX11_readOf_50 rfl 1 rfl ?_
      refine j_iconst (pc := 51) (v := 2) C dX11_readOf_51 (by decide) ?_
      refine j_callV (pc := 52) (As := [.int 2]) (rest := []) (wr := [(mtold, .inl (cyI, 240, .inl m_told)), (mnames, .inl (cyJ, 16, .inr (.inl m_names))), (mhasHabit, .inl (cyZ, 12, .inl m_hasHabit)), (msort, .inl (cyI, 1002, .inl m_sort)), (mvalue, .inl (cyJ, 1002, .inr (.inl m_value))), (mwords, .inl (cyJ, 23, .inr (.inl m_words)))]) C (c_X11_wrong l D cyC cyI cyJ cyZ cyO m0 mplace mtape msort mvalue mwords mtold mop marg mnames mhasHabit mfactWords mfacts mpile mstates misMarked mrow mthr mmays mtall mweights mrowOfWare mneededOf mtried mbestRow mdigits 2 m_thrown m_taped m_size m_at m_fault m_codes m_isNew m_inShelf m_inStack m_inPlace m_rowMany m_goShelf m_goStack m_goLeft m_bestCost m_bestMany m_bestShelf m_bestSet m_place (by omega) (by omega) (by omega) (by omega) (by omega) (by omega) (by omega) (by omega) (by omega) (by omega) (by omega) (by omega) (by omega) (by decide) h_m_place) wd_657 wd_624 wd_658 wd_659 wd_660 ⟨by decide, by decide, rfl⟩ rfl ⟨rfl, rfl, by decide, by decide⟩ ⟨by decide, by decide⟩ [4, 0] [1, 2, 3, 5, 6, 7] rfl rfl ⟨by decide, by decide, by decide⟩ 4 rfl rfl rfl (Nat.le_of_ble_eq_true rfl) dX11_readOf_52 (fun u_7 hw_8 => ?_)
      refine j_eq (ws2 := [(mtold, .inl (cyI, 240, .inl m_told)), (mnames, .inl (cyJ, 16, .inr (.inl m_names))), (mhasHabit, .inl (cyZ, 12, .inl m_hasHabit)), (msort, .inl (cyI, 1002, .inl m_sort)), (mvalue, .inl (cyJ, 1002, .inr (.inl m_value))), (mwords, .inl (cyJ, 23, .inr (.inl m_words))), (m0, .inr (11, [.int m_thrown, .ref mtape, .int m_taped, .int m_size, .ref msort, .ref mplace, .ref mvalue, .int m_at, .int (u_7.2.1 0), .ref mwords, .ref mtold, .ref mop, .ref marg, .int m_codes, .ref mnames, .ref mhasHabit, .int m_isNew, .ref mfactWords, .ref mfacts, .ref mpile, .ref mstates, .ref misMarked, .int m_inShelf, .int m_inStack, .int m_inPlace, .ref mrow, .int m_rowMany, .ref mthr, .ref mmays, .ref mtall, .ref mweights, .ref mrowOfWare, .ref mneededOf, .int m_goShelf, .int m_goStack, .int m_goLeft, .ref mtried, .ref mbestRow, .int m_bestCost, .int m_bestMany, .int m_bestShelf, .int m_bestSet, .ref mdigits])), (mplace, .inl (cyI, 1002, .inl m_place))]) (pc2 := 55) (lv2 := [(2, .int (-1)), (0, .ref m0), (1, .int p0)]) (st2 := []) rfl rfl rfl rfl ?_
      have hw_8_0 : 1 ≤ (u_7.2.1 0).toInt ∧ (u_7.2.1 0).toInt ≤ 16005 := hw_8
      refine j_goto (pc := 55) (tgt := 99) C dX11_readOf_55 (by decide) ?_
      refine j_aload_n (pc := 99) C dX11_readOf_99 rfl 1 rfl ?_
      refine j_get (pc := 100) (ci := 11) (v := .int (u_7.2.1 0)) C inw_11 6 rfl rfl 8 (by decide) wd_638 rfl rfl dX11_readOf_100 ?_
      have el_0 : (0 : Int32).toInt = 0 := rfl
      refine j_if_le_f (pc := 103) (tgt := 107) C dX11_readOf_103 (by decide) (by rw [i_le]; omega) ?_
      exact j_vret (pc := 106) C hr hk (fun i => [].getD i 0, fun i => [m_at, (u_7.2.1 0)].getD i 0, fun i => [m_told, m_hasHabit].getD i (fun _ => 0), fun i => [].getD i (fun _ => 0)) rfl (show (0 ≤ (m_at).toInt ∧ (m_at).toInt ≤ 1000) ∧ (0 ≤ ((u_7.2.1 0)).toInt ∧ ((u_7.2.1 0)).toInt ≤ 16005) ∧ (TV m_told) ∧ ((m_at).toInt ≤ (m_at).toInt) ∧ ((m_at).toInt ≤ ((eN m_sort : Nat) : Int)) ∧ ((m_fault).toInt = 0 ∨ ¬ ((u_7.2.1 0)).toInt = 0) ∧ (∀ j : Nat, (j < 120 ∨ j = 122 ∨ 231 ≤ j) → m_told j = m_told j) from ⟨by omega, by omega, h_m_told, by omega, by omega, by omega, (fun j hj => rfl)⟩) [6, 3, 7, 4, 5, 0, 1, 2] (by decide) rfl (by decide) (by decide) dX11_readOf_106
    · skip
      have el_0 : (0 : Int32).toInt = 0 := rfl
      rw [i_eq] at c_6
      refine j_aload_n (pc := 32) C dX11_readOf_32 rfl 1 rfl ?_
      refine j_iconst (pc := 33) (v := 1) C dX11_readOf_33 (by decide) ?_
      refine j_callV (pc := 34) (As := [.int 1]) (rest := []) (wr := [(mtold, .inl (cyI, 240, .inl m_told)), (mnames, .inl (cyJ, 16, .inr (.inl m_names))), (mhasHabit, .inl (cyZ, 12, .inl m_hasHabit)), (msort, .inl (cyI, 1002, .inl m_sort)), (mvalue, .inl (cyJ, 1002, .inr (.inl m_value))), (mwords, .inl (cyJ, 23, .inr (.inl m_words)))]) C (c_X11_wrong l D cyC cyI cyJ cyZ cyO m0 mplace mtape msort mvalue mwords mtold mop marg mnames mhasHabit mfactWords mfacts mpile mstates misMarked mrow mthr mmays mtall mweights mrowOfWare mneededOf mtried mbestRow mdigits 1 m_thrown m_taped m_size m_at m_fault m_codes m_isNew m_inShelf m_inStack m_inPlace m_rowMany m_goShelf m_goStack m_goLeft m_bestCost m_bestMany m_bestShelf m_bestSet m_place (by omega) (by omega) (by omega) (by omega) (by omega) (by omega) (by omega) (by omega) (by omega) (by omega) (by omega) (by omega) (by omega) (by decide) h_m_place) wd_657 wd_624 wd_658 wd_659 wd_660 ⟨by decide, by decide, rfl⟩ rfl ⟨rfl, rfl, by decide, by decide⟩ ⟨by decide, by decide⟩ [4, 0] [1, 2, 3, 5, 6, 7] rfl rfl ⟨by decide, by decide, by decide⟩ 4 rfl rfl rfl (Nat.le_of_ble_eq_true rfl) dX11_readOf_34 (fun u_9 hw_10 => ?_)
      refine j_eq (ws2 := [(mtold, .inl (cyI, 240, .inl m_told)), (mnames, .inl (cyJ, 16, .inr (.inl m_names))), (mhasHabit, .inl (cyZ, 12, .inl m_hasHabit)), (msort, .inl (cyI, 1002, .inl m_sort)), (mvalue, .inl (cyJ, 1002, .inr (.inl m_value))), (mwords, .inl (cyJ, 23, .inr (.inl m_words))), (m0, .inr (11, [.int m_thrown, .ref mtape, .int m_taped, .int m_size, .ref msort, .ref mplace, .ref mvalue, .int m_at, .int (u_9.2.1 0), .ref mwords, .ref mtold, .ref mop, .ref marg, .int m_codes, .ref mnames, .ref mhasHabit, .int m_isNew, .ref mfactWords, .ref mfacts, .ref mpile, .ref mstates, .ref misMarked, .int m_inShelf, .int m_inStack, .int m_inPlace, .ref mrow, .int m_rowMany, .ref mthr, .ref mmays, .ref mtall, .ref mweights, .ref mrowOfWare, .ref mneededOf, .int m_goShelf, .int m_goStack, .int m_goLeft, .ref mtried, .ref mbestRow, .int m_bestCost, .int m_bestMany, .int m_bestShelf, .int m_bestSet, .ref mdigits])), (mplace, .inl (cyI, 1002, .inl m_place))]) (pc2 := 37) (lv2 := [(2, .int (-1)), (0, .ref m0), (1, .int p0)]) (st2 := []) rfl rfl rfl rfl ?_
      have hw_10_0 : 1 ≤ (u_9.2.1 0).toInt ∧ (u_9.2.1 0).toInt ≤ 16005 := hw_10
      refine j_goto (pc := 37) (tgt := 99) C dX11_readOf_37 (by decide) ?_
      refine j_aload_n (pc := 99) C dX11_readOf_99 rfl 1 rfl ?_
      refine j_get (pc := 100) (ci := 11) (v := .int (u_9.2.1 0)) C inw_11 6 rfl rfl 8 (by decide) wd_638 rfl rfl dX11_readOf_100 ?_
      have el_0 : (0 : Int32).toInt = 0 := rfl
      refine j_if_le_f (pc := 103) (tgt := 107) C dX11_readOf_103 (by decide) (by rw [i_le]; omega) ?_
      exact j_vret (pc := 106) C hr hk (fun i => [].getD i 0, fun i => [m_at, (u_9.2.1 0)].getD i 0, fun i => [m_told, m_hasHabit].getD i (fun _ => 0), fun i => [].getD i (fun _ => 0)) rfl (show (0 ≤ (m_at).toInt ∧ (m_at).toInt ≤ 1000) ∧ (0 ≤ ((u_9.2.1 0)).toInt ∧ ((u_9.2.1 0)).toInt ≤ 16005) ∧ (TV m_told) ∧ ((m_at).toInt ≤ (m_at).toInt) ∧ ((m_at).toInt ≤ ((eN m_sort : Nat) : Int)) ∧ ((m_fault).toInt = 0 ∨ ¬ ((u_9.2.1 0)).toInt = 0) ∧ (∀ j : Nat, (j < 120 ∨ j = 122 ∨ 231 ≤ j) → m_told j = m_told j) from ⟨by omega, by omega, h_m_told, by omega, by omega, by omega, (fun j hj => rfl)⟩) [6, 3, 7, 4, 5, 0, 1, 2] (by decide) rfl (by decide) (by decide) dX11_readOf_106
  · skip
    have el_0 : (0 : Int32).toInt = 0 := rfl
    rw [i_eq] at c_3
    refine j_aload_n (pc := 7) C dX11_readOf_7 rfl 0 rfl ?_
    refine j_aload_n (pc := 8) C dX11_readOf_8 rfl 0 rfl ?_
    refine j_get (pc := 9) (ci := 11) (v := .ref mvalue) C inw_11 4 rfl rfl 6 (by decide) wd_645 rfl rfl dX11_readOf_9 ?_
    refine j_aload_n (pc := 12) C dX11_readOf_12 rfl 0 rfl ?_
    refine j_get (pc := 13) (ci := 11) (v := .int m_at) C inw_11 4 rfl rfl 7 (by decide) wd_637 rfl rfl dX11_readOf_13 ?_
    obtain ⟨v_11, ev_11⟩ : ∃ z, m_value (m_at).toInt.toNat = z := ⟨_, rfl⟩
    refine j_lald (pc := 16) (v := v_11) (k := (m_at).toInt.toNat) C 6 2 rfl rfl (i_nn (by omega)) rfl (i_lt_n (by omega) (by omega)) ev_11 dX11_readOf_16 ?_
    refine j_callV (pc := 17) (As := [.long v_11]) (rest := []) (wr := [(mplace, .inl (cyI, 1002, .inl m_place)), (mhasHabit, .inl (cyZ, 12, .inl m_hasHabit)), (msort, .inl (cyI, 1002, .inl m_sort)), (mvalue, .inl (cyJ, 1002, .inr (.inl m_value))), (mwords, .inl (cyJ, 23, .inr (.inl m_words)))]) C (c_X11_nameOf l D cyC cyI cyJ cyZ cyO m0 mtold mnames mtape msort mplace mvalue mwords mop marg mhasHabit mfactWords mfacts mpile mstates misMarked mrow mthr mmays mtall mweights mrowOfWare mneededOf mtried mbestRow mdigits m_thrown m_taped m_size m_at m_fault m_codes m_isNew m_inShelf m_inStack m_inPlace m_rowMany m_goShelf m_goStack m_goLeft m_bestCost m_bestMany m_bestShelf m_bestSet v_11 m_told m_names (by omega) (by omega) (by omega) (by omega) (by omega) (by omega) (by omega) (by omega) (by omega) (by omega) (by omega) (by omega) (by omega) h_m_told) wd_675 wd_624 wd_676 wd_677 wd_678 ⟨by decide, by decide, rfl⟩ rfl ⟨rfl, rfl, by decide, by decide⟩ ⟨by decide, by decide⟩ [4, 1, 2] [0, 3, 5, 6, 7] rfl rfl ⟨by decide, by decide, by decide⟩ 4 rfl rfl rfl (Nat.le_of_ble_eq_true rfl) dX11_readOf_17 (fun u_12 hw_13 => ?_)
    refine j_eq (ws2 := [(mplace, .inl (cyI, 1002, .inl m_place)), (mhasHabit, .inl (cyZ, 12, .inl m_hasHabit)), (msort, .inl (cyI, 1002, .inl m_sort)), (mvalue, .inl (cyJ, 1002, .inr (.inl m_value))), (mwords, .inl (cyJ, 23, .inr (.inl m_words))), (m0, .inr (11, [.int m_thrown, .ref mtape, .int m_taped, .int m_size, .ref msort, .ref mplace, .ref mvalue, .int m_at, .int m_fault, .ref mwords, .ref mtold, .ref mop, .ref marg, .int m_codes, .ref mnames, .ref mhasHabit, .int m_isNew, .ref mfactWords, .ref mfacts, .ref mpile, .ref mstates, .ref misMarked, .int m_inShelf, .int m_inStack, .int m_inPlace, .ref mrow, .int m_rowMany, .ref mthr, .ref mmays, .ref mtall, .ref mweights, .ref mrowOfWare, .ref mneededOf, .int m_goShelf, .int m_goStack, .int m_goLeft, .ref mtried, .ref mbestRow, .int m_bestCost, .int m_bestMany, .int m_bestShelf, .int m_bestSet, .ref mdigits])), (mtold, .inl (cyI, 240, .inl m_told)), (mnames, .inl (cyJ, 16, .inr (.inl m_names)))]) (pc2 := 20) (lv2 := [(0, .ref m0), (1, .int p0)]) (st2 := [.int (u_12.2.1 0)]) rfl rfl rfl rfl ?_
    have hw_13_0 : -1 ≤ (u_12.2.1 0).toInt ∧ (u_12.2.1 0).toInt ≤ 15 := hw_13
    refine j_goto (pc := 20) (tgt := 24) C dX11_readOf_20 (by decide) ?_
    refine j_istore_n (pc := 24) (lv' := [(2, .int (u_12.2.1 0)), (0, .ref m0), (1, .int p0)]) C dX11_readOf_24 rfl (by decide) rfl ?_
    refine j_aload_n (pc := 25) C dX11_readOf_25 rfl 1 rfl ?_
    refine j_callV (pc := 26) (As := []) (rest := []) (wr := [(mplace, .inl (cyI, 1002, .inl m_place)), (mhasHabit, .inl (cyZ, 12, .inl m_hasHabit)), (mtold, .inl (cyI, 240, .inl m_told)), (mnames, .inl (cyJ, 16, .inr (.inl m_names)))]) C (c_X11_isName l D cyC cyI cyJ cyZ cyO m0 msort mvalue mwords mtape mplace mtold mop marg mnames mhasHabit mfactWords mfacts mpile mstates misMarked mrow mthr mmays mtall mweights mrowOfWare mneededOf mtried mbestRow mdigits m_thrown m_taped m_size m_at m_fault m_codes m_isNew m_inShelf m_inStack m_inPlace m_rowMany m_goShelf m_goStack m_goLeft m_bestCost m_bestMany m_bestShelf m_bestSet m_sort m_value m_words (by omega) (by omega) (by omega) (by omega) (by omega) (by omega) (by omega) (by omega) (by omega) (by omega) (by omega) (by omega) (by omega) (by omega) (by omega)) wd_671 wd_624 wd_672 wd_673 wd_674 ⟨by decide, by decide, rfl⟩ rfl ⟨rfl, rfl, by decide, by decide⟩ ⟨by decide, by decide⟩ [5, 2, 3, 4] [0, 1, 6, 7] rfl rfl ⟨by decide, by decide, by decide⟩ 5 rfl rfl rfl (Nat.le_of_ble_eq_true rfl) dX11_readOf_26 (fun u_14 hw_15 => ?_)
    refine j_eq (ws2 := [(mplace, .inl (cyI, 1002, .inl m_place)), (mhasHabit, .inl (cyZ, 12, .inl m_hasHabit)), (mtold, .inl (cyI, 240, .inl m_told)), (mnames, .inl (cyJ, 16, .inr (.inl m_names))), (m0, .inr (11, [.int m_thrown, .ref mtape, .int m_taped, .int m_size, .ref msort, .ref mplace, .ref mvalue, .int m_at, .int m_fault, .ref mwords, .ref mtold, .ref mop, .ref marg, .int m_codes, .ref mnames, .ref mhasHabit, .int m_isNew, .ref mfactWords, .ref mfacts, .ref mpile, .ref mstates, .ref misMarked, .int m_inShelf, .int m_inStack, .int m_inPlace, .ref mrow, .int m_rowMany, .ref mthr, .ref mmays, .ref mtall, .ref mweights, .ref mrowOfWare, .ref mneededOf, .int m_goShelf, .int m_goStack, .int m_goLeft, .ref mtried, .ref mbestRow, .int m_bestCost, .int m_bestMany, .int m_bestShelf, .int m_bestSet, .ref mdigits])), (msort, .inl (cyI, 1002, .inl m_sort)), (mvalue, .inl (cyJ, 1002, .inr (.inl m_value))), (mwords, .inl (cyJ, 23, .inr (.inl m_words)))]) (pc2 := 29) (lv2 := [(2, .int (u_12.2.1 0)), (0, .ref m0), (1, .int p0)]) (st2 := [.int (u_14.2.1 0)]) rfl rfl rfl rfl ?_
    obtain ⟨hw_15_0, hw_15_1⟩ := hw_15
    refine j_if_ne (pc := 29) (tgt := 40) C dX11_readOf_29 (by decide) (fun c_16 => ?_) (fun c_16 => ?_)
    · skip
      have el_0 : (0 : Int32).toInt = 0 := rfl
      rw [i_eq] at c_16
      refine j_iload_n (pc := 40) C dX11_readOf_40 rfl 0 rfl ?_
      refine j_if_lt (pc := 41) (tgt := 50) C dX11_readOf_41 (by decide) (fun c_17 => ?_) (fun c_17 => ?_)
      · skip
        have el_0 : (0 : Int32).toInt = 0 := rfl
        rw [i_lt] at c_17
        refine j_aload_n (pc := 50) C dX11_readOf_50 rfl 1 rfl ?_
        refine j_iconst (pc := 51) (v := 2) C dX11_readOf_51 (by decide) ?_
        refine j_callV (pc := 52) (As := [.int 2]) (rest := []) (wr := [(mhasHabit, .inl (cyZ, 12, .inl m_hasHabit)), (mtold, .inl (cyI, 240, .inl m_told)), (mnames, .inl (cyJ, 16, .inr (.inl m_names))), (msort, .inl (cyI, 1002, .inl m_sort)), (mvalue, .inl (cyJ, 1002, .inr (.inl m_value))), (mwords, .inl (cyJ, 23, .inr (.inl m_words)))]) C (c_X11_wrong l D cyC cyI cyJ cyZ cyO m0 mplace mtape msort mvalue mwords mtold mop marg mnames mhasHabit mfactWords mfacts mpile mstates misMarked mrow mthr mmays mtall mweights mrowOfWare mneededOf mtried mbestRow mdigits 2 m_thrown m_taped m_size m_at m_fault m_codes m_isNew m_inShelf m_inStack m_inPlace m_rowMany m_goShelf m_goStack m_goLeft m_bestCost m_bestMany m_bestShelf m_bestSet m_place (by omega) (by omega) (by omega) (by omega) (by omega) (by omega) (by omega) (by omega) (by omega) (by omega) (by omega) (by omega) (by omega) (by decide) h_m_place) wd_657 wd_624 wd_658 wd_659 wd_660 ⟨by decide, by decide, rfl⟩ rfl ⟨rfl, rfl, by decide, by decide⟩ ⟨by decide, by decide⟩ [4, 0] [1, 2, 3, 5, 6, 7] rfl rfl ⟨by decide, by decide, by decide⟩ 4 rfl rfl rfl (Nat.le_of_ble_eq_true rfl) dX11_readOf_52 (fun u_18 hw_19 => ?_)
        refine j_eq (ws2 := [(mhasHabit, .inl (cyZ, 12, .inl m_hasHabit)), (mtold, .inl (cyI, 240, .inl m_told)), (mnames, .inl (cyJ, 16, .inr (.inl m_names))), (msort, .inl (cyI, 1002, .inl m_sort)), (mvalue, .inl (cyJ, 1002, .inr (.inl m_value))), (mwords, .inl (cyJ, 23, .inr (.inl m_words))), (m0, .inr (11, [.int m_thrown, .ref mtape, .int m_taped, .int m_size, .ref msort, .ref mplace, .ref mvalue, .int m_at, .int (u_18.2.1 0), .ref mwords, .ref mtold, .ref mop, .ref marg, .int m_codes, .ref mnames, .ref mhasHabit, .int m_isNew, .ref mfactWords, .ref mfacts, .ref mpile, .ref mstates, .ref misMarked, .int m_inShelf, .int m_inStack, .int m_inPlace, .ref mrow, .int m_rowMany, .ref mthr, .ref mmays, .ref mtall, .ref mweights, .ref mrowOfWare, .ref mneededOf, .int m_goShelf, .int m_goStack, .int m_goLeft, .ref mtried, .ref mbestRow, .int m_bestCost, .int m_bestMany, .int m_bestShelf, .int m_bestSet, .ref mdigits])), (mplace, .inl (cyI, 1002, .inl m_place))]) (pc2 := 55) (lv2 := [(2, .int (u_12.2.1 0)), (0, .ref m0), (1, .int p0)]) (st2 := []) rfl rfl rfl rfl ?_
        have hw_19_0 : 1 ≤ (u_18.2.1 0).toInt ∧ (u_18.2.1 0).toInt ≤ 16005 := hw_19
        refine j_goto (pc := 55) (tgt := 99) C dX11_readOf_55 (by decide) ?_
        refine j_aload_n (pc := 99) C dX11_readOf_99 rfl 1 rfl ?_
        refine j_get (pc := 100) (ci := 11) (v := .int (u_18.2.1 0)) C inw_11 6 rfl rfl 8 (by decide) wd_638 rfl rfl dX11_readOf_100 ?_
        have el_0 : (0 : Int32).toInt = 0 := rfl
        refine j_if_le_f (pc := 103) (tgt := 107) C dX11_readOf_103 (by decide) (by rw [i_le]; omega) ?_
        exact j_vret (pc := 106) C hr hk (fun i => [].getD i 0, fun i => [m_at, (u_18.2.1 0)].getD i 0, fun i => [m_told, m_hasHabit].getD i (fun _ => 0), fun i => [].getD i (fun _ => 0)) rfl (show (0 ≤ (m_at).toInt ∧ (m_at).toInt ≤ 1000) ∧ (0 ≤ ((u_18.2.1 0)).toInt ∧ ((u_18.2.1 0)).toInt ≤ 16005) ∧ (TV m_told) ∧ ((m_at).toInt ≤ (m_at).toInt) ∧ ((m_at).toInt ≤ ((eN m_sort : Nat) : Int)) ∧ ((m_fault).toInt = 0 ∨ ¬ ((u_18.2.1 0)).toInt = 0) ∧ (∀ j : Nat, (j < 120 ∨ j = 122 ∨ 231 ≤ j) → m_told j = m_told j) from ⟨by omega, by omega, h_m_told, by omega, by omega, by omega, (fun j hj => rfl)⟩) [6, 3, 7, 4, 5, 1, 2, 0] (by decide) rfl (by decide) (by decide) dX11_readOf_106
      · skip
        have el_0 : (0 : Int32).toInt = 0 := rfl
        rw [i_lt] at c_17
        refine j_iload_n (pc := 44) C dX11_readOf_44 rfl 0 rfl ?_
        refine j_bipush (pc := 45) (v := 12) C dX11_readOf_45 (by decide) ?_
        refine j_icmp_lt (pc := 47) (tgt := 58) C dX11_readOf_47 (by decide) (fun c_20 => ?_) (fun c_20 => ?_)
        · skip
          have el_12 : (12 : Int32).toInt = 12 := rfl
          rw [i_lt] at c_20
          refine j_iload_n (pc := 58) C dX11_readOf_58 rfl 2 rfl ?_
          refine j_iconst (pc := 59) (v := 3) C dX11_readOf_59 (by decide) ?_
          refine j_icmp_ne (pc := 60) (tgt := 85) C dX11_readOf_60 (by decide) (fun c_21 => ?_) (fun c_21 => ?_)
          · skip
            have el_3 : (3 : Int32).toInt = 3 := rfl
            rw [i_eq] at c_21
            refine j_aload_n (pc := 85) C dX11_readOf_85 rfl 1 rfl ?_
            refine j_get (pc := 86) (ci := 11) (v := .ref mhasHabit) C inw_11 4 rfl rfl 15 (by decide) wd_695 rfl rfl dX11_readOf_86 ?_
            refine j_iload_n (pc := 89) C dX11_readOf_89 rfl 0 rfl ?_
            obtain ⟨v_22, ev_22⟩ : ∃ z, m_hasHabit ((u_12.2.1 0)).toInt.toNat = z := ⟨_, rfl⟩
            have env_22 : (m_hasHabit ((u_12.2.1 0)).toInt.toNat).toInt = v_22.toInt := by rw [ev_22]
            refine j_zald (pc := 90) (v := v_22) (k := ((u_12.2.1 0)).toInt.toNat) C 1 3 rfl rfl (i_nn (by omega)) rfl (i_lt_n (by omega) (by omega)) ev_22 dX11_readOf_90 ?_
            refine j_if_eq (pc := 91) (tgt := 99) C dX11_readOf_91 (by decide) (fun c_23 => ?_) (fun c_23 => ?_)
            · skip
              have el_0 : (0 : Int32).toInt = 0 := rfl
              rw [i_eq] at c_23
              refine j_aload_n (pc := 99) C dX11_readOf_99 rfl 1 rfl ?_
              refine j_get (pc := 100) (ci := 11) (v := .int m_fault) C inw_11 4 rfl rfl 8 (by decide) wd_638 rfl rfl dX11_readOf_100 ?_
              refine j_if_le (pc := 103) (tgt := 107) C dX11_readOf_103 (by decide) (fun c_24 => ?_) (fun c_24 => ?_)
              · skip
                have el_0 : (0 : Int32).toInt = 0 := rfl
                rw [i_le] at c_24
                refine j_aload_n (pc := 107) C dX11_readOf_107 rfl 1 rfl ?_
                refine j_dup (pc := 108) C dX11_readOf_108 rfl ?_
                refine j_get (pc := 109) (ci := 11) (v := .int m_at) C inw_11 4 rfl rfl 7 (by decide) wd_637 rfl rfl dX11_readOf_109 ?_
                refine j_iconst (pc := 112) (v := 1) C dX11_readOf_112 (by decide) ?_
                obtain ⟨v_25, ev_25⟩ : ∃ z : Int32, m_at + 1 = z := ⟨_, rfl⟩
                have el_1 : (1 : Int32).toInt = 1 := rfl
                have hv_25 : v_25.toInt = m_at.toInt + (1 : Int32).toInt := by rw [← ev_25]; exact fb_addI (by omega) (by omega)
                refine j_iadd (pc := 113) (v := v_25) C dX11_readOf_113 ev_25 ?_
                refine j_put (pc := 114) (ci := 11) (v := .int v_25) (ws' := [(mplace, .inl (cyI, 1002, .inl m_place)), (mhasHabit, .inl (cyZ, 12, .inl m_hasHabit)), (mtold, .inl (cyI, 240, .inl m_told)), (mnames, .inl (cyJ, 16, .inr (.inl m_names))), (m0, .inr (11, [.int m_thrown, .ref mtape, .int m_taped, .int m_size, .ref msort, .ref mplace, .ref mvalue, .int v_25, .int m_fault, .ref mwords, .ref mtold, .ref mop, .ref marg, .int m_codes, .ref mnames, .ref mhasHabit, .int m_isNew, .ref mfactWords, .ref mfacts, .ref mpile, .ref mstates, .ref misMarked, .int m_inShelf, .int m_inStack, .int m_inPlace, .ref mrow, .int m_rowMany, .ref mthr, .ref mmays, .ref mtall, .ref mweights, .ref mrowOfWare, .ref mneededOf, .int m_goShelf, .int m_goStack, .int m_goLeft, .ref mtried, .ref mbestRow, .int m_bestCost, .int m_bestMany, .int m_bestShelf, .int m_bestSet, .ref mdigits])), (msort, .inl (cyI, 1002, .inl m_sort)), (mvalue, .inl (cyJ, 1002, .inr (.inl m_value))), (mwords, .inl (cyJ, 23, .inr (.inl m_words)))]) C inw_11 4 rfl rfl 7 (by decide) wd_637 rfl tyX11_ok nmX11 rfl (tyX11_ok 7 (by decide)) rfl rfl (Nat.le_of_ble_eq_true rfl) dX11_readOf_114 rfl ?_
                refine j_iload_n (pc := 117) C dX11_readOf_117 rfl 2 rfl ?_
                refine j_iconst (pc := 118) (v := 3) C dX11_readOf_118 (by decide) ?_
                refine j_icmp_ne (pc := 119) (tgt := 141) C dX11_readOf_119 (by decide) (fun c_26 => ?_) (fun c_26 => ?_)
                · skip
                  have el_3 : (3 : Int32).toInt = 3 := rfl
                  rw [i_eq] at c_26
                  refine j_aload_n (pc := 141) C dX11_readOf_141 rfl 1 rfl ?_
                  refine j_get (pc := 142) (ci := 11) (v := .ref mhasHabit) C inw_11 4 rfl rfl 15 (by decide) wd_695 rfl rfl dX11_readOf_142 ?_
                  refine j_iload_n (pc := 145) C dX11_readOf_145 rfl 0 rfl ?_
                  refine j_iconst (pc := 146) (v := 1) C dX11_readOf_146 (by decide) ?_
                  obtain ⟨f_27, ef_27⟩ : ∃ z, z = upd m_hasHabit ((u_12.2.1 0)).toInt.toNat (vp_nar .boolean 1) := ⟨_, rfl⟩
                  refine j_zast (pc := 147) (k := ((u_12.2.1 0)).toInt.toNat) (ws' := [(mplace, .inl (cyI, 1002, .inl m_place)), (mhasHabit, .inl (cyZ, 12, .inl f_27)), (mtold, .inl (cyI, 240, .inl m_told)), (mnames, .inl (cyJ, 16, .inr (.inl m_names))), (m0, .inr (11, [.int m_thrown, .ref mtape, .int m_taped, .int m_size, .ref msort, .ref mplace, .ref mvalue, .int v_25, .int m_fault, .ref mwords, .ref mtold, .ref mop, .ref marg, .int m_codes, .ref mnames, .ref mhasHabit, .int m_isNew, .ref mfactWords, .ref mfacts, .ref mpile, .ref mstates, .ref misMarked, .int m_inShelf, .int m_inStack, .int m_inPlace, .ref mrow, .int m_rowMany, .ref mthr, .ref mmays, .ref mtall, .ref mweights, .ref mrowOfWare, .ref mneededOf, .int m_goShelf, .int m_goStack, .int m_goLeft, .ref mtried, .ref mbestRow, .int m_bestCost, .int m_bestMany, .int m_bestShelf, .int m_bestSet, .ref mdigits])), (msort, .inl (cyI, 1002, .inl m_sort)), (mvalue, .inl (cyJ, 1002, .inr (.inl m_value))), (mwords, .inl (cyJ, 23, .inr (.inl m_words)))]) C 1 3 rfl rfl (i_nn (by omega)) rfl (i_lt_n (by omega) (by omega)) dX11_readOf_147 (by rw [ef_27]; rfl) ?_
                  refine j_aload_n (pc := 148) C dX11_readOf_148 rfl 1 rfl ?_
                  refine j_get (pc := 149) (ci := 11) (v := .ref mtold) C inw_11 4 rfl rfl 10 (by decide) wd_669 rfl rfl dX11_readOf_149 ?_
                  refine j_bipush (pc := 152) (v := 123) C dX11_readOf_152 (by decide) ?_
                  refine j_bipush (pc := 154) (v := 8) C dX11_readOf_154 (by decide) ?_
                  refine j_iload_n (pc := 156) C dX11_readOf_156 rfl 0 rfl ?_
                  obtain ⟨v_28, ev_28⟩ : ∃ z : Int32, 8 * (u_12.2.1 0) = z := ⟨_, rfl⟩
                  have el_8 : (8 : Int32).toInt = 8 := rfl
                  have hv_28 : v_28.toInt = 8 * ((u_12.2.1 0)).toInt := by rw [← ev_28]; exact mulL (c := 8) rfl (by omega) (by omega)
                  refine j_imul (pc := 157) (v := v_28) C dX11_readOf_157 ev_28 ?_
                  obtain ⟨v_29, ev_29⟩ : ∃ z : Int32, 123 + v_28 = z := ⟨_, rfl⟩
                  have el_123 : (123 : Int32).toInt = 123 := rfl
                  have hv_29 : v_29.toInt = (123 : Int32).toInt + v_28.toInt := by rw [← ev_29]; exact fb_addI (by omega) (by omega)
                  refine j_iadd (pc := 158) (v := v_29) C dX11_readOf_158 ev_29 ?_
                  refine j_iconst (pc := 159) (v := 5) C dX11_readOf_159 (by decide) ?_
                  obtain ⟨v_30, ev_30⟩ : ∃ z : Int32, v_29 + 5 = z := ⟨_, rfl⟩
                  have el_5 : (5 : Int32).toInt = 5 := rfl
                  have hv_30 : v_30.toInt = v_29.toInt + (5 : Int32).toInt := by rw [← ev_30]; exact fb_addI (by omega) (by omega)
                  refine j_iadd (pc := 160) (v := v_30) C dX11_readOf_160 ev_30 ?_
                  refine j_aload_n (pc := 161) C dX11_readOf_161 rfl 1 rfl ?_
                  refine j_iconst (pc := 162) (v := 0) C dX11_readOf_162 (by decide) ?_
                  refine j_bipush (pc := 163) (v := 99) C dX11_readOf_163 (by decide) ?_
                  refine j_callV (pc := 165) (As := [.int 0, .int 99]) (rest := [.int v_30, .ref mtold]) (wr := [(mhasHabit, .inl (cyZ, 12, .inl f_27)), (mtold, .inl (cyI, 240, .inl m_told)), (mnames, .inl (cyJ, 16, .inr (.inl m_names))), (mwords, .inl (cyJ, 23, .inr (.inl m_words)))]) C (c_X11_takeNumber l D cyC cyI cyJ cyZ cyO m0 msort mplace mvalue mtape mwords mtold mop marg mnames mhasHabit mfactWords mfacts mpile mstates misMarked mrow mthr mmays mtall mweights mrowOfWare mneededOf mtried mbestRow mdigits 0 99 m_thrown m_taped m_size v_25 m_fault m_codes m_isNew m_inShelf m_inStack m_inPlace m_rowMany m_goShelf m_goStack m_goLeft m_bestCost m_bestMany m_bestShelf m_bestSet m_sort m_place m_value (by omega) (by omega) (by omega) (by omega) (by omega) (by omega) (by omega) (by omega) (by omega) (by omega) (by omega) (by omega) (by omega) h_m_place (by omega) (by omega)) wd_683 wd_624 wd_684 wd_685 wd_686 ⟨by decide, by decide, rfl⟩ rfl ⟨rfl, rfl, by decide, by decide⟩ ⟨by decide, by decide⟩ [4, 5, 0, 6] [1, 2, 3, 7] rfl rfl ⟨by decide, by decide, by decide⟩ 4 rfl rfl rfl (Nat.le_of_ble_eq_true rfl) dX11_readOf_165 (fun u_31 hw_32 => ?_)
                  refine j_eq (ws2 := [(mhasHabit, .inl (cyZ, 12, .inl f_27)), (mtold, .inl (cyI, 240, .inl m_told)), (mnames, .inl (cyJ, 16, .inr (.inl m_names))), (mwords, .inl (cyJ, 23, .inr (.inl m_words))), (m0, .inr (11, [.int m_thrown, .ref mtape, .int m_taped, .int m_size, .ref msort, .ref mplace, .ref mvalue, .int (u_31.2.1 1), .int (u_31.2.1 2), .ref mwords, .ref mtold, .ref mop, .ref marg, .int m_codes, .ref mnames, .ref mhasHabit, .int m_isNew, .ref mfactWords, .ref mfacts, .ref mpile, .ref mstates, .ref misMarked, .int m_inShelf, .int m_inStack, .int m_inPlace, .ref mrow, .int m_rowMany, .ref mthr, .ref mmays, .ref mtall, .ref mweights, .ref mrowOfWare, .ref mneededOf, .int m_goShelf, .int m_goStack, .int m_goLeft, .ref mtried, .ref mbestRow, .int m_bestCost, .int m_bestMany, .int m_bestShelf, .int m_bestSet, .ref mdigits])), (msort, .inl (cyI, 1002, .inl m_sort)), (mplace, .inl (cyI, 1002, .inl m_place)), (mvalue, .inl (cyJ, 1002, .inr (.inl m_value)))]) (pc2 := 168) (lv2 := [(2, .int (u_12.2.1 0)), (0, .ref m0), (1, .int p0)]) (st2 := [.int (u_31.2.1 0), .int v_30, .ref mtold]) rfl rfl rfl rfl ?_
                  obtain ⟨hw_32_0, hw_32_1, hw_32_2, hw_32_3, hw_32_4, hw_32_5⟩ := hw_32
                  have el_0 : (0 : Int32).toInt = 0 := rfl
                  have el_99 : (99 : Int32).toInt = 99 := rfl
                  obtain ⟨f_33, ef_33⟩ : ∃ z, z = upd m_told (v_30).toInt.toNat (u_31.2.1 0) := ⟨_, rfl⟩
                  have hf_33 : TV f_33 := by rw [ef_33]; exact TV.upd h_m_told (by omega) (Int.le_trans (show _ ≤ (999 : Int) from (by omega)) (hiT_k (by omega)))
                  refine j_iast (pc := 168) (k := (v_30).toInt.toNat) (ws' := [(mhasHabit, .inl (cyZ, 12, .inl f_27)), (mtold, .inl (cyI, 240, .inl f_33)), (mnames, .inl (cyJ, 16, .inr (.inl m_names))), (mwords, .inl (cyJ, 23, .inr (.inl m_words))), (m0, .inr (11, [.int m_thrown, .ref mtape, .int m_taped, .int m_size, .ref msort, .ref mplace, .ref mvalue, .int (u_31.2.1 1), .int (u_31.2.1 2), .ref mwords, .ref mtold, .ref mop, .ref marg, .int m_codes, .ref mnames, .ref mhasHabit, .int m_isNew, .ref mfactWords, .ref mfacts, .ref mpile, .ref mstates, .ref misMarked, .int m_inShelf, .int m_inStack, .int m_inPlace, .ref mrow, .int m_rowMany, .ref mthr, .ref mmays, .ref mtall, .ref mweights, .ref mrowOfWare, .ref mneededOf, .int m_goShelf, .int m_goStack, .int m_goLeft, .ref mtried, .ref mbestRow, .int m_bestCost, .int m_bestMany, .int m_bestShelf, .int m_bestSet, .ref mdigits])), (msort, .inl (cyI, 1002, .inl m_sort)), (mplace, .inl (cyI, 1002, .inl m_place)), (mvalue, .inl (cyJ, 1002, .inr (.inl m_value)))]) C 1 1 rfl rfl (i_nn (by omega)) rfl (i_lt_n (by omega) (by omega)) dX11_readOf_168 (by rw [ef_33]; rfl) ?_
                  exact j_vret (pc := 169) C hr hk (fun i => [].getD i 0, fun i => [(u_31.2.1 1), (u_31.2.1 2)].getD i 0, fun i => [f_33, f_27].getD i (fun _ => 0), fun i => [].getD i (fun _ => 0)) rfl (show (0 ≤ ((u_31.2.1 1)).toInt ∧ ((u_31.2.1 1)).toInt ≤ 1000) ∧ (0 ≤ ((u_31.2.1 2)).toInt ∧ ((u_31.2.1 2)).toInt ≤ 16005) ∧ (TV f_33) ∧ ((m_at).toInt ≤ ((u_31.2.1 1)).toInt) ∧ (((u_31.2.1 1)).toInt ≤ ((eN m_sort : Nat) : Int)) ∧ ((m_fault).toInt = 0 ∨ ¬ ((u_31.2.1 2)).toInt = 0) ∧ (∀ j : Nat, (j < 120 ∨ j = 122 ∨ 231 ≤ j) → f_33 j = m_told j) from ⟨by omega, by omega, hf_33, by omega, by omega, by omega, (fun j hj => by rw [ef_33, pk_un (show ¬ j = (v_30).toInt.toNat from (by omega))])⟩) [4, 5, 6, 7, 3, 1, 2, 0] (by decide) rfl (by decide) (by decide) dX11_readOf_169
                · skip
                  have el_3 : (3 : Int32).toInt = 3 := rfl
                  rw [i_eq] at c_26
                  refine j_aload_n (pc := 122) C dX11_readOf_122 rfl 1 rfl ?_
                  refine j_get (pc := 123) (ci := 11) (v := .ref mtold) C inw_11 4 rfl rfl 10 (by decide) wd_669 rfl rfl dX11_readOf_123 ?_
                  refine j_bipush (pc := 126) (v := 123) C dX11_readOf_126 (by decide) ?_
                  refine j_bipush (pc := 128) (v := 8) C dX11_readOf_128 (by decide) ?_
                  refine j_iload_n (pc := 130) C dX11_readOf_130 rfl 0 rfl ?_
                  obtain ⟨v_34, ev_34⟩ : ∃ z : Int32, 8 * (u_12.2.1 0) = z := ⟨_, rfl⟩
                  have el_8 : (8 : Int32).toInt = 8 := rfl
                  have hv_34 : v_34.toInt = 8 * ((u_12.2.1 0)).toInt := by rw [← ev_34]; exact mulL (c := 8) rfl (by omega) (by omega)
                  refine j_imul (pc := 131) (v := v_34) C dX11_readOf_131 ev_34 ?_
                  obtain ⟨v_35, ev_35⟩ : ∃ z : Int32, 123 + v_34 = z := ⟨_, rfl⟩
                  have el_123 : (123 : Int32).toInt = 123 := rfl
                  have hv_35 : v_35.toInt = (123 : Int32).toInt + v_34.toInt := by rw [← ev_35]; exact fb_addI (by omega) (by omega)
                  refine j_iadd (pc := 132) (v := v_35) C dX11_readOf_132 ev_35 ?_
                  refine j_bipush (pc := 133) (v := 7) C dX11_readOf_133 (by decide) ?_
                  obtain ⟨v_36, ev_36⟩ : ∃ z : Int32, v_35 + 7 = z := ⟨_, rfl⟩
                  have el_7 : (7 : Int32).toInt = 7 := rfl
                  have hv_36 : v_36.toInt = v_35.toInt + (7 : Int32).toInt := by rw [← ev_36]; exact fb_addI (by omega) (by omega)
                  refine j_iadd (pc := 135) (v := v_36) C dX11_readOf_135 ev_36 ?_
                  refine j_iconst (pc := 136) (v := 1) C dX11_readOf_136 (by decide) ?_
                  obtain ⟨f_37, ef_37⟩ : ∃ z, z = upd m_told (v_36).toInt.toNat 1 := ⟨_, rfl⟩
                  have el_1 : (1 : Int32).toInt = 1 := rfl
                  have hf_37 : TV f_37 := by rw [ef_37]; exact TV.upd h_m_told (by omega) (Int.le_trans (show _ ≤ (999 : Int) from (by omega)) (hiT_k (by omega)))
                  refine j_iast (pc := 137) (k := (v_36).toInt.toNat) (ws' := [(mplace, .inl (cyI, 1002, .inl m_place)), (mhasHabit, .inl (cyZ, 12, .inl m_hasHabit)), (mtold, .inl (cyI, 240, .inl f_37)), (mnames, .inl (cyJ, 16, .inr (.inl m_names))), (m0, .inr (11, [.int m_thrown, .ref mtape, .int m_taped, .int m_size, .ref msort, .ref mplace, .ref mvalue, .int v_25, .int m_fault, .ref mwords, .ref mtold, .ref mop, .ref marg, .int m_codes, .ref mnames, .ref mhasHabit, .int m_isNew, .ref mfactWords, .ref mfacts, .ref mpile, .ref mstates, .ref misMarked, .int m_inShelf, .int m_inStack, .int m_inPlace, .ref mrow, .int m_rowMany, .ref mthr, .ref mmays, .ref mtall, .ref mweights, .ref mrowOfWare, .ref mneededOf, .int m_goShelf, .int m_goStack, .int m_goLeft, .ref mtried, .ref mbestRow, .int m_bestCost, .int m_bestMany, .int m_bestShelf, .int m_bestSet, .ref mdigits])), (msort, .inl (cyI, 1002, .inl m_sort)), (mvalue, .inl (cyJ, 1002, .inr (.inl m_value))), (mwords, .inl (cyJ, 23, .inr (.inl m_words)))]) C 2 1 rfl rfl (i_nn (by omega)) rfl (i_lt_n (by omega) (by omega)) dX11_readOf_137 (by rw [ef_37]; rfl) ?_
                  refine j_goto (pc := 138) (tgt := 169) C dX11_readOf_138 (by decide) ?_
                  exact j_vret (pc := 169) C hr hk (fun i => [].getD i 0, fun i => [v_25, m_fault].getD i 0, fun i => [f_37, m_hasHabit].getD i (fun _ => 0), fun i => [].getD i (fun _ => 0)) rfl (show (0 ≤ (v_25).toInt ∧ (v_25).toInt ≤ 1000) ∧ (0 ≤ (m_fault).toInt ∧ (m_fault).toInt ≤ 16005) ∧ (TV f_37) ∧ ((m_at).toInt ≤ (v_25).toInt) ∧ ((v_25).toInt ≤ ((eN m_sort : Nat) : Int)) ∧ ((m_fault).toInt = 0 ∨ ¬ (m_fault).toInt = 0) ∧ (∀ j : Nat, (j < 120 ∨ j = 122 ∨ 231 ≤ j) → f_37 j = m_told j) from ⟨by omega, by omega, hf_37, by omega, by omega, by omega, (fun j hj => by rw [ef_37, pk_un (show ¬ j = (v_36).toInt.toNat from (by omega))])⟩) [4, 5, 0, 6, 7, 2, 3, 1] (by decide) rfl (by decide) (by decide) dX11_readOf_169
              · skip
                have el_0 : (0 : Int32).toInt = 0 := rfl
                rw [i_le] at c_24
                exact j_vret (pc := 106) C hr hk (fun i => [].getD i 0, fun i => [m_at, m_fault].getD i 0, fun i => [m_told, m_hasHabit].getD i (fun _ => 0), fun i => [].getD i (fun _ => 0)) rfl (show (0 ≤ (m_at).toInt ∧ (m_at).toInt ≤ 1000) ∧ (0 ≤ (m_fault).toInt ∧ (m_fault).toInt ≤ 16005) ∧ (TV m_told) ∧ ((m_at).toInt ≤ (m_at).toInt) ∧ ((m_at).toInt ≤ ((eN m_sort : Nat) : Int)) ∧ ((m_fault).toInt = 0 ∨ ¬ (m_fault).toInt = 0) ∧ (∀ j : Nat, (j < 120 ∨ j = 122 ∨ 231 ≤ j) → m_told j = m_told j) from ⟨by omega, by omega, h_m_told, by omega, by omega, by omega, (fun j hj => rfl)⟩) [4, 5, 0, 6, 7, 2, 3, 1] (by decide) rfl (by decide) (by decide) dX11_readOf_106
            · skip
              have el_0 : (0 : Int32).toInt = 0 := rfl
              rw [i_eq] at c_23
              refine j_aload_n (pc := 94) C dX11_readOf_94 rfl 1 rfl ?_
              refine j_iconst (pc := 95) (v := 3) C dX11_readOf_95 (by decide) ?_
              refine j_callV (pc := 96) (As := [.int 3]) (rest := []) (wr := [(mhasHabit, .inl (cyZ, 12, .inl m_hasHabit)), (mtold, .inl (cyI, 240, .inl m_told)), (mnames, .inl (cyJ, 16, .inr (.inl m_names))), (msort, .inl (cyI, 1002, .inl m_sort)), (mvalue, .inl (cyJ, 1002, .inr (.inl m_value))), (mwords, .inl (cyJ, 23, .inr (.inl m_words)))]) C (c_X11_wrong l D cyC cyI cyJ cyZ cyO m0 mplace mtape msort mvalue mwords mtold mop marg mnames mhasHabit mfactWords mfacts mpile mstates misMarked mrow mthr mmays mtall mweights mrowOfWare mneededOf mtried mbestRow mdigits 3 m_thrown m_taped m_size m_at m_fault m_codes m_isNew m_inShelf m_inStack m_inPlace m_rowMany m_goShelf m_goStack m_goLeft m_bestCost m_bestMany m_bestShelf m_bestSet m_place (by omega) (by omega) (by omega) (by omega) (by omega) (by omega) (by omega) (by omega) (by omega) (by omega) (by omega) (by omega) (by omega) (by decide) h_m_place) wd_657 wd_624 wd_658 wd_659 wd_660 ⟨by decide, by decide, rfl⟩ rfl ⟨rfl, rfl, by decide, by decide⟩ ⟨by decide, by decide⟩ [4, 0] [1, 2, 3, 5, 6, 7] rfl rfl ⟨by decide, by decide, by decide⟩ 4 rfl rfl rfl (Nat.le_of_ble_eq_true rfl) dX11_readOf_96 (fun u_38 hw_39 => ?_)
              refine j_eq (ws2 := [(mhasHabit, .inl (cyZ, 12, .inl m_hasHabit)), (mtold, .inl (cyI, 240, .inl m_told)), (mnames, .inl (cyJ, 16, .inr (.inl m_names))), (msort, .inl (cyI, 1002, .inl m_sort)), (mvalue, .inl (cyJ, 1002, .inr (.inl m_value))), (mwords, .inl (cyJ, 23, .inr (.inl m_words))), (m0, .inr (11, [.int m_thrown, .ref mtape, .int m_taped, .int m_size, .ref msort, .ref mplace, .ref mvalue, .int m_at, .int (u_38.2.1 0), .ref mwords, .ref mtold, .ref mop, .ref marg, .int m_codes, .ref mnames, .ref mhasHabit, .int m_isNew, .ref mfactWords, .ref mfacts, .ref mpile, .ref mstates, .ref misMarked, .int m_inShelf, .int m_inStack, .int m_inPlace, .ref mrow, .int m_rowMany, .ref mthr, .ref mmays, .ref mtall, .ref mweights, .ref mrowOfWare, .ref mneededOf, .int m_goShelf, .int m_goStack, .int m_goLeft, .ref mtried, .ref mbestRow, .int m_bestCost, .int m_bestMany, .int m_bestShelf, .int m_bestSet, .ref mdigits])), (mplace, .inl (cyI, 1002, .inl m_place))]) (pc2 := 99) (lv2 := [(2, .int (u_12.2.1 0)), (0, .ref m0), (1, .int p0)]) (st2 := []) rfl rfl rfl rfl ?_
              have hw_39_0 : 1 ≤ (u_38.2.1 0).toInt ∧ (u_38.2.1 0).toInt ≤ 16005 := hw_39
              refine j_aload_n (pc := 99) C dX11_readOf_99 rfl 1 rfl ?_
              refine j_get (pc := 100) (ci := 11) (v := .int (u_38.2.1 0)) C inw_11 6 rfl rfl 8 (by decide) wd_638 rfl rfl dX11_readOf_100 ?_
              have el_0 : (0 : Int32).toInt = 0 := rfl
              refine j_if_le_f (pc := 103) (tgt := 107) C dX11_readOf_103 (by decide) (by rw [i_le]; omega) ?_
              exact j_vret (pc := 106) C hr hk (fun i => [].getD i 0, fun i => [m_at, (u_38.2.1 0)].getD i 0, fun i => [m_told, m_hasHabit].getD i (fun _ => 0), fun i => [].getD i (fun _ => 0)) rfl (show (0 ≤ (m_at).toInt ∧ (m_at).toInt ≤ 1000) ∧ (0 ≤ ((u_38.2.1 0)).toInt ∧ ((u_38.2.1 0)).toInt ≤ 16005) ∧ (TV m_told) ∧ ((m_at).toInt ≤ (m_at).toInt) ∧ ((m_at).toInt ≤ ((eN m_sort : Nat) : Int)) ∧ ((m_fault).toInt = 0 ∨ ¬ ((u_38.2.1 0)).toInt = 0) ∧ (∀ j : Nat, (j < 120 ∨ j = 122 ∨ 231 ≤ j) → m_told j = m_told j) from ⟨by omega, by omega, h_m_told, by omega, by omega, by omega, (fun j hj => rfl)⟩) [6, 3, 7, 4, 5, 1, 2, 0] (by decide) rfl (by decide) (by decide) dX11_readOf_106
          · skip
            have el_3 : (3 : Int32).toInt = 3 := rfl
            rw [i_eq] at c_21
            refine j_aload_n (pc := 63) C dX11_readOf_63 rfl 1 rfl ?_
            refine j_get (pc := 64) (ci := 11) (v := .ref mtold) C inw_11 4 rfl rfl 10 (by decide) wd_669 rfl rfl dX11_readOf_64 ?_
            refine j_bipush (pc := 67) (v := 123) C dX11_readOf_67 (by decide) ?_
            refine j_bipush (pc := 69) (v := 8) C dX11_readOf_69 (by decide) ?_
            refine j_iload_n (pc := 71) C dX11_readOf_71 rfl 0 rfl ?_
            obtain ⟨v_40, ev_40⟩ : ∃ z : Int32, 8 * (u_12.2.1 0) = z := ⟨_, rfl⟩
            have el_8 : (8 : Int32).toInt = 8 := rfl
            have hv_40 : v_40.toInt = 8 * ((u_12.2.1 0)).toInt := by rw [← ev_40]; exact mulL (c := 8) rfl (by omega) (by omega)
            refine j_imul (pc := 72) (v := v_40) C dX11_readOf_72 ev_40 ?_
            obtain ⟨v_41, ev_41⟩ : ∃ z : Int32, 123 + v_40 = z := ⟨_, rfl⟩
            have el_123 : (123 : Int32).toInt = 123 := rfl
            have hv_41 : v_41.toInt = (123 : Int32).toInt + v_40.toInt := by rw [← ev_41]; exact fb_addI (by omega) (by omega)
            refine j_iadd (pc := 73) (v := v_41) C dX11_readOf_73 ev_41 ?_
            refine j_bipush (pc := 74) (v := 7) C dX11_readOf_74 (by decide) ?_
            obtain ⟨v_42, ev_42⟩ : ∃ z : Int32, v_41 + 7 = z := ⟨_, rfl⟩
            have el_7 : (7 : Int32).toInt = 7 := rfl
            have hv_42 : v_42.toInt = v_41.toInt + (7 : Int32).toInt := by rw [← ev_42]; exact fb_addI (by omega) (by omega)
            refine j_iadd (pc := 76) (v := v_42) C dX11_readOf_76 ev_42 ?_
            obtain ⟨v_43, ev_43⟩ : ∃ z, m_told (v_42).toInt.toNat = z := ⟨_, rfl⟩
            have env_43 : (m_told (v_42).toInt.toNat).toInt = v_43.toInt := by rw [ev_43]
            have hv_43 : 0 ≤ v_43.toInt ∧ v_43.toInt ≤ 999 := by rw [← ev_43]; exact TV.k h_m_told (by omega) (by omega)
            refine j_iald (pc := 77) (v := v_43) (k := (v_42).toInt.toNat) C 2 1 rfl rfl (i_nn (by omega)) rfl (i_lt_n (by omega) (by omega)) ev_43 dX11_readOf_77 ?_
            refine j_iconst (pc := 78) (v := 1) C dX11_readOf_78 (by decide) ?_
            refine j_icmp_ne (pc := 79) (tgt := 99) C dX11_readOf_79 (by decide) (fun c_44 => ?_) (fun c_44 => ?_)
            · skip
              have el_1 : (1 : Int32).toInt = 1 := rfl
              rw [i_eq] at c_44
              refine j_aload_n (pc := 99) C dX11_readOf_99 rfl 1 rfl ?_
              refine j_get (pc := 100) (ci := 11) (v := .int m_fault) C inw_11 4 rfl rfl 8 (by decide) wd_638 rfl rfl dX11_readOf_100 ?_
              refine j_if_le (pc := 103) (tgt := 107) C dX11_readOf_103 (by decide) (fun c_45 => ?_) (fun c_45 => ?_)
              · skip
                have el_0 : (0 : Int32).toInt = 0 := rfl
                rw [i_le] at c_45
                refine j_aload_n (pc := 107) C dX11_readOf_107 rfl 1 rfl ?_
                refine j_dup (pc := 108) C dX11_readOf_108 rfl ?_
                refine j_get (pc := 109) (ci := 11) (v := .int m_at) C inw_11 4 rfl rfl 7 (by decide) wd_637 rfl rfl dX11_readOf_109 ?_
                refine j_iconst (pc := 112) (v := 1) C dX11_readOf_112 (by decide) ?_
                obtain ⟨v_46, ev_46⟩ : ∃ z : Int32, m_at + 1 = z := ⟨_, rfl⟩
                have el_1 : (1 : Int32).toInt = 1 := rfl
                have hv_46 : v_46.toInt = m_at.toInt + (1 : Int32).toInt := by rw [← ev_46]; exact fb_addI (by omega) (by omega)
                refine j_iadd (pc := 113) (v := v_46) C dX11_readOf_113 ev_46 ?_
                refine j_put (pc := 114) (ci := 11) (v := .int v_46) (ws' := [(mplace, .inl (cyI, 1002, .inl m_place)), (mhasHabit, .inl (cyZ, 12, .inl m_hasHabit)), (mtold, .inl (cyI, 240, .inl m_told)), (mnames, .inl (cyJ, 16, .inr (.inl m_names))), (m0, .inr (11, [.int m_thrown, .ref mtape, .int m_taped, .int m_size, .ref msort, .ref mplace, .ref mvalue, .int v_46, .int m_fault, .ref mwords, .ref mtold, .ref mop, .ref marg, .int m_codes, .ref mnames, .ref mhasHabit, .int m_isNew, .ref mfactWords, .ref mfacts, .ref mpile, .ref mstates, .ref misMarked, .int m_inShelf, .int m_inStack, .int m_inPlace, .ref mrow, .int m_rowMany, .ref mthr, .ref mmays, .ref mtall, .ref mweights, .ref mrowOfWare, .ref mneededOf, .int m_goShelf, .int m_goStack, .int m_goLeft, .ref mtried, .ref mbestRow, .int m_bestCost, .int m_bestMany, .int m_bestShelf, .int m_bestSet, .ref mdigits])), (msort, .inl (cyI, 1002, .inl m_sort)), (mvalue, .inl (cyJ, 1002, .inr (.inl m_value))), (mwords, .inl (cyJ, 23, .inr (.inl m_words)))]) C inw_11 4 rfl rfl 7 (by decide) wd_637 rfl tyX11_ok nmX11 rfl (tyX11_ok 7 (by decide)) rfl rfl (Nat.le_of_ble_eq_true rfl) dX11_readOf_114 rfl ?_
                refine j_iload_n (pc := 117) C dX11_readOf_117 rfl 2 rfl ?_
                refine j_iconst (pc := 118) (v := 3) C dX11_readOf_118 (by decide) ?_
                refine j_icmp_ne (pc := 119) (tgt := 141) C dX11_readOf_119 (by decide) (fun c_47 => ?_) (fun c_47 => ?_)
                · skip
                  have el_3 : (3 : Int32).toInt = 3 := rfl
                  rw [i_eq] at c_47
                  refine j_aload_n (pc := 141) C dX11_readOf_141 rfl 1 rfl ?_
                  refine j_get (pc := 142) (ci := 11) (v := .ref mhasHabit) C inw_11 4 rfl rfl 15 (by decide) wd_695 rfl rfl dX11_readOf_142 ?_
                  refine j_iload_n (pc := 145) C dX11_readOf_145 rfl 0 rfl ?_
                  refine j_iconst (pc := 146) (v := 1) C dX11_readOf_146 (by decide) ?_
                  obtain ⟨f_48, ef_48⟩ : ∃ z, z = upd m_hasHabit ((u_12.2.1 0)).toInt.toNat (vp_nar .boolean 1) := ⟨_, rfl⟩
                  refine j_zast (pc := 147) (k := ((u_12.2.1 0)).toInt.toNat) (ws' := [(mplace, .inl (cyI, 1002, .inl m_place)), (mhasHabit, .inl (cyZ, 12, .inl f_48)), (mtold, .inl (cyI, 240, .inl m_told)), (mnames, .inl (cyJ, 16, .inr (.inl m_names))), (m0, .inr (11, [.int m_thrown, .ref mtape, .int m_taped, .int m_size, .ref msort, .ref mplace, .ref mvalue, .int v_46, .int m_fault, .ref mwords, .ref mtold, .ref mop, .ref marg, .int m_codes, .ref mnames, .ref mhasHabit, .int m_isNew, .ref mfactWords, .ref mfacts, .ref mpile, .ref mstates, .ref misMarked, .int m_inShelf, .int m_inStack, .int m_inPlace, .ref mrow, .int m_rowMany, .ref mthr, .ref mmays, .ref mtall, .ref mweights, .ref mrowOfWare, .ref mneededOf, .int m_goShelf, .int m_goStack, .int m_goLeft, .ref mtried, .ref mbestRow, .int m_bestCost, .int m_bestMany, .int m_bestShelf, .int m_bestSet, .ref mdigits])), (msort, .inl (cyI, 1002, .inl m_sort)), (mvalue, .inl (cyJ, 1002, .inr (.inl m_value))), (mwords, .inl (cyJ, 23, .inr (.inl m_words)))]) C 1 3 rfl rfl (i_nn (by omega)) rfl (i_lt_n (by omega) (by omega)) dX11_readOf_147 (by rw [ef_48]; rfl) ?_
                  refine j_aload_n (pc := 148) C dX11_readOf_148 rfl 1 rfl ?_
                  refine j_get (pc := 149) (ci := 11) (v := .ref mtold) C inw_11 4 rfl rfl 10 (by decide) wd_669 rfl rfl dX11_readOf_149 ?_
                  refine j_bipush (pc := 152) (v := 123) C dX11_readOf_152 (by decide) ?_
                  refine j_bipush (pc := 154) (v := 8) C dX11_readOf_154 (by decide) ?_
                  refine j_iload_n (pc := 156) C dX11_readOf_156 rfl 0 rfl ?_
                  obtain ⟨v_49, ev_49⟩ : ∃ z : Int32, 8 * (u_12.2.1 0) = z := ⟨_, rfl⟩
                  have el_8 : (8 : Int32).toInt = 8 := rfl
                  have hv_49 : v_49.toInt = 8 * ((u_12.2.1 0)).toInt := by rw [← ev_49]; exact mulL (c := 8) rfl (by omega) (by omega)
                  refine j_imul (pc := 157) (v := v_49) C dX11_readOf_157 ev_49 ?_
                  obtain ⟨v_50, ev_50⟩ : ∃ z : Int32, 123 + v_49 = z := ⟨_, rfl⟩
                  have el_123 : (123 : Int32).toInt = 123 := rfl
                  have hv_50 : v_50.toInt = (123 : Int32).toInt + v_49.toInt := by rw [← ev_50]; exact fb_addI (by omega) (by omega)
                  refine j_iadd (pc := 158) (v := v_50) C dX11_readOf_158 ev_50 ?_
                  refine j_iconst (pc := 159) (v := 5) C dX11_readOf_159 (by decide) ?_
                  obtain ⟨v_51, ev_51⟩ : ∃ z : Int32, v_50 + 5 = z := ⟨_, rfl⟩
                  have el_5 : (5 : Int32).toInt = 5 := rfl
                  have hv_51 : v_51.toInt = v_50.toInt + (5 : Int32).toInt := by rw [← ev_51]; exact fb_addI (by omega) (by omega)
                  refine j_iadd (pc := 160) (v := v_51) C dX11_readOf_160 ev_51 ?_
                  refine j_aload_n (pc := 161) C dX11_readOf_161 rfl 1 rfl ?_
                  refine j_iconst (pc := 162) (v := 0) C dX11_readOf_162 (by decide) ?_
                  refine j_bipush (pc := 163) (v := 99) C dX11_readOf_163 (by decide) ?_
                  refine j_callV (pc := 165) (As := [.int 0, .int 99]) (rest := [.int v_51, .ref mtold]) (wr := [(mhasHabit, .inl (cyZ, 12, .inl f_48)), (mtold, .inl (cyI, 240, .inl m_told)), (mnames, .inl (cyJ, 16, .inr (.inl m_names))), (mwords, .inl (cyJ, 23, .inr (.inl m_words)))]) C (c_X11_takeNumber l D cyC cyI cyJ cyZ cyO m0 msort mplace mvalue mtape mwords mtold mop marg mnames mhasHabit mfactWords mfacts mpile mstates misMarked mrow mthr mmays mtall mweights mrowOfWare mneededOf mtried mbestRow mdigits 0 99 m_thrown m_taped m_size v_46 m_fault m_codes m_isNew m_inShelf m_inStack m_inPlace m_rowMany m_goShelf m_goStack m_goLeft m_bestCost m_bestMany m_bestShelf m_bestSet m_sort m_place m_value (by omega) (by omega) (by omega) (by omega) (by omega) (by omega) (by omega) (by omega) (by omega) (by omega) (by omega) (by omega) (by omega) h_m_place (by omega) (by omega)) wd_683 wd_624 wd_684 wd_685 wd_686 ⟨by decide, by decide, rfl⟩ rfl ⟨rfl, rfl, by decide, by decide⟩ ⟨by decide, by decide⟩ [4, 5, 0, 6] [1, 2, 3, 7] rfl rfl ⟨by decide, by decide, by decide⟩ 4 rfl rfl rfl (Nat.le_of_ble_eq_true rfl) dX11_readOf_165 (fun u_52 hw_53 => ?_)
                  refine j_eq (ws2 := [(mhasHabit, .inl (cyZ, 12, .inl f_48)), (mtold, .inl (cyI, 240, .inl m_told)), (mnames, .inl (cyJ, 16, .inr (.inl m_names))), (mwords, .inl (cyJ, 23, .inr (.inl m_words))), (m0, .inr (11, [.int m_thrown, .ref mtape, .int m_taped, .int m_size, .ref msort, .ref mplace, .ref mvalue, .int (u_52.2.1 1), .int (u_52.2.1 2), .ref mwords, .ref mtold, .ref mop, .ref marg, .int m_codes, .ref mnames, .ref mhasHabit, .int m_isNew, .ref mfactWords, .ref mfacts, .ref mpile, .ref mstates, .ref misMarked, .int m_inShelf, .int m_inStack, .int m_inPlace, .ref mrow, .int m_rowMany, .ref mthr, .ref mmays, .ref mtall, .ref mweights, .ref mrowOfWare, .ref mneededOf, .int m_goShelf, .int m_goStack, .int m_goLeft, .ref mtried, .ref mbestRow, .int m_bestCost, .int m_bestMany, .int m_bestShelf, .int m_bestSet, .ref mdigits])), (msort, .inl (cyI, 1002, .inl m_sort)), (mplace, .inl (cyI, 1002, .inl m_place)), (mvalue, .inl (cyJ, 1002, .inr (.inl m_value)))]) (pc2 := 168) (lv2 := [(2, .int (u_12.2.1 0)), (0, .ref m0), (1, .int p0)]) (st2 := [.int (u_52.2.1 0), .int v_51, .ref mtold]) rfl rfl rfl rfl ?_
                  obtain ⟨hw_53_0, hw_53_1, hw_53_2, hw_53_3, hw_53_4, hw_53_5⟩ := hw_53
                  have el_0 : (0 : Int32).toInt = 0 := rfl
                  have el_99 : (99 : Int32).toInt = 99 := rfl
                  obtain ⟨f_54, ef_54⟩ : ∃ z, z = upd m_told (v_51).toInt.toNat (u_52.2.1 0) := ⟨_, rfl⟩
                  have hf_54 : TV f_54 := by rw [ef_54]; exact TV.upd h_m_told (by omega) (Int.le_trans (show _ ≤ (999 : Int) from (by omega)) (hiT_k (by omega)))
                  refine j_iast (pc := 168) (k := (v_51).toInt.toNat) (ws' := [(mhasHabit, .inl (cyZ, 12, .inl f_48)), (mtold, .inl (cyI, 240, .inl f_54)), (mnames, .inl (cyJ, 16, .inr (.inl m_names))), (mwords, .inl (cyJ, 23, .inr (.inl m_words))), (m0, .inr (11, [.int m_thrown, .ref mtape, .int m_taped, .int m_size, .ref msort, .ref mplace, .ref mvalue, .int (u_52.2.1 1), .int (u_52.2.1 2), .ref mwords, .ref mtold, .ref mop, .ref marg, .int m_codes, .ref mnames, .ref mhasHabit, .int m_isNew, .ref mfactWords, .ref mfacts, .ref mpile, .ref mstates, .ref misMarked, .int m_inShelf, .int m_inStack, .int m_inPlace, .ref mrow, .int m_rowMany, .ref mthr, .ref mmays, .ref mtall, .ref mweights, .ref mrowOfWare, .ref mneededOf, .int m_goShelf, .int m_goStack, .int m_goLeft, .ref mtried, .ref mbestRow, .int m_bestCost, .int m_bestMany, .int m_bestShelf, .int m_bestSet, .ref mdigits])), (msort, .inl (cyI, 1002, .inl m_sort)), (mplace, .inl (cyI, 1002, .inl m_place)), (mvalue, .inl (cyJ, 1002, .inr (.inl m_value)))]) C 1 1 rfl rfl (i_nn (by omega)) rfl (i_lt_n (by omega) (by omega)) dX11_readOf_168 (by rw [ef_54]; rfl) ?_
                  exact j_vret (pc := 169) C hr hk (fun i => [].getD i 0, fun i => [(u_52.2.1 1), (u_52.2.1 2)].getD i 0, fun i => [f_54, f_48].getD i (fun _ => 0), fun i => [].getD i (fun _ => 0)) rfl (show (0 ≤ ((u_52.2.1 1)).toInt ∧ ((u_52.2.1 1)).toInt ≤ 1000) ∧ (0 ≤ ((u_52.2.1 2)).toInt ∧ ((u_52.2.1 2)).toInt ≤ 16005) ∧ (TV f_54) ∧ ((m_at).toInt ≤ ((u_52.2.1 1)).toInt) ∧ (((u_52.2.1 1)).toInt ≤ ((eN m_sort : Nat) : Int)) ∧ ((m_fault).toInt = 0 ∨ ¬ ((u_52.2.1 2)).toInt = 0) ∧ (∀ j : Nat, (j < 120 ∨ j = 122 ∨ 231 ≤ j) → f_54 j = m_told j) from ⟨by omega, by omega, hf_54, by omega, by omega, by omega, (fun j hj => by rw [ef_54, pk_un (show ¬ j = (v_51).toInt.toNat from (by omega))])⟩) [4, 5, 6, 7, 3, 1, 2, 0] (by decide) rfl (by decide) (by decide) dX11_readOf_169
                · skip
                  have el_3 : (3 : Int32).toInt = 3 := rfl
                  rw [i_eq] at c_47
                  refine j_aload_n (pc := 122) C dX11_readOf_122 rfl 1 rfl ?_
                  refine j_get (pc := 123) (ci := 11) (v := .ref mtold) C inw_11 4 rfl rfl 10 (by decide) wd_669 rfl rfl dX11_readOf_123 ?_
                  refine j_bipush (pc := 126) (v := 123) C dX11_readOf_126 (by decide) ?_
                  refine j_bipush (pc := 128) (v := 8) C dX11_readOf_128 (by decide) ?_
                  refine j_iload_n (pc := 130) C dX11_readOf_130 rfl 0 rfl ?_
                  obtain ⟨v_55, ev_55⟩ : ∃ z : Int32, 8 * (u_12.2.1 0) = z := ⟨_, rfl⟩
                  have el_8 : (8 : Int32).toInt = 8 := rfl
                  have hv_55 : v_55.toInt = 8 * ((u_12.2.1 0)).toInt := by rw [← ev_55]; exact mulL (c := 8) rfl (by omega) (by omega)
                  refine j_imul (pc := 131) (v := v_55) C dX11_readOf_131 ev_55 ?_
                  obtain ⟨v_56, ev_56⟩ : ∃ z : Int32, 123 + v_55 = z := ⟨_, rfl⟩
                  have el_123 : (123 : Int32).toInt = 123 := rfl
                  have hv_56 : v_56.toInt = (123 : Int32).toInt + v_55.toInt := by rw [← ev_56]; exact fb_addI (by omega) (by omega)
                  refine j_iadd (pc := 132) (v := v_56) C dX11_readOf_132 ev_56 ?_
                  refine j_bipush (pc := 133) (v := 7) C dX11_readOf_133 (by decide) ?_
                  obtain ⟨v_57, ev_57⟩ : ∃ z : Int32, v_56 + 7 = z := ⟨_, rfl⟩
                  have el_7 : (7 : Int32).toInt = 7 := rfl
                  have hv_57 : v_57.toInt = v_56.toInt + (7 : Int32).toInt := by rw [← ev_57]; exact fb_addI (by omega) (by omega)
                  refine j_iadd (pc := 135) (v := v_57) C dX11_readOf_135 ev_57 ?_
                  refine j_iconst (pc := 136) (v := 1) C dX11_readOf_136 (by decide) ?_
                  obtain ⟨f_58, ef_58⟩ : ∃ z, z = upd m_told (v_57).toInt.toNat 1 := ⟨_, rfl⟩
                  have el_1 : (1 : Int32).toInt = 1 := rfl
                  have hf_58 : TV f_58 := by rw [ef_58]; exact TV.upd h_m_told (by omega) (Int.le_trans (show _ ≤ (999 : Int) from (by omega)) (hiT_k (by omega)))
                  refine j_iast (pc := 137) (k := (v_57).toInt.toNat) (ws' := [(mplace, .inl (cyI, 1002, .inl m_place)), (mhasHabit, .inl (cyZ, 12, .inl m_hasHabit)), (mtold, .inl (cyI, 240, .inl f_58)), (mnames, .inl (cyJ, 16, .inr (.inl m_names))), (m0, .inr (11, [.int m_thrown, .ref mtape, .int m_taped, .int m_size, .ref msort, .ref mplace, .ref mvalue, .int v_46, .int m_fault, .ref mwords, .ref mtold, .ref mop, .ref marg, .int m_codes, .ref mnames, .ref mhasHabit, .int m_isNew, .ref mfactWords, .ref mfacts, .ref mpile, .ref mstates, .ref misMarked, .int m_inShelf, .int m_inStack, .int m_inPlace, .ref mrow, .int m_rowMany, .ref mthr, .ref mmays, .ref mtall, .ref mweights, .ref mrowOfWare, .ref mneededOf, .int m_goShelf, .int m_goStack, .int m_goLeft, .ref mtried, .ref mbestRow, .int m_bestCost, .int m_bestMany, .int m_bestShelf, .int m_bestSet, .ref mdigits])), (msort, .inl (cyI, 1002, .inl m_sort)), (mvalue, .inl (cyJ, 1002, .inr (.inl m_value))), (mwords, .inl (cyJ, 23, .inr (.inl m_words)))]) C 2 1 rfl rfl (i_nn (by omega)) rfl (i_lt_n (by omega) (by omega)) dX11_readOf_137 (by rw [ef_58]; rfl) ?_
                  refine j_goto (pc := 138) (tgt := 169) C dX11_readOf_138 (by decide) ?_
                  exact j_vret (pc := 169) C hr hk (fun i => [].getD i 0, fun i => [v_46, m_fault].getD i 0, fun i => [f_58, m_hasHabit].getD i (fun _ => 0), fun i => [].getD i (fun _ => 0)) rfl (show (0 ≤ (v_46).toInt ∧ (v_46).toInt ≤ 1000) ∧ (0 ≤ (m_fault).toInt ∧ (m_fault).toInt ≤ 16005) ∧ (TV f_58) ∧ ((m_at).toInt ≤ (v_46).toInt) ∧ ((v_46).toInt ≤ ((eN m_sort : Nat) : Int)) ∧ ((m_fault).toInt = 0 ∨ ¬ (m_fault).toInt = 0) ∧ (∀ j : Nat, (j < 120 ∨ j = 122 ∨ 231 ≤ j) → f_58 j = m_told j) from ⟨by omega, by omega, hf_58, by omega, by omega, by omega, (fun j hj => by rw [ef_58, pk_un (show ¬ j = (v_57).toInt.toNat from (by omega))])⟩) [4, 5, 0, 6, 7, 2, 3, 1] (by decide) rfl (by decide) (by decide) dX11_readOf_169
              · skip
                have el_0 : (0 : Int32).toInt = 0 := rfl
                rw [i_le] at c_45
                exact j_vret (pc := 106) C hr hk (fun i => [].getD i 0, fun i => [m_at, m_fault].getD i 0, fun i => [m_told, m_hasHabit].getD i (fun _ => 0), fun i => [].getD i (fun _ => 0)) rfl (show (0 ≤ (m_at).toInt ∧ (m_at).toInt ≤ 1000) ∧ (0 ≤ (m_fault).toInt ∧ (m_fault).toInt ≤ 16005) ∧ (TV m_told) ∧ ((m_at).toInt ≤ (m_at).toInt) ∧ ((m_at).toInt ≤ ((eN m_sort : Nat) : Int)) ∧ ((m_fault).toInt = 0 ∨ ¬ (m_fault).toInt = 0) ∧ (∀ j : Nat, (j < 120 ∨ j = 122 ∨ 231 ≤ j) → m_told j = m_told j) from ⟨by omega, by omega, h_m_told, by omega, by omega, by omega, (fun j hj => rfl)⟩) [4, 5, 0, 6, 7, 2, 3, 1] (by decide) rfl (by decide) (by decide) dX11_readOf_106
            · skip
              have el_1 : (1 : Int32).toInt = 1 := rfl
              rw [i_eq] at c_44
              refine j_goto (pc := 82) (tgt := 94) C dX11_readOf_82 (by decide) ?_
              refine j_aload_n (pc := 94) C dX11_readOf_94 rfl 1 rfl ?_
              refine j_iconst (pc := 95) (v := 3) C dX11_readOf_95 (by decide) ?_
              refine j_callV (pc := 96) (As := [.int 3]) (rest := []) (wr := [(mhasHabit, .inl (cyZ, 12, .inl m_hasHabit)), (mtold, .inl (cyI, 240, .inl m_told)), (mnames, .inl (cyJ, 16, .inr (.inl m_names))), (msort, .inl (cyI, 1002, .inl m_sort)), (mvalue, .inl (cyJ, 1002, .inr (.inl m_value))), (mwords, .inl (cyJ, 23, .inr (.inl m_words)))]) C (c_X11_wrong l D cyC cyI cyJ cyZ cyO m0 mplace mtape msort mvalue mwords mtold mop marg mnames mhasHabit mfactWords mfacts mpile mstates misMarked mrow mthr mmays mtall mweights mrowOfWare mneededOf mtried mbestRow mdigits 3 m_thrown m_taped m_size m_at m_fault m_codes m_isNew m_inShelf m_inStack m_inPlace m_rowMany m_goShelf m_goStack m_goLeft m_bestCost m_bestMany m_bestShelf m_bestSet m_place (by omega) (by omega) (by omega) (by omega) (by omega) (by omega) (by omega) (by omega) (by omega) (by omega) (by omega) (by omega) (by omega) (by decide) h_m_place) wd_657 wd_624 wd_658 wd_659 wd_660 ⟨by decide, by decide, rfl⟩ rfl ⟨rfl, rfl, by decide, by decide⟩ ⟨by decide, by decide⟩ [4, 0] [1, 2, 3, 5, 6, 7] rfl rfl ⟨by decide, by decide, by decide⟩ 4 rfl rfl rfl (Nat.le_of_ble_eq_true rfl) dX11_readOf_96 (fun u_59 hw_60 => ?_)
              refine j_eq (ws2 := [(mhasHabit, .inl (cyZ, 12, .inl m_hasHabit)), (mtold, .inl (cyI, 240, .inl m_told)), (mnames, .inl (cyJ, 16, .inr (.inl m_names))), (msort, .inl (cyI, 1002, .inl m_sort)), (mvalue, .inl (cyJ, 1002, .inr (.inl m_value))), (mwords, .inl (cyJ, 23, .inr (.inl m_words))), (m0, .inr (11, [.int m_thrown, .ref mtape, .int m_taped, .int m_size, .ref msort, .ref mplace, .ref mvalue, .int m_at, .int (u_59.2.1 0), .ref mwords, .ref mtold, .ref mop, .ref marg, .int m_codes, .ref mnames, .ref mhasHabit, .int m_isNew, .ref mfactWords, .ref mfacts, .ref mpile, .ref mstates, .ref misMarked, .int m_inShelf, .int m_inStack, .int m_inPlace, .ref mrow, .int m_rowMany, .ref mthr, .ref mmays, .ref mtall, .ref mweights, .ref mrowOfWare, .ref mneededOf, .int m_goShelf, .int m_goStack, .int m_goLeft, .ref mtried, .ref mbestRow, .int m_bestCost, .int m_bestMany, .int m_bestShelf, .int m_bestSet, .ref mdigits])), (mplace, .inl (cyI, 1002, .inl m_place))]) (pc2 := 99) (lv2 := [(2, .int (u_12.2.1 0)), (0, .ref m0), (1, .int p0)]) (st2 := []) rfl rfl rfl rfl ?_
              have hw_60_0 : 1 ≤ (u_59.2.1 0).toInt ∧ (u_59.2.1 0).toInt ≤ 16005 := hw_60
              refine j_aload_n (pc := 99) C dX11_readOf_99 rfl 1 rfl ?_
              refine j_get (pc := 100) (ci := 11) (v := .int (u_59.2.1 0)) C inw_11 6 rfl rfl 8 (by decide) wd_638 rfl rfl dX11_readOf_100 ?_
              have el_0 : (0 : Int32).toInt = 0 := rfl
              refine j_if_le_f (pc := 103) (tgt := 107) C dX11_readOf_103 (by decide) (by rw [i_le]; omega) ?_
              exact j_vret (pc := 106) C hr hk (fun i => [].getD i 0, fun i => [m_at, (u_59.2.1 0)].getD i 0, fun i => [m_told, m_hasHabit].getD i (fun _ => 0), fun i => [].getD i (fun _ => 0)) rfl (show (0 ≤ (m_at).toInt ∧ (m_at).toInt ≤ 1000) ∧ (0 ≤ ((u_59.2.1 0)).toInt ∧ ((u_59.2.1 0)).toInt ≤ 16005) ∧ (TV m_told) ∧ ((m_at).toInt ≤ (m_at).toInt) ∧ ((m_at).toInt ≤ ((eN m_sort : Nat) : Int)) ∧ ((m_fault).toInt = 0 ∨ ¬ ((u_59.2.1 0)).toInt = 0) ∧ (∀ j : Nat, (j < 120 ∨ j = 122 ∨ 231 ≤ j) → m_told j = m_told j) from ⟨by omega, by omega, h_m_told, by omega, by omega, by omega, (fun j hj => rfl)⟩) [6, 3, 7, 4, 5, 1, 2, 0] (by decide) rfl (by decide) (by decide) dX11_readOf_106
        · skip
          have el_12 : (12 : Int32).toInt = 12 := rfl
          rw [i_lt] at c_20
          refine j_aload_n (pc := 50) C dX11_readOf_50 rfl 1 rfl ?_
          refine j_iconst (pc := 51) (v := 2) C dX11_readOf_51 (by decide) ?_
          refine j_callV (pc := 52) (As := [.int 2]) (rest := []) (wr := [(mhasHabit, .inl (cyZ, 12, .inl m_hasHabit)), (mtold, .inl (cyI, 240, .inl m_told)), (mnames, .inl (cyJ, 16, .inr (.inl m_names))), (msort, .inl (cyI, 1002, .inl m_sort)), (mvalue, .inl (cyJ, 1002, .inr (.inl m_value))), (mwords, .inl (cyJ, 23, .inr (.inl m_words)))]) C (c_X11_wrong l D cyC cyI cyJ cyZ cyO m0 mplace mtape msort mvalue mwords mtold mop marg mnames mhasHabit mfactWords mfacts mpile mstates misMarked mrow mthr mmays mtall mweights mrowOfWare mneededOf mtried mbestRow mdigits 2 m_thrown m_taped m_size m_at m_fault m_codes m_isNew m_inShelf m_inStack m_inPlace m_rowMany m_goShelf m_goStack m_goLeft m_bestCost m_bestMany m_bestShelf m_bestSet m_place (by omega) (by omega) (by omega) (by omega) (by omega) (by omega) (by omega) (by omega) (by omega) (by omega) (by omega) (by omega) (by omega) (by decide) h_m_place) wd_657 wd_624 wd_658 wd_659 wd_660 ⟨by decide, by decide, rfl⟩ rfl ⟨rfl, rfl, by decide, by decide⟩ ⟨by decide, by decide⟩ [4, 0] [1, 2, 3, 5, 6, 7] rfl rfl ⟨by decide, by decide, by decide⟩ 4 rfl rfl rfl (Nat.le_of_ble_eq_true rfl) dX11_readOf_52 (fun u_61 hw_62 => ?_)
          refine j_eq (ws2 := [(mhasHabit, .inl (cyZ, 12, .inl m_hasHabit)), (mtold, .inl (cyI, 240, .inl m_told)), (mnames, .inl (cyJ, 16, .inr (.inl m_names))), (msort, .inl (cyI, 1002, .inl m_sort)), (mvalue, .inl (cyJ, 1002, .inr (.inl m_value))), (mwords, .inl (cyJ, 23, .inr (.inl m_words))), (m0, .inr (11, [.int m_thrown, .ref mtape, .int m_taped, .int m_size, .ref msort, .ref mplace, .ref mvalue, .int m_at, .int (u_61.2.1 0), .ref mwords, .ref mtold, .ref mop, .ref marg, .int m_codes, .ref mnames, .ref mhasHabit, .int m_isNew, .ref mfactWords, .ref mfacts, .ref mpile, .ref mstates, .ref misMarked, .int m_inShelf, .int m_inStack, .int m_inPlace, .ref mrow, .int m_rowMany, .ref mthr, .ref mmays, .ref mtall, .ref mweights, .ref mrowOfWare, .ref mneededOf, .int m_goShelf, .int m_goStack, .int m_goLeft, .ref mtried, .ref mbestRow, .int m_bestCost, .int m_bestMany, .int m_bestShelf, .int m_bestSet, .ref mdigits])), (mplace, .inl (cyI, 1002, .inl m_place))]) (pc2 := 55) (lv2 := [(2, .int (u_12.2.1 0)), (0, .ref m0), (1, .int p0)]) (st2 := []) rfl rfl rfl rfl ?_
          have hw_62_0 : 1 ≤ (u_61.2.1 0).toInt ∧ (u_61.2.1 0).toInt ≤ 16005 := hw_62
          refine j_goto (pc := 55) (tgt := 99) C dX11_readOf_55 (by decide) ?_
          refine j_aload_n (pc := 99) C dX11_readOf_99 rfl 1 rfl ?_
          refine j_get (pc := 100) (ci := 11) (v := .int (u_61.2.1 0)) C inw_11 6 rfl rfl 8 (by decide) wd_638 rfl rfl dX11_readOf_100 ?_
          have el_0 : (0 : Int32).toInt = 0 := rfl
          refine j_if_le_f (pc := 103) (tgt := 107) C dX11_readOf_103 (by decide) (by rw [i_le]; omega) ?_
          exact j_vret (pc := 106) C hr hk (fun i => [].getD i 0, fun i => [m_at, (u_61.2.1 0)].getD i 0, fun i => [m_told, m_hasHabit].getD i (fun _ => 0), fun i => [].getD i (fun _ => 0)) rfl (show (0 ≤ (m_at).toInt ∧ (m_at).toInt ≤ 1000) ∧ (0 ≤ ((u_61.2.1 0)).toInt ∧ ((u_61.2.1 0)).toInt ≤ 16005) ∧ (TV m_told) ∧ ((m_at).toInt ≤ (m_at).toInt) ∧ ((m_at).toInt ≤ ((eN m_sort : Nat) : Int)) ∧ ((m_fault).toInt = 0 ∨ ¬ ((u_61.2.1 0)).toInt = 0) ∧ (∀ j : Nat, (j < 120 ∨ j = 122 ∨ 231 ≤ j) → m_told j = m_told j) from ⟨by omega, by omega, h_m_told, by omega, by omega, by omega, (fun j hj => rfl)⟩) [6, 3, 7, 4, 5, 1, 2, 0] (by decide) rfl (by decide) (by decide) dX11_readOf_106
    · skip
      have el_0 : (0 : Int32).toInt = 0 := rfl
      rw [i_eq] at c_16
      refine j_aload_n (pc := 32) C dX11_readOf_32 rfl 1 rfl ?_
      refine j_iconst (pc := 33) (v := 1) C dX11_readOf_33 (by decide) ?_
      refine j_callV (pc := 34) (As := [.int 1]) (rest := []) (wr := [(mhasHabit, .inl (cyZ, 12, .inl m_hasHabit)), (mtold, .inl (cyI, 240, .inl m_told)), (mnames, .inl (cyJ, 16, .inr (.inl m_names))), (msort, .inl (cyI, 1002, .inl m_sort)), (mvalue, .inl (cyJ, 1002, .inr (.inl m_value))), (mwords, .inl (cyJ, 23, .inr (.inl m_words)))]) C (c_X11_wrong l D cyC cyI cyJ cyZ cyO m0 mplace mtape msort mvalue mwords mtold mop marg mnames mhasHabit mfactWords mfacts mpile mstates misMarked mrow mthr mmays mtall mweights mrowOfWare mneededOf mtried mbestRow mdigits 1 m_thrown m_taped m_size m_at m_fault m_codes m_isNew m_inShelf m_inStack m_inPlace m_rowMany m_goShelf m_goStack m_goLeft m_bestCost m_bestMany m_bestShelf m_bestSet m_place (by omega) (by omega) (by omega) (by omega) (by omega) (by omega) (by omega) (by omega) (by omega) (by omega) (by omega) (by omega) (by omega) (by decide) h_m_place) wd_657 wd_624 wd_658 wd_659 wd_660 ⟨by decide, by decide, rfl⟩ rfl ⟨rfl, rfl, by decide, by decide⟩ ⟨by decide, by decide⟩ [4, 0] [1, 2, 3, 5, 6, 7] rfl rfl ⟨by decide, by decide, by decide⟩ 4 rfl rfl rfl (Nat.le_of_ble_eq_true rfl) dX11_readOf_34 (fun u_63 hw_64 => ?_)
      refine j_eq (ws2 := [(mhasHabit, .inl (cyZ, 12, .inl m_hasHabit)), (mtold, .inl (cyI, 240, .inl m_told)), (mnames, .inl (cyJ, 16, .inr (.inl m_names))), (msort, .inl (cyI, 1002, .inl m_sort)), (mvalue, .inl (cyJ, 1002, .inr (.inl m_value))), (mwords, .inl (cyJ, 23, .inr (.inl m_words))), (m0, .inr (11, [.int m_thrown, .ref mtape, .int m_taped, .int m_size, .ref msort, .ref mplace, .ref mvalue, .int m_at, .int (u_63.2.1 0), .ref mwords, .ref mtold, .ref mop, .ref marg, .int m_codes, .ref mnames, .ref mhasHabit, .int m_isNew, .ref mfactWords, .ref mfacts, .ref mpile, .ref mstates, .ref misMarked, .int m_inShelf, .int m_inStack, .int m_inPlace, .ref mrow, .int m_rowMany, .ref mthr, .ref mmays, .ref mtall, .ref mweights, .ref mrowOfWare, .ref mneededOf, .int m_goShelf, .int m_goStack, .int m_goLeft, .ref mtried, .ref mbestRow, .int m_bestCost, .int m_bestMany, .int m_bestShelf, .int m_bestSet, .ref mdigits])), (mplace, .inl (cyI, 1002, .inl m_place))]) (pc2 := 37) (lv2 := [(2, .int (u_12.2.1 0)), (0, .ref m0), (1, .int p0)]) (st2 := []) rfl rfl rfl rfl ?_
      have hw_64_0 : 1 ≤ (u_63.2.1 0).toInt ∧ (u_63.2.1 0).toInt ≤ 16005 := hw_64
      refine j_goto (pc := 37) (tgt := 99) C dX11_readOf_37 (by decide) ?_
      refine j_aload_n (pc := 99) C dX11_readOf_99 rfl 1 rfl ?_
      refine j_get (pc := 100) (ci := 11) (v := .int (u_63.2.1 0)) C inw_11 6 rfl rfl 8 (by decide) wd_638 rfl rfl dX11_readOf_100 ?_
      have el_0 : (0 : Int32).toInt = 0 := rfl
      refine j_if_le_f (pc := 103) (tgt := 107) C dX11_readOf_103 (by decide) (by rw [i_le]; omega) ?_
      exact j_vret (pc := 106) C hr hk (fun i => [].getD i 0, fun i => [m_at, (u_63.2.1 0)].getD i 0, fun i => [m_told, m_hasHabit].getD i (fun _ => 0), fun i => [].getD i (fun _ => 0)) rfl (show (0 ≤ (m_at).toInt ∧ (m_at).toInt ≤ 1000) ∧ (0 ≤ ((u_63.2.1 0)).toInt ∧ ((u_63.2.1 0)).toInt ≤ 16005) ∧ (TV m_told) ∧ ((m_at).toInt ≤ (m_at).toInt) ∧ ((m_at).toInt ≤ ((eN m_sort : Nat) : Int)) ∧ ((m_fault).toInt = 0 ∨ ¬ ((u_63.2.1 0)).toInt = 0) ∧ (∀ j : Nat, (j < 120 ∨ j = 122 ∨ 231 ≤ j) → m_told j = m_told j) from ⟨by omega, by omega, h_m_told, by omega, by omega, by omega, (fun j hj => rfl)⟩) [6, 3, 7, 4, 5, 1, 2, 0] (by decide) rfl (by decide) (by decide) dX11_readOf_106
