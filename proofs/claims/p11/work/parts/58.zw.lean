theorem wd_912 : Cond.code yX11_areChained cX11_areChained 3 (some .boolean) ∈ WALL := wl_in (by decide +kernel) (by decide +kernel)
theorem wd_913 : Cond.methodLink RX11 367 yX11_areChained ∈ WALL := wl_in (by decide +kernel) (by decide +kernel)
theorem wd_914 : Cond.instanceMethod yX11_areChained ∈ WALL := wl_in (by decide +kernel) (by decide +kernel)
theorem wd_915 : Cond.selects RX11 yX11_areChained yX11_areChained ∈ WALL := wl_in (by decide +kernel) (by decide +kernel)
theorem wd_916 : Cond.code yX11_bits cX11_bits 3 (some .int) ∈ WALL := wl_in (by decide +kernel) (by decide +kernel)
theorem wd_917 : Cond.methodLink RX11 370 yX11_bits ∈ WALL := wl_in (by decide +kernel) (by decide +kernel)
theorem wd_918 : Cond.static yX11_bits ∈ WALL := wl_in (by decide +kernel) (by decide +kernel)
theorem wd_919 : Cond.code yX11_areApart cX11_areApart 5 (some .boolean) ∈ WALL := wl_in (by decide +kernel) (by decide +kernel)
theorem wd_920 : Cond.methodLink RX11 373 yX11_areApart ∈ WALL := wl_in (by decide +kernel) (by decide +kernel)
theorem wd_921 : Cond.instanceMethod yX11_areApart ∈ WALL := wl_in (by decide +kernel) (by decide +kernel)
theorem wd_922 : Cond.selects RX11 yX11_areApart yX11_areApart ∈ WALL := wl_in (by decide +kernel) (by decide +kernel)
theorem wd_923 : Cond.code yX11_find cX11_find 5 none ∈ WALL := wl_in (by decide +kernel) (by decide +kernel)
theorem wd_924 : Cond.methodLink RX11 364 yX11_find ∈ WALL := wl_in (by decide +kernel) (by decide +kernel)
theorem wd_925 : Cond.instanceMethod yX11_find ∈ WALL := wl_in (by decide +kernel) (by decide +kernel)
theorem wd_926 : Cond.selects RX11 yX11_find yX11_find ∈ WALL := wl_in (by decide +kernel) (by decide +kernel)
theorem wd_927 : Cond.code yX11_isRound cX11_isRound 3 (some .boolean) ∈ WALL := wl_in (by decide +kernel) (by decide +kernel)
theorem wd_928 : Cond.methodLink RX11 376 yX11_isRound ∈ WALL := wl_in (by decide +kernel) (by decide +kernel)
theorem wd_929 : Cond.instanceMethod yX11_isRound ∈ WALL := wl_in (by decide +kernel) (by decide +kernel)
theorem wd_930 : Cond.selects RX11 yX11_isRound yX11_isRound ∈ WALL := wl_in (by decide +kernel) (by decide +kernel)
theorem wd_931 : Cond.code yX11_findApart cX11_findApart 3 (some .int) ∈ WALL := wl_in (by decide +kernel) (by decide +kernel)
theorem wd_932 : Cond.methodLink RX11 379 yX11_findApart ∈ WALL := wl_in (by decide +kernel) (by decide +kernel)
theorem wd_933 : Cond.instanceMethod yX11_findApart ∈ WALL := wl_in (by decide +kernel) (by decide +kernel)
theorem wd_934 : Cond.selects RX11 yX11_findApart yX11_findApart ∈ WALL := wl_in (by decide +kernel) (by decide +kernel)
theorem wd_935 : Cond.fieldLink RX11 130 "BowlShelfModel" "rowOfWare" "[I" ∈ WALL := wl_in (by decide +kernel) (by decide +kernel)
theorem wd_936 : Cond.code yX11_parts cX11_parts 7 (some .boolean) ∈ WALL := wl_in (by decide +kernel) (by decide +kernel)
theorem wd_937 : Cond.methodLink RX11 382 yX11_parts ∈ WALL := wl_in (by decide +kernel) (by decide +kernel)
theorem wd_938 : Cond.instanceMethod yX11_parts ∈ WALL := wl_in (by decide +kernel) (by decide +kernel)
theorem wd_939 : Cond.selects RX11 yX11_parts yX11_parts ∈ WALL := wl_in (by decide +kernel) (by decide +kernel)
theorem dX11_areChained_0 : decode cX11_areChained 0 = .ok (.aload_n 0, 1) := by decide +kernel
theorem dX11_areChained_1 : decode cX11_areChained 1 = .ok (.getfield 117, 3) := by decide +kernel
theorem dX11_areChained_4 : decode cX11_areChained 4 = .ok (.bipush 12, 2) := by decide +kernel
theorem dX11_areChained_6 : decode cX11_areChained 6 = .ok (.iload_n 1, 1) := by decide +kernel
theorem dX11_areChained_7 : decode cX11_areChained 7 = .ok (.imul, 1) := by decide +kernel
theorem dX11_areChained_8 : decode cX11_areChained 8 = .ok (.iload_n 2, 1) := by decide +kernel
theorem dX11_areChained_9 : decode cX11_areChained 9 = .ok (.iadd, 1) := by decide +kernel
theorem dX11_areChained_10 : decode cX11_areChained 10 = .ok (.baload, 1) := by decide +kernel
theorem dX11_areChained_11 : decode cX11_areChained 11 = .ok (.ifCond .ne 17, 3) := by decide +kernel
theorem dX11_areChained_14 : decode cX11_areChained 14 = .ok (.aload_n 0, 1) := by decide +kernel
theorem dX11_areChained_15 : decode cX11_areChained 15 = .ok (.getfield 117, 3) := by decide +kernel
theorem dX11_areChained_18 : decode cX11_areChained 18 = .ok (.bipush 12, 2) := by decide +kernel
theorem dX11_areChained_20 : decode cX11_areChained 20 = .ok (.iload_n 2, 1) := by decide +kernel
theorem dX11_areChained_21 : decode cX11_areChained 21 = .ok (.imul, 1) := by decide +kernel
theorem dX11_areChained_22 : decode cX11_areChained 22 = .ok (.iload_n 1, 1) := by decide +kernel
theorem dX11_areChained_23 : decode cX11_areChained 23 = .ok (.iadd, 1) := by decide +kernel
theorem dX11_areChained_24 : decode cX11_areChained 24 = .ok (.baload, 1) := by decide +kernel
theorem dX11_areChained_25 : decode cX11_areChained 25 = .ok (.ifCond .eq 7, 3) := by decide +kernel
theorem dX11_areChained_28 : decode cX11_areChained 28 = .ok (.iconst 1, 1) := by decide +kernel
theorem dX11_areChained_29 : decode cX11_areChained 29 = .ok (.goto 4, 3) := by decide +kernel
theorem dX11_areChained_32 : decode cX11_areChained 32 = .ok (.iconst 0, 1) := by decide +kernel
theorem dX11_areChained_33 : decode cX11_areChained 33 = .ok (.ireturn, 1) := by decide +kernel
theorem dX11_areApart_0 : decode cX11_areApart 0 = .ok (.iconst 1, 1) := by decide +kernel
theorem dX11_areApart_1 : decode cX11_areApart 1 = .ok (.istore_n 2, 1) := by decide +kernel
theorem dX11_areApart_2 : decode cX11_areApart 2 = .ok (.iconst 0, 1) := by decide +kernel
theorem dX11_areApart_3 : decode cX11_areApart 3 = .ok (.istore_n 3, 1) := by decide +kernel
theorem dX11_areApart_4 : decode cX11_areApart 4 = .ok (.iload_n 3, 1) := by decide +kernel
theorem dX11_areApart_5 : decode cX11_areApart 5 = .ok (.aload_n 0, 1) := by decide +kernel
theorem dX11_areApart_6 : decode cX11_areApart 6 = .ok (.invokevirtual 264, 3) := by decide +kernel
theorem dX11_areApart_9 : decode cX11_areApart 9 = .ok (.if_icmp .ge 65, 3) := by decide +kernel
theorem dX11_areApart_12 : decode cX11_areApart 12 = .ok (.iload_n 2, 1) := by decide +kernel
theorem dX11_areApart_13 : decode cX11_areApart 13 = .ok (.ifCond .eq 61, 3) := by decide +kernel
theorem dX11_areApart_16 : decode cX11_areApart 16 = .ok (.iconst 0, 1) := by decide +kernel
theorem dX11_areApart_17 : decode cX11_areApart 17 = .ok (.istore 4, 2) := by decide +kernel
theorem dX11_areApart_19 : decode cX11_areApart 19 = .ok (.iload 4, 2) := by decide +kernel
theorem dX11_areApart_21 : decode cX11_areApart 21 = .ok (.iload_n 3, 1) := by decide +kernel
theorem dX11_areApart_22 : decode cX11_areApart 22 = .ok (.if_icmp .ge 46, 3) := by decide +kernel
theorem dX11_areApart_25 : decode cX11_areApart 25 = .ok (.iload_n 2, 1) := by decide +kernel
theorem dX11_areApart_26 : decode cX11_areApart 26 = .ok (.ifCond .eq 34, 3) := by decide +kernel
theorem dX11_areApart_29 : decode cX11_areApart 29 = .ok (.iload_n 1, 1) := by decide +kernel
theorem dX11_areApart_30 : decode cX11_areApart 30 = .ok (.iload_n 3, 1) := by decide +kernel
theorem dX11_areApart_31 : decode cX11_areApart 31 = .ok (.ishr, 1) := by decide +kernel
theorem dX11_areApart_32 : decode cX11_areApart 32 = .ok (.iconst 1, 1) := by decide +kernel
theorem dX11_areApart_33 : decode cX11_areApart 33 = .ok (.iand, 1) := by decide +kernel
theorem dX11_areApart_34 : decode cX11_areApart 34 = .ok (.ifCond .eq 22, 3) := by decide +kernel
theorem dX11_areApart_37 : decode cX11_areApart 37 = .ok (.iload_n 1, 1) := by decide +kernel
theorem dX11_areApart_38 : decode cX11_areApart 38 = .ok (.iload 4, 2) := by decide +kernel
theorem dX11_areApart_40 : decode cX11_areApart 40 = .ok (.ishr, 1) := by decide +kernel
theorem dX11_areApart_41 : decode cX11_areApart 41 = .ok (.iconst 1, 1) := by decide +kernel
theorem dX11_areApart_42 : decode cX11_areApart 42 = .ok (.iand, 1) := by decide +kernel
theorem dX11_areApart_43 : decode cX11_areApart 43 = .ok (.ifCond .eq 13, 3) := by decide +kernel
theorem dX11_areApart_46 : decode cX11_areApart 46 = .ok (.aload_n 0, 1) := by decide +kernel
theorem dX11_areApart_47 : decode cX11_areApart 47 = .ok (.iload_n 3, 1) := by decide +kernel
theorem dX11_areApart_48 : decode cX11_areApart 48 = .ok (.iload 4, 2) := by decide +kernel
theorem dX11_areApart_50 : decode cX11_areApart 50 = .ok (.invokevirtual 367, 3) := by decide +kernel
theorem dX11_areApart_53 : decode cX11_areApart 53 = .ok (.ifCond .ne 7, 3) := by decide +kernel
theorem dX11_areApart_56 : decode cX11_areApart 56 = .ok (.iconst 1, 1) := by decide +kernel
theorem dX11_areApart_57 : decode cX11_areApart 57 = .ok (.goto 4, 3) := by decide +kernel
theorem dX11_areApart_60 : decode cX11_areApart 60 = .ok (.iconst 0, 1) := by decide +kernel
theorem dX11_areApart_61 : decode cX11_areApart 61 = .ok (.istore_n 2, 1) := by decide +kernel
theorem dX11_areApart_62 : decode cX11_areApart 62 = .ok (.iinc 4 1, 3) := by decide +kernel
theorem dX11_areApart_65 : decode cX11_areApart 65 = .ok (.goto (-46), 3) := by decide +kernel
theorem dX11_areApart_68 : decode cX11_areApart 68 = .ok (.iinc 3 1, 3) := by decide +kernel
theorem dX11_areApart_71 : decode cX11_areApart 71 = .ok (.goto (-67), 3) := by decide +kernel
theorem dX11_areApart_74 : decode cX11_areApart 74 = .ok (.iload_n 2, 1) := by decide +kernel
theorem dX11_areApart_75 : decode cX11_areApart 75 = .ok (.ireturn, 1) := by decide +kernel
theorem dX11_findApart_0 : decode cX11_findApart 0 = .ok (.iconst 0, 1) := by decide +kernel
theorem dX11_findApart_1 : decode cX11_findApart 1 = .ok (.istore_n 1, 1) := by decide +kernel
theorem dX11_findApart_2 : decode cX11_findApart 2 = .ok (.iconst 0, 1) := by decide +kernel
theorem dX11_findApart_3 : decode cX11_findApart 3 = .ok (.istore_n 2, 1) := by decide +kernel
theorem dX11_findApart_4 : decode cX11_findApart 4 = .ok (.iload_n 2, 1) := by decide +kernel
theorem dX11_findApart_5 : decode cX11_findApart 5 = .ok (.iconst 1, 1) := by decide +kernel
theorem dX11_findApart_6 : decode cX11_findApart 6 = .ok (.aload_n 0, 1) := by decide +kernel
theorem dX11_findApart_7 : decode cX11_findApart 7 = .ok (.invokevirtual 264, 3) := by decide +kernel
theorem dX11_findApart_10 : decode cX11_findApart 10 = .ok (.ishl, 1) := by decide +kernel
theorem dX11_findApart_11 : decode cX11_findApart 11 = .ok (.if_icmp .ge 34, 3) := by decide +kernel
theorem dX11_findApart_14 : decode cX11_findApart 14 = .ok (.iload_n 2, 1) := by decide +kernel
theorem dX11_findApart_15 : decode cX11_findApart 15 = .ok (.invokestatic 370, 3) := by decide +kernel
theorem dX11_findApart_18 : decode cX11_findApart 18 = .ok (.iload_n 1, 1) := by decide +kernel
theorem dX11_findApart_19 : decode cX11_findApart 19 = .ok (.invokestatic 370, 3) := by decide +kernel
theorem dX11_findApart_22 : decode cX11_findApart 22 = .ok (.if_icmp .le 15, 3) := by decide +kernel
theorem dX11_findApart_25 : decode cX11_findApart 25 = .ok (.aload_n 0, 1) := by decide +kernel
theorem dX11_findApart_26 : decode cX11_findApart 26 = .ok (.iload_n 2, 1) := by decide +kernel
theorem dX11_findApart_27 : decode cX11_findApart 27 = .ok (.invokevirtual 373, 3) := by decide +kernel
theorem dX11_findApart_30 : decode cX11_findApart 30 = .ok (.ifCond .eq 7, 3) := by decide +kernel
theorem dX11_findApart_33 : decode cX11_findApart 33 = .ok (.iload_n 2, 1) := by decide +kernel
theorem dX11_findApart_34 : decode cX11_findApart 34 = .ok (.goto 4, 3) := by decide +kernel
theorem dX11_findApart_37 : decode cX11_findApart 37 = .ok (.iload_n 1, 1) := by decide +kernel
theorem dX11_findApart_38 : decode cX11_findApart 38 = .ok (.istore_n 1, 1) := by decide +kernel
theorem dX11_findApart_39 : decode cX11_findApart 39 = .ok (.iinc 2 1, 3) := by decide +kernel
theorem dX11_findApart_42 : decode cX11_findApart 42 = .ok (.goto (-38), 3) := by decide +kernel
theorem dX11_findApart_45 : decode cX11_findApart 45 = .ok (.iload_n 1, 1) := by decide +kernel
theorem dX11_findApart_46 : decode cX11_findApart 46 = .ok (.ireturn, 1) := by decide +kernel
theorem dX11_isRound_0 : decode cX11_isRound 0 = .ok (.aload_n 0, 1) := by decide +kernel
theorem dX11_isRound_1 : decode cX11_isRound 1 = .ok (.invokevirtual 364, 3) := by decide +kernel
theorem dX11_isRound_4 : decode cX11_isRound 4 = .ok (.iconst 0, 1) := by decide +kernel
theorem dX11_isRound_5 : decode cX11_isRound 5 = .ok (.istore_n 1, 1) := by decide +kernel
theorem dX11_isRound_6 : decode cX11_isRound 6 = .ok (.iconst 0, 1) := by decide +kernel
theorem dX11_isRound_7 : decode cX11_isRound 7 = .ok (.istore_n 2, 1) := by decide +kernel
theorem dX11_isRound_8 : decode cX11_isRound 8 = .ok (.iload_n 2, 1) := by decide +kernel
theorem dX11_isRound_9 : decode cX11_isRound 9 = .ok (.aload_n 0, 1) := by decide +kernel
theorem dX11_isRound_10 : decode cX11_isRound 10 = .ok (.invokevirtual 264, 3) := by decide +kernel
theorem dX11_isRound_13 : decode cX11_isRound 13 = .ok (.if_icmp .ge 33, 3) := by decide +kernel
theorem dX11_isRound_16 : decode cX11_isRound 16 = .ok (.iload_n 1, 1) := by decide +kernel
theorem dX11_isRound_17 : decode cX11_isRound 17 = .ok (.ifCond .ne 17, 3) := by decide +kernel
theorem dX11_isRound_20 : decode cX11_isRound 20 = .ok (.aload_n 0, 1) := by decide +kernel
theorem dX11_isRound_21 : decode cX11_isRound 21 = .ok (.getfield 117, 3) := by decide +kernel
theorem dX11_isRound_24 : decode cX11_isRound 24 = .ok (.bipush 12, 2) := by decide +kernel
theorem dX11_isRound_26 : decode cX11_isRound 26 = .ok (.iload_n 2, 1) := by decide +kernel
theorem dX11_isRound_27 : decode cX11_isRound 27 = .ok (.imul, 1) := by decide +kernel
theorem dX11_isRound_28 : decode cX11_isRound 28 = .ok (.iload_n 2, 1) := by decide +kernel
theorem dX11_isRound_29 : decode cX11_isRound 29 = .ok (.iadd, 1) := by decide +kernel
theorem dX11_isRound_30 : decode cX11_isRound 30 = .ok (.baload, 1) := by decide +kernel
theorem dX11_isRound_31 : decode cX11_isRound 31 = .ok (.ifCond .eq 7, 3) := by decide +kernel
theorem dX11_isRound_34 : decode cX11_isRound 34 = .ok (.iconst 1, 1) := by decide +kernel
theorem dX11_isRound_35 : decode cX11_isRound 35 = .ok (.goto 4, 3) := by decide +kernel
theorem dX11_isRound_38 : decode cX11_isRound 38 = .ok (.iconst 0, 1) := by decide +kernel
theorem dX11_isRound_39 : decode cX11_isRound 39 = .ok (.istore_n 1, 1) := by decide +kernel
theorem dX11_isRound_40 : decode cX11_isRound 40 = .ok (.iinc 2 1, 3) := by decide +kernel
theorem dX11_isRound_43 : decode cX11_isRound 43 = .ok (.goto (-35), 3) := by decide +kernel
theorem dX11_isRound_46 : decode cX11_isRound 46 = .ok (.iload_n 1, 1) := by decide +kernel
theorem dX11_isRound_47 : decode cX11_isRound 47 = .ok (.ireturn, 1) := by decide +kernel
theorem dX11_through_0 : decode cX11_through 0 = .ok (.aload_n 0, 1) := by decide +kernel
theorem dX11_through_1 : decode cX11_through 1 = .ok (.iconst 0, 1) := by decide +kernel
theorem dX11_through_2 : decode cX11_through 2 = .ok (.putfield 1, 3) := by decide +kernel
theorem dX11_through_5 : decode cX11_through 5 = .ok (.aload_n 0, 1) := by decide +kernel
theorem dX11_through_6 : decode cX11_through 6 = .ok (.iload_n 1, 1) := by decide +kernel
theorem dX11_through_7 : decode cX11_through 7 = .ok (.invokevirtual 277, 3) := by decide +kernel
theorem dX11_through_10 : decode cX11_through 10 = .ok (.ifCond .eq 11, 3) := by decide +kernel
theorem dX11_through_13 : decode cX11_through 13 = .ok (.aload_n 0, 1) := by decide +kernel
theorem dX11_through_14 : decode cX11_through 14 = .ok (.iload_n 2, 1) := by decide +kernel
theorem dX11_through_15 : decode cX11_through 15 = .ok (.invokevirtual 277, 3) := by decide +kernel
theorem dX11_through_18 : decode cX11_through 18 = .ok (.ifCond .ne 5, 3) := by decide +kernel
theorem dX11_through_21 : decode cX11_through 21 = .ok (.iconst (-1), 1) := by decide +kernel
theorem dX11_through_22 : decode cX11_through 22 = .ok (.ireturn, 1) := by decide +kernel
theorem dX11_through_23 : decode cX11_through 23 = .ok (.aload_n 0, 1) := by decide +kernel
theorem dX11_through_24 : decode cX11_through 24 = .ok (.invokevirtual 364, 3) := by decide +kernel
theorem dX11_through_27 : decode cX11_through 27 = .ok (.aload_n 0, 1) := by decide +kernel
theorem dX11_through_28 : decode cX11_through 28 = .ok (.getfield 117, 3) := by decide +kernel
theorem dX11_through_31 : decode cX11_through 31 = .ok (.bipush 12, 2) := by decide +kernel
theorem dX11_through_33 : decode cX11_through 33 = .ok (.iload_n 1, 1) := by decide +kernel
theorem dX11_through_34 : decode cX11_through 34 = .ok (.imul, 1) := by decide +kernel
theorem dX11_through_35 : decode cX11_through 35 = .ok (.iload_n 2, 1) := by decide +kernel
theorem dX11_through_36 : decode cX11_through 36 = .ok (.iadd, 1) := by decide +kernel
theorem dX11_through_37 : decode cX11_through 37 = .ok (.baload, 1) := by decide +kernel
theorem dX11_through_38 : decode cX11_through 38 = .ok (.ifCond .eq 7, 3) := by decide +kernel
theorem dX11_through_41 : decode cX11_through 41 = .ok (.iconst 1, 1) := by decide +kernel
theorem dX11_through_42 : decode cX11_through 42 = .ok (.goto 4, 3) := by decide +kernel
theorem dX11_through_45 : decode cX11_through 45 = .ok (.iconst 0, 1) := by decide +kernel
theorem dX11_through_46 : decode cX11_through 46 = .ok (.ireturn, 1) := by decide +kernel
theorem dX11_rows_0 : decode cX11_rows 0 = .ok (.aload_n 0, 1) := by decide +kernel
theorem dX11_rows_1 : decode cX11_rows 1 = .ok (.iconst 0, 1) := by decide +kernel
theorem dX11_rows_2 : decode cX11_rows 2 = .ok (.putfield 1, 3) := by decide +kernel
theorem dX11_rows_5 : decode cX11_rows 5 = .ok (.iload_n 1, 1) := by decide +kernel
theorem dX11_rows_6 : decode cX11_rows 6 = .ok (.iconst 0, 1) := by decide +kernel
theorem dX11_rows_7 : decode cX11_rows 7 = .ok (.iconst 1, 1) := by decide +kernel
theorem dX11_rows_8 : decode cX11_rows 8 = .ok (.invokestatic 280, 3) := by decide +kernel
theorem dX11_rows_11 : decode cX11_rows 11 = .ok (.ifCond .eq 10, 3) := by decide +kernel
theorem dX11_rows_14 : decode cX11_rows 14 = .ok (.aload_n 0, 1) := by decide +kernel
theorem dX11_rows_15 : decode cX11_rows 15 = .ok (.invokevirtual 376, 3) := by decide +kernel
theorem dX11_rows_18 : decode cX11_rows 18 = .ok (.ifCond .eq 5, 3) := by decide +kernel
theorem dX11_rows_21 : decode cX11_rows 21 = .ok (.iconst (-1), 1) := by decide +kernel
theorem dX11_rows_22 : decode cX11_rows 22 = .ok (.ireturn, 1) := by decide +kernel
theorem dX11_rows_23 : decode cX11_rows 23 = .ok (.aload_n 0, 1) := by decide +kernel
theorem dX11_rows_24 : decode cX11_rows 24 = .ok (.invokevirtual 379, 3) := by decide +kernel
theorem dX11_rows_27 : decode cX11_rows 27 = .ok (.istore_n 2, 1) := by decide +kernel
theorem dX11_rows_28 : decode cX11_rows 28 = .ok (.iload_n 1, 1) := by decide +kernel
theorem dX11_rows_29 : decode cX11_rows 29 = .ok (.ifCond .ne 10, 3) := by decide +kernel
theorem dX11_rows_32 : decode cX11_rows 32 = .ok (.iload_n 2, 1) := by decide +kernel
theorem dX11_rows_33 : decode cX11_rows 33 = .ok (.invokestatic 370, 3) := by decide +kernel
theorem dX11_rows_36 : decode cX11_rows 36 = .ok (.goto 4, 3) := by decide +kernel
theorem dX11_rows_39 : decode cX11_rows 39 = .ok (.iload_n 2, 1) := by decide +kernel
theorem dX11_rows_40 : decode cX11_rows 40 = .ok (.ireturn, 1) := by decide +kernel
theorem dX11_parts_0 : decode cX11_parts 0 = .ok (.iload_n 1, 1) := by decide +kernel
theorem dX11_parts_1 : decode cX11_parts 1 = .ok (.aload_n 0, 1) := by decide +kernel
theorem dX11_parts_2 : decode cX11_parts 2 = .ok (.invokevirtual 264, 3) := by decide +kernel
theorem dX11_parts_5 : decode cX11_parts 5 = .ok (.if_icmp .ne 5, 3) := by decide +kernel
theorem dX11_parts_8 : decode cX11_parts 8 = .ok (.iconst 1, 1) := by decide +kernel
theorem dX11_parts_9 : decode cX11_parts 9 = .ok (.ireturn, 1) := by decide +kernel
theorem dX11_parts_10 : decode cX11_parts 10 = .ok (.iconst 0, 1) := by decide +kernel
theorem dX11_parts_11 : decode cX11_parts 11 = .ok (.istore 4, 2) := by decide +kernel
theorem dX11_parts_13 : decode cX11_parts 13 = .ok (.iload 4, 2) := by decide +kernel
theorem dX11_parts_15 : decode cX11_parts 15 = .ok (.iload_n 2, 1) := by decide +kernel
theorem dX11_parts_16 : decode cX11_parts 16 = .ok (.if_icmp .gt 106, 3) := by decide +kernel
theorem dX11_parts_19 : decode cX11_parts 19 = .ok (.iload 4, 2) := by decide +kernel
theorem dX11_parts_21 : decode cX11_parts 21 = .ok (.iload_n 3, 1) := by decide +kernel
theorem dX11_parts_22 : decode cX11_parts 22 = .ok (.if_icmp .ge 100, 3) := by decide +kernel
theorem dX11_parts_25 : decode cX11_parts 25 = .ok (.iconst 1, 1) := by decide +kernel
theorem dX11_parts_26 : decode cX11_parts 26 = .ok (.istore 5, 2) := by decide +kernel
theorem dX11_parts_28 : decode cX11_parts 28 = .ok (.iconst 0, 1) := by decide +kernel
theorem dX11_parts_29 : decode cX11_parts 29 = .ok (.istore 6, 2) := by decide +kernel
theorem dX11_parts_31 : decode cX11_parts 31 = .ok (.iload 6, 2) := by decide +kernel
theorem dX11_parts_33 : decode cX11_parts 33 = .ok (.iload_n 1, 1) := by decide +kernel
theorem dX11_parts_34 : decode cX11_parts 34 = .ok (.if_icmp .ge 43, 3) := by decide +kernel
theorem dX11_parts_37 : decode cX11_parts 37 = .ok (.iload 5, 2) := by decide +kernel
theorem dX11_parts_39 : decode cX11_parts 39 = .ok (.ifCond .eq 29, 3) := by decide +kernel
theorem dX11_parts_42 : decode cX11_parts 42 = .ok (.aload_n 0, 1) := by decide +kernel
theorem dX11_parts_43 : decode cX11_parts 43 = .ok (.getfield 130, 3) := by decide +kernel
theorem dX11_parts_46 : decode cX11_parts 46 = .ok (.iload 6, 2) := by decide +kernel
theorem dX11_parts_48 : decode cX11_parts 48 = .ok (.iaload, 1) := by decide +kernel
theorem dX11_parts_49 : decode cX11_parts 49 = .ok (.iload 4, 2) := by decide +kernel
theorem dX11_parts_51 : decode cX11_parts 51 = .ok (.if_icmp .ne 13, 3) := by decide +kernel
theorem dX11_parts_54 : decode cX11_parts 54 = .ok (.aload_n 0, 1) := by decide +kernel
theorem dX11_parts_55 : decode cX11_parts 55 = .ok (.iload_n 1, 1) := by decide +kernel
theorem dX11_parts_56 : decode cX11_parts 56 = .ok (.iload 6, 2) := by decide +kernel
theorem dX11_parts_58 : decode cX11_parts 58 = .ok (.invokevirtual 367, 3) := by decide +kernel
theorem dX11_parts_61 : decode cX11_parts 61 = .ok (.ifCond .eq 7, 3) := by decide +kernel
theorem dX11_parts_64 : decode cX11_parts 64 = .ok (.iconst 1, 1) := by decide +kernel
theorem dX11_parts_65 : decode cX11_parts 65 = .ok (.goto 4, 3) := by decide +kernel
theorem dX11_parts_68 : decode cX11_parts 68 = .ok (.iconst 0, 1) := by decide +kernel
theorem dX11_parts_69 : decode cX11_parts 69 = .ok (.istore 5, 2) := by decide +kernel
theorem dX11_parts_71 : decode cX11_parts 71 = .ok (.iinc 6 1, 3) := by decide +kernel
theorem dX11_parts_74 : decode cX11_parts 74 = .ok (.goto (-43), 3) := by decide +kernel
theorem dX11_parts_77 : decode cX11_parts 77 = .ok (.aload_n 0, 1) := by decide +kernel
theorem dX11_parts_78 : decode cX11_parts 78 = .ok (.getfield 130, 3) := by decide +kernel
theorem dX11_parts_81 : decode cX11_parts 81 = .ok (.iload_n 1, 1) := by decide +kernel
theorem dX11_parts_82 : decode cX11_parts 82 = .ok (.iload 4, 2) := by decide +kernel
theorem dX11_parts_84 : decode cX11_parts 84 = .ok (.iastore, 1) := by decide +kernel
theorem dX11_parts_85 : decode cX11_parts 85 = .ok (.iload 5, 2) := by decide +kernel
theorem dX11_parts_87 : decode cX11_parts 87 = .ok (.ifCond .eq 29, 3) := by decide +kernel
theorem dX11_parts_90 : decode cX11_parts 90 = .ok (.aload_n 0, 1) := by decide +kernel
theorem dX11_parts_91 : decode cX11_parts 91 = .ok (.iload_n 1, 1) := by decide +kernel
theorem dX11_parts_92 : decode cX11_parts 92 = .ok (.iconst 1, 1) := by decide +kernel
theorem dX11_parts_93 : decode cX11_parts 93 = .ok (.iadd, 1) := by decide +kernel
theorem dX11_parts_94 : decode cX11_parts 94 = .ok (.iload 4, 2) := by decide +kernel
theorem dX11_parts_96 : decode cX11_parts 96 = .ok (.iload_n 2, 1) := by decide +kernel
theorem dX11_parts_97 : decode cX11_parts 97 = .ok (.if_icmp .ne 9, 3) := by decide +kernel
theorem dX11_parts_100 : decode cX11_parts 100 = .ok (.iload_n 2, 1) := by decide +kernel
theorem dX11_parts_101 : decode cX11_parts 101 = .ok (.iconst 1, 1) := by decide +kernel
theorem dX11_parts_102 : decode cX11_parts 102 = .ok (.iadd, 1) := by decide +kernel
theorem dX11_parts_103 : decode cX11_parts 103 = .ok (.goto 4, 3) := by decide +kernel
theorem dX11_parts_106 : decode cX11_parts 106 = .ok (.iload_n 2, 1) := by decide +kernel
theorem dX11_parts_107 : decode cX11_parts 107 = .ok (.iload_n 3, 1) := by decide +kernel
theorem dX11_parts_108 : decode cX11_parts 108 = .ok (.invokevirtual 382, 3) := by decide +kernel
theorem dX11_parts_111 : decode cX11_parts 111 = .ok (.ifCond .eq 5, 3) := by decide +kernel
theorem dX11_parts_114 : decode cX11_parts 114 = .ok (.iconst 1, 1) := by decide +kernel
theorem dX11_parts_115 : decode cX11_parts 115 = .ok (.ireturn, 1) := by decide +kernel
theorem dX11_parts_116 : decode cX11_parts 116 = .ok (.iinc 4 1, 3) := by decide +kernel
theorem dX11_parts_119 : decode cX11_parts 119 = .ok (.goto (-106), 3) := by decide +kernel
theorem dX11_parts_122 : decode cX11_parts 122 = .ok (.iconst 0, 1) := by decide +kernel
theorem dX11_parts_123 : decode cX11_parts 123 = .ok (.ireturn, 1) := by decide +kernel
theorem dX11_rowOf_0 : decode cX11_rowOf 0 = .ok (.aload_n 0, 1) := by decide +kernel
theorem dX11_rowOf_1 : decode cX11_rowOf 1 = .ok (.iconst 0, 1) := by decide +kernel
theorem dX11_rowOf_2 : decode cX11_rowOf 2 = .ok (.putfield 1, 3) := by decide +kernel
theorem dX11_rowOf_5 : decode cX11_rowOf 5 = .ok (.aload_n 0, 1) := by decide +kernel
theorem dX11_rowOf_6 : decode cX11_rowOf 6 = .ok (.iload_n 1, 1) := by decide +kernel
theorem dX11_rowOf_7 : decode cX11_rowOf 7 = .ok (.invokevirtual 277, 3) := by decide +kernel
theorem dX11_rowOf_10 : decode cX11_rowOf 10 = .ok (.ifCond .eq 10, 3) := by decide +kernel
theorem dX11_rowOf_13 : decode cX11_rowOf 13 = .ok (.aload_n 0, 1) := by decide +kernel
theorem dX11_rowOf_14 : decode cX11_rowOf 14 = .ok (.invokevirtual 376, 3) := by decide +kernel
theorem dX11_rowOf_17 : decode cX11_rowOf 17 = .ok (.ifCond .eq 5, 3) := by decide +kernel
theorem dX11_rowOf_20 : decode cX11_rowOf 20 = .ok (.iconst (-1), 1) := by decide +kernel
theorem dX11_rowOf_21 : decode cX11_rowOf 21 = .ok (.ireturn, 1) := by decide +kernel
theorem dX11_rowOf_22 : decode cX11_rowOf 22 = .ok (.aload_n 0, 1) := by decide +kernel
theorem dX11_rowOf_23 : decode cX11_rowOf 23 = .ok (.iconst 0, 1) := by decide +kernel
theorem dX11_rowOf_24 : decode cX11_rowOf 24 = .ok (.iconst 0, 1) := by decide +kernel
theorem dX11_rowOf_25 : decode cX11_rowOf 25 = .ok (.aload_n 0, 1) := by decide +kernel
theorem dX11_rowOf_26 : decode cX11_rowOf 26 = .ok (.invokevirtual 379, 3) := by decide +kernel
theorem dX11_rowOf_29 : decode cX11_rowOf 29 = .ok (.invokestatic 370, 3) := by decide +kernel
theorem dX11_rowOf_32 : decode cX11_rowOf 32 = .ok (.invokevirtual 382, 3) := by decide +kernel
theorem dX11_rowOf_35 : decode cX11_rowOf 35 = .ok (.pop, 1) := by decide +kernel
theorem dX11_rowOf_36 : decode cX11_rowOf 36 = .ok (.aload_n 0, 1) := by decide +kernel
theorem dX11_rowOf_37 : decode cX11_rowOf 37 = .ok (.getfield 130, 3) := by decide +kernel
theorem dX11_rowOf_40 : decode cX11_rowOf 40 = .ok (.iload_n 1, 1) := by decide +kernel
theorem dX11_rowOf_41 : decode cX11_rowOf 41 = .ok (.iaload, 1) := by decide +kernel
theorem dX11_rowOf_42 : decode cX11_rowOf 42 = .ok (.ireturn, 1) := by decide +kernel
set_option maxHeartbeats 4000000 in
set_option maxRecDepth 100000 in
theorem c_X11_areChained (l : Launch) (D : DG) (cyC cyI cyJ cyZ cyO : ClassId) (m0 : Nat) (mthr : Nat) (mtape : Nat) (msort : Nat) (mplace : Nat) (mvalue : Nat) (mwords : Nat) (mtold : Nat) (mop : Nat) (marg : Nat) (mnames : Nat) (mhasHabit : Nat) (mfactWords : Nat) (mfacts : Nat) (mpile : Nat) (mstates : Nat) (misMarked : Nat) (mrow : Nat) (mmays : Nat) (mtall : Nat) (mweights : Nat) (mrowOfWare : Nat) (mneededOf : Nat) (mtried : Nat) (mbestRow : Nat) (mdigits : Nat) (p0 : Int32) (p1 : Int32) (m_thrown : Int32) (m_taped : Int32) (m_size : Int32) (m_at : Int32) (m_fault : Int32) (m_codes : Int32) (m_isNew : Int32) (m_inShelf : Int32) (m_inStack : Int32) (m_inPlace : Int32) (m_rowMany : Int32) (m_goShelf : Int32) (m_goStack : Int32) (m_goLeft : Int32) (m_bestCost : Int32) (m_bestMany : Int32) (m_bestShelf : Int32) (m_bestSet : Int32) (m_thr : Nat → Int32) (h_m_taped : 0 ≤ (m_taped).toInt ∧ (m_taped).toInt ≤ 1000) (h_m_size : 0 ≤ (m_size).toInt ∧ (m_size).toInt ≤ 1000) (h_m_at : 0 ≤ (m_at).toInt ∧ (m_at).toInt ≤ 1000) (h_m_fault : 0 ≤ (m_fault).toInt ∧ (m_fault).toInt ≤ 16005) (h_m_codes : 0 ≤ (m_codes).toInt ∧ (m_codes).toInt ≤ 1000) (h_m_isNew : 0 ≤ (m_isNew).toInt ∧ (m_isNew).toInt ≤ 1) (h_m_inShelf : 0 ≤ (m_inShelf).toInt ∧ (m_inShelf).toInt ≤ 3) (h_m_inStack : 0 ≤ (m_inStack).toInt ∧ (m_inStack).toInt ≤ 7) (h_m_inPlace : 0 ≤ (m_inPlace).toInt ∧ (m_inPlace).toInt ≤ 11) (h_m_rowMany : 0 ≤ (m_rowMany).toInt ∧ (m_rowMany).toInt ≤ 12) (h_m_goShelf : -1 ≤ (m_goShelf).toInt ∧ (m_goShelf).toInt ≤ 3) (h_m_bestMany : 0 ≤ (m_bestMany).toInt ∧ (m_bestMany).toInt ≤ 7) (h_m_bestShelf : 0 ≤ (m_bestShelf).toInt ∧ (m_bestShelf).toInt ≤ 3) (h_p0 : 0 ≤ (p0).toInt ∧ (p0).toInt ≤ 11) (h_p1 : 0 ≤ (p1).toInt ∧ (p1).toInt ≤ 11) : KK l D (TY cyC cyI cyJ cyZ cyO) yX11_areChained cX11_areChained 3 (some .boolean) ({ frames := 0, cells := 0, slots := 0, locals := 0 } : Room) 0 0 [.ref m0, .int p0, .int p1] [(m0, .inr (11, [.int m_thrown, .ref mtape, .int m_taped, .int m_size, .ref msort, .ref mplace, .ref mvalue, .int m_at, .int m_fault, .ref mwords, .ref mtold, .ref mop, .ref marg, .int m_codes, .ref mnames, .ref mhasHabit, .int m_isNew, .ref mfactWords, .ref mfacts, .ref mpile, .ref mstates, .ref misMarked, .int m_inShelf, .int m_inStack, .int m_inPlace, .ref mrow, .int m_rowMany, .ref mthr, .ref mmays, .ref mtall, .ref mweights, .ref mrowOfWare, .ref mneededOf, .int m_goShelf, .int m_goStack, .int m_goLeft, .ref mtried, .ref mbestRow, .int m_bestCost, .int m_bestMany, .int m_bestShelf, .int m_bestSet, .ref mdigits])), (mthr, .inl (cyZ, 144, .inl m_thr))] (fun u => some (.int (u.2.1 0))) (fun u => (0 ≤ (u.2.1 0).toInt ∧ (u.2.1 0).toInt ≤ 1)) (fun u => [(m0, .inr (11, [.int m_thrown, .ref mtape, .int m_taped, .int m_size, .ref msort, .ref mplace, .ref mvalue, .int m_at, .int m_fault, .ref mwords, .ref mtold, .ref mop, .ref marg, .int m_codes, .ref mnames, .ref mhasHabit, .int m_isNew, .ref mfactWords, .ref mfacts, .ref mpile, .ref mstates, .ref misMarked, .int m_inShelf, .int m_inStack, .int m_inPlace, .ref mrow, .int m_rowMany, .ref mthr, .ref mmays, .ref mtall, .ref mweights, .ref mrowOfWare, .ref mneededOf, .int m_goShelf, .int m_goStack, .int m_goLeft, .ref mtried, .ref mbestRow, .int m_bestCost, .int m_bestMany, .int m_bestShelf, .int m_bestSet, .ref mdigits])), (mthr, .inl (cyZ, 144, .inl m_thr))]) := by
  refine KK.of (lv0 := [(0, .ref m0), (1, .int p0), (2, .int p1)]) (by decide) rfl (Nat.le_of_ble_eq_true rfl) ?_
  intro p e s m args below meth c A C hr hk hin
  refine j_aload_n (pc := 0) C dX11_areChained_0 rfl 0 rfl ?_
  refine j_get (pc := 1) (ci := 11) (v := .ref mthr) C inw_11 0 rfl rfl 27 (by decide) wd_907 rfl rfl dX11_areChained_1 ?_
  refine j_bipush (pc := 4) (v := 12) C dX11_areChained_4 (by decide) ?_
  refine j_iload_n (pc := 6) C dX11_areChained_6 rfl 1 rfl ?_
  obtain ⟨v_1, ev_1⟩ : ∃ z : Int32, 12 * p0 = z := ⟨_, rfl⟩
  have el_12 : (12 : Int32).toInt = 12 := rfl
  have hv_1 : v_1.toInt = 12 * p0.toInt := by rw [← ev_1]; exact mulL (c := 12) rfl (by omega) (by omega)
  refine j_imul (pc := 7) (v := v_1) C dX11_areChained_7 ev_1 ?_
  refine j_iload_n (pc := 8) C dX11_areChained_8 rfl 2 rfl ?_
  obtain ⟨v_2, ev_2⟩ : ∃ z : Int32, v_1 + p1 = z := ⟨_, rfl⟩
  have hv_2 : v_2.toInt = v_1.toInt + p1.toInt := by rw [← ev_2]; exact fb_addI (by omega) (by omega)
  refine j_iadd (pc := 9) (v := v_2) C dX11_areChained_9 ev_2 ?_
  obtain ⟨v_3, ev_3⟩ : ∃ z, m_thr (v_2).toInt.toNat = z := ⟨_, rfl⟩
  have env_3 : (m_thr (v_2).toInt.toNat).toInt = v_3.toInt := by rw [ev_3]
  refine j_zald (pc := 10) (v := v_3) (k := (v_2).toInt.toNat) C 1 3 rfl rfl (i_nn (by omega)) rfl (i_lt_n (by omega) (by omega)) ev_3 dX11_areChained_10 ?_
  refine j_if_ne (pc := 11) (tgt := 28) C dX11_areChained_11 (by decide) (fun c_4 => ?_) (fun c_4 => ?_)
  · skip
    have el_0 : (0 : Int32).toInt = 0 := rfl
    rw [i_eq] at c_4
    refine j_iconst (pc := 28) (v := 1) C dX11_areChained_28 (by decide) ?_
    refine j_goto (pc := 29) (tgt := 33) C dX11_areChained_29 (by decide) ?_
    have el_1 : (1 : Int32).toInt = 1 := rfl
    exact j_zret (pc := 33) C hr rfl hk (fun i => [].getD i 0, fun i => [1].getD i 0, fun i => [].getD i (fun _ => 0), fun i => [].getD i (fun _ => 0)) rfl (show (0 ≤ ((1 : Int32)).toInt ∧ ((1 : Int32)).toInt ≤ 1) from (by omega)) [0, 1] (by decide) rfl (by decide) (by decide) dX11_areChained_33
  · skip
    have el_0 : (0 : Int32).toInt = 0 := rfl
    rw [i_eq] at c_4
    refine j_aload_n (pc := 14) C dX11_areChained_14 rfl 0 rfl ?_
    refine j_get (pc := 15) (ci := 11) (v := .ref mthr) C inw_11 0 rfl rfl 27 (by decide) wd_907 rfl rfl dX11_areChained_15 ?_
    refine j_bipush (pc := 18) (v := 12) C dX11_areChained_18 (by decide) ?_
    refine j_iload_n (pc := 20) C dX11_areChained_20 rfl 2 rfl ?_
    obtain ⟨v_5, ev_5⟩ : ∃ z : Int32, 12 * p1 = z := ⟨_, rfl⟩
    have el_12 : (12 : Int32).toInt = 12 := rfl
    have hv_5 : v_5.toInt = 12 * p1.toInt := by rw [← ev_5]; exact mulL (c := 12) rfl (by omega) (by omega)
    refine j_imul (pc := 21) (v := v_5) C dX11_areChained_21 ev_5 ?_
    refine j_iload_n (pc := 22) C dX11_areChained_22 rfl 1 rfl ?_
    obtain ⟨v_6, ev_6⟩ : ∃ z : Int32, v_5 + p0 = z := ⟨_, rfl⟩
    have hv_6 : v_6.toInt = v_5.toInt + p0.toInt := by rw [← ev_6]; exact fb_addI (by omega) (by omega)
    refine j_iadd (pc := 23) (v := v_6) C dX11_areChained_23 ev_6 ?_
    obtain ⟨v_7, ev_7⟩ : ∃ z, m_thr (v_6).toInt.toNat = z := ⟨_, rfl⟩
    have env_7 : (m_thr (v_6).toInt.toNat).toInt = v_7.toInt := by rw [ev_7]
    refine j_zald (pc := 24) (v := v_7) (k := (v_6).toInt.toNat) C 1 3 rfl rfl (i_nn (by omega)) rfl (i_lt_n (by omega) (by omega)) ev_7 dX11_areChained_24 ?_
    refine j_if_eq (pc := 25) (tgt := 32) C dX11_areChained_25 (by decide) (fun c_8 => ?_) (fun c_8 => ?_)
    · skip
      have el_0 : (0 : Int32).toInt = 0 := rfl
      rw [i_eq] at c_8
      refine j_iconst (pc := 32) (v := 0) C dX11_areChained_32 (by decide) ?_
      have el_0 : (0 : Int32).toInt = 0 := rfl
      exact j_zret (pc := 33) C hr rfl hk (fun i => [].getD i 0, fun i => [0].getD i 0, fun i => [].getD i (fun _ => 0), fun i => [].getD i (fun _ => 0)) rfl (show (0 ≤ ((0 : Int32)).toInt ∧ ((0 : Int32)).toInt ≤ 1) from (by omega)) [0, 1] (by decide) rfl (by decide) (by decide) dX11_areChained_33
    · skip
      have el_0 : (0 : Int32).toInt = 0 := rfl
      rw [i_eq] at c_8
      refine j_iconst (pc := 28) (v := 1) C dX11_areChained_28 (by decide) ?_
      refine j_goto (pc := 29) (tgt := 33) C dX11_areChained_29 (by decide) ?_
      have el_1 : (1 : Int32).toInt = 1 := rfl
      exact j_zret (pc := 33) C hr rfl hk (fun i => [].getD i 0, fun i => [1].getD i 0, fun i => [].getD i (fun _ => 0), fun i => [].getD i (fun _ => 0)) rfl (show (0 ≤ ((1 : Int32)).toInt ∧ ((1 : Int32)).toInt ≤ 1) from (by omega)) [0, 1] (by decide) rfl (by decide) (by decide) dX11_areChained_33
set_option maxHeartbeats 4000000 in
set_option maxRecDepth 100000 in
theorem c_X11_areApart (l : Launch) (D : DG) (cyC cyI cyJ cyZ cyO : ClassId) (m0 : Nat) (mtold : Nat) (mthr : Nat) (mtape : Nat) (msort : Nat) (mplace : Nat) (mvalue : Nat) (mwords : Nat) (mop : Nat) (marg : Nat) (mnames : Nat) (mhasHabit : Nat) (mfactWords : Nat) (mfacts : Nat) (mpile : Nat) (mstates : Nat) (misMarked : Nat) (mrow : Nat) (mmays : Nat) (mtall : Nat) (mweights : Nat) (mrowOfWare : Nat) (mneededOf : Nat) (mtried : Nat) (mbestRow : Nat) (mdigits : Nat) (p0 : Int32) (m_thrown : Int32) (m_taped : Int32) (m_size : Int32) (m_at : Int32) (m_fault : Int32) (m_codes : Int32) (m_isNew : Int32) (m_inShelf : Int32) (m_inStack : Int32) (m_inPlace : Int32) (m_rowMany : Int32) (m_goShelf : Int32) (m_goStack : Int32) (m_goLeft : Int32) (m_bestCost : Int32) (m_bestMany : Int32) (m_bestShelf : Int32) (m_bestSet : Int32) (m_told : Nat → Int32) (m_thr : Nat → Int32) (h_m_taped : 0 ≤ (m_taped).toInt ∧ (m_taped).toInt ≤ 1000) (h_m_size : 0 ≤ (m_size).toInt ∧ (m_size).toInt ≤ 1000) (h_m_at : 0 ≤ (m_at).toInt ∧ (m_at).toInt ≤ 1000) (h_m_fault : 0 ≤ (m_fault).toInt ∧ (m_fault).toInt ≤ 16005) (h_m_codes : 0 ≤ (m_codes).toInt ∧ (m_codes).toInt ≤ 1000) (h_m_isNew : 0 ≤ (m_isNew).toInt ∧ (m_isNew).toInt ≤ 1) (h_m_inShelf : 0 ≤ (m_inShelf).toInt ∧ (m_inShelf).toInt ≤ 3) (h_m_inStack : 0 ≤ (m_inStack).toInt ∧ (m_inStack).toInt ≤ 7) (h_m_inPlace : 0 ≤ (m_inPlace).toInt ∧ (m_inPlace).toInt ≤ 11) (h_m_rowMany : 0 ≤ (m_rowMany).toInt ∧ (m_rowMany).toInt ≤ 12) (h_m_goShelf : -1 ≤ (m_goShelf).toInt ∧ (m_goShelf).toInt ≤ 3) (h_m_bestMany : 0 ≤ (m_bestMany).toInt ∧ (m_bestMany).toInt ≤ 7) (h_m_bestShelf : 0 ≤ (m_bestShelf).toInt ∧ (m_bestShelf).toInt ≤ 3) (h_m_told : TV m_told) : KK l D (TY cyC cyI cyJ cyZ cyO) yX11_areApart cX11_areApart 5 (some .boolean) ({ frames := 1, cells := 0, slots := 0, locals := 22 } : Room) 0 0 [.ref m0, .int p0] [(m0, .inr (11, [.int m_thrown, .ref mtape, .int m_taped, .int m_size, .ref msort, .ref mplace, .ref mvalue, .int m_at, .int m_fault, .ref mwords, .ref mtold, .ref mop, .ref marg, .int m_codes, .ref mnames, .ref mhasHabit, .int m_isNew, .ref mfactWords, .ref mfacts, .ref mpile, .ref mstates, .ref misMarked, .int m_inShelf, .int m_inStack, .int m_inPlace, .ref mrow, .int m_rowMany, .ref mthr, .ref mmays, .ref mtall, .ref mweights, .ref mrowOfWare, .ref mneededOf, .int m_goShelf, .int m_goStack, .int m_goLeft, .ref mtried, .ref mbestRow, .int m_bestCost, .int m_bestMany, .int m_bestShelf, .int m_bestSet, .ref mdigits])), (mtold, .inl (cyI, 240, .inl m_told)), (mthr, .inl (cyZ, 144, .inl m_thr))] (fun u => some (.int (u.2.1 0))) (fun u => (0 ≤ (u.2.1 0).toInt ∧ (u.2.1 0).toInt ≤ 1)) (fun u => [(m0, .inr (11, [.int m_thrown, .ref mtape, .int m_taped, .int m_size, .ref msort, .ref mplace, .ref mvalue, .int m_at, .int m_fault, .ref mwords, .ref mtold, .ref mop, .ref marg, .int m_codes, .ref mnames, .ref mhasHabit, .int m_isNew, .ref mfactWords, .ref mfacts, .ref mpile, .ref mstates, .ref misMarked, .int m_inShelf, .int m_inStack, .int m_inPlace, .ref mrow, .int m_rowMany, .ref mthr, .ref mmays, .ref mtall, .ref mweights, .ref mrowOfWare, .ref mneededOf, .int m_goShelf, .int m_goStack, .int m_goLeft, .ref mtried, .ref mbestRow, .int m_bestCost, .int m_bestMany, .int m_bestShelf, .int m_bestSet, .ref mdigits])), (mtold, .inl (cyI, 240, .inl m_told)), (mthr, .inl (cyZ, 144, .inl m_thr))]) := by
  refine KK.of (lv0 := [(0, .ref m0), (1, .int p0)]) (by decide) rfl (Nat.le_of_ble_eq_true rfl) ?_
  intro p e s m args below meth c A C hr hk hin
  refine j_iconst (pc := 0) (v := 1) C dX11_areApart_0 (by decide) ?_
  refine j_istore_n (pc := 1) (lv' := [(2, .int 1), (0, .ref m0), (1, .int p0)]) C dX11_areApart_1 rfl (by decide) rfl ?_
  refine j_iconst (pc := 2) (v := 0) C dX11_areApart_2 (by decide) ?_
  refine j_istore_n (pc := 3) (lv' := [(3, .int 0), (2, .int 1), (0, .ref m0), (1, .int p0)]) C dX11_areApart_3 rfl (by decide) rfl ?_
  have loop_1 : ∀ (k_1 : Nat) (x1_3 : Int32) (x1_2 : Int32), (0 ≤ (x1_3).toInt ∧ (x1_3).toInt ≤ 12) → (0 ≤ (x1_2).toInt ∧ (x1_2).toInt ≤ 1) → (12 - x1_3.toInt).toNat < k_1 → J p l e ({ frames := 1, cells := 0, slots := 0, locals := 22 } : Room) s m args below meth c D A 5 0 0 (QX below D (TY cyC cyI cyJ cyZ cyO) A (fun u => some (.int (u.2.1 0))) (fun u => (0 ≤ (u.2.1 0).toInt ∧ (u.2.1 0).toInt ≤ 1)) (fun u => [(m0, .inr (11, [.int m_thrown, .ref mtape, .int m_taped, .int m_size, .ref msort, .ref mplace, .ref mvalue, .int m_at, .int m_fault, .ref mwords, .ref mtold, .ref mop, .ref marg, .int m_codes, .ref mnames, .ref mhasHabit, .int m_isNew, .ref mfactWords, .ref mfacts, .ref mpile, .ref mstates, .ref misMarked, .int m_inShelf, .int m_inStack, .int m_inPlace, .ref mrow, .int m_rowMany, .ref mthr, .ref mmays, .ref mtall, .ref mweights, .ref mrowOfWare, .ref mneededOf, .int m_goShelf, .int m_goStack, .int m_goLeft, .ref mtried, .ref mbestRow, .int m_bestCost, .int m_bestMany, .int m_bestShelf, .int m_bestSet, .ref mdigits])), (mtold, .inl (cyI, 240, .inl m_told)), (mthr, .inl (cyZ, 144, .inl m_thr))]) args s 0 0) [(m0, .inr (11, [.int m_thrown, .ref mtape, .int m_taped, .int m_size, .ref msort, .ref mplace, .ref mvalue, .int m_at, .int m_fault, .ref mwords, .ref mtold, .ref mop, .ref marg, .int m_codes, .ref mnames, .ref mhasHabit, .int m_isNew, .ref mfactWords, .ref mfacts, .ref mpile, .ref mstates, .ref misMarked, .int m_inShelf, .int m_inStack, .int m_inPlace, .ref mrow, .int m_rowMany, .ref mthr, .ref mmays, .ref mtall, .ref mweights, .ref mrowOfWare, .ref mneededOf, .int m_goShelf, .int m_goStack, .int m_goLeft, .ref mtried, .ref mbestRow, .int m_bestCost, .int m_bestMany, .int m_bestShelf, .int m_bestSet, .ref mdigits])), (mtold, .inl (cyI, 240, .inl m_told)), (mthr, .inl (cyZ, 144, .inl m_thr))] 4 [(3, .int x1_3), (2, .int x1_2), (0, .ref m0), (1, .int p0)] [] := by
    intro k_1
    induction k_1 with
    | zero =>
      intro x1_3 x1_2 hi_1_0 hi_1_1 hm_1
      exact absurd hm_1 (Nat.not_lt_zero _)
    | succ k_1 ih_1 =>
      intro x1_3 x1_2 hi_1_0 hi_1_1 hm_1
      refine j_iload_n (pc := 4) C dX11_areApart_4 rfl 0 rfl ?_
      refine j_aload_n (pc := 5) C dX11_areApart_5 rfl 2 rfl ?_
      refine j_callV (pc := 6) (As := []) (rest := [.int x1_3]) (wr := [(mthr, .inl (cyZ, 144, .inl m_thr))]) C (c_X11_wares l D cyC cyI cyJ cyZ cyO m0 mtold mtape msort mplace mvalue mwords mop marg mnames mhasHabit mfactWords mfacts mpile mstates misMarked mrow mthr mmays mtall mweights mrowOfWare mneededOf mtried mbestRow mdigits m_thrown m_taped m_size m_at m_fault m_codes m_isNew m_inShelf m_inStack m_inPlace m_rowMany m_goShelf m_goStack m_goLeft m_bestCost m_bestMany m_bestShelf m_bestSet m_told h_m_taped h_m_size h_m_at h_m_fault h_m_codes h_m_isNew h_m_inShelf h_m_inStack h_m_inPlace h_m_rowMany h_m_goShelf h_m_bestMany h_m_bestShelf h_m_told) wd_748 wd_624 wd_749 wd_750 wd_751 ⟨by decide, by decide, rfl⟩ rfl ⟨rfl, rfl, by decide, by decide⟩ ⟨by decide, by decide⟩ [0, 1] [2] rfl rfl ⟨by decide, by decide, by decide⟩ 0 rfl rfl rfl (Nat.le_of_ble_eq_true rfl) dX11_areApart_6 (fun u_2 hw_3 => ?_)
      refine j_eq (ws2 := [(mthr, .inl (cyZ, 144, .inl m_thr)), (m0, .inr (11, [.int m_thrown, .ref mtape, .int m_taped, .int m_size, .ref msort, .ref mplace, .ref mvalue, .int m_at, .int m_fault, .ref mwords, .ref mtold, .ref mop, .ref marg, .int m_codes, .ref mnames, .ref mhasHabit, .int m_isNew, .ref mfactWords, .ref mfacts, .ref mpile, .ref mstates, .ref misMarked, .int m_inShelf, .int m_inStack, .int m_inPlace, .ref mrow, .int m_rowMany, .ref mthr, .ref mmays, .ref mtall, .ref mweights, .ref mrowOfWare, .ref mneededOf, .int m_goShelf, .int m_goStack, .int m_goLeft, .ref mtried, .ref mbestRow, .int m_bestCost, .int m_bestMany, .int m_bestShelf, .int m_bestSet, .ref mdigits])), (mtold, .inl (cyI, 240, .inl m_told))]) (pc2 := 9) (lv2 := [(3, .int x1_3), (2, .int x1_2), (0, .ref m0), (1, .int p0)]) (st2 := [.int (u_2.2.1 0), .int x1_3]) rfl rfl rfl rfl ?_
      obtain ⟨hw_3_0, hw_3_1⟩ := hw_3
      refine j_icmp_ge (pc := 9) (tgt := 74) C dX11_areApart_9 (by decide) (fun c_4 => ?_) (fun c_4 => ?_)
      · skip
        rw [i_le] at c_4
        refine j_iload_n (pc := 74) C dX11_areApart_74 rfl 1 rfl ?_
        exact j_zret (pc := 75) C hr (nb_01 ⟨by omega, by omega⟩).1 hk (fun i => [].getD i 0, fun i => [x1_2].getD i 0, fun i => [].getD i (fun _ => 0), fun i => [].getD i (fun _ => 0)) rfl (show (0 ≤ (x1_2).toInt ∧ (x1_2).toInt ≤ 1) from (hi_1_1)) [1, 2, 0] (by decide) rfl (by decide) (by decide) dX11_areApart_75
      · skip
        rw [i_le] at c_4
        refine j_iload_n (pc := 12) C dX11_areApart_12 rfl 1 rfl ?_
        refine j_if_eq (pc := 13) (tgt := 74) C dX11_areApart_13 (by decide) (fun c_5 => ?_) (fun c_5 => ?_)
        · skip
          have el_0 : (0 : Int32).toInt = 0 := rfl
          rw [i_eq] at c_5
          refine j_iload_n (pc := 74) C dX11_areApart_74 rfl 1 rfl ?_
          exact j_zret (pc := 75) C hr (nb_01 ⟨by omega, by omega⟩).1 hk (fun i => [].getD i 0, fun i => [x1_2].getD i 0, fun i => [].getD i (fun _ => 0), fun i => [].getD i (fun _ => 0)) rfl (show (0 ≤ (x1_2).toInt ∧ (x1_2).toInt ≤ 1) from (hi_1_1)) [1, 2, 0] (by decide) rfl (by decide) (by decide) dX11_areApart_75
        · skip
          have el_0 : (0 : Int32).toInt = 0 := rfl
          rw [i_eq] at c_5
          have k0c_5 : x1_2.toInt = 1 := by omega
          refine j_iconst (pc := 16) (v := 0) C dX11_areApart_16 (by decide) ?_
          refine j_istore (pc := 17) (lv' := [(4, .int 0), (3, .int x1_3), (2, .int x1_2), (0, .ref m0), (1, .int p0)]) C dX11_areApart_17 (by decide) rfl ?_
          have loop_6 : ∀ (k_6 : Nat) (x6_4 : Int32) (x6_2 : Int32), (0 ≤ (x6_4).toInt ∧ (x6_4).toInt ≤ 12) → (0 ≤ (x6_2).toInt ∧ (x6_2).toInt ≤ 1) → (12 - x6_4.toInt).toNat < k_6 → J p l e ({ frames := 1, cells := 0, slots := 0, locals := 22 } : Room) s m args below meth c D A 5 0 0 (QX below D (TY cyC cyI cyJ cyZ cyO) A (fun u => some (.int (u.2.1 0))) (fun u => (0 ≤ (u.2.1 0).toInt ∧ (u.2.1 0).toInt ≤ 1)) (fun u => [(m0, .inr (11, [.int m_thrown, .ref mtape, .int m_taped, .int m_size, .ref msort, .ref mplace, .ref mvalue, .int m_at, .int m_fault, .ref mwords, .ref mtold, .ref mop, .ref marg, .int m_codes, .ref mnames, .ref mhasHabit, .int m_isNew, .ref mfactWords, .ref mfacts, .ref mpile, .ref mstates, .ref misMarked, .int m_inShelf, .int m_inStack, .int m_inPlace, .ref mrow, .int m_rowMany, .ref mthr, .ref mmays, .ref mtall, .ref mweights, .ref mrowOfWare, .ref mneededOf, .int m_goShelf, .int m_goStack, .int m_goLeft, .ref mtried, .ref mbestRow, .int m_bestCost, .int m_bestMany, .int m_bestShelf, .int m_bestSet, .ref mdigits])), (mtold, .inl (cyI, 240, .inl m_told)), (mthr, .inl (cyZ, 144, .inl m_thr))]) args s 0 0) [(mthr, .inl (cyZ, 144, .inl m_thr)), (m0, .inr (11, [.int m_thrown, .ref mtape, .int m_taped, .int m_size, .ref msort, .ref mplace, .ref mvalue, .int m_at, .int m_fault, .ref mwords, .ref mtold, .ref mop, .ref marg, .int m_codes, .ref mnames, .ref mhasHabit, .int m_isNew, .ref mfactWords, .ref mfacts, .ref mpile, .ref mstates, .ref misMarked, .int m_inShelf, .int m_inStack, .int m_inPlace, .ref mrow, .int m_rowMany, .ref mthr, .ref mmays, .ref mtall, .ref mweights, .ref mrowOfWare, .ref mneededOf, .int m_goShelf, .int m_goStack, .int m_goLeft, .ref mtried, .ref mbestRow, .int m_bestCost, .int m_bestMany, .int m_bestShelf, .int m_bestSet, .ref mdigits])), (mtold, .inl (cyI, 240, .inl m_told))] 19 [(4, .int x6_4), (3, .int x1_3), (2, .int x6_2), (0, .ref m0), (1, .int p0)] [] := by
            intro k_6
            induction k_6 with
            | zero =>
              intro x6_4 x6_2 hi_6_0 hi_6_1 hm_6
              exact absurd hm_6 (Nat.not_lt_zero _)
            | succ k_6 ih_6 =>
              intro x6_4 x6_2 hi_6_0 hi_6_1 hm_6
              refine j_iload (pc := 19) C dX11_areApart_19 0 rfl ?_
              refine j_iload_n (pc := 21) C dX11_areApart_21 rfl 1 rfl ?_
              refine j_icmp_ge (pc := 22) (tgt := 68) C dX11_areApart_22 (by decide) (fun c_7 => ?_) (fun c_7 => ?_)
              · skip
                rw [i_le] at c_7
                obtain ⟨v_8, ev_8⟩ : ∃ z : Int32, x1_3 + 1 = z := ⟨_, rfl⟩
                have el_1 : (1 : Int32).toInt = 1 := rfl
                have hv_8 : v_8.toInt = x1_3.toInt + (1 : Int32).toInt := by rw [← ev_8]; exact fb_addI (by omega) (by omega)
                refine j_iinc (pc := 68) (v := v_8) (lv' := [(3, .int v_8), (4, .int x6_4), (2, .int x6_2), (0, .ref m0), (1, .int p0)]) C dX11_areApart_68 1 rfl ev_8 (by decide) rfl ?_
                refine j_goto (pc := 71) (tgt := 4) C dX11_areApart_71 (by decide) ?_
                refine j_subG (ws' := [(m0, .inr (11, [.int m_thrown, .ref mtape, .int m_taped, .int m_size, .ref msort, .ref mplace, .ref mvalue, .int m_at, .int m_fault, .ref mwords, .ref mtold, .ref mop, .ref marg, .int m_codes, .ref mnames, .ref mhasHabit, .int m_isNew, .ref mfactWords, .ref mfacts, .ref mpile, .ref mstates, .ref misMarked, .int m_inShelf, .int m_inStack, .int m_inPlace, .ref mrow, .int m_rowMany, .ref mthr, .ref mmays, .ref mtall, .ref mweights, .ref mrowOfWare, .ref mneededOf, .int m_goShelf, .int m_goStack, .int m_goLeft, .ref mtried, .ref mbestRow, .int m_bestCost, .int m_bestMany, .int m_bestShelf, .int m_bestSet, .ref mdigits])), (mtold, .inl (cyI, 240, .inl m_told)), (mthr, .inl (cyZ, 144, .inl m_thr))]) [1, 2, 0] (by decide) rfl ?_
                exact j_lv [0, 2, 3, 4] rfl (ih_1 v_8 x6_2 (by omega) hi_6_1 (by omega))
              · skip
                rw [i_le] at c_7
                refine j_iload_n (pc := 25) C dX11_areApart_25 rfl 2 rfl ?_
                refine j_if_eq (pc := 26) (tgt := 60) C dX11_areApart_26 (by decide) (fun c_9 => ?_) (fun c_9 => ?_)
                · skip
                  have el_0 : (0 : Int32).toInt = 0 := rfl
                  rw [i_eq] at c_9
                  refine j_iconst (pc := 60) (v := 0) C dX11_areApart_60 (by decide) ?_
                  refine j_istore_n (pc := 61) (lv' := [(2, .int 0), (4, .int x6_4), (3, .int x1_3), (0, .ref m0), (1, .int p0)]) C dX11_areApart_61 rfl (by decide) rfl ?_
                  obtain ⟨v_10, ev_10⟩ : ∃ z : Int32, x6_4 + 1 = z := ⟨_, rfl⟩
                  have el_1 : (1 : Int32).toInt = 1 := rfl
                  have hv_10 : v_10.toInt = x6_4.toInt + (1 : Int32).toInt := by rw [← ev_10]; exact fb_addI (by omega) (by omega)
                  refine j_iinc (pc := 62) (v := v_10) (lv' := [(4, .int v_10), (2, .int 0), (3, .int x1_3), (0, .ref m0), (1, .int p0)]) C dX11_areApart_62 1 rfl ev_10 (by decide) rfl ?_
                  refine j_goto (pc := 65) (tgt := 19) C dX11_areApart_65 (by decide) ?_
                  have el_0 : (0 : Int32).toInt = 0 := rfl
                  exact j_lv [0, 2, 1, 3, 4] rfl (ih_6 v_10 0 (by omega) (by decide) (by omega))
                · skip
                  have el_0 : (0 : Int32).toInt = 0 := rfl
                  rw [i_eq] at c_9
                  have k0c_9 : x6_2.toInt = 1 := by omega
                  refine j_iload_n (pc := 29) C dX11_areApart_29 rfl 4 rfl ?_
                  refine j_iload_n (pc := 30) C dX11_areApart_30 rfl 1 rfl ?_
                  obtain ⟨v_11, ev_11⟩ : ∃ z : Int32, p0 >>> (x1_3 &&& 31) = z := ⟨_, rfl⟩
                  refine j_ishr (pc := 31) (v := v_11) C dX11_areApart_31 ev_11 ?_
                  refine j_iconst (pc := 32) (v := 1) C dX11_areApart_32 (by decide) ?_
                  obtain ⟨v_12, ev_12⟩ : ∃ z : Int32, v_11 &&& 1 = z := ⟨_, rfl⟩
                  have el_1 : (1 : Int32).toInt = 1 := rfl
                  have hv_12 : 0 ≤ v_12.toInt ∧ v_12.toInt ≤ 1 := by rw [← ev_12]; exact and1_r _
                  refine j_iand (pc := 33) (v := v_12) C dX11_areApart_33 ev_12 ?_
                  refine j_if_eq (pc := 34) (tgt := 56) C dX11_areApart_34 (by decide) (fun c_13 => ?_) (fun c_13 => ?_)
                  · skip
                    have el_0 : (0 : Int32).toInt = 0 := rfl
                    rw [i_eq] at c_13
                    refine j_iconst (pc := 56) (v := 1) C dX11_areApart_56 (by decide) ?_
                    refine j_goto (pc := 57) (tgt := 61) C dX11_areApart_57 (by decide) ?_
                    refine j_istore_n (pc := 61) (lv' := [(2, .int 1), (4, .int x6_4), (3, .int x1_3), (0, .ref m0), (1, .int p0)]) C dX11_areApart_61 rfl (by decide) rfl ?_
                    obtain ⟨v_14, ev_14⟩ : ∃ z : Int32, x6_4 + 1 = z := ⟨_, rfl⟩
                    have el_1 : (1 : Int32).toInt = 1 := rfl
                    have hv_14 : v_14.toInt = x6_4.toInt + (1 : Int32).toInt := by rw [← ev_14]; exact fb_addI (by omega) (by omega)
                    refine j_iinc (pc := 62) (v := v_14) (lv' := [(4, .int v_14), (2, .int 1), (3, .int x1_3), (0, .ref m0), (1, .int p0)]) C dX11_areApart_62 1 rfl ev_14 (by decide) rfl ?_
                    refine j_goto (pc := 65) (tgt := 19) C dX11_areApart_65 (by decide) ?_
                    have el_1 : (1 : Int32).toInt = 1 := rfl
                    exact j_lv [0, 2, 1, 3, 4] rfl (ih_6 v_14 1 (by omega) (by decide) (by omega))
                  · skip
                    have el_0 : (0 : Int32).toInt = 0 := rfl
                    rw [i_eq] at c_13
                    have k0c_13 : v_12.toInt = 1 := by omega
                    refine j_iload_n (pc := 37) C dX11_areApart_37 rfl 4 rfl ?_
                    refine j_iload (pc := 38) C dX11_areApart_38 0 rfl ?_
                    obtain ⟨v_15, ev_15⟩ : ∃ z : Int32, p0 >>> (x6_4 &&& 31) = z := ⟨_, rfl⟩
                    refine j_ishr (pc := 40) (v := v_15) C dX11_areApart_40 ev_15 ?_
                    refine j_iconst (pc := 41) (v := 1) C dX11_areApart_41 (by decide) ?_
                    obtain ⟨v_16, ev_16⟩ : ∃ z : Int32, v_15 &&& 1 = z := ⟨_, rfl⟩
                    have el_1 : (1 : Int32).toInt = 1 := rfl
                    have hv_16 : 0 ≤ v_16.toInt ∧ v_16.toInt ≤ 1 := by rw [← ev_16]; exact and1_r _
                    refine j_iand (pc := 42) (v := v_16) C dX11_areApart_42 ev_16 ?_
                    refine j_if_eq (pc := 43) (tgt := 56) C dX11_areApart_43 (by decide) (fun c_17 => ?_) (fun c_17 => ?_)
                    · skip
                      have el_0 : (0 : Int32).toInt = 0 := rfl
                      rw [i_eq] at c_17
                      refine j_iconst (pc := 56) (v := 1) C dX11_areApart_56 (by decide) ?_
                      refine j_goto (pc := 57) (tgt := 61) C dX11_areApart_57 (by decide) ?_
                      refine j_istore_n (pc := 61) (lv' := [(2, .int 1), (4, .int x6_4), (3, .int x1_3), (0, .ref m0), (1, .int p0)]) C dX11_areApart_61 rfl (by decide) rfl ?_
                      obtain ⟨v_18, ev_18⟩ : ∃ z : Int32, x6_4 + 1 = z := ⟨_, rfl⟩
                      have el_1 : (1 : Int32).toInt = 1 := rfl
                      have hv_18 : v_18.toInt = x6_4.toInt + (1 : Int32).toInt := by rw [← ev_18]; exact fb_addI (by omega) (by omega)
                      refine j_iinc (pc := 62) (v := v_18) (lv' := [(4, .int v_18), (2, .int 1), (3, .int x1_3), (0, .ref m0), (1, .int p0)]) C dX11_areApart_62 1 rfl ev_18 (by decide) rfl ?_
                      refine j_goto (pc := 65) (tgt := 19) C dX11_areApart_65 (by decide) ?_
                      have el_1 : (1 : Int32).toInt = 1 := rfl
                      exact j_lv [0, 2, 1, 3, 4] rfl (ih_6 v_18 1 (by omega) (by decide) (by omega))
                    · skip
                      have el_0 : (0 : Int32).toInt = 0 := rfl
                      rw [i_eq] at c_17
                      have k0c_17 : v_16.toInt = 1 := by omega
                      refine j_aload_n (pc := 46) C dX11_areApart_46 rfl 3 rfl ?_
                      refine j_iload_n (pc := 47) C dX11_areApart_47 rfl 1 rfl ?_
                      refine j_iload (pc := 48) C dX11_areApart_48 0 rfl ?_
                      refine j_callV (pc := 50) (As := [.int x1_3, .int x6_4]) (rest := []) (wr := [(mtold, .inl (cyI, 240, .inl m_told))]) C (c_X11_areChained l D cyC cyI cyJ cyZ cyO m0 mthr mtape msort mplace mvalue mwords mtold mop marg mnames mhasHabit mfactWords mfacts mpile mstates misMarked mrow mmays mtall mweights mrowOfWare mneededOf mtried mbestRow mdigits x1_3 x6_4 m_thrown m_taped m_size m_at m_fault m_codes m_isNew m_inShelf m_inStack m_inPlace m_rowMany m_goShelf m_goStack m_goLeft m_bestCost m_bestMany m_bestShelf m_bestSet m_thr h_m_taped h_m_size h_m_at h_m_fault h_m_codes h_m_isNew h_m_inShelf h_m_inStack h_m_inPlace h_m_rowMany h_m_goShelf h_m_bestMany h_m_bestShelf (by omega) (by omega)) wd_912 wd_624 wd_913 wd_914 wd_915 ⟨by decide, by decide, rfl⟩ rfl ⟨rfl, rfl, by decide, by decide⟩ ⟨by decide, by decide⟩ [1, 0] [2] rfl rfl ⟨by decide, by decide, by decide⟩ 1 rfl rfl rfl (Nat.le_of_ble_eq_true rfl) dX11_areApart_50 (fun u_19 hw_20 => ?_)
                      refine j_eq (ws2 := [(mtold, .inl (cyI, 240, .inl m_told)), (m0, .inr (11, [.int m_thrown, .ref mtape, .int m_taped, .int m_size, .ref msort, .ref mplace, .ref mvalue, .int m_at, .int m_fault, .ref mwords, .ref mtold, .ref mop, .ref marg, .int m_codes, .ref mnames, .ref mhasHabit, .int m_isNew, .ref mfactWords, .ref mfacts, .ref mpile, .ref mstates, .ref misMarked, .int m_inShelf, .int m_inStack, .int m_inPlace, .ref mrow, .int m_rowMany, .ref mthr, .ref mmays, .ref mtall, .ref mweights, .ref mrowOfWare, .ref mneededOf, .int m_goShelf, .int m_goStack, .int m_goLeft, .ref mtried, .ref mbestRow, .int m_bestCost, .int m_bestMany, .int m_bestShelf, .int m_bestSet, .ref mdigits])), (mthr, .inl (cyZ, 144, .inl m_thr))]) (pc2 := 53) (lv2 := [(4, .int x6_4), (3, .int x1_3), (2, .int x6_2), (0, .ref m0), (1, .int p0)]) (st2 := [.int (u_19.2.1 0)]) rfl rfl rfl rfl ?_
                      have hw_20_0 : 0 ≤ (u_19.2.1 0).toInt ∧ (u_19.2.1 0).toInt ≤ 1 := hw_20
                      refine j_if_ne (pc := 53) (tgt := 60) C dX11_areApart_53 (by decide) (fun c_21 => ?_) (fun c_21 => ?_)
                      · skip
                        have el_0 : (0 : Int32).toInt = 0 := rfl
                        rw [i_eq] at c_21
                        have k0c_21 : ((u_19.2.1 0)).toInt = 1 := by omega
                        refine j_iconst (pc := 60) (v := 0) C dX11_areApart_60 (by decide) ?_
                        refine j_istore_n (pc := 61) (lv' := [(2, .int 0), (4, .int x6_4), (3, .int x1_3), (0, .ref m0), (1, .int p0)]) C dX11_areApart_61 rfl (by decide) rfl ?_
                        obtain ⟨v_22, ev_22⟩ : ∃ z : Int32, x6_4 + 1 = z := ⟨_, rfl⟩
                        have el_1 : (1 : Int32).toInt = 1 := rfl
                        have hv_22 : v_22.toInt = x6_4.toInt + (1 : Int32).toInt := by rw [← ev_22]; exact fb_addI (by omega) (by omega)
                        refine j_iinc (pc := 62) (v := v_22) (lv' := [(4, .int v_22), (2, .int 0), (3, .int x1_3), (0, .ref m0), (1, .int p0)]) C dX11_areApart_62 1 rfl ev_22 (by decide) rfl ?_
                        refine j_goto (pc := 65) (tgt := 19) C dX11_areApart_65 (by decide) ?_
                        have el_0 : (0 : Int32).toInt = 0 := rfl
                        refine j_subG (ws' := [(mthr, .inl (cyZ, 144, .inl m_thr)), (m0, .inr (11, [.int m_thrown, .ref mtape, .int m_taped, .int m_size, .ref msort, .ref mplace, .ref mvalue, .int m_at, .int m_fault, .ref mwords, .ref mtold, .ref mop, .ref marg, .int m_codes, .ref mnames, .ref mhasHabit, .int m_isNew, .ref mfactWords, .ref mfacts, .ref mpile, .ref mstates, .ref misMarked, .int m_inShelf, .int m_inStack, .int m_inPlace, .ref mrow, .int m_rowMany, .ref mthr, .ref mmays, .ref mtall, .ref mweights, .ref mrowOfWare, .ref mneededOf, .int m_goShelf, .int m_goStack, .int m_goLeft, .ref mtried, .ref mbestRow, .int m_bestCost, .int m_bestMany, .int m_bestShelf, .int m_bestSet, .ref mdigits])), (mtold, .inl (cyI, 240, .inl m_told))]) [2, 1, 0] (by decide) rfl ?_
                        exact j_lv [0, 2, 1, 3, 4] rfl (ih_6 v_22 0 (by omega) (by decide) (by omega))
                      · skip
                        have el_0 : (0 : Int32).toInt = 0 := rfl
                        rw [i_eq] at c_21
                        refine j_iconst (pc := 56) (v := 1) C dX11_areApart_56 (by decide) ?_
                        refine j_goto (pc := 57) (tgt := 61) C dX11_areApart_57 (by decide) ?_
                        refine j_istore_n (pc := 61) (lv' := [(2, .int 1), (4, .int x6_4), (3, .int x1_3), (0, .ref m0), (1, .int p0)]) C dX11_areApart_61 rfl (by decide) rfl ?_
                        obtain ⟨v_23, ev_23⟩ : ∃ z : Int32, x6_4 + 1 = z := ⟨_, rfl⟩
                        have el_1 : (1 : Int32).toInt = 1 := rfl
                        have hv_23 : v_23.toInt = x6_4.toInt + (1 : Int32).toInt := by rw [← ev_23]; exact fb_addI (by omega) (by omega)
                        refine j_iinc (pc := 62) (v := v_23) (lv' := [(4, .int v_23), (2, .int 1), (3, .int x1_3), (0, .ref m0), (1, .int p0)]) C dX11_areApart_62 1 rfl ev_23 (by decide) rfl ?_
                        refine j_goto (pc := 65) (tgt := 19) C dX11_areApart_65 (by decide) ?_
                        have el_1 : (1 : Int32).toInt = 1 := rfl
                        refine j_subG (ws' := [(mthr, .inl (cyZ, 144, .inl m_thr)), (m0, .inr (11, [.int m_thrown, .ref mtape, .int m_taped, .int m_size, .ref msort, .ref mplace, .ref mvalue, .int m_at, .int m_fault, .ref mwords, .ref mtold, .ref mop, .ref marg, .int m_codes, .ref mnames, .ref mhasHabit, .int m_isNew, .ref mfactWords, .ref mfacts, .ref mpile, .ref mstates, .ref misMarked, .int m_inShelf, .int m_inStack, .int m_inPlace, .ref mrow, .int m_rowMany, .ref mthr, .ref mmays, .ref mtall, .ref mweights, .ref mrowOfWare, .ref mneededOf, .int m_goShelf, .int m_goStack, .int m_goLeft, .ref mtried, .ref mbestRow, .int m_bestCost, .int m_bestMany, .int m_bestShelf, .int m_bestSet, .ref mdigits])), (mtold, .inl (cyI, 240, .inl m_told))]) [2, 1, 0] (by decide) rfl ?_
                        exact j_lv [0, 2, 1, 3, 4] rfl (ih_6 v_23 1 (by omega) (by decide) (by omega))
          have el_0 : (0 : Int32).toInt = 0 := rfl
          exact j_lv [0, 1, 2, 3, 4] rfl (loop_6 4096 0 x1_2 (by decide) hi_1_1 (by omega))
  have el_0 : (0 : Int32).toInt = 0 := rfl
  have el_1 : (1 : Int32).toInt = 1 := rfl
  exact j_lv [0, 1, 2, 3] rfl (loop_1 4096 0 1 (by decide) (by decide) (by omega))
set_option maxHeartbeats 4000000 in
set_option maxRecDepth 100000 in
theorem c_X11_findApart (l : Launch) (D : DG) (cyC cyI cyJ cyZ cyO : ClassId) (m0 : Nat) (mtold : Nat) (mthr : Nat) (mtape : Nat) (msort : Nat) (mplace : Nat) (mvalue : Nat) (mwords : Nat) (mop : Nat) (marg : Nat) (mnames : Nat) (mhasHabit : Nat) (mfactWords : Nat) (mfacts : Nat) (mpile : Nat) (mstates : Nat) (misMarked : Nat) (mrow : Nat) (mmays : Nat) (mtall : Nat) (mweights : Nat) (mrowOfWare : Nat) (mneededOf : Nat) (mtried : Nat) (mbestRow : Nat) (mdigits : Nat) (m_thrown : Int32) (m_taped : Int32) (m_size : Int32) (m_at : Int32) (m_fault : Int32) (m_codes : Int32) (m_isNew : Int32) (m_inShelf : Int32) (m_inStack : Int32) (m_inPlace : Int32) (m_rowMany : Int32) (m_goShelf : Int32) (m_goStack : Int32) (m_goLeft : Int32) (m_bestCost : Int32) (m_bestMany : Int32) (m_bestShelf : Int32) (m_bestSet : Int32) (m_told : Nat → Int32) (m_thr : Nat → Int32) (h_m_taped : 0 ≤ (m_taped).toInt ∧ (m_taped).toInt ≤ 1000) (h_m_size : 0 ≤ (m_size).toInt ∧ (m_size).toInt ≤ 1000) (h_m_at : 0 ≤ (m_at).toInt ∧ (m_at).toInt ≤ 1000) (h_m_fault : 0 ≤ (m_fault).toInt ∧ (m_fault).toInt ≤ 16005) (h_m_codes : 0 ≤ (m_codes).toInt ∧ (m_codes).toInt ≤ 1000) (h_m_isNew : 0 ≤ (m_isNew).toInt ∧ (m_isNew).toInt ≤ 1) (h_m_inShelf : 0 ≤ (m_inShelf).toInt ∧ (m_inShelf).toInt ≤ 3) (h_m_inStack : 0 ≤ (m_inStack).toInt ∧ (m_inStack).toInt ≤ 7) (h_m_inPlace : 0 ≤ (m_inPlace).toInt ∧ (m_inPlace).toInt ≤ 11) (h_m_rowMany : 0 ≤ (m_rowMany).toInt ∧ (m_rowMany).toInt ≤ 12) (h_m_goShelf : -1 ≤ (m_goShelf).toInt ∧ (m_goShelf).toInt ≤ 3) (h_m_bestMany : 0 ≤ (m_bestMany).toInt ∧ (m_bestMany).toInt ≤ 7) (h_m_bestShelf : 0 ≤ (m_bestShelf).toInt ∧ (m_bestShelf).toInt ≤ 3) (h_m_told : TV m_told) : KK l D (TY cyC cyI cyJ cyZ cyO) yX11_findApart cX11_findApart 3 (some .int) ({ frames := 2, cells := 0, slots := 0, locals := 46 } : Room) 0 0 [.ref m0] [(m0, .inr (11, [.int m_thrown, .ref mtape, .int m_taped, .int m_size, .ref msort, .ref mplace, .ref mvalue, .int m_at, .int m_fault, .ref mwords, .ref mtold, .ref mop, .ref marg, .int m_codes, .ref mnames, .ref mhasHabit, .int m_isNew, .ref mfactWords, .ref mfacts, .ref mpile, .ref mstates, .ref misMarked, .int m_inShelf, .int m_inStack, .int m_inPlace, .ref mrow, .int m_rowMany, .ref mthr, .ref mmays, .ref mtall, .ref mweights, .ref mrowOfWare, .ref mneededOf, .int m_goShelf, .int m_goStack, .int m_goLeft, .ref mtried, .ref mbestRow, .int m_bestCost, .int m_bestMany, .int m_bestShelf, .int m_bestSet, .ref mdigits])), (mtold, .inl (cyI, 240, .inl m_told)), (mthr, .inl (cyZ, 144, .inl m_thr))] (fun u => some (.int (u.2.1 0))) (fun u => True) (fun u => [(m0, .inr (11, [.int m_thrown, .ref mtape, .int m_taped, .int m_size, .ref msort, .ref mplace, .ref mvalue, .int m_at, .int m_fault, .ref mwords, .ref mtold, .ref mop, .ref marg, .int m_codes, .ref mnames, .ref mhasHabit, .int m_isNew, .ref mfactWords, .ref mfacts, .ref mpile, .ref mstates, .ref misMarked, .int m_inShelf, .int m_inStack, .int m_inPlace, .ref mrow, .int m_rowMany, .ref mthr, .ref mmays, .ref mtall, .ref mweights, .ref mrowOfWare, .ref mneededOf, .int m_goShelf, .int m_goStack, .int m_goLeft, .ref mtried, .ref mbestRow, .int m_bestCost, .int m_bestMany, .int m_bestShelf, .int m_bestSet, .ref mdigits])), (mtold, .inl (cyI, 240, .inl m_told)), (mthr, .inl (cyZ, 144, .inl m_thr))]) := by
  refine KK.of (lv0 := [(0, .ref m0)]) (by decide) rfl (Nat.le_of_ble_eq_true rfl) ?_
  intro p e s m args below meth c A C hr hk hin
  refine j_iconst (pc := 0) (v := 0) C dX11_findApart_0 (by decide) ?_
  refine j_istore_n (pc := 1) (lv' := [(1, .int 0), (0, .ref m0)]) C dX11_findApart_1 rfl (by decide) rfl ?_
  refine j_iconst (pc := 2) (v := 0) C dX11_findApart_2 (by decide) ?_
  refine j_istore_n (pc := 3) (lv' := [(2, .int 0), (1, .int 0), (0, .ref m0)]) C dX11_findApart_3 rfl (by decide) rfl ?_
  have loop_1 : ∀ (k_1 : Nat) (x1_2 : Int32) (x1_1 : Int32), (0 ≤ (x1_2).toInt ∧ (x1_2).toInt ≤ 4096) → (4096 - x1_2.toInt).toNat < k_1 → J p l e ({ frames := 2, cells := 0, slots := 0, locals := 46 } : Room) s m args below meth c D A 3 0 0 (QX below D (TY cyC cyI cyJ cyZ cyO) A (fun u => some (.int (u.2.1 0))) (fun u => True) (fun u => [(m0, .inr (11, [.int m_thrown, .ref mtape, .int m_taped, .int m_size, .ref msort, .ref mplace, .ref mvalue, .int m_at, .int m_fault, .ref mwords, .ref mtold, .ref mop, .ref marg, .int m_codes, .ref mnames, .ref mhasHabit, .int m_isNew, .ref mfactWords, .ref mfacts, .ref mpile, .ref mstates, .ref misMarked, .int m_inShelf, .int m_inStack, .int m_inPlace, .ref mrow, .int m_rowMany, .ref mthr, .ref mmays, .ref mtall, .ref mweights, .ref mrowOfWare, .ref mneededOf, .int m_goShelf, .int m_goStack, .int m_goLeft, .ref mtried, .ref mbestRow, .int m_bestCost, .int m_bestMany, .int m_bestShelf, .int m_bestSet, .ref mdigits])), (mtold, .inl (cyI, 240, .inl m_told)), (mthr, .inl (cyZ, 144, .inl m_thr))]) args s 0 0) [(m0, .inr (11, [.int m_thrown, .ref mtape, .int m_taped, .int m_size, .ref msort, .ref mplace, .ref mvalue, .int m_at, .int m_fault, .ref mwords, .ref mtold, .ref mop, .ref marg, .int m_codes, .ref mnames, .ref mhasHabit, .int m_isNew, .ref mfactWords, .ref mfacts, .ref mpile, .ref mstates, .ref misMarked, .int m_inShelf, .int m_inStack, .int m_inPlace, .ref mrow, .int m_rowMany, .ref mthr, .ref mmays, .ref mtall, .ref mweights, .ref mrowOfWare, .ref mneededOf, .int m_goShelf, .int m_goStack, .int m_goLeft, .ref mtried, .ref mbestRow, .int m_bestCost, .int m_bestMany, .int m_bestShelf, .int m_bestSet, .ref mdigits])), (mtold, .inl (cyI, 240, .inl m_told)), (mthr, .inl (cyZ, 144, .inl m_thr))] 4 [(2, .int x1_2), (1, .int x1_1), (0, .ref m0)] [] := by
    intro k_1
    induction k_1 with
    | zero =>
      intro x1_2 x1_1 hi_1_0 hm_1
      exact absurd hm_1 (Nat.not_lt_zero _)
    | succ k_1 ih_1 =>
      intro x1_2 x1_1 hi_1_0 hm_1
      refine j_iload_n (pc := 4) C dX11_findApart_4 rfl 0 rfl ?_
      refine j_iconst (pc := 5) (v := 1) C dX11_findApart_5 (by decide) ?_
      refine j_aload_n (pc := 6) C dX11_findApart_6 rfl 2 rfl ?_
      refine j_callV (pc := 7) (As := []) (rest := [.int 1, .int x1_2]) (wr := [(mthr, .inl (cyZ, 144, .inl m_thr))]) C (c_X11_wares l D cyC cyI cyJ cyZ cyO m0 mtold mtape msort mplace mvalue mwords mop marg mnames mhasHabit mfactWords mfacts mpile mstates misMarked mrow mthr mmays mtall mweights mrowOfWare mneededOf mtried mbestRow mdigits m_thrown m_taped m_size m_at m_fault m_codes m_isNew m_inShelf m_inStack m_inPlace m_rowMany m_goShelf m_goStack m_goLeft m_bestCost m_bestMany m_bestShelf m_bestSet m_told h_m_taped h_m_size h_m_at h_m_fault h_m_codes h_m_isNew h_m_inShelf h_m_inStack h_m_inPlace h_m_rowMany h_m_goShelf h_m_bestMany h_m_bestShelf h_m_told) wd_748 wd_624 wd_749 wd_750 wd_751 ⟨by decide, by decide, rfl⟩ rfl ⟨rfl, rfl, by decide, by decide⟩ ⟨by decide, by decide⟩ [0, 1] [2] rfl rfl ⟨by decide, by decide, by decide⟩ 0 rfl rfl rfl (Nat.le_of_ble_eq_true rfl) dX11_findApart_7 (fun u_2 hw_3 => ?_)
      refine j_eq (ws2 := [(mthr, .inl (cyZ, 144, .inl m_thr)), (m0, .inr (11, [.int m_thrown, .ref mtape, .int m_taped, .int m_size, .ref msort, .ref mplace, .ref mvalue, .int m_at, .int m_fault, .ref mwords, .ref mtold, .ref mop, .ref marg, .int m_codes, .ref mnames, .ref mhasHabit, .int m_isNew, .ref mfactWords, .ref mfacts, .ref mpile, .ref mstates, .ref misMarked, .int m_inShelf, .int m_inStack, .int m_inPlace, .ref mrow, .int m_rowMany, .ref mthr, .ref mmays, .ref mtall, .ref mweights, .ref mrowOfWare, .ref mneededOf, .int m_goShelf, .int m_goStack, .int m_goLeft, .ref mtried, .ref mbestRow, .int m_bestCost, .int m_bestMany, .int m_bestShelf, .int m_bestSet, .ref mdigits])), (mtold, .inl (cyI, 240, .inl m_told))]) (pc2 := 10) (lv2 := [(2, .int x1_2), (1, .int x1_1), (0, .ref m0)]) (st2 := [.int (u_2.2.1 0), .int 1, .int x1_2]) rfl rfl rfl rfl ?_
      obtain ⟨hw_3_0, hw_3_1⟩ := hw_3
      obtain ⟨v_4, ev_4⟩ : ∃ z : Int32, 1 <<< ((u_2.2.1 0) &&& 31) = z := ⟨_, rfl⟩
      have el_1 : (1 : Int32).toInt = 1 := rfl
      have hv_4 : 1 ≤ v_4.toInt ∧ v_4.toInt ≤ 4096 := by rw [← ev_4]; exact shl1_iv 0 12 (by omega) (by omega) (by omega)
      refine j_ishl (pc := 10) (v := v_4) C dX11_findApart_10 ev_4 ?_
      refine j_icmp_ge (pc := 11) (tgt := 45) C dX11_findApart_11 (by decide) (fun c_5 => ?_) (fun c_5 => ?_)
      · skip
        rw [i_le] at c_5
        refine j_iload_n (pc := 45) C dX11_findApart_45 rfl 1 rfl ?_
        exact j_iret (pc := 46) C hr hk (fun i => [].getD i 0, fun i => [x1_1].getD i 0, fun i => [].getD i (fun _ => 0), fun i => [].getD i (fun _ => 0)) rfl trivial [1, 2, 0] (by decide) rfl (by decide) (by decide) dX11_findApart_46
      · skip
        rw [i_le] at c_5
        refine j_iload_n (pc := 14) C dX11_findApart_14 rfl 0 rfl ?_
        refine j_callS (pc := 15) (As := [.int x1_2]) (rest := []) (wr := [(mthr, .inl (cyZ, 144, .inl m_thr)), (m0, .inr (11, [.int m_thrown, .ref mtape, .int m_taped, .int m_size, .ref msort, .ref mplace, .ref mvalue, .int m_at, .int m_fault, .ref mwords, .ref mtold, .ref mop, .ref marg, .int m_codes, .ref mnames, .ref mhasHabit, .int m_isNew, .ref mfactWords, .ref mfacts, .ref mpile, .ref mstates, .ref misMarked, .int m_inShelf, .int m_inStack, .int m_inPlace, .ref mrow, .int m_rowMany, .ref mthr, .ref mmays, .ref mtall, .ref mweights, .ref mrowOfWare, .ref mneededOf, .int m_goShelf, .int m_goStack, .int m_goLeft, .ref mtried, .ref mbestRow, .int m_bestCost, .int m_bestMany, .int m_bestShelf, .int m_bestSet, .ref mdigits])), (mtold, .inl (cyI, 240, .inl m_told))]) C (c_X11_bits l D cyC cyI cyJ cyZ cyO x1_2) wd_916 wd_624 wd_917 wd_918 ⟨by decide, by decide, rfl⟩ rfl ⟨rfl, rfl, by decide, by decide⟩ ⟨by decide, by decide⟩ [] [0, 1, 2] rfl rfl ⟨by decide, by decide, by decide⟩ rfl (Nat.le_of_ble_eq_true rfl) dX11_findApart_15 (fun u_6 hw_7 => ?_)
        refine j_eq (ws2 := [(mthr, .inl (cyZ, 144, .inl m_thr)), (m0, .inr (11, [.int m_thrown, .ref mtape, .int m_taped, .int m_size, .ref msort, .ref mplace, .ref mvalue, .int m_at, .int m_fault, .ref mwords, .ref mtold, .ref mop, .ref marg, .int m_codes, .ref mnames, .ref mhasHabit, .int m_isNew, .ref mfactWords, .ref mfacts, .ref mpile, .ref mstates, .ref misMarked, .int m_inShelf, .int m_inStack, .int m_inPlace, .ref mrow, .int m_rowMany, .ref mthr, .ref mmays, .ref mtall, .ref mweights, .ref mrowOfWare, .ref mneededOf, .int m_goShelf, .int m_goStack, .int m_goLeft, .ref mtried, .ref mbestRow, .int m_bestCost, .int m_bestMany, .int m_bestShelf, .int m_bestSet, .ref mdigits])), (mtold, .inl (cyI, 240, .inl m_told))]) (pc2 := 18) (lv2 := [(2, .int x1_2), (1, .int x1_1), (0, .ref m0)]) (st2 := [.int (u_6.2.1 0)]) rfl rfl rfl rfl ?_
        obtain ⟨hw_7_0, hw_7_1⟩ := hw_7
        refine j_iload_n (pc := 18) C dX11_findApart_18 rfl 1 rfl ?_
        refine j_callS (pc := 19) (As := [.int x1_1]) (rest := [.int (u_6.2.1 0)]) (wr := [(mthr, .inl (cyZ, 144, .inl m_thr)), (m0, .inr (11, [.int m_thrown, .ref mtape, .int m_taped, .int m_size, .ref msort, .ref mplace, .ref mvalue, .int m_at, .int m_fault, .ref mwords, .ref mtold, .ref mop, .ref marg, .int m_codes, .ref mnames, .ref mhasHabit, .int m_isNew, .ref mfactWords, .ref mfacts, .ref mpile, .ref mstates, .ref misMarked, .int m_inShelf, .int m_inStack, .int m_inPlace, .ref mrow, .int m_rowMany, .ref mthr, .ref mmays, .ref mtall, .ref mweights, .ref mrowOfWare, .ref mneededOf, .int m_goShelf, .int m_goStack, .int m_goLeft, .ref mtried, .ref mbestRow, .int m_bestCost, .int m_bestMany, .int m_bestShelf, .int m_bestSet, .ref mdigits])), (mtold, .inl (cyI, 240, .inl m_told))]) C (c_X11_bits l D cyC cyI cyJ cyZ cyO x1_1) wd_916 wd_624 wd_917 wd_918 ⟨by decide, by decide, rfl⟩ rfl ⟨rfl, rfl, by decide, by decide⟩ ⟨by decide, by decide⟩ [] [0, 1, 2] rfl rfl ⟨by decide, by decide, by decide⟩ rfl (Nat.le_of_ble_eq_true rfl) dX11_findApart_19 (fun u_8 hw_9 => ?_)
        refine j_eq (ws2 := [(mthr, .inl (cyZ, 144, .inl m_thr)), (m0, .inr (11, [.int m_thrown, .ref mtape, .int m_taped, .int m_size, .ref msort, .ref mplace, .ref mvalue, .int m_at, .int m_fault, .ref mwords, .ref mtold, .ref mop, .ref marg, .int m_codes, .ref mnames, .ref mhasHabit, .int m_isNew, .ref mfactWords, .ref mfacts, .ref mpile, .ref mstates, .ref misMarked, .int m_inShelf, .int m_inStack, .int m_inPlace, .ref mrow, .int m_rowMany, .ref mthr, .ref mmays, .ref mtall, .ref mweights, .ref mrowOfWare, .ref mneededOf, .int m_goShelf, .int m_goStack, .int m_goLeft, .ref mtried, .ref mbestRow, .int m_bestCost, .int m_bestMany, .int m_bestShelf, .int m_bestSet, .ref mdigits])), (mtold, .inl (cyI, 240, .inl m_told))]) (pc2 := 22) (lv2 := [(2, .int x1_2), (1, .int x1_1), (0, .ref m0)]) (st2 := [.int (u_8.2.1 0), .int (u_6.2.1 0)]) rfl rfl rfl rfl ?_
        obtain ⟨hw_9_0, hw_9_1⟩ := hw_9
        refine j_icmp_le (pc := 22) (tgt := 37) C dX11_findApart_22 (by decide) (fun c_10 => ?_) (fun c_10 => ?_)
        · skip
          rw [i_le] at c_10
          refine j_iload_n (pc := 37) C dX11_findApart_37 rfl 1 rfl ?_
          refine j_istore_n (pc := 38) (lv' := [(1, .int x1_1), (2, .int x1_2), (0, .ref m0)]) C dX11_findApart_38 rfl (by decide) rfl ?_
          obtain ⟨v_11, ev_11⟩ : ∃ z : Int32, x1_2 + 1 = z := ⟨_, rfl⟩
          have el_1 : (1 : Int32).toInt = 1 := rfl
          have hv_11 : v_11.toInt = x1_2.toInt + (1 : Int32).toInt := by rw [← ev_11]; exact fb_addI (by omega) (by omega)
          refine j_iinc (pc := 39) (v := v_11) (lv' := [(2, .int v_11), (1, .int x1_1), (0, .ref m0)]) C dX11_findApart_39 1 rfl ev_11 (by decide) rfl ?_
          refine j_goto (pc := 42) (tgt := 4) C dX11_findApart_42 (by decide) ?_
          refine j_subG (ws' := [(m0, .inr (11, [.int m_thrown, .ref mtape, .int m_taped, .int m_size, .ref msort, .ref mplace, .ref mvalue, .int m_at, .int m_fault, .ref mwords, .ref mtold, .ref mop, .ref marg, .int m_codes, .ref mnames, .ref mhasHabit, .int m_isNew, .ref mfactWords, .ref mfacts, .ref mpile, .ref mstates, .ref misMarked, .int m_inShelf, .int m_inStack, .int m_inPlace, .ref mrow, .int m_rowMany, .ref mthr, .ref mmays, .ref mtall, .ref mweights, .ref mrowOfWare, .ref mneededOf, .int m_goShelf, .int m_goStack, .int m_goLeft, .ref mtried, .ref mbestRow, .int m_bestCost, .int m_bestMany, .int m_bestShelf, .int m_bestSet, .ref mdigits])), (mtold, .inl (cyI, 240, .inl m_told)), (mthr, .inl (cyZ, 144, .inl m_thr))]) [1, 2, 0] (by decide) rfl ?_
          exact j_lv [0, 1, 2] rfl (ih_1 v_11 x1_1 (by omega) (by omega))
        · skip
          rw [i_le] at c_10
          refine j_aload_n (pc := 25) C dX11_findApart_25 rfl 2 rfl ?_
          refine j_iload_n (pc := 26) C dX11_findApart_26 rfl 0 rfl ?_
          refine j_callV (pc := 27) (As := [.int x1_2]) (rest := []) (wr := []) C (c_X11_areApart l D cyC cyI cyJ cyZ cyO m0 mtold mthr mtape msort mplace mvalue mwords mop marg mnames mhasHabit mfactWords mfacts mpile mstates misMarked mrow mmays mtall mweights mrowOfWare mneededOf mtried mbestRow mdigits x1_2 m_thrown m_taped m_size m_at m_fault m_codes m_isNew m_inShelf m_inStack m_inPlace m_rowMany m_goShelf m_goStack m_goLeft m_bestCost m_bestMany m_bestShelf m_bestSet m_told m_thr h_m_taped h_m_size h_m_at h_m_fault h_m_codes h_m_isNew h_m_inShelf h_m_inStack h_m_inPlace h_m_rowMany h_m_goShelf h_m_bestMany h_m_bestShelf h_m_told) wd_919 wd_624 wd_920 wd_921 wd_922 ⟨by decide, by decide, rfl⟩ rfl ⟨rfl, rfl, by decide, by decide⟩ ⟨by decide, by decide⟩ [1, 2, 0] [] rfl rfl ⟨by decide, by decide, by decide⟩ 1 rfl rfl rfl (Nat.le_of_ble_eq_true rfl) dX11_findApart_27 (fun u_12 hw_13 => ?_)
          refine j_eq (ws2 := [(m0, .inr (11, [.int m_thrown, .ref mtape, .int m_taped, .int m_size, .ref msort, .ref mplace, .ref mvalue, .int m_at, .int m_fault, .ref mwords, .ref mtold, .ref mop, .ref marg, .int m_codes, .ref mnames, .ref mhasHabit, .int m_isNew, .ref mfactWords, .ref mfacts, .ref mpile, .ref mstates, .ref misMarked, .int m_inShelf, .int m_inStack, .int m_inPlace, .ref mrow, .int m_rowMany, .ref mthr, .ref mmays, .ref mtall, .ref mweights, .ref mrowOfWare, .ref mneededOf, .int m_goShelf, .int m_goStack, .int m_goLeft, .ref mtried, .ref mbestRow, .int m_bestCost, .int m_bestMany, .int m_bestShelf, .int m_bestSet, .ref mdigits])), (mtold, .inl (cyI, 240, .inl m_told)), (mthr, .inl (cyZ, 144, .inl m_thr))]) (pc2 := 30) (lv2 := [(2, .int x1_2), (1, .int x1_1), (0, .ref m0)]) (st2 := [.int (u_12.2.1 0)]) rfl rfl rfl rfl ?_
          have hw_13_0 : 0 ≤ (u_12.2.1 0).toInt ∧ (u_12.2.1 0).toInt ≤ 1 := hw_13
          refine j_if_eq (pc := 30) (tgt := 37) C dX11_findApart_30 (by decide) (fun c_14 => ?_) (fun c_14 => ?_)
          · skip
            have el_0 : (0 : Int32).toInt = 0 := rfl
            rw [i_eq] at c_14
            refine j_iload_n (pc := 37) C dX11_findApart_37 rfl 1 rfl ?_
            refine j_istore_n (pc := 38) (lv' := [(1, .int x1_1), (2, .int x1_2), (0, .ref m0)]) C dX11_findApart_38 rfl (by decide) rfl ?_
            obtain ⟨v_15, ev_15⟩ : ∃ z : Int32, x1_2 + 1 = z := ⟨_, rfl⟩
            have el_1 : (1 : Int32).toInt = 1 := rfl
            have hv_15 : v_15.toInt = x1_2.toInt + (1 : Int32).toInt := by rw [← ev_15]; exact fb_addI (by omega) (by omega)
            refine j_iinc (pc := 39) (v := v_15) (lv' := [(2, .int v_15), (1, .int x1_1), (0, .ref m0)]) C dX11_findApart_39 1 rfl ev_15 (by decide) rfl ?_
            refine j_goto (pc := 42) (tgt := 4) C dX11_findApart_42 (by decide) ?_
            exact j_lv [0, 1, 2] rfl (ih_1 v_15 x1_1 (by omega) (by omega))
          · skip
            have el_0 : (0 : Int32).toInt = 0 := rfl
            rw [i_eq] at c_14
            have k0c_14 : ((u_12.2.1 0)).toInt = 1 := by omega
            refine j_iload_n (pc := 33) C dX11_findApart_33 rfl 0 rfl ?_
            refine j_goto (pc := 34) (tgt := 38) C dX11_findApart_34 (by decide) ?_
            refine j_istore_n (pc := 38) (lv' := [(1, .int x1_2), (2, .int x1_2), (0, .ref m0)]) C dX11_findApart_38 rfl (by decide) rfl ?_
            obtain ⟨v_16, ev_16⟩ : ∃ z : Int32, x1_2 + 1 = z := ⟨_, rfl⟩
            have el_1 : (1 : Int32).toInt = 1 := rfl
            have hv_16 : v_16.toInt = x1_2.toInt + (1 : Int32).toInt := by rw [← ev_16]; exact fb_addI (by omega) (by omega)
            refine j_iinc (pc := 39) (v := v_16) (lv' := [(2, .int v_16), (1, .int x1_2), (0, .ref m0)]) C dX11_findApart_39 1 rfl ev_16 (by decide) rfl ?_
            refine j_goto (pc := 42) (tgt := 4) C dX11_findApart_42 (by decide) ?_
            exact j_lv [0, 1, 2] rfl (ih_1 v_16 x1_2 (by omega) (by omega))
  have el_0 : (0 : Int32).toInt = 0 := rfl
  have el_0 : (0 : Int32).toInt = 0 := rfl
  exact j_lv [0, 1, 2] rfl (loop_1 5000 0 0 (by decide) (by omega))
set_option maxHeartbeats 4000000 in
set_option maxRecDepth 100000 in
theorem c_X11_isRound (l : Launch) (D : DG) (cyC cyI cyJ cyZ cyO : ClassId) (m0 : Nat) (mtold : Nat) (mop : Nat) (marg : Nat) (mfacts : Nat) (mpile : Nat) (mthr : Nat) (mmays : Nat) (mtall : Nat) (mweights : Nat) (mtape : Nat) (msort : Nat) (mplace : Nat) (mvalue : Nat) (mwords : Nat) (mnames : Nat) (mhasHabit : Nat) (mfactWords : Nat) (mstates : Nat) (misMarked : Nat) (mrow : Nat) (mrowOfWare : Nat) (mneededOf : Nat) (mtried : Nat) (mbestRow : Nat) (mdigits : Nat) (m_thrown : Int32) (m_taped : Int32) (m_size : Int32) (m_at : Int32) (m_fault : Int32) (m_codes : Int32) (m_isNew : Int32) (m_inShelf : Int32) (m_inStack : Int32) (m_inPlace : Int32) (m_rowMany : Int32) (m_goShelf : Int32) (m_goStack : Int32) (m_goLeft : Int32) (m_bestCost : Int32) (m_bestMany : Int32) (m_bestShelf : Int32) (m_bestSet : Int32) (m_told : Nat → Int32) (m_op : Nat → Int32) (m_arg : Nat → Int32) (m_facts : Nat → Int32) (m_pile : Nat → Int32) (m_thr : Nat → Int32) (m_mays : Nat → Int32) (m_tall : Nat → Int32) (m_weights : Nat → Int32) (h_m_taped : 0 ≤ (m_taped).toInt ∧ (m_taped).toInt ≤ 1000) (h_m_size : 0 ≤ (m_size).toInt ∧ (m_size).toInt ≤ 1000) (h_m_at : 0 ≤ (m_at).toInt ∧ (m_at).toInt ≤ 1000) (h_m_fault : 0 ≤ (m_fault).toInt ∧ (m_fault).toInt ≤ 16005) (h_m_codes : 0 ≤ (m_codes).toInt ∧ (m_codes).toInt ≤ 1000) (h_m_isNew : 0 ≤ (m_isNew).toInt ∧ (m_isNew).toInt ≤ 1) (h_m_inShelf : 0 ≤ (m_inShelf).toInt ∧ (m_inShelf).toInt ≤ 3) (h_m_inStack : 0 ≤ (m_inStack).toInt ∧ (m_inStack).toInt ≤ 7) (h_m_inPlace : 0 ≤ (m_inPlace).toInt ∧ (m_inPlace).toInt ≤ 11) (h_m_rowMany : 0 ≤ (m_rowMany).toInt ∧ (m_rowMany).toInt ≤ 12) (h_m_goShelf : -1 ≤ (m_goShelf).toInt ∧ (m_goShelf).toInt ≤ 3) (h_m_bestMany : 0 ≤ (m_bestMany).toInt ∧ (m_bestMany).toInt ≤ 7) (h_m_bestShelf : 0 ≤ (m_bestShelf).toInt ∧ (m_bestShelf).toInt ≤ 3) (h_m_told : TV m_told) (h_m_tall : Iv 49152 (0) (100000000) m_tall) (hwf : WFm m_told m_op m_arg) (hTA : (m_isNew).toInt = 0 → TALL m_told m_mays m_tall) : KK l D (TY cyC cyI cyJ cyZ cyO) yX11_isRound cX11_isRound 3 (some .boolean) ({ frames := 5, cells := 0, slots := 0, locals := 117 } : Room) 0 0 [.ref m0] [(m0, .inr (11, [.int m_thrown, .ref mtape, .int m_taped, .int m_size, .ref msort, .ref mplace, .ref mvalue, .int m_at, .int m_fault, .ref mwords, .ref mtold, .ref mop, .ref marg, .int m_codes, .ref mnames, .ref mhasHabit, .int m_isNew, .ref mfactWords, .ref mfacts, .ref mpile, .ref mstates, .ref misMarked, .int m_inShelf, .int m_inStack, .int m_inPlace, .ref mrow, .int m_rowMany, .ref mthr, .ref mmays, .ref mtall, .ref mweights, .ref mrowOfWare, .ref mneededOf, .int m_goShelf, .int m_goStack, .int m_goLeft, .ref mtried, .ref mbestRow, .int m_bestCost, .int m_bestMany, .int m_bestShelf, .int m_bestSet, .ref mdigits])), (mtold, .inl (cyI, 240, .inl m_told)), (mop, .inl (cyI, 2200, .inl m_op)), (marg, .inl (cyI, 2200, .inl m_arg)), (mfacts, .inl (cyI, 8, .inl m_facts)), (mpile, .inl (cyI, 1100, .inl m_pile)), (mthr, .inl (cyZ, 144, .inl m_thr)), (mmays, .inl (cyZ, 144, .inl m_mays)), (mtall, .inl (cyI, 49152, .inl m_tall)), (mweights, .inl (cyI, 4096, .inl m_weights))] (fun u => some (.int (u.2.1 0))) (fun u => (0 ≤ (u.2.1 0).toInt ∧ (u.2.1 0).toInt ≤ 1) ∧ (0 ≤ (u.2.1 1).toInt ∧ (u.2.1 1).toInt ≤ 0) ∧ (Iv 49152 (0) (100000000) (u.2.2.1 4)) ∧ (((u.2.1 1)).toInt = 0 → TALL m_told (u.2.2.1 3) (u.2.2.1 4))) (fun u => [(m0, .inr (11, [.int m_thrown, .ref mtape, .int m_taped, .int m_size, .ref msort, .ref mplace, .ref mvalue, .int m_at, .int m_fault, .ref mwords, .ref mtold, .ref mop, .ref marg, .int m_codes, .ref mnames, .ref mhasHabit, .int (u.2.1 1), .ref mfactWords, .ref mfacts, .ref mpile, .ref mstates, .ref misMarked, .int m_inShelf, .int m_inStack, .int m_inPlace, .ref mrow, .int m_rowMany, .ref mthr, .ref mmays, .ref mtall, .ref mweights, .ref mrowOfWare, .ref mneededOf, .int m_goShelf, .int m_goStack, .int m_goLeft, .ref mtried, .ref mbestRow, .int m_bestCost, .int m_bestMany, .int m_bestShelf, .int m_bestSet, .ref mdigits])), (mtold, .inl (cyI, 240, .inl m_told)), (mop, .inl (cyI, 2200, .inl m_op)), (marg, .inl (cyI, 2200, .inl m_arg)), (mfacts, .inl (cyI, 8, .inl (u.2.2.1 0))), (mpile, .inl (cyI, 1100, .inl (u.2.2.1 1))), (mthr, .inl (cyZ, 144, .inl (u.2.2.1 2))), (mmays, .inl (cyZ, 144, .inl (u.2.2.1 3))), (mtall, .inl (cyI, 49152, .inl (u.2.2.1 4))), (mweights, .inl (cyI, 4096, .inl (u.2.2.1 5)))]) := by
  refine KK.of (lv0 := [(0, .ref m0)]) (by decide) rfl (Nat.le_of_ble_eq_true rfl) ?_
  intro p e s m args below meth c A C hr hk hin
  refine j_aload_n (pc := 0) C dX11_isRound_0 rfl 0 rfl ?_
  refine j_callV (pc := 1) (As := []) (rest := []) (wr := []) C (c_X11_find l D cyC cyI cyJ cyZ cyO m0 mtold mop marg mfacts mpile mthr mmays mtall mweights mtape msort mplace mvalue mwords mnames mhasHabit mfactWords mstates misMarked mrow mrowOfWare mneededOf mtried mbestRow mdigits m_thrown m_taped m_size m_at m_fault m_codes m_isNew m_inShelf m_inStack m_inPlace m_rowMany m_goShelf m_goStack m_goLeft m_bestCost m_bestMany m_bestShelf m_bestSet m_told m_op m_arg m_facts m_pile m_thr m_mays m_tall m_weights h_m_taped h_m_size h_m_at h_m_fault h_m_codes h_m_isNew h_m_inShelf h_m_inStack h_m_inPlace h_m_rowMany h_m_goShelf h_m_bestMany h_m_bestShelf h_m_told h_m_tall hwf hTA) wd_923 wd_624 wd_924 wd_925 wd_926 ⟨by decide, by decide, rfl⟩ rfl ⟨rfl, rfl, by decide, by decide⟩ ⟨by decide, by decide⟩ [0, 1, 2, 3, 4, 5, 6, 7, 8, 9] [] rfl rfl ⟨by decide, by decide, by decide⟩ 0 rfl rfl rfl (Nat.le_of_ble_eq_true rfl) dX11_isRound_1 (fun u_1 hw_2 => ?_)
  refine j_eq (ws2 := [(m0, .inr (11, [.int m_thrown, .ref mtape, .int m_taped, .int m_size, .ref msort, .ref mplace, .ref mvalue, .int m_at, .int m_fault, .ref mwords, .ref mtold, .ref mop, .ref marg, .int m_codes, .ref mnames, .ref mhasHabit, .int (u_1.2.1 0), .ref mfactWords, .ref mfacts, .ref mpile, .ref mstates, .ref misMarked, .int m_inShelf, .int m_inStack, .int m_inPlace, .ref mrow, .int m_rowMany, .ref mthr, .ref mmays, .ref mtall, .ref mweights, .ref mrowOfWare, .ref mneededOf, .int m_goShelf, .int m_goStack, .int m_goLeft, .ref mtried, .ref mbestRow, .int m_bestCost, .int m_bestMany, .int m_bestShelf, .int m_bestSet, .ref mdigits])), (mtold, .inl (cyI, 240, .inl m_told)), (mop, .inl (cyI, 2200, .inl m_op)), (marg, .inl (cyI, 2200, .inl m_arg)), (mfacts, .inl (cyI, 8, .inl (u_1.2.2.1 0))), (mpile, .inl (cyI, 1100, .inl (u_1.2.2.1 1))), (mthr, .inl (cyZ, 144, .inl (u_1.2.2.1 2))), (mmays, .inl (cyZ, 144, .inl (u_1.2.2.1 3))), (mtall, .inl (cyI, 49152, .inl (u_1.2.2.1 4))), (mweights, .inl (cyI, 4096, .inl (u_1.2.2.1 5)))]) (pc2 := 4) (lv2 := [(0, .ref m0)]) (st2 := []) rfl rfl rfl rfl ?_
  obtain ⟨hw_2_0, hw_2_1, hw_2_2⟩ := hw_2
  refine j_iconst (pc := 4) (v := 0) C dX11_isRound_4 (by decide) ?_
  refine j_istore_n (pc := 5) (lv' := [(1, .int 0), (0, .ref m0)]) C dX11_isRound_5 rfl (by decide) rfl ?_
  refine j_iconst (pc := 6) (v := 0) C dX11_isRound_6 (by decide) ?_
  refine j_istore_n (pc := 7) (lv' := [(2, .int 0), (1, .int 0), (0, .ref m0)]) C dX11_isRound_7 rfl (by decide) rfl ?_
  have loop_3 : ∀ (k_3 : Nat) (x3_2 : Int32) (x3_1 : Int32), (0 ≤ (x3_2).toInt ∧ (x3_2).toInt ≤ 12) → (0 ≤ (x3_1).toInt ∧ (x3_1).toInt ≤ 1) → (12 - x3_2.toInt).toNat < k_3 → J p l e ({ frames := 5, cells := 0, slots := 0, locals := 117 } : Room) s m args below meth c D A 3 0 0 (QX below D (TY cyC cyI cyJ cyZ cyO) A (fun u => some (.int (u.2.1 0))) (fun u => (0 ≤ (u.2.1 0).toInt ∧ (u.2.1 0).toInt ≤ 1) ∧ (0 ≤ (u.2.1 1).toInt ∧ (u.2.1 1).toInt ≤ 0) ∧ (Iv 49152 (0) (100000000) (u.2.2.1 4)) ∧ (((u.2.1 1)).toInt = 0 → TALL m_told (u.2.2.1 3) (u.2.2.1 4))) (fun u => [(m0, .inr (11, [.int m_thrown, .ref mtape, .int m_taped, .int m_size, .ref msort, .ref mplace, .ref mvalue, .int m_at, .int m_fault, .ref mwords, .ref mtold, .ref mop, .ref marg, .int m_codes, .ref mnames, .ref mhasHabit, .int (u.2.1 1), .ref mfactWords, .ref mfacts, .ref mpile, .ref mstates, .ref misMarked, .int m_inShelf, .int m_inStack, .int m_inPlace, .ref mrow, .int m_rowMany, .ref mthr, .ref mmays, .ref mtall, .ref mweights, .ref mrowOfWare, .ref mneededOf, .int m_goShelf, .int m_goStack, .int m_goLeft, .ref mtried, .ref mbestRow, .int m_bestCost, .int m_bestMany, .int m_bestShelf, .int m_bestSet, .ref mdigits])), (mtold, .inl (cyI, 240, .inl m_told)), (mop, .inl (cyI, 2200, .inl m_op)), (marg, .inl (cyI, 2200, .inl m_arg)), (mfacts, .inl (cyI, 8, .inl (u.2.2.1 0))), (mpile, .inl (cyI, 1100, .inl (u.2.2.1 1))), (mthr, .inl (cyZ, 144, .inl (u.2.2.1 2))), (mmays, .inl (cyZ, 144, .inl (u.2.2.1 3))), (mtall, .inl (cyI, 49152, .inl (u.2.2.1 4))), (mweights, .inl (cyI, 4096, .inl (u.2.2.1 5)))]) args s 0 0) [(m0, .inr (11, [.int m_thrown, .ref mtape, .int m_taped, .int m_size, .ref msort, .ref mplace, .ref mvalue, .int m_at, .int m_fault, .ref mwords, .ref mtold, .ref mop, .ref marg, .int m_codes, .ref mnames, .ref mhasHabit, .int (u_1.2.1 0), .ref mfactWords, .ref mfacts, .ref mpile, .ref mstates, .ref misMarked, .int m_inShelf, .int m_inStack, .int m_inPlace, .ref mrow, .int m_rowMany, .ref mthr, .ref mmays, .ref mtall, .ref mweights, .ref mrowOfWare, .ref mneededOf, .int m_goShelf, .int m_goStack, .int m_goLeft, .ref mtried, .ref mbestRow, .int m_bestCost, .int m_bestMany, .int m_bestShelf, .int m_bestSet, .ref mdigits])), (mtold, .inl (cyI, 240, .inl m_told)), (mop, .inl (cyI, 2200, .inl m_op)), (marg, .inl (cyI, 2200, .inl m_arg)), (mfacts, .inl (cyI, 8, .inl (u_1.2.2.1 0))), (mpile, .inl (cyI, 1100, .inl (u_1.2.2.1 1))), (mthr, .inl (cyZ, 144, .inl (u_1.2.2.1 2))), (mmays, .inl (cyZ, 144, .inl (u_1.2.2.1 3))), (mtall, .inl (cyI, 49152, .inl (u_1.2.2.1 4))), (mweights, .inl (cyI, 4096, .inl (u_1.2.2.1 5)))] 8 [(2, .int x3_2), (1, .int x3_1), (0, .ref m0)] [] := by
    intro k_3
    induction k_3 with
    | zero =>
      intro x3_2 x3_1 hi_3_0 hi_3_1 hm_3
      exact absurd hm_3 (Nat.not_lt_zero _)
    | succ k_3 ih_3 =>
      intro x3_2 x3_1 hi_3_0 hi_3_1 hm_3
      refine j_iload_n (pc := 8) C dX11_isRound_8 rfl 0 rfl ?_
      refine j_aload_n (pc := 9) C dX11_isRound_9 rfl 2 rfl ?_
      refine j_callV (pc := 10) (As := []) (rest := [.int x3_2]) (wr := [(mop, .inl (cyI, 2200, .inl m_op)), (marg, .inl (cyI, 2200, .inl m_arg)), (mfacts, .inl (cyI, 8, .inl (u_1.2.2.1 0))), (mpile, .inl (cyI, 1100, .inl (u_1.2.2.1 1))), (mthr, .inl (cyZ, 144, .inl (u_1.2.2.1 2))), (mmays, .inl (cyZ, 144, .inl (u_1.2.2.1 3))), (mtall, .inl (cyI, 49152, .inl (u_1.2.2.1 4))), (mweights, .inl (cyI, 4096, .inl (u_1.2.2.1 5)))]) C (c_X11_wares l D cyC cyI cyJ cyZ cyO m0 mtold mtape msort mplace mvalue mwords mop marg mnames mhasHabit mfactWords mfacts mpile mstates misMarked mrow mthr mmays mtall mweights mrowOfWare mneededOf mtried mbestRow mdigits m_thrown m_taped m_size m_at m_fault m_codes (u_1.2.1 0) m_inShelf m_inStack m_inPlace m_rowMany m_goShelf m_goStack m_goLeft m_bestCost m_bestMany m_bestShelf m_bestSet m_told h_m_taped h_m_size h_m_at h_m_fault h_m_codes (by omega) h_m_inShelf h_m_inStack h_m_inPlace h_m_rowMany h_m_goShelf h_m_bestMany h_m_bestShelf h_m_told) wd_748 wd_624 wd_749 wd_750 wd_751 ⟨by decide, by decide, rfl⟩ rfl ⟨rfl, rfl, by decide, by decide⟩ ⟨by decide, by decide⟩ [0, 1] [2, 3, 4, 5, 6, 7, 8, 9] rfl rfl ⟨by decide, by decide, by decide⟩ 0 rfl rfl rfl (Nat.le_of_ble_eq_true rfl) dX11_isRound_10 (fun u_4 hw_5 => ?_)
      refine j_eq (ws2 := [(mop, .inl (cyI, 2200, .inl m_op)), (marg, .inl (cyI, 2200, .inl m_arg)), (mfacts, .inl (cyI, 8, .inl (u_1.2.2.1 0))), (mpile, .inl (cyI, 1100, .inl (u_1.2.2.1 1))), (mthr, .inl (cyZ, 144, .inl (u_1.2.2.1 2))), (mmays, .inl (cyZ, 144, .inl (u_1.2.2.1 3))), (mtall, .inl (cyI, 49152, .inl (u_1.2.2.1 4))), (mweights, .inl (cyI, 4096, .inl (u_1.2.2.1 5))), (m0, .inr (11, [.int m_thrown, .ref mtape, .int m_taped, .int m_size, .ref msort, .ref mplace, .ref mvalue, .int m_at, .int m_fault, .ref mwords, .ref mtold, .ref mop, .ref marg, .int m_codes, .ref mnames, .ref mhasHabit, .int (u_1.2.1 0), .ref mfactWords, .ref mfacts, .ref mpile, .ref mstates, .ref misMarked, .int m_inShelf, .int m_inStack, .int m_inPlace, .ref mrow, .int m_rowMany, .ref mthr, .ref mmays, .ref mtall, .ref mweights, .ref mrowOfWare, .ref mneededOf, .int m_goShelf, .int m_goStack, .int m_goLeft, .ref mtried, .ref mbestRow, .int m_bestCost, .int m_bestMany, .int m_bestShelf, .int m_bestSet, .ref mdigits])), (mtold, .inl (cyI, 240, .inl m_told))]) (pc2 := 13) (lv2 := [(2, .int x3_2), (1, .int x3_1), (0, .ref m0)]) (st2 := [.int (u_4.2.1 0), .int x3_2]) rfl rfl rfl rfl ?_
      obtain ⟨hw_5_0, hw_5_1⟩ := hw_5
      refine j_icmp_ge (pc := 13) (tgt := 46) C dX11_isRound_13 (by decide) (fun c_6 => ?_) (fun c_6 => ?_)
      · skip
        rw [i_le] at c_6
        refine j_iload_n (pc := 46) C dX11_isRound_46 rfl 1 rfl ?_
        exact j_zret (pc := 47) C hr (nb_01 ⟨by omega, by omega⟩).1 hk (fun i => [].getD i 0, fun i => [x3_1, (u_1.2.1 0)].getD i 0, fun i => [(u_1.2.2.1 0), (u_1.2.2.1 1), (u_1.2.2.1 2), (u_1.2.2.1 3), (u_1.2.2.1 4), (u_1.2.2.1 5)].getD i (fun _ => 0), fun i => [].getD i (fun _ => 0)) rfl (show (0 ≤ (x3_1).toInt ∧ (x3_1).toInt ≤ 1) ∧ (0 ≤ ((u_1.2.1 0)).toInt ∧ ((u_1.2.1 0)).toInt ≤ 0) ∧ (Iv 49152 (0) (100000000) (u_1.2.2.1 4)) ∧ (((u_1.2.1 0)).toInt = 0 → TALL m_told (u_1.2.2.1 3) (u_1.2.2.1 4)) from ⟨hi_3_1, hw_2_0, hw_2_1, (fun _ => hw_2_2)⟩) [8, 9, 0, 1, 2, 3, 4, 5, 6, 7] (by decide) rfl (by decide) (by decide) dX11_isRound_47
      · skip
        rw [i_le] at c_6
        refine j_iload_n (pc := 16) C dX11_isRound_16 rfl 1 rfl ?_
        refine j_if_ne (pc := 17) (tgt := 34) C dX11_isRound_17 (by decide) (fun c_7 => ?_) (fun c_7 => ?_)
        · skip
          have el_0 : (0 : Int32).toInt = 0 := rfl
          rw [i_eq] at c_7
          have k0c_7 : x3_1.toInt = 1 := by omega
          refine j_iconst (pc := 34) (v := 1) C dX11_isRound_34 (by decide) ?_
          refine j_goto (pc := 35) (tgt := 39) C dX11_isRound_35 (by decide) ?_
          refine j_istore_n (pc := 39) (lv' := [(1, .int 1), (2, .int x3_2), (0, .ref m0)]) C dX11_isRound_39 rfl (by decide) rfl ?_
          obtain ⟨v_8, ev_8⟩ : ∃ z : Int32, x3_2 + 1 = z := ⟨_, rfl⟩
          have el_1 : (1 : Int32).toInt = 1 := rfl
          have hv_8 : v_8.toInt = x3_2.toInt + (1 : Int32).toInt := by rw [← ev_8]; exact fb_addI (by omega) (by omega)
          refine j_iinc (pc := 40) (v := v_8) (lv' := [(2, .int v_8), (1, .int 1), (0, .ref m0)]) C dX11_isRound_40 1 rfl ev_8 (by decide) rfl ?_
          refine j_goto (pc := 43) (tgt := 8) C dX11_isRound_43 (by decide) ?_
          have el_1 : (1 : Int32).toInt = 1 := rfl
          refine j_subG (ws' := [(m0, .inr (11, [.int m_thrown, .ref mtape, .int m_taped, .int m_size, .ref msort, .ref mplace, .ref mvalue, .int m_at, .int m_fault, .ref mwords, .ref mtold, .ref mop, .ref marg, .int m_codes, .ref mnames, .ref mhasHabit, .int (u_1.2.1 0), .ref mfactWords, .ref mfacts, .ref mpile, .ref mstates, .ref misMarked, .int m_inShelf, .int m_inStack, .int m_inPlace, .ref mrow, .int m_rowMany, .ref mthr, .ref mmays, .ref mtall, .ref mweights, .ref mrowOfWare, .ref mneededOf, .int m_goShelf, .int m_goStack, .int m_goLeft, .ref mtried, .ref mbestRow, .int m_bestCost, .int m_bestMany, .int m_bestShelf, .int m_bestSet, .ref mdigits])), (mtold, .inl (cyI, 240, .inl m_told)), (mop, .inl (cyI, 2200, .inl m_op)), (marg, .inl (cyI, 2200, .inl m_arg)), (mfacts, .inl (cyI, 8, .inl (u_1.2.2.1 0))), (mpile, .inl (cyI, 1100, .inl (u_1.2.2.1 1))), (mthr, .inl (cyZ, 144, .inl (u_1.2.2.1 2))), (mmays, .inl (cyZ, 144, .inl (u_1.2.2.1 3))), (mtall, .inl (cyI, 49152, .inl (u_1.2.2.1 4))), (mweights, .inl (cyI, 4096, .inl (u_1.2.2.1 5)))]) [8, 9, 0, 1, 2, 3, 4, 5, 6, 7] (by decide) rfl ?_
          exact j_lv [0, 1, 2] rfl (ih_3 v_8 1 (by omega) (by decide) (by omega))
        · skip
          have el_0 : (0 : Int32).toInt = 0 := rfl
          rw [i_eq] at c_7
          refine j_aload_n (pc := 20) C dX11_isRound_20 rfl 2 rfl ?_
          refine j_get (pc := 21) (ci := 11) (v := .ref mthr) C inw_11 8 rfl rfl 27 (by decide) wd_907 rfl rfl dX11_isRound_21 ?_
          refine j_bipush (pc := 24) (v := 12) C dX11_isRound_24 (by decide) ?_
          refine j_iload_n (pc := 26) C dX11_isRound_26 rfl 0 rfl ?_
          obtain ⟨v_9, ev_9⟩ : ∃ z : Int32, 12 * x3_2 = z := ⟨_, rfl⟩
          have el_12 : (12 : Int32).toInt = 12 := rfl
          have hv_9 : v_9.toInt = 12 * x3_2.toInt := by rw [← ev_9]; exact mulL (c := 12) rfl (by omega) (by omega)
          refine j_imul (pc := 27) (v := v_9) C dX11_isRound_27 ev_9 ?_
          refine j_iload_n (pc := 28) C dX11_isRound_28 rfl 0 rfl ?_
          obtain ⟨v_10, ev_10⟩ : ∃ z : Int32, v_9 + x3_2 = z := ⟨_, rfl⟩
          have hv_10 : v_10.toInt = v_9.toInt + x3_2.toInt := by rw [← ev_10]; exact fb_addI (by omega) (by omega)
          refine j_iadd (pc := 29) (v := v_10) C dX11_isRound_29 ev_10 ?_
          obtain ⟨v_11, ev_11⟩ : ∃ z, (u_1.2.2.1 2) (v_10).toInt.toNat = z := ⟨_, rfl⟩
          have env_11 : ((u_1.2.2.1 2) (v_10).toInt.toNat).toInt = v_11.toInt := by rw [ev_11]
          refine j_zald (pc := 30) (v := v_11) (k := (v_10).toInt.toNat) C 4 3 rfl rfl (i_nn (by omega)) rfl (i_lt_n (by omega) (by omega)) ev_11 dX11_isRound_30 ?_
          refine j_if_eq (pc := 31) (tgt := 38) C dX11_isRound_31 (by decide) (fun c_12 => ?_) (fun c_12 => ?_)
          · skip
            have el_0 : (0 : Int32).toInt = 0 := rfl
            rw [i_eq] at c_12
            refine j_iconst (pc := 38) (v := 0) C dX11_isRound_38 (by decide) ?_
            refine j_istore_n (pc := 39) (lv' := [(1, .int 0), (2, .int x3_2), (0, .ref m0)]) C dX11_isRound_39 rfl (by decide) rfl ?_
            obtain ⟨v_13, ev_13⟩ : ∃ z : Int32, x3_2 + 1 = z := ⟨_, rfl⟩
            have el_1 : (1 : Int32).toInt = 1 := rfl
            have hv_13 : v_13.toInt = x3_2.toInt + (1 : Int32).toInt := by rw [← ev_13]; exact fb_addI (by omega) (by omega)
            refine j_iinc (pc := 40) (v := v_13) (lv' := [(2, .int v_13), (1, .int 0), (0, .ref m0)]) C dX11_isRound_40 1 rfl ev_13 (by decide) rfl ?_
            refine j_goto (pc := 43) (tgt := 8) C dX11_isRound_43 (by decide) ?_
            have el_0 : (0 : Int32).toInt = 0 := rfl
            refine j_subG (ws' := [(m0, .inr (11, [.int m_thrown, .ref mtape, .int m_taped, .int m_size, .ref msort, .ref mplace, .ref mvalue, .int m_at, .int m_fault, .ref mwords, .ref mtold, .ref mop, .ref marg, .int m_codes, .ref mnames, .ref mhasHabit, .int (u_1.2.1 0), .ref mfactWords, .ref mfacts, .ref mpile, .ref mstates, .ref misMarked, .int m_inShelf, .int m_inStack, .int m_inPlace, .ref mrow, .int m_rowMany, .ref mthr, .ref mmays, .ref mtall, .ref mweights, .ref mrowOfWare, .ref mneededOf, .int m_goShelf, .int m_goStack, .int m_goLeft, .ref mtried, .ref mbestRow, .int m_bestCost, .int m_bestMany, .int m_bestShelf, .int m_bestSet, .ref mdigits])), (mtold, .inl (cyI, 240, .inl m_told)), (mop, .inl (cyI, 2200, .inl m_op)), (marg, .inl (cyI, 2200, .inl m_arg)), (mfacts, .inl (cyI, 8, .inl (u_1.2.2.1 0))), (mpile, .inl (cyI, 1100, .inl (u_1.2.2.1 1))), (mthr, .inl (cyZ, 144, .inl (u_1.2.2.1 2))), (mmays, .inl (cyZ, 144, .inl (u_1.2.2.1 3))), (mtall, .inl (cyI, 49152, .inl (u_1.2.2.1 4))), (mweights, .inl (cyI, 4096, .inl (u_1.2.2.1 5)))]) [8, 9, 0, 1, 2, 3, 4, 5, 6, 7] (by decide) rfl ?_
            exact j_lv [0, 1, 2] rfl (ih_3 v_13 0 (by omega) (by decide) (by omega))
          · skip
            have el_0 : (0 : Int32).toInt = 0 := rfl
            rw [i_eq] at c_12
            refine j_iconst (pc := 34) (v := 1) C dX11_isRound_34 (by decide) ?_
            refine j_goto (pc := 35) (tgt := 39) C dX11_isRound_35 (by decide) ?_
            refine j_istore_n (pc := 39) (lv' := [(1, .int 1), (2, .int x3_2), (0, .ref m0)]) C dX11_isRound_39 rfl (by decide) rfl ?_
            obtain ⟨v_14, ev_14⟩ : ∃ z : Int32, x3_2 + 1 = z := ⟨_, rfl⟩
            have el_1 : (1 : Int32).toInt = 1 := rfl
            have hv_14 : v_14.toInt = x3_2.toInt + (1 : Int32).toInt := by rw [← ev_14]; exact fb_addI (by omega) (by omega)
            refine j_iinc (pc := 40) (v := v_14) (lv' := [(2, .int v_14), (1, .int 1), (0, .ref m0)]) C dX11_isRound_40 1 rfl ev_14 (by decide) rfl ?_
            refine j_goto (pc := 43) (tgt := 8) C dX11_isRound_43 (by decide) ?_
            have el_1 : (1 : Int32).toInt = 1 := rfl
            refine j_subG (ws' := [(m0, .inr (11, [.int m_thrown, .ref mtape, .int m_taped, .int m_size, .ref msort, .ref mplace, .ref mvalue, .int m_at, .int m_fault, .ref mwords, .ref mtold, .ref mop, .ref marg, .int m_codes, .ref mnames, .ref mhasHabit, .int (u_1.2.1 0), .ref mfactWords, .ref mfacts, .ref mpile, .ref mstates, .ref misMarked, .int m_inShelf, .int m_inStack, .int m_inPlace, .ref mrow, .int m_rowMany, .ref mthr, .ref mmays, .ref mtall, .ref mweights, .ref mrowOfWare, .ref mneededOf, .int m_goShelf, .int m_goStack, .int m_goLeft, .ref mtried, .ref mbestRow, .int m_bestCost, .int m_bestMany, .int m_bestShelf, .int m_bestSet, .ref mdigits])), (mtold, .inl (cyI, 240, .inl m_told)), (mop, .inl (cyI, 2200, .inl m_op)), (marg, .inl (cyI, 2200, .inl m_arg)), (mfacts, .inl (cyI, 8, .inl (u_1.2.2.1 0))), (mpile, .inl (cyI, 1100, .inl (u_1.2.2.1 1))), (mthr, .inl (cyZ, 144, .inl (u_1.2.2.1 2))), (mmays, .inl (cyZ, 144, .inl (u_1.2.2.1 3))), (mtall, .inl (cyI, 49152, .inl (u_1.2.2.1 4))), (mweights, .inl (cyI, 4096, .inl (u_1.2.2.1 5)))]) [8, 9, 0, 1, 2, 3, 4, 5, 6, 7] (by decide) rfl ?_
            exact j_lv [0, 1, 2] rfl (ih_3 v_14 1 (by omega) (by decide) (by omega))
  have el_0 : (0 : Int32).toInt = 0 := rfl
  have el_0 : (0 : Int32).toInt = 0 := rfl
  exact j_lv [0, 1, 2] rfl (loop_3 4096 0 0 (by decide) (by decide) (by omega))
set_option maxHeartbeats 4000000 in
set_option maxRecDepth 100000 in
theorem c_X11_through (l : Launch) (D : DG) (cyC cyI cyJ cyZ cyO : ClassId) (m0 : Nat) (mtold : Nat) (mop : Nat) (marg : Nat) (mfacts : Nat) (mpile : Nat) (mthr : Nat) (mmays : Nat) (mtall : Nat) (mweights : Nat) (mtape : Nat) (msort : Nat) (mplace : Nat) (mvalue : Nat) (mwords : Nat) (mnames : Nat) (mhasHabit : Nat) (mfactWords : Nat) (mstates : Nat) (misMarked : Nat) (mrow : Nat) (mrowOfWare : Nat) (mneededOf : Nat) (mtried : Nat) (mbestRow : Nat) (mdigits : Nat) (p0 : Int32) (p1 : Int32) (m_thrown : Int32) (m_taped : Int32) (m_size : Int32) (m_at : Int32) (m_fault : Int32) (m_codes : Int32) (m_isNew : Int32) (m_inShelf : Int32) (m_inStack : Int32) (m_inPlace : Int32) (m_rowMany : Int32) (m_goShelf : Int32) (m_goStack : Int32) (m_goLeft : Int32) (m_bestCost : Int32) (m_bestMany : Int32) (m_bestShelf : Int32) (m_bestSet : Int32) (m_told : Nat → Int32) (m_op : Nat → Int32) (m_arg : Nat → Int32) (m_facts : Nat → Int32) (m_pile : Nat → Int32) (m_thr : Nat → Int32) (m_mays : Nat → Int32) (m_tall : Nat → Int32) (m_weights : Nat → Int32) (h_m_taped : 0 ≤ (m_taped).toInt ∧ (m_taped).toInt ≤ 1000) (h_m_size : 0 ≤ (m_size).toInt ∧ (m_size).toInt ≤ 1000) (h_m_at : 0 ≤ (m_at).toInt ∧ (m_at).toInt ≤ 1000) (h_m_fault : 0 ≤ (m_fault).toInt ∧ (m_fault).toInt ≤ 16005) (h_m_codes : 0 ≤ (m_codes).toInt ∧ (m_codes).toInt ≤ 1000) (h_m_isNew : 0 ≤ (m_isNew).toInt ∧ (m_isNew).toInt ≤ 1) (h_m_inShelf : 0 ≤ (m_inShelf).toInt ∧ (m_inShelf).toInt ≤ 3) (h_m_inStack : 0 ≤ (m_inStack).toInt ∧ (m_inStack).toInt ≤ 7) (h_m_inPlace : 0 ≤ (m_inPlace).toInt ∧ (m_inPlace).toInt ≤ 11) (h_m_rowMany : 0 ≤ (m_rowMany).toInt ∧ (m_rowMany).toInt ≤ 12) (h_m_goShelf : -1 ≤ (m_goShelf).toInt ∧ (m_goShelf).toInt ≤ 3) (h_m_bestMany : 0 ≤ (m_bestMany).toInt ∧ (m_bestMany).toInt ≤ 7) (h_m_bestShelf : 0 ≤ (m_bestShelf).toInt ∧ (m_bestShelf).toInt ≤ 3) (h_m_told : TV m_told) (h_m_tall : Iv 49152 (0) (100000000) m_tall) (hwf : WFm m_told m_op m_arg) (hTA : (m_isNew).toInt = 0 → TALL m_told m_mays m_tall) : KK l D (TY cyC cyI cyJ cyZ cyO) yX11_through cX11_through 3 (some .int) ({ frames := 5, cells := 0, slots := 0, locals := 117 } : Room) 0 0 [.ref m0, .int p0, .int p1] [(m0, .inr (11, [.int m_thrown, .ref mtape, .int m_taped, .int m_size, .ref msort, .ref mplace, .ref mvalue, .int m_at, .int m_fault, .ref mwords, .ref mtold, .ref mop, .ref marg, .int m_codes, .ref mnames, .ref mhasHabit, .int m_isNew, .ref mfactWords, .ref mfacts, .ref mpile, .ref mstates, .ref misMarked, .int m_inShelf, .int m_inStack, .int m_inPlace, .ref mrow, .int m_rowMany, .ref mthr, .ref mmays, .ref mtall, .ref mweights, .ref mrowOfWare, .ref mneededOf, .int m_goShelf, .int m_goStack, .int m_goLeft, .ref mtried, .ref mbestRow, .int m_bestCost, .int m_bestMany, .int m_bestShelf, .int m_bestSet, .ref mdigits])), (mtold, .inl (cyI, 240, .inl m_told)), (mop, .inl (cyI, 2200, .inl m_op)), (marg, .inl (cyI, 2200, .inl m_arg)), (mfacts, .inl (cyI, 8, .inl m_facts)), (mpile, .inl (cyI, 1100, .inl m_pile)), (mthr, .inl (cyZ, 144, .inl m_thr)), (mmays, .inl (cyZ, 144, .inl m_mays)), (mtall, .inl (cyI, 49152, .inl m_tall)), (mweights, .inl (cyI, 4096, .inl m_weights))] (fun u => some (.int (u.2.1 0))) (fun u => (0 ≤ (u.2.1 1).toInt ∧ (u.2.1 1).toInt ≤ 1) ∧ (Iv 49152 (0) (100000000) (u.2.2.1 4)) ∧ (((u.2.1 1)).toInt = 0 → TALL m_told (u.2.2.1 3) (u.2.2.1 4))) (fun u => [(m0, .inr (11, [.int 0, .ref mtape, .int m_taped, .int m_size, .ref msort, .ref mplace, .ref mvalue, .int m_at, .int m_fault, .ref mwords, .ref mtold, .ref mop, .ref marg, .int m_codes, .ref mnames, .ref mhasHabit, .int (u.2.1 1), .ref mfactWords, .ref mfacts, .ref mpile, .ref mstates, .ref misMarked, .int m_inShelf, .int m_inStack, .int m_inPlace, .ref mrow, .int m_rowMany, .ref mthr, .ref mmays, .ref mtall, .ref mweights, .ref mrowOfWare, .ref mneededOf, .int m_goShelf, .int m_goStack, .int m_goLeft, .ref mtried, .ref mbestRow, .int m_bestCost, .int m_bestMany, .int m_bestShelf, .int m_bestSet, .ref mdigits])), (mtold, .inl (cyI, 240, .inl m_told)), (mop, .inl (cyI, 2200, .inl m_op)), (marg, .inl (cyI, 2200, .inl m_arg)), (mfacts, .inl (cyI, 8, .inl (u.2.2.1 0))), (mpile, .inl (cyI, 1100, .inl (u.2.2.1 1))), (mthr, .inl (cyZ, 144, .inl (u.2.2.1 2))), (mmays, .inl (cyZ, 144, .inl (u.2.2.1 3))), (mtall, .inl (cyI, 49152, .inl (u.2.2.1 4))), (mweights, .inl (cyI, 4096, .inl (u.2.2.1 5)))]) := by
  refine KK.of (lv0 := [(0, .ref m0), (1, .int p0), (2, .int p1)]) (by decide) rfl (Nat.le_of_ble_eq_true rfl) ?_
  intro p e s m args below meth c A C hr hk hin
  refine j_aload_n (pc := 0) C dX11_through_0 rfl 0 rfl ?_
  refine j_iconst (pc := 1) (v := 0) C dX11_through_1 (by decide) ?_
  refine j_put (pc := 2) (ci := 11) (v := .int 0) (ws' := [(m0, .inr (11, [.int 0, .ref mtape, .int m_taped, .int m_size, .ref msort, .ref mplace, .ref mvalue, .int m_at, .int m_fault, .ref mwords, .ref mtold, .ref mop, .ref marg, .int m_codes, .ref mnames, .ref mhasHabit, .int m_isNew, .ref mfactWords, .ref mfacts, .ref mpile, .ref mstates, .ref misMarked, .int m_inShelf, .int m_inStack, .int m_inPlace, .ref mrow, .int m_rowMany, .ref mthr, .ref mmays, .ref mtall, .ref mweights, .ref mrowOfWare, .ref mneededOf, .int m_goShelf, .int m_goStack, .int m_goLeft, .ref mtried, .ref mbestRow, .int m_bestCost, .int m_bestMany, .int m_bestShelf, .int m_bestSet, .ref mdigits])), (mtold, .inl (cyI, 240, .inl m_told)), (mop, .inl (cyI, 2200, .inl m_op)), (marg, .inl (cyI, 2200, .inl m_arg)), (mfacts, .inl (cyI, 8, .inl m_facts)), (mpile, .inl (cyI, 1100, .inl m_pile)), (mthr, .inl (cyZ, 144, .inl m_thr)), (mmays, .inl (cyZ, 144, .inl m_mays)), (mtall, .inl (cyI, 49152, .inl m_tall)), (mweights, .inl (cyI, 4096, .inl m_weights))]) C inw_11 0 rfl rfl 0 (by decide) wd_629 rfl tyX11_ok nmX11 rfl (tyX11_ok 0 (by decide)) rfl rfl (Nat.le_of_ble_eq_true rfl) dX11_through_2 rfl ?_
  refine j_aload_n (pc := 5) C dX11_through_5 rfl 0 rfl ?_
  refine j_iload_n (pc := 6) C dX11_through_6 rfl 1 rfl ?_
  refine j_callV (pc := 7) (As := [.int p0]) (rest := []) (wr := [(mop, .inl (cyI, 2200, .inl m_op)), (marg, .inl (cyI, 2200, .inl m_arg)), (mfacts, .inl (cyI, 8, .inl m_facts)), (mpile, .inl (cyI, 1100, .inl m_pile)), (mthr, .inl (cyZ, 144, .inl m_thr)), (mmays, .inl (cyZ, 144, .inl m_mays)), (mtall, .inl (cyI, 49152, .inl m_tall)), (mweights, .inl (cyI, 4096, .inl m_weights))]) C (c_X11_isWare l D cyC cyI cyJ cyZ cyO m0 mtold mtape msort mplace mvalue mwords mop marg mnames mhasHabit mfactWords mfacts mpile mstates misMarked mrow mthr mmays mtall mweights mrowOfWare mneededOf mtried mbestRow mdigits p0 0 m_taped m_size m_at m_fault m_codes m_isNew m_inShelf m_inStack m_inPlace m_rowMany m_goShelf m_goStack m_goLeft m_bestCost m_bestMany m_bestShelf m_bestSet m_told h_m_taped h_m_size h_m_at h_m_fault h_m_codes h_m_isNew h_m_inShelf h_m_inStack h_m_inPlace h_m_rowMany h_m_goShelf h_m_bestMany h_m_bestShelf h_m_told) wd_814 wd_624 wd_815 wd_816 wd_817 ⟨by decide, by decide, rfl⟩ rfl ⟨rfl, rfl, by decide, by decide⟩ ⟨by decide, by decide⟩ [0, 1] [2, 3, 4, 5, 6, 7, 8, 9] rfl rfl ⟨by decide, by decide, by decide⟩ 0 rfl rfl rfl (Nat.le_of_ble_eq_true rfl) dX11_through_7 (fun u_1 hw_2 => ?_)
  refine j_eq (ws2 := [(mop, .inl (cyI, 2200, .inl m_op)), (marg, .inl (cyI, 2200, .inl m_arg)), (mfacts, .inl (cyI, 8, .inl m_facts)), (mpile, .inl (cyI, 1100, .inl m_pile)), (mthr, .inl (cyZ, 144, .inl m_thr)), (mmays, .inl (cyZ, 144, .inl m_mays)), (mtall, .inl (cyI, 49152, .inl m_tall)), (mweights, .inl (cyI, 4096, .inl m_weights)), (m0, .inr (11, [.int 0, .ref mtape, .int m_taped, .int m_size, .ref msort, .ref mplace, .ref mvalue, .int m_at, .int m_fault, .ref mwords, .ref mtold, .ref mop, .ref marg, .int m_codes, .ref mnames, .ref mhasHabit, .int m_isNew, .ref mfactWords, .ref mfacts, .ref mpile, .ref mstates, .ref misMarked, .int m_inShelf, .int m_inStack, .int m_inPlace, .ref mrow, .int m_rowMany, .ref mthr, .ref mmays, .ref mtall, .ref mweights, .ref mrowOfWare, .ref mneededOf, .int m_goShelf, .int m_goStack, .int m_goLeft, .ref mtried, .ref mbestRow, .int m_bestCost, .int m_bestMany, .int m_bestShelf, .int m_bestSet, .ref mdigits])), (mtold, .inl (cyI, 240, .inl m_told))]) (pc2 := 10) (lv2 := [(0, .ref m0), (1, .int p0), (2, .int p1)]) (st2 := [.int (u_1.2.1 0)]) rfl rfl rfl rfl ?_
  obtain ⟨hw_2_0, hw_2_1, hw_2_2⟩ := hw_2
  refine j_if_eq (pc := 10) (tgt := 21) C dX11_through_10 (by decide) (fun c_3 => ?_) (fun c_3 => ?_)
  · skip
    have el_0 : (0 : Int32).toInt = 0 := rfl
    rw [i_eq] at c_3
    refine j_iconst (pc := 21) (v := (-1)) C dX11_through_21 (by decide) ?_
    have el_m1 : ((-1) : Int32).toInt = (-1) := rfl
    exact j_iret (pc := 22) C hr hk (fun i => [].getD i 0, fun i => [(-1), m_isNew].getD i 0, fun i => [m_facts, m_pile, m_thr, m_mays, m_tall, m_weights].getD i (fun _ => 0), fun i => [].getD i (fun _ => 0)) rfl (show (0 ≤ (m_isNew).toInt ∧ (m_isNew).toInt ≤ 1) ∧ (Iv 49152 (0) (100000000) m_tall) ∧ ((m_isNew).toInt = 0 → TALL m_told m_mays m_tall) from ⟨h_m_isNew, h_m_tall, hTA⟩) [8, 9, 0, 1, 2, 3, 4, 5, 6, 7] (by decide) rfl (by decide) (by decide) dX11_through_22
  · skip
    have el_0 : (0 : Int32).toInt = 0 := rfl
    rw [i_eq] at c_3
    have k0c_3 : ((u_1.2.1 0)).toInt = 1 := by omega
    refine j_aload_n (pc := 13) C dX11_through_13 rfl 0 rfl ?_
    refine j_iload_n (pc := 14) C dX11_through_14 rfl 2 rfl ?_
    refine j_callV (pc := 15) (As := [.int p1]) (rest := []) (wr := [(mop, .inl (cyI, 2200, .inl m_op)), (marg, .inl (cyI, 2200, .inl m_arg)), (mfacts, .inl (cyI, 8, .inl m_facts)), (mpile, .inl (cyI, 1100, .inl m_pile)), (mthr, .inl (cyZ, 144, .inl m_thr)), (mmays, .inl (cyZ, 144, .inl m_mays)), (mtall, .inl (cyI, 49152, .inl m_tall)), (mweights, .inl (cyI, 4096, .inl m_weights))]) C (c_X11_isWare l D cyC cyI cyJ cyZ cyO m0 mtold mtape msort mplace mvalue mwords mop marg mnames mhasHabit mfactWords mfacts mpile mstates misMarked mrow mthr mmays mtall mweights mrowOfWare mneededOf mtried mbestRow mdigits p1 0 m_taped m_size m_at m_fault m_codes m_isNew m_inShelf m_inStack m_inPlace m_rowMany m_goShelf m_goStack m_goLeft m_bestCost m_bestMany m_bestShelf m_bestSet m_told h_m_taped h_m_size h_m_at h_m_fault h_m_codes h_m_isNew h_m_inShelf h_m_inStack h_m_inPlace h_m_rowMany h_m_goShelf h_m_bestMany h_m_bestShelf h_m_told) wd_814 wd_624 wd_815 wd_816 wd_817 ⟨by decide, by decide, rfl⟩ rfl ⟨rfl, rfl, by decide, by decide⟩ ⟨by decide, by decide⟩ [8, 9] [0, 1, 2, 3, 4, 5, 6, 7] rfl rfl ⟨by decide, by decide, by decide⟩ 8 rfl rfl rfl (Nat.le_of_ble_eq_true rfl) dX11_through_15 (fun u_4 hw_5 => ?_)
    refine j_eq (ws2 := [(mop, .inl (cyI, 2200, .inl m_op)), (marg, .inl (cyI, 2200, .inl m_arg)), (mfacts, .inl (cyI, 8, .inl m_facts)), (mpile, .inl (cyI, 1100, .inl m_pile)), (mthr, .inl (cyZ, 144, .inl m_thr)), (mmays, .inl (cyZ, 144, .inl m_mays)), (mtall, .inl (cyI, 49152, .inl m_tall)), (mweights, .inl (cyI, 4096, .inl m_weights)), (m0, .inr (11, [.int 0, .ref mtape, .int m_taped, .int m_size, .ref msort, .ref mplace, .ref mvalue, .int m_at, .int m_fault, .ref mwords, .ref mtold, .ref mop, .ref marg, .int m_codes, .ref mnames, .ref mhasHabit, .int m_isNew, .ref mfactWords, .ref mfacts, .ref mpile, .ref mstates, .ref misMarked, .int m_inShelf, .int m_inStack, .int m_inPlace, .ref mrow, .int m_rowMany, .ref mthr, .ref mmays, .ref mtall, .ref mweights, .ref mrowOfWare, .ref mneededOf, .int m_goShelf, .int m_goStack, .int m_goLeft, .ref mtried, .ref mbestRow, .int m_bestCost, .int m_bestMany, .int m_bestShelf, .int m_bestSet, .ref mdigits])), (mtold, .inl (cyI, 240, .inl m_told))]) (pc2 := 18) (lv2 := [(0, .ref m0), (1, .int p0), (2, .int p1)]) (st2 := [.int (u_4.2.1 0)]) rfl rfl rfl rfl ?_
    obtain ⟨hw_5_0, hw_5_1, hw_5_2⟩ := hw_5
    refine j_if_ne (pc := 18) (tgt := 23) C dX11_through_18 (by decide) (fun c_6 => ?_) (fun c_6 => ?_)
    · skip
      have el_0 : (0 : Int32).toInt = 0 := rfl
      rw [i_eq] at c_6
      have k0c_6 : ((u_4.2.1 0)).toInt = 1 := by omega
      refine j_aload_n (pc := 23) C dX11_through_23 rfl 0 rfl ?_
      refine j_callV (pc := 24) (As := []) (rest := []) (wr := []) C (c_X11_find l D cyC cyI cyJ cyZ cyO m0 mtold mop marg mfacts mpile mthr mmays mtall mweights mtape msort mplace mvalue mwords mnames mhasHabit mfactWords mstates misMarked mrow mrowOfWare mneededOf mtried mbestRow mdigits 0 m_taped m_size m_at m_fault m_codes m_isNew m_inShelf m_inStack m_inPlace m_rowMany m_goShelf m_goStack m_goLeft m_bestCost m_bestMany m_bestShelf m_bestSet m_told m_op m_arg m_facts m_pile m_thr m_mays m_tall m_weights h_m_taped h_m_size h_m_at h_m_fault h_m_codes h_m_isNew h_m_inShelf h_m_inStack h_m_inPlace h_m_rowMany h_m_goShelf h_m_bestMany h_m_bestShelf h_m_told h_m_tall hwf hTA) wd_923 wd_624 wd_924 wd_925 wd_926 ⟨by decide, by decide, rfl⟩ rfl ⟨rfl, rfl, by decide, by decide⟩ ⟨by decide, by decide⟩ [8, 9, 0, 1, 2, 3, 4, 5, 6, 7] [] rfl rfl ⟨by decide, by decide, by decide⟩ 8 rfl rfl rfl (Nat.le_of_ble_eq_true rfl) dX11_through_24 (fun u_7 hw_8 => ?_)
      refine j_eq (ws2 := [(m0, .inr (11, [.int 0, .ref mtape, .int m_taped, .int m_size, .ref msort, .ref mplace, .ref mvalue, .int m_at, .int m_fault, .ref mwords, .ref mtold, .ref mop, .ref marg, .int m_codes, .ref mnames, .ref mhasHabit, .int (u_7.2.1 0), .ref mfactWords, .ref mfacts, .ref mpile, .ref mstates, .ref misMarked, .int m_inShelf, .int m_inStack, .int m_inPlace, .ref mrow, .int m_rowMany, .ref mthr, .ref mmays, .ref mtall, .ref mweights, .ref mrowOfWare, .ref mneededOf, .int m_goShelf, .int m_goStack, .int m_goLeft, .ref mtried, .ref mbestRow, .int m_bestCost, .int m_bestMany, .int m_bestShelf, .int m_bestSet, .ref mdigits])), (mtold, .inl (cyI, 240, .inl m_told)), (mop, .inl (cyI, 2200, .inl m_op)), (marg, .inl (cyI, 2200, .inl m_arg)), (mfacts, .inl (cyI, 8, .inl (u_7.2.2.1 0))), (mpile, .inl (cyI, 1100, .inl (u_7.2.2.1 1))), (mthr, .inl (cyZ, 144, .inl (u_7.2.2.1 2))), (mmays, .inl (cyZ, 144, .inl (u_7.2.2.1 3))), (mtall, .inl (cyI, 49152, .inl (u_7.2.2.1 4))), (mweights, .inl (cyI, 4096, .inl (u_7.2.2.1 5)))]) (pc2 := 27) (lv2 := [(0, .ref m0), (1, .int p0), (2, .int p1)]) (st2 := []) rfl rfl rfl rfl ?_
      obtain ⟨hw_8_0, hw_8_1, hw_8_2⟩ := hw_8
      refine j_aload_n (pc := 27) C dX11_through_27 rfl 0 rfl ?_
      refine j_get (pc := 28) (ci := 11) (v := .ref mthr) C inw_11 0 rfl rfl 27 (by decide) wd_907 rfl rfl dX11_through_28 ?_
      refine j_bipush (pc := 31) (v := 12) C dX11_through_31 (by decide) ?_
      refine j_iload_n (pc := 33) C dX11_through_33 rfl 1 rfl ?_
      obtain ⟨v_9, ev_9⟩ : ∃ z : Int32, 12 * p0 = z := ⟨_, rfl⟩
      have el_12 : (12 : Int32).toInt = 12 := rfl
      have hv_9 : v_9.toInt = 12 * p0.toInt := by rw [← ev_9]; exact mulL (c := 12) rfl (by omega) (by omega)
      refine j_imul (pc := 34) (v := v_9) C dX11_through_34 ev_9 ?_
      refine j_iload_n (pc := 35) C dX11_through_35 rfl 2 rfl ?_
      obtain ⟨v_10, ev_10⟩ : ∃ z : Int32, v_9 + p1 = z := ⟨_, rfl⟩
      have hv_10 : v_10.toInt = v_9.toInt + p1.toInt := by rw [← ev_10]; exact fb_addI (by omega) (by omega)
      refine j_iadd (pc := 36) (v := v_10) C dX11_through_36 ev_10 ?_
      obtain ⟨v_11, ev_11⟩ : ∃ z, (u_7.2.2.1 2) (v_10).toInt.toNat = z := ⟨_, rfl⟩
      have env_11 : ((u_7.2.2.1 2) (v_10).toInt.toNat).toInt = v_11.toInt := by rw [ev_11]
      refine j_zald (pc := 37) (v := v_11) (k := (v_10).toInt.toNat) C 6 3 rfl rfl (i_nn (by omega)) rfl (i_lt_n (by omega) (by omega)) ev_11 dX11_through_37 ?_
      refine j_if_eq (pc := 38) (tgt := 45) C dX11_through_38 (by decide) (fun c_12 => ?_) (fun c_12 => ?_)
      · skip
        have el_0 : (0 : Int32).toInt = 0 := rfl
        rw [i_eq] at c_12
        refine j_iconst (pc := 45) (v := 0) C dX11_through_45 (by decide) ?_
        have el_0 : (0 : Int32).toInt = 0 := rfl
        exact j_iret (pc := 46) C hr hk (fun i => [].getD i 0, fun i => [0, (u_7.2.1 0)].getD i 0, fun i => [(u_7.2.2.1 0), (u_7.2.2.1 1), (u_7.2.2.1 2), (u_7.2.2.1 3), (u_7.2.2.1 4), (u_7.2.2.1 5)].getD i (fun _ => 0), fun i => [].getD i (fun _ => 0)) rfl (show (0 ≤ ((u_7.2.1 0)).toInt ∧ ((u_7.2.1 0)).toInt ≤ 1) ∧ (Iv 49152 (0) (100000000) (u_7.2.2.1 4)) ∧ (((u_7.2.1 0)).toInt = 0 → TALL m_told (u_7.2.2.1 3) (u_7.2.2.1 4)) from ⟨by omega, hw_8_1, (fun _ => hw_8_2)⟩) [0, 1, 2, 3, 4, 5, 6, 7, 8, 9] (by decide) rfl (by decide) (by decide) dX11_through_46
      · skip
        have el_0 : (0 : Int32).toInt = 0 := rfl
        rw [i_eq] at c_12
        refine j_iconst (pc := 41) (v := 1) C dX11_through_41 (by decide) ?_
        refine j_goto (pc := 42) (tgt := 46) C dX11_through_42 (by decide) ?_
        have el_1 : (1 : Int32).toInt = 1 := rfl
        exact j_iret (pc := 46) C hr hk (fun i => [].getD i 0, fun i => [1, (u_7.2.1 0)].getD i 0, fun i => [(u_7.2.2.1 0), (u_7.2.2.1 1), (u_7.2.2.1 2), (u_7.2.2.1 3), (u_7.2.2.1 4), (u_7.2.2.1 5)].getD i (fun _ => 0), fun i => [].getD i (fun _ => 0)) rfl (show (0 ≤ ((u_7.2.1 0)).toInt ∧ ((u_7.2.1 0)).toInt ≤ 1) ∧ (Iv 49152 (0) (100000000) (u_7.2.2.1 4)) ∧ (((u_7.2.1 0)).toInt = 0 → TALL m_told (u_7.2.2.1 3) (u_7.2.2.1 4)) from ⟨by omega, hw_8_1, (fun _ => hw_8_2)⟩) [0, 1, 2, 3, 4, 5, 6, 7, 8, 9] (by decide) rfl (by decide) (by decide) dX11_through_46
    · skip
      have el_0 : (0 : Int32).toInt = 0 := rfl
      rw [i_eq] at c_6
      refine j_iconst (pc := 21) (v := (-1)) C dX11_through_21 (by decide) ?_
      have el_m1 : ((-1) : Int32).toInt = (-1) := rfl
      exact j_iret (pc := 22) C hr hk (fun i => [].getD i 0, fun i => [(-1), m_isNew].getD i 0, fun i => [m_facts, m_pile, m_thr, m_mays, m_tall, m_weights].getD i (fun _ => 0), fun i => [].getD i (fun _ => 0)) rfl (show (0 ≤ (m_isNew).toInt ∧ (m_isNew).toInt ≤ 1) ∧ (Iv 49152 (0) (100000000) m_tall) ∧ ((m_isNew).toInt = 0 → TALL m_told m_mays m_tall) from ⟨h_m_isNew, h_m_tall, hTA⟩) [8, 9, 0, 1, 2, 3, 4, 5, 6, 7] (by decide) rfl (by decide) (by decide) dX11_through_22
set_option maxHeartbeats 4000000 in
set_option maxRecDepth 100000 in
theorem c_X11_rows (l : Launch) (D : DG) (cyC cyI cyJ cyZ cyO : ClassId) (m0 : Nat) (mtold : Nat) (mop : Nat) (marg : Nat) (mfacts : Nat) (mpile : Nat) (mthr : Nat) (mmays : Nat) (mtall : Nat) (mweights : Nat) (mtape : Nat) (msort : Nat) (mplace : Nat) (mvalue : Nat) (mwords : Nat) (mnames : Nat) (mhasHabit : Nat) (mfactWords : Nat) (mstates : Nat) (misMarked : Nat) (mrow : Nat) (mrowOfWare : Nat) (mneededOf : Nat) (mtried : Nat) (mbestRow : Nat) (mdigits : Nat) (p0 : Int32) (m_thrown : Int32) (m_taped : Int32) (m_size : Int32) (m_at : Int32) (m_fault : Int32) (m_codes : Int32) (m_isNew : Int32) (m_inShelf : Int32) (m_inStack : Int32) (m_inPlace : Int32) (m_rowMany : Int32) (m_goShelf : Int32) (m_goStack : Int32) (m_goLeft : Int32) (m_bestCost : Int32) (m_bestMany : Int32) (m_bestShelf : Int32) (m_bestSet : Int32) (m_told : Nat → Int32) (m_op : Nat → Int32) (m_arg : Nat → Int32) (m_facts : Nat → Int32) (m_pile : Nat → Int32) (m_thr : Nat → Int32) (m_mays : Nat → Int32) (m_tall : Nat → Int32) (m_weights : Nat → Int32) (h_m_taped : 0 ≤ (m_taped).toInt ∧ (m_taped).toInt ≤ 1000) (h_m_size : 0 ≤ (m_size).toInt ∧ (m_size).toInt ≤ 1000) (h_m_at : 0 ≤ (m_at).toInt ∧ (m_at).toInt ≤ 1000) (h_m_fault : 0 ≤ (m_fault).toInt ∧ (m_fault).toInt ≤ 16005) (h_m_codes : 0 ≤ (m_codes).toInt ∧ (m_codes).toInt ≤ 1000) (h_m_isNew : 0 ≤ (m_isNew).toInt ∧ (m_isNew).toInt ≤ 1) (h_m_inShelf : 0 ≤ (m_inShelf).toInt ∧ (m_inShelf).toInt ≤ 3) (h_m_inStack : 0 ≤ (m_inStack).toInt ∧ (m_inStack).toInt ≤ 7) (h_m_inPlace : 0 ≤ (m_inPlace).toInt ∧ (m_inPlace).toInt ≤ 11) (h_m_rowMany : 0 ≤ (m_rowMany).toInt ∧ (m_rowMany).toInt ≤ 12) (h_m_goShelf : -1 ≤ (m_goShelf).toInt ∧ (m_goShelf).toInt ≤ 3) (h_m_bestMany : 0 ≤ (m_bestMany).toInt ∧ (m_bestMany).toInt ≤ 7) (h_m_bestShelf : 0 ≤ (m_bestShelf).toInt ∧ (m_bestShelf).toInt ≤ 3) (h_m_told : TV m_told) (h_m_tall : Iv 49152 (0) (100000000) m_tall) (hwf : WFm m_told m_op m_arg) (hTA : (m_isNew).toInt = 0 → TALL m_told m_mays m_tall) : KK l D (TY cyC cyI cyJ cyZ cyO) yX11_rows cX11_rows 3 (some .int) ({ frames := 6, cells := 0, slots := 0, locals := 139 } : Room) 0 0 [.ref m0, .int p0] [(m0, .inr (11, [.int m_thrown, .ref mtape, .int m_taped, .int m_size, .ref msort, .ref mplace, .ref mvalue, .int m_at, .int m_fault, .ref mwords, .ref mtold, .ref mop, .ref marg, .int m_codes, .ref mnames, .ref mhasHabit, .int m_isNew, .ref mfactWords, .ref mfacts, .ref mpile, .ref mstates, .ref misMarked, .int m_inShelf, .int m_inStack, .int m_inPlace, .ref mrow, .int m_rowMany, .ref mthr, .ref mmays, .ref mtall, .ref mweights, .ref mrowOfWare, .ref mneededOf, .int m_goShelf, .int m_goStack, .int m_goLeft, .ref mtried, .ref mbestRow, .int m_bestCost, .int m_bestMany, .int m_bestShelf, .int m_bestSet, .ref mdigits])), (mtold, .inl (cyI, 240, .inl m_told)), (mop, .inl (cyI, 2200, .inl m_op)), (marg, .inl (cyI, 2200, .inl m_arg)), (mfacts, .inl (cyI, 8, .inl m_facts)), (mpile, .inl (cyI, 1100, .inl m_pile)), (mthr, .inl (cyZ, 144, .inl m_thr)), (mmays, .inl (cyZ, 144, .inl m_mays)), (mtall, .inl (cyI, 49152, .inl m_tall)), (mweights, .inl (cyI, 4096, .inl m_weights))] (fun u => some (.int (u.2.1 0))) (fun u => (0 ≤ (u.2.1 1).toInt ∧ (u.2.1 1).toInt ≤ 1) ∧ (Iv 49152 (0) (100000000) (u.2.2.1 4)) ∧ (((u.2.1 1)).toInt = 0 → TALL m_told (u.2.2.1 3) (u.2.2.1 4))) (fun u => [(m0, .inr (11, [.int 0, .ref mtape, .int m_taped, .int m_size, .ref msort, .ref mplace, .ref mvalue, .int m_at, .int m_fault, .ref mwords, .ref mtold, .ref mop, .ref marg, .int m_codes, .ref mnames, .ref mhasHabit, .int (u.2.1 1), .ref mfactWords, .ref mfacts, .ref mpile, .ref mstates, .ref misMarked, .int m_inShelf, .int m_inStack, .int m_inPlace, .ref mrow, .int m_rowMany, .ref mthr, .ref mmays, .ref mtall, .ref mweights, .ref mrowOfWare, .ref mneededOf, .int m_goShelf, .int m_goStack, .int m_goLeft, .ref mtried, .ref mbestRow, .int m_bestCost, .int m_bestMany, .int m_bestShelf, .int m_bestSet, .ref mdigits])), (mtold, .inl (cyI, 240, .inl m_told)), (mop, .inl (cyI, 2200, .inl m_op)), (marg, .inl (cyI, 2200, .inl m_arg)), (mfacts, .inl (cyI, 8, .inl (u.2.2.1 0))), (mpile, .inl (cyI, 1100, .inl (u.2.2.1 1))), (mthr, .inl (cyZ, 144, .inl (u.2.2.1 2))), (mmays, .inl (cyZ, 144, .inl (u.2.2.1 3))), (mtall, .inl (cyI, 49152, .inl (u.2.2.1 4))), (mweights, .inl (cyI, 4096, .inl (u.2.2.1 5)))]) := by
  refine KK.of (lv0 := [(0, .ref m0), (1, .int p0)]) (by decide) rfl (Nat.le_of_ble_eq_true rfl) ?_
  intro p e s m args below meth c A C hr hk hin
  refine j_aload_n (pc := 0) C dX11_rows_0 rfl 0 rfl ?_
  refine j_iconst (pc := 1) (v := 0) C dX11_rows_1 (by decide) ?_
  refine j_put (pc := 2) (ci := 11) (v := .int 0) (ws' := [(m0, .inr (11, [.int 0, .ref mtape, .int m_taped, .int m_size, .ref msort, .ref mplace, .ref mvalue, .int m_at, .int m_fault, .ref mwords, .ref mtold, .ref mop, .ref marg, .int m_codes, .ref mnames, .ref mhasHabit, .int m_isNew, .ref mfactWords, .ref mfacts, .ref mpile, .ref mstates, .ref misMarked, .int m_inShelf, .int m_inStack, .int m_inPlace, .ref mrow, .int m_rowMany, .ref mthr, .ref mmays, .ref mtall, .ref mweights, .ref mrowOfWare, .ref mneededOf, .int m_goShelf, .int m_goStack, .int m_goLeft, .ref mtried, .ref mbestRow, .int m_bestCost, .int m_bestMany, .int m_bestShelf, .int m_bestSet, .ref mdigits])), (mtold, .inl (cyI, 240, .inl m_told)), (mop, .inl (cyI, 2200, .inl m_op)), (marg, .inl (cyI, 2200, .inl m_arg)), (mfacts, .inl (cyI, 8, .inl m_facts)), (mpile, .inl (cyI, 1100, .inl m_pile)), (mthr, .inl (cyZ, 144, .inl m_thr)), (mmays, .inl (cyZ, 144, .inl m_mays)), (mtall, .inl (cyI, 49152, .inl m_tall)), (mweights, .inl (cyI, 4096, .inl m_weights))]) C inw_11 0 rfl rfl 0 (by decide) wd_629 rfl tyX11_ok nmX11 rfl (tyX11_ok 0 (by decide)) rfl rfl (Nat.le_of_ble_eq_true rfl) dX11_rows_2 rfl ?_
  refine j_iload_n (pc := 5) C dX11_rows_5 rfl 1 rfl ?_
  refine j_iconst (pc := 6) (v := 0) C dX11_rows_6 (by decide) ?_
  refine j_iconst (pc := 7) (v := 1) C dX11_rows_7 (by decide) ?_
  refine j_callS (pc := 8) (As := [.int p0, .int 0, .int 1]) (rest := []) (wr := [(m0, .inr (11, [.int 0, .ref mtape, .int m_taped, .int m_size, .ref msort, .ref mplace, .ref mvalue, .int m_at, .int m_fault, .ref mwords, .ref mtold, .ref mop, .ref marg, .int m_codes, .ref mnames, .ref mhasHabit, .int m_isNew, .ref mfactWords, .ref mfacts, .ref mpile, .ref mstates, .ref misMarked, .int m_inShelf, .int m_inStack, .int m_inPlace, .ref mrow, .int m_rowMany, .ref mthr, .ref mmays, .ref mtall, .ref mweights, .ref mrowOfWare, .ref mneededOf, .int m_goShelf, .int m_goStack, .int m_goLeft, .ref mtried, .ref mbestRow, .int m_bestCost, .int m_bestMany, .int m_bestShelf, .int m_bestSet, .ref mdigits])), (mtold, .inl (cyI, 240, .inl m_told)), (mop, .inl (cyI, 2200, .inl m_op)), (marg, .inl (cyI, 2200, .inl m_arg)), (mfacts, .inl (cyI, 8, .inl m_facts)), (mpile, .inl (cyI, 1100, .inl m_pile)), (mthr, .inl (cyZ, 144, .inl m_thr)), (mmays, .inl (cyZ, 144, .inl m_mays)), (mtall, .inl (cyI, 49152, .inl m_tall)), (mweights, .inl (cyI, 4096, .inl m_weights))]) C (c_X11_within_f l D cyC cyI cyJ cyZ cyO p0 0 1) wd_818 wd_624 wd_819 wd_820 ⟨by decide, by decide, rfl⟩ rfl ⟨rfl, rfl, by decide, by decide⟩ ⟨by decide, by decide⟩ [] [0, 1, 2, 3, 4, 5, 6, 7, 8, 9] rfl rfl ⟨by decide, by decide, by decide⟩ rfl (Nat.le_of_ble_eq_true rfl) dX11_rows_8 (fun u_1 hw_2 => ?_)
  refine j_eq (ws2 := [(m0, .inr (11, [.int 0, .ref mtape, .int m_taped, .int m_size, .ref msort, .ref mplace, .ref mvalue, .int m_at, .int m_fault, .ref mwords, .ref mtold, .ref mop, .ref marg, .int m_codes, .ref mnames, .ref mhasHabit, .int m_isNew, .ref mfactWords, .ref mfacts, .ref mpile, .ref mstates, .ref misMarked, .int m_inShelf, .int m_inStack, .int m_inPlace, .ref mrow, .int m_rowMany, .ref mthr, .ref mmays, .ref mtall, .ref mweights, .ref mrowOfWare, .ref mneededOf, .int m_goShelf, .int m_goStack, .int m_goLeft, .ref mtried, .ref mbestRow, .int m_bestCost, .int m_bestMany, .int m_bestShelf, .int m_bestSet, .ref mdigits])), (mtold, .inl (cyI, 240, .inl m_told)), (mop, .inl (cyI, 2200, .inl m_op)), (marg, .inl (cyI, 2200, .inl m_arg)), (mfacts, .inl (cyI, 8, .inl m_facts)), (mpile, .inl (cyI, 1100, .inl m_pile)), (mthr, .inl (cyZ, 144, .inl m_thr)), (mmays, .inl (cyZ, 144, .inl m_mays)), (mtall, .inl (cyI, 49152, .inl m_tall)), (mweights, .inl (cyI, 4096, .inl m_weights))]) (pc2 := 11) (lv2 := [(0, .ref m0), (1, .int p0)]) (st2 := [.int (u_1.2.1 0)]) rfl rfl rfl rfl ?_
  obtain ⟨hw_2_0, hw_2_1, hw_2_2⟩ := hw_2
  have el_0 : (0 : Int32).toInt = 0 := rfl
  have el_1 : (1 : Int32).toInt = 1 := rfl
  refine j_if_eq (pc := 11) (tgt := 21) C dX11_rows_11 (by decide) (fun c_3 => ?_) (fun c_3 => ?_)
  · skip
    have el_0 : (0 : Int32).toInt = 0 := rfl
    rw [i_eq] at c_3
    refine j_iconst (pc := 21) (v := (-1)) C dX11_rows_21 (by decide) ?_
    have el_m1 : ((-1) : Int32).toInt = (-1) := rfl
    exact j_iret (pc := 22) C hr hk (fun i => [].getD i 0, fun i => [(-1), m_isNew].getD i 0, fun i => [m_facts, m_pile, m_thr, m_mays, m_tall, m_weights].getD i (fun _ => 0), fun i => [].getD i (fun _ => 0)) rfl (show (0 ≤ (m_isNew).toInt ∧ (m_isNew).toInt ≤ 1) ∧ (Iv 49152 (0) (100000000) m_tall) ∧ ((m_isNew).toInt = 0 → TALL m_told m_mays m_tall) from ⟨h_m_isNew, h_m_tall, hTA⟩) [0, 1, 2, 3, 4, 5, 6, 7, 8, 9] (by decide) rfl (by decide) (by decide) dX11_rows_22
  · skip
    have el_0 : (0 : Int32).toInt = 0 := rfl
    rw [i_eq] at c_3
    have k0c_3 : ((u_1.2.1 0)).toInt = 1 := by omega
    refine j_aload_n (pc := 14) C dX11_rows_14 rfl 0 rfl ?_
    refine j_callV (pc := 15) (As := []) (rest := []) (wr := []) C (c_X11_isRound l D cyC cyI cyJ cyZ cyO m0 mtold mop marg mfacts mpile mthr mmays mtall mweights mtape msort mplace mvalue mwords mnames mhasHabit mfactWords mstates misMarked mrow mrowOfWare mneededOf mtried mbestRow mdigits 0 m_taped m_size m_at m_fault m_codes m_isNew m_inShelf m_inStack m_inPlace m_rowMany m_goShelf m_goStack m_goLeft m_bestCost m_bestMany m_bestShelf m_bestSet m_told m_op m_arg m_facts m_pile m_thr m_mays m_tall m_weights h_m_taped h_m_size h_m_at h_m_fault h_m_codes h_m_isNew h_m_inShelf h_m_inStack h_m_inPlace h_m_rowMany h_m_goShelf h_m_bestMany h_m_bestShelf h_m_told h_m_tall hwf hTA) wd_927 wd_624 wd_928 wd_929 wd_930 ⟨by decide, by decide, rfl⟩ rfl ⟨rfl, rfl, by decide, by decide⟩ ⟨by decide, by decide⟩ [0, 1, 2, 3, 4, 5, 6, 7, 8, 9] [] rfl rfl ⟨by decide, by decide, by decide⟩ 0 rfl rfl rfl (Nat.le_of_ble_eq_true rfl) dX11_rows_15 (fun u_4 hw_5 => ?_)
    refine j_eq (ws2 := [(m0, .inr (11, [.int 0, .ref mtape, .int m_taped, .int m_size, .ref msort, .ref mplace, .ref mvalue, .int m_at, .int m_fault, .ref mwords, .ref mtold, .ref mop, .ref marg, .int m_codes, .ref mnames, .ref mhasHabit, .int (u_4.2.1 1), .ref mfactWords, .ref mfacts, .ref mpile, .ref mstates, .ref misMarked, .int m_inShelf, .int m_inStack, .int m_inPlace, .ref mrow, .int m_rowMany, .ref mthr, .ref mmays, .ref mtall, .ref mweights, .ref mrowOfWare, .ref mneededOf, .int m_goShelf, .int m_goStack, .int m_goLeft, .ref mtried, .ref mbestRow, .int m_bestCost, .int m_bestMany, .int m_bestShelf, .int m_bestSet, .ref mdigits])), (mtold, .inl (cyI, 240, .inl m_told)), (mop, .inl (cyI, 2200, .inl m_op)), (marg, .inl (cyI, 2200, .inl m_arg)), (mfacts, .inl (cyI, 8, .inl (u_4.2.2.1 0))), (mpile, .inl (cyI, 1100, .inl (u_4.2.2.1 1))), (mthr, .inl (cyZ, 144, .inl (u_4.2.2.1 2))), (mmays, .inl (cyZ, 144, .inl (u_4.2.2.1 3))), (mtall, .inl (cyI, 49152, .inl (u_4.2.2.1 4))), (mweights, .inl (cyI, 4096, .inl (u_4.2.2.1 5)))]) (pc2 := 18) (lv2 := [(0, .ref m0), (1, .int p0)]) (st2 := [.int (u_4.2.1 0)]) rfl rfl rfl rfl ?_
    obtain ⟨hw_5_0, hw_5_1, hw_5_2, hw_5_3⟩ := hw_5
    refine j_if_eq (pc := 18) (tgt := 23) C dX11_rows_18 (by decide) (fun c_6 => ?_) (fun c_6 => ?_)
    · skip
      have el_0 : (0 : Int32).toInt = 0 := rfl
      rw [i_eq] at c_6
      refine j_aload_n (pc := 23) C dX11_rows_23 rfl 0 rfl ?_
      refine j_callV (pc := 24) (As := []) (rest := []) (wr := [(mop, .inl (cyI, 2200, .inl m_op)), (marg, .inl (cyI, 2200, .inl m_arg)), (mfacts, .inl (cyI, 8, .inl (u_4.2.2.1 0))), (mpile, .inl (cyI, 1100, .inl (u_4.2.2.1 1))), (mmays, .inl (cyZ, 144, .inl (u_4.2.2.1 3))), (mtall, .inl (cyI, 49152, .inl (u_4.2.2.1 4))), (mweights, .inl (cyI, 4096, .inl (u_4.2.2.1 5)))]) C (c_X11_findApart l D cyC cyI cyJ cyZ cyO m0 mtold mthr mtape msort mplace mvalue mwords mop marg mnames mhasHabit mfactWords mfacts mpile mstates misMarked mrow mmays mtall mweights mrowOfWare mneededOf mtried mbestRow mdigits 0 m_taped m_size m_at m_fault m_codes (u_4.2.1 1) m_inShelf m_inStack m_inPlace m_rowMany m_goShelf m_goStack m_goLeft m_bestCost m_bestMany m_bestShelf m_bestSet m_told (u_4.2.2.1 2) h_m_taped h_m_size h_m_at h_m_fault h_m_codes (by omega) h_m_inShelf h_m_inStack h_m_inPlace h_m_rowMany h_m_goShelf h_m_bestMany h_m_bestShelf h_m_told) wd_931 wd_624 wd_932 wd_933 wd_934 ⟨by decide, by decide, rfl⟩ rfl ⟨rfl, rfl, by decide, by decide⟩ ⟨by decide, by decide⟩ [0, 1, 6] [2, 3, 4, 5, 7, 8, 9] rfl rfl ⟨by decide, by decide, by decide⟩ 0 rfl rfl rfl (Nat.le_of_ble_eq_true rfl) dX11_rows_24 (fun u_7 hw_8 => ?_)
      refine j_eq (ws2 := [(mop, .inl (cyI, 2200, .inl m_op)), (marg, .inl (cyI, 2200, .inl m_arg)), (mfacts, .inl (cyI, 8, .inl (u_4.2.2.1 0))), (mpile, .inl (cyI, 1100, .inl (u_4.2.2.1 1))), (mmays, .inl (cyZ, 144, .inl (u_4.2.2.1 3))), (mtall, .inl (cyI, 49152, .inl (u_4.2.2.1 4))), (mweights, .inl (cyI, 4096, .inl (u_4.2.2.1 5))), (m0, .inr (11, [.int 0, .ref mtape, .int m_taped, .int m_size, .ref msort, .ref mplace, .ref mvalue, .int m_at, .int m_fault, .ref mwords, .ref mtold, .ref mop, .ref marg, .int m_codes, .ref mnames, .ref mhasHabit, .int (u_4.2.1 1), .ref mfactWords, .ref mfacts, .ref mpile, .ref mstates, .ref misMarked, .int m_inShelf, .int m_inStack, .int m_inPlace, .ref mrow, .int m_rowMany, .ref mthr, .ref mmays, .ref mtall, .ref mweights, .ref mrowOfWare, .ref mneededOf, .int m_goShelf, .int m_goStack, .int m_goLeft, .ref mtried, .ref mbestRow, .int m_bestCost, .int m_bestMany, .int m_bestShelf, .int m_bestSet, .ref mdigits])), (mtold, .inl (cyI, 240, .inl m_told)), (mthr, .inl (cyZ, 144, .inl (u_4.2.2.1 2)))]) (pc2 := 27) (lv2 := [(0, .ref m0), (1, .int p0)]) (st2 := [.int (u_7.2.1 0)]) rfl rfl rfl rfl ?_
      refine j_istore_n (pc := 27) (lv' := [(2, .int (u_7.2.1 0)), (0, .ref m0), (1, .int p0)]) C dX11_rows_27 rfl (by decide) rfl ?_
      refine j_iload_n (pc := 28) C dX11_rows_28 rfl 2 rfl ?_
      refine j_if_ne (pc := 29) (tgt := 39) C dX11_rows_29 (by decide) (fun c_9 => ?_) (fun c_9 => ?_)
      · skip
        have el_0 : (0 : Int32).toInt = 0 := rfl
        rw [i_eq] at c_9
        have k0c_9 : p0.toInt = 1 := by omega
        refine j_iload_n (pc := 39) C dX11_rows_39 rfl 0 rfl ?_
        exact j_iret (pc := 40) C hr hk (fun i => [].getD i 0, fun i => [(u_7.2.1 0), (u_4.2.1 1)].getD i 0, fun i => [(u_4.2.2.1 0), (u_4.2.2.1 1), (u_4.2.2.1 2), (u_4.2.2.1 3), (u_4.2.2.1 4), (u_4.2.2.1 5)].getD i (fun _ => 0), fun i => [].getD i (fun _ => 0)) rfl (show (0 ≤ ((u_4.2.1 1)).toInt ∧ ((u_4.2.1 1)).toInt ≤ 1) ∧ (Iv 49152 (0) (100000000) (u_4.2.2.1 4)) ∧ (((u_4.2.1 1)).toInt = 0 → TALL m_told (u_4.2.2.1 3) (u_4.2.2.1 4)) from ⟨by omega, hw_5_2, (fun _ => (hw_5_3 (by omega)))⟩) [7, 8, 0, 1, 2, 3, 9, 4, 5, 6] (by decide) rfl (by decide) (by decide) dX11_rows_40
      · skip
        have el_0 : (0 : Int32).toInt = 0 := rfl
        rw [i_eq] at c_9
        refine j_iload_n (pc := 32) C dX11_rows_32 rfl 0 rfl ?_
        refine j_callS (pc := 33) (As := [.int (u_7.2.1 0)]) (rest := []) (wr := [(mop, .inl (cyI, 2200, .inl m_op)), (marg, .inl (cyI, 2200, .inl m_arg)), (mfacts, .inl (cyI, 8, .inl (u_4.2.2.1 0))), (mpile, .inl (cyI, 1100, .inl (u_4.2.2.1 1))), (mmays, .inl (cyZ, 144, .inl (u_4.2.2.1 3))), (mtall, .inl (cyI, 49152, .inl (u_4.2.2.1 4))), (mweights, .inl (cyI, 4096, .inl (u_4.2.2.1 5))), (m0, .inr (11, [.int 0, .ref mtape, .int m_taped, .int m_size, .ref msort, .ref mplace, .ref mvalue, .int m_at, .int m_fault, .ref mwords, .ref mtold, .ref mop, .ref marg, .int m_codes, .ref mnames, .ref mhasHabit, .int (u_4.2.1 1), .ref mfactWords, .ref mfacts, .ref mpile, .ref mstates, .ref misMarked, .int m_inShelf, .int m_inStack, .int m_inPlace, .ref mrow, .int m_rowMany, .ref mthr, .ref mmays, .ref mtall, .ref mweights, .ref mrowOfWare, .ref mneededOf, .int m_goShelf, .int m_goStack, .int m_goLeft, .ref mtried, .ref mbestRow, .int m_bestCost, .int m_bestMany, .int m_bestShelf, .int m_bestSet, .ref mdigits])), (mtold, .inl (cyI, 240, .inl m_told)), (mthr, .inl (cyZ, 144, .inl (u_4.2.2.1 2)))]) C (c_X11_bits l D cyC cyI cyJ cyZ cyO (u_7.2.1 0)) wd_916 wd_624 wd_917 wd_918 ⟨by decide, by decide, rfl⟩ rfl ⟨rfl, rfl, by decide, by decide⟩ ⟨by decide, by decide⟩ [] [0, 1, 2, 3, 4, 5, 6, 7, 8, 9] rfl rfl ⟨by decide, by decide, by decide⟩ rfl (Nat.le_of_ble_eq_true rfl) dX11_rows_33 (fun u_10 hw_11 => ?_)
        refine j_eq (ws2 := [(mop, .inl (cyI, 2200, .inl m_op)), (marg, .inl (cyI, 2200, .inl m_arg)), (mfacts, .inl (cyI, 8, .inl (u_4.2.2.1 0))), (mpile, .inl (cyI, 1100, .inl (u_4.2.2.1 1))), (mmays, .inl (cyZ, 144, .inl (u_4.2.2.1 3))), (mtall, .inl (cyI, 49152, .inl (u_4.2.2.1 4))), (mweights, .inl (cyI, 4096, .inl (u_4.2.2.1 5))), (m0, .inr (11, [.int 0, .ref mtape, .int m_taped, .int m_size, .ref msort, .ref mplace, .ref mvalue, .int m_at, .int m_fault, .ref mwords, .ref mtold, .ref mop, .ref marg, .int m_codes, .ref mnames, .ref mhasHabit, .int (u_4.2.1 1), .ref mfactWords, .ref mfacts, .ref mpile, .ref mstates, .ref misMarked, .int m_inShelf, .int m_inStack, .int m_inPlace, .ref mrow, .int m_rowMany, .ref mthr, .ref mmays, .ref mtall, .ref mweights, .ref mrowOfWare, .ref mneededOf, .int m_goShelf, .int m_goStack, .int m_goLeft, .ref mtried, .ref mbestRow, .int m_bestCost, .int m_bestMany, .int m_bestShelf, .int m_bestSet, .ref mdigits])), (mtold, .inl (cyI, 240, .inl m_told)), (mthr, .inl (cyZ, 144, .inl (u_4.2.2.1 2)))]) (pc2 := 36) (lv2 := [(2, .int (u_7.2.1 0)), (0, .ref m0), (1, .int p0)]) (st2 := [.int (u_10.2.1 0)]) rfl rfl rfl rfl ?_
        obtain ⟨hw_11_0, hw_11_1⟩ := hw_11
        refine j_goto (pc := 36) (tgt := 40) C dX11_rows_36 (by decide) ?_
        exact j_iret (pc := 40) C hr hk (fun i => [].getD i 0, fun i => [(u_10.2.1 0), (u_4.2.1 1)].getD i 0, fun i => [(u_4.2.2.1 0), (u_4.2.2.1 1), (u_4.2.2.1 2), (u_4.2.2.1 3), (u_4.2.2.1 4), (u_4.2.2.1 5)].getD i (fun _ => 0), fun i => [].getD i (fun _ => 0)) rfl (show (0 ≤ ((u_4.2.1 1)).toInt ∧ ((u_4.2.1 1)).toInt ≤ 1) ∧ (Iv 49152 (0) (100000000) (u_4.2.2.1 4)) ∧ (((u_4.2.1 1)).toInt = 0 → TALL m_told (u_4.2.2.1 3) (u_4.2.2.1 4)) from ⟨by omega, hw_5_2, (fun _ => (hw_5_3 (by omega)))⟩) [7, 8, 0, 1, 2, 3, 9, 4, 5, 6] (by decide) rfl (by decide) (by decide) dX11_rows_40
    · skip
      have el_0 : (0 : Int32).toInt = 0 := rfl
      rw [i_eq] at c_6
      have k0c_6 : ((u_4.2.1 0)).toInt = 1 := by omega
      refine j_iconst (pc := 21) (v := (-1)) C dX11_rows_21 (by decide) ?_
      have el_m1 : ((-1) : Int32).toInt = (-1) := rfl
      exact j_iret (pc := 22) C hr hk (fun i => [].getD i 0, fun i => [(-1), (u_4.2.1 1)].getD i 0, fun i => [(u_4.2.2.1 0), (u_4.2.2.1 1), (u_4.2.2.1 2), (u_4.2.2.1 3), (u_4.2.2.1 4), (u_4.2.2.1 5)].getD i (fun _ => 0), fun i => [].getD i (fun _ => 0)) rfl (show (0 ≤ ((u_4.2.1 1)).toInt ∧ ((u_4.2.1 1)).toInt ≤ 1) ∧ (Iv 49152 (0) (100000000) (u_4.2.2.1 4)) ∧ (((u_4.2.1 1)).toInt = 0 → TALL m_told (u_4.2.2.1 3) (u_4.2.2.1 4)) from ⟨by omega, hw_5_2, (fun _ => (hw_5_3 (by omega)))⟩) [0, 1, 2, 3, 4, 5, 6, 7, 8, 9] (by decide) rfl (by decide) (by decide) dX11_rows_22
set_option maxHeartbeats 4000000 in
set_option maxRecDepth 100000 in
theorem c_X11_parts_z (l : Launch) (D : DG) (cyC cyI cyJ cyZ cyO : ClassId) (m0 : Nat) (mtold : Nat) (mthr : Nat) (mrowOfWare : Nat) (mtape : Nat) (msort : Nat) (mplace : Nat) (mvalue : Nat) (mwords : Nat) (mop : Nat) (marg : Nat) (mnames : Nat) (mhasHabit : Nat) (mfactWords : Nat) (mfacts : Nat) (mpile : Nat) (mstates : Nat) (misMarked : Nat) (mrow : Nat) (mmays : Nat) (mtall : Nat) (mweights : Nat) (mneededOf : Nat) (mtried : Nat) (mbestRow : Nat) (mdigits : Nat) (p0 : Int32) (p1 : Int32) (p2 : Int32) (m_thrown : Int32) (m_taped : Int32) (m_size : Int32) (m_at : Int32) (m_fault : Int32) (m_codes : Int32) (m_isNew : Int32) (m_inShelf : Int32) (m_inStack : Int32) (m_inPlace : Int32) (m_rowMany : Int32) (m_goShelf : Int32) (m_goStack : Int32) (m_goLeft : Int32) (m_bestCost : Int32) (m_bestMany : Int32) (m_bestShelf : Int32) (m_bestSet : Int32) (m_told : Nat → Int32) (m_thr : Nat → Int32) (m_rowOfWare : Nat → Int32) (h_m_taped : 0 ≤ (m_taped).toInt ∧ (m_taped).toInt ≤ 1000) (h_m_size : 0 ≤ (m_size).toInt ∧ (m_size).toInt ≤ 1000) (h_m_at : 0 ≤ (m_at).toInt ∧ (m_at).toInt ≤ 1000) (h_m_fault : 0 ≤ (m_fault).toInt ∧ (m_fault).toInt ≤ 16005) (h_m_codes : 0 ≤ (m_codes).toInt ∧ (m_codes).toInt ≤ 1000) (h_m_isNew : 0 ≤ (m_isNew).toInt ∧ (m_isNew).toInt ≤ 1) (h_m_inShelf : 0 ≤ (m_inShelf).toInt ∧ (m_inShelf).toInt ≤ 3) (h_m_inStack : 0 ≤ (m_inStack).toInt ∧ (m_inStack).toInt ≤ 7) (h_m_inPlace : 0 ≤ (m_inPlace).toInt ∧ (m_inPlace).toInt ≤ 11) (h_m_rowMany : 0 ≤ (m_rowMany).toInt ∧ (m_rowMany).toInt ≤ 12) (h_m_goShelf : -1 ≤ (m_goShelf).toInt ∧ (m_goShelf).toInt ≤ 3) (h_m_bestMany : 0 ≤ (m_bestMany).toInt ∧ (m_bestMany).toInt ≤ 7) (h_m_bestShelf : 0 ≤ (m_bestShelf).toInt ∧ (m_bestShelf).toInt ≤ 3) (h_p1 : 0 ≤ (p1).toInt ∧ (p1).toInt ≤ 12) (h_m_told : TV m_told) (hpk : (p0).toInt ≤ (m_told 0).toInt) (hu9 : (p1).toInt ≤ (p0).toInt) (hdp9 : (p0).toInt = 12 - ((0 : Nat) : Int)) : KK l D (TY cyC cyI cyJ cyZ cyO) yX11_parts cX11_parts 7 (some .boolean) ({ frames := 1, cells := 0, slots := 0, locals := 20 } : Room) 0 0 [.ref m0, .int p0, .int p1, .int p2] [(m0, .inr (11, [.int m_thrown, .ref mtape, .int m_taped, .int m_size, .ref msort, .ref mplace, .ref mvalue, .int m_at, .int m_fault, .ref mwords, .ref mtold, .ref mop, .ref marg, .int m_codes, .ref mnames, .ref mhasHabit, .int m_isNew, .ref mfactWords, .ref mfacts, .ref mpile, .ref mstates, .ref misMarked, .int m_inShelf, .int m_inStack, .int m_inPlace, .ref mrow, .int m_rowMany, .ref mthr, .ref mmays, .ref mtall, .ref mweights, .ref mrowOfWare, .ref mneededOf, .int m_goShelf, .int m_goStack, .int m_goLeft, .ref mtried, .ref mbestRow, .int m_bestCost, .int m_bestMany, .int m_bestShelf, .int m_bestSet, .ref mdigits])), (mtold, .inl (cyI, 240, .inl m_told)), (mthr, .inl (cyZ, 144, .inl m_thr)), (mrowOfWare, .inl (cyI, 12, .inl m_rowOfWare))] (fun u => some (.int (u.2.1 0))) (fun u => (0 ≤ (u.2.1 0).toInt ∧ (u.2.1 0).toInt ≤ 1)) (fun u => [(m0, .inr (11, [.int m_thrown, .ref mtape, .int m_taped, .int m_size, .ref msort, .ref mplace, .ref mvalue, .int m_at, .int m_fault, .ref mwords, .ref mtold, .ref mop, .ref marg, .int m_codes, .ref mnames, .ref mhasHabit, .int m_isNew, .ref mfactWords, .ref mfacts, .ref mpile, .ref mstates, .ref misMarked, .int m_inShelf, .int m_inStack, .int m_inPlace, .ref mrow, .int m_rowMany, .ref mthr, .ref mmays, .ref mtall, .ref mweights, .ref mrowOfWare, .ref mneededOf, .int m_goShelf, .int m_goStack, .int m_goLeft, .ref mtried, .ref mbestRow, .int m_bestCost, .int m_bestMany, .int m_bestShelf, .int m_bestSet, .ref mdigits])), (mtold, .inl (cyI, 240, .inl m_told)), (mthr, .inl (cyZ, 144, .inl m_thr)), (mrowOfWare, .inl (cyI, 12, .inl (u.2.2.1 0)))]) := by
  refine KK.of (lv0 := [(0, .ref m0), (1, .int p0), (2, .int p1), (3, .int p2)]) (by decide) rfl (Nat.le_of_ble_eq_true rfl) ?_
  intro p e s m args below meth c A C hr hk hin
  refine j_iload_n (pc := 0) C dX11_parts_0 rfl 1 rfl ?_
  refine j_aload_n (pc := 1) C dX11_parts_1 rfl 0 rfl ?_
  refine j_callV (pc := 2) (As := []) (rest := [.int p0]) (wr := [(mthr, .inl (cyZ, 144, .inl m_thr)), (mrowOfWare, .inl (cyI, 12, .inl m_rowOfWare))]) C (c_X11_wares l D cyC cyI cyJ cyZ cyO m0 mtold mtape msort mplace mvalue mwords mop marg mnames mhasHabit mfactWords mfacts mpile mstates misMarked mrow mthr mmays mtall mweights mrowOfWare mneededOf mtried mbestRow mdigits m_thrown m_taped m_size m_at m_fault m_codes m_isNew m_inShelf m_inStack m_inPlace m_rowMany m_goShelf m_goStack m_goLeft m_bestCost m_bestMany m_bestShelf m_bestSet m_told h_m_taped h_m_size h_m_at h_m_fault h_m_codes h_m_isNew h_m_inShelf h_m_inStack h_m_inPlace h_m_rowMany h_m_goShelf h_m_bestMany h_m_bestShelf h_m_told) wd_748 wd_624 wd_749 wd_750 wd_751 ⟨by decide, by decide, rfl⟩ rfl ⟨rfl, rfl, by decide, by decide⟩ ⟨by decide, by decide⟩ [0, 1] [2, 3] rfl rfl ⟨by decide, by decide, by decide⟩ 0 rfl rfl rfl (Nat.le_of_ble_eq_true rfl) dX11_parts_2 (fun u_1 hw_2 => ?_)
  refine j_eq (ws2 := [(mthr, .inl (cyZ, 144, .inl m_thr)), (mrowOfWare, .inl (cyI, 12, .inl m_rowOfWare)), (m0, .inr (11, [.int m_thrown, .ref mtape, .int m_taped, .int m_size, .ref msort, .ref mplace, .ref mvalue, .int m_at, .int m_fault, .ref mwords, .ref mtold, .ref mop, .ref marg, .int m_codes, .ref mnames, .ref mhasHabit, .int m_isNew, .ref mfactWords, .ref mfacts, .ref mpile, .ref mstates, .ref misMarked, .int m_inShelf, .int m_inStack, .int m_inPlace, .ref mrow, .int m_rowMany, .ref mthr, .ref mmays, .ref mtall, .ref mweights, .ref mrowOfWare, .ref mneededOf, .int m_goShelf, .int m_goStack, .int m_goLeft, .ref mtried, .ref mbestRow, .int m_bestCost, .int m_bestMany, .int m_bestShelf, .int m_bestSet, .ref mdigits])), (mtold, .inl (cyI, 240, .inl m_told))]) (pc2 := 5) (lv2 := [(0, .ref m0), (1, .int p0), (2, .int p1), (3, .int p2)]) (st2 := [.int (u_1.2.1 0), .int p0]) rfl rfl rfl rfl ?_
  obtain ⟨hw_2_0, hw_2_1⟩ := hw_2
  have hw9 := congrArg Int32.toInt hw_2_1
  have hw8 : (u_1.2.1 0).toInt = (m_told 0).toInt := hw9
  refine j_icmp_ne_f (pc := 5) (tgt := 10) C dX11_parts_5 (by decide) (by rw [i_eq]; omega) ?_
  refine j_iconst (pc := 8) (v := 1) C dX11_parts_8 (by decide) ?_
  have el_1 : (1 : Int32).toInt = 1 := rfl
  exact j_zret (pc := 9) C hr rfl hk (fun i => [].getD i 0, fun i => [1].getD i 0, fun i => [m_rowOfWare].getD i (fun _ => 0), fun i => [].getD i (fun _ => 0)) rfl (show (0 ≤ ((1 : Int32)).toInt ∧ ((1 : Int32)).toInt ≤ 1) from (by omega)) [2, 3, 0, 1] (by decide) rfl (by decide) (by decide) dX11_parts_9
set_option maxHeartbeats 4000000 in
set_option maxRecDepth 100000 in
def S_c_X11_parts (n9 : Nat) : Prop := ∀ (l : Launch) (D : DG) (cyC cyI cyJ cyZ cyO : ClassId) (m0 : Nat) (mtold : Nat) (mthr : Nat) (mrowOfWare : Nat) (mtape : Nat) (msort : Nat) (mplace : Nat) (mvalue : Nat) (mwords : Nat) (mop : Nat) (marg : Nat) (mnames : Nat) (mhasHabit : Nat) (mfactWords : Nat) (mfacts : Nat) (mpile : Nat) (mstates : Nat) (misMarked : Nat) (mrow : Nat) (mmays : Nat) (mtall : Nat) (mweights : Nat) (mneededOf : Nat) (mtried : Nat) (mbestRow : Nat) (mdigits : Nat) (p0 : Int32) (p1 : Int32) (p2 : Int32) (m_thrown : Int32) (m_taped : Int32) (m_size : Int32) (m_at : Int32) (m_fault : Int32) (m_codes : Int32) (m_isNew : Int32) (m_inShelf : Int32) (m_inStack : Int32) (m_inPlace : Int32) (m_rowMany : Int32) (m_goShelf : Int32) (m_goStack : Int32) (m_goLeft : Int32) (m_bestCost : Int32) (m_bestMany : Int32) (m_bestShelf : Int32) (m_bestSet : Int32) (m_told : Nat → Int32) (m_thr : Nat → Int32) (m_rowOfWare : Nat → Int32) (h_m_taped : 0 ≤ (m_taped).toInt ∧ (m_taped).toInt ≤ 1000) (h_m_size : 0 ≤ (m_size).toInt ∧ (m_size).toInt ≤ 1000) (h_m_at : 0 ≤ (m_at).toInt ∧ (m_at).toInt ≤ 1000) (h_m_fault : 0 ≤ (m_fault).toInt ∧ (m_fault).toInt ≤ 16005) (h_m_codes : 0 ≤ (m_codes).toInt ∧ (m_codes).toInt ≤ 1000) (h_m_isNew : 0 ≤ (m_isNew).toInt ∧ (m_isNew).toInt ≤ 1) (h_m_inShelf : 0 ≤ (m_inShelf).toInt ∧ (m_inShelf).toInt ≤ 3) (h_m_inStack : 0 ≤ (m_inStack).toInt ∧ (m_inStack).toInt ≤ 7) (h_m_inPlace : 0 ≤ (m_inPlace).toInt ∧ (m_inPlace).toInt ≤ 11) (h_m_rowMany : 0 ≤ (m_rowMany).toInt ∧ (m_rowMany).toInt ≤ 12) (h_m_goShelf : -1 ≤ (m_goShelf).toInt ∧ (m_goShelf).toInt ≤ 3) (h_m_bestMany : 0 ≤ (m_bestMany).toInt ∧ (m_bestMany).toInt ≤ 7) (h_m_bestShelf : 0 ≤ (m_bestShelf).toInt ∧ (m_bestShelf).toInt ≤ 3) (h_p1 : 0 ≤ (p1).toInt ∧ (p1).toInt ≤ 12) (h_m_told : TV m_told) (hpk : (p0).toInt ≤ (m_told 0).toInt) (hu9 : (p1).toInt ≤ (p0).toInt) (hdp9 : (p0).toInt = 12 - ((n9 : Nat) : Int)), KK l D (TY cyC cyI cyJ cyZ cyO) yX11_parts cX11_parts 7 (some .boolean) ({ frames := 1 + 1 * n9, cells := 0, slots := 0, locals := 20 + 26 * n9 } : Room) 0 0 [.ref m0, .int p0, .int p1, .int p2] [(m0, .inr (11, [.int m_thrown, .ref mtape, .int m_taped, .int m_size, .ref msort, .ref mplace, .ref mvalue, .int m_at, .int m_fault, .ref mwords, .ref mtold, .ref mop, .ref marg, .int m_codes, .ref mnames, .ref mhasHabit, .int m_isNew, .ref mfactWords, .ref mfacts, .ref mpile, .ref mstates, .ref misMarked, .int m_inShelf, .int m_inStack, .int m_inPlace, .ref mrow, .int m_rowMany, .ref mthr, .ref mmays, .ref mtall, .ref mweights, .ref mrowOfWare, .ref mneededOf, .int m_goShelf, .int m_goStack, .int m_goLeft, .ref mtried, .ref mbestRow, .int m_bestCost, .int m_bestMany, .int m_bestShelf, .int m_bestSet, .ref mdigits])), (mtold, .inl (cyI, 240, .inl m_told)), (mthr, .inl (cyZ, 144, .inl m_thr)), (mrowOfWare, .inl (cyI, 12, .inl m_rowOfWare))] (fun u => some (.int (u.2.1 0))) (fun u => (0 ≤ (u.2.1 0).toInt ∧ (u.2.1 0).toInt ≤ 1)) (fun u => [(m0, .inr (11, [.int m_thrown, .ref mtape, .int m_taped, .int m_size, .ref msort, .ref mplace, .ref mvalue, .int m_at, .int m_fault, .ref mwords, .ref mtold, .ref mop, .ref marg, .int m_codes, .ref mnames, .ref mhasHabit, .int m_isNew, .ref mfactWords, .ref mfacts, .ref mpile, .ref mstates, .ref misMarked, .int m_inShelf, .int m_inStack, .int m_inPlace, .ref mrow, .int m_rowMany, .ref mthr, .ref mmays, .ref mtall, .ref mweights, .ref mrowOfWare, .ref mneededOf, .int m_goShelf, .int m_goStack, .int m_goLeft, .ref mtried, .ref mbestRow, .int m_bestCost, .int m_bestMany, .int m_bestShelf, .int m_bestSet, .ref mdigits])), (mtold, .inl (cyI, 240, .inl m_told)), (mthr, .inl (cyZ, 144, .inl m_thr)), (mrowOfWare, .inl (cyI, 12, .inl (u.2.2.1 0)))])
set_option maxHeartbeats 4000000 in
set_option maxRecDepth 100000 in
theorem c_X11_parts_s (l : Launch) (D : DG) (cyC cyI cyJ cyZ cyO : ClassId) (m0 : Nat) (mtold : Nat) (mthr : Nat) (mrowOfWare : Nat) (mtape : Nat) (msort : Nat) (mplace : Nat) (mvalue : Nat) (mwords : Nat) (mop : Nat) (marg : Nat) (mnames : Nat) (mhasHabit : Nat) (mfactWords : Nat) (mfacts : Nat) (mpile : Nat) (mstates : Nat) (misMarked : Nat) (mrow : Nat) (mmays : Nat) (mtall : Nat) (mweights : Nat) (mneededOf : Nat) (mtried : Nat) (mbestRow : Nat) (mdigits : Nat) (p0 : Int32) (p1 : Int32) (p2 : Int32) (m_thrown : Int32) (m_taped : Int32) (m_size : Int32) (m_at : Int32) (m_fault : Int32) (m_codes : Int32) (m_isNew : Int32) (m_inShelf : Int32) (m_inStack : Int32) (m_inPlace : Int32) (m_rowMany : Int32) (m_goShelf : Int32) (m_goStack : Int32) (m_goLeft : Int32) (m_bestCost : Int32) (m_bestMany : Int32) (m_bestShelf : Int32) (m_bestSet : Int32) (m_told : Nat → Int32) (m_thr : Nat → Int32) (m_rowOfWare : Nat → Int32) (n9 : Nat) (h_m_taped : 0 ≤ (m_taped).toInt ∧ (m_taped).toInt ≤ 1000) (h_m_size : 0 ≤ (m_size).toInt ∧ (m_size).toInt ≤ 1000) (h_m_at : 0 ≤ (m_at).toInt ∧ (m_at).toInt ≤ 1000) (h_m_fault : 0 ≤ (m_fault).toInt ∧ (m_fault).toInt ≤ 16005) (h_m_codes : 0 ≤ (m_codes).toInt ∧ (m_codes).toInt ≤ 1000) (h_m_isNew : 0 ≤ (m_isNew).toInt ∧ (m_isNew).toInt ≤ 1) (h_m_inShelf : 0 ≤ (m_inShelf).toInt ∧ (m_inShelf).toInt ≤ 3) (h_m_inStack : 0 ≤ (m_inStack).toInt ∧ (m_inStack).toInt ≤ 7) (h_m_inPlace : 0 ≤ (m_inPlace).toInt ∧ (m_inPlace).toInt ≤ 11) (h_m_rowMany : 0 ≤ (m_rowMany).toInt ∧ (m_rowMany).toInt ≤ 12) (h_m_goShelf : -1 ≤ (m_goShelf).toInt ∧ (m_goShelf).toInt ≤ 3) (h_m_bestMany : 0 ≤ (m_bestMany).toInt ∧ (m_bestMany).toInt ≤ 7) (h_m_bestShelf : 0 ≤ (m_bestShelf).toInt ∧ (m_bestShelf).toInt ≤ 3) (h_p1 : 0 ≤ (p1).toInt ∧ (p1).toInt ≤ 12) (h_m_told : TV m_told) (hpk : (p0).toInt ≤ (m_told 0).toInt) (hu9 : (p1).toInt ≤ (p0).toInt) (hdp9 : (p0).toInt = 12 - (((n9 + 1) : Nat) : Int)) (h9 : n9 < 12) (hA9 : S_c_X11_parts n9) : KK l D (TY cyC cyI cyJ cyZ cyO) yX11_parts cX11_parts 7 (some .boolean) ({ frames := 1 + 1 * (n9 + 1), cells := 0, slots := 0, locals := 20 + 26 * (n9 + 1) } : Room) 0 0 [.ref m0, .int p0, .int p1, .int p2] [(m0, .inr (11, [.int m_thrown, .ref mtape, .int m_taped, .int m_size, .ref msort, .ref mplace, .ref mvalue, .int m_at, .int m_fault, .ref mwords, .ref mtold, .ref mop, .ref marg, .int m_codes, .ref mnames, .ref mhasHabit, .int m_isNew, .ref mfactWords, .ref mfacts, .ref mpile, .ref mstates, .ref misMarked, .int m_inShelf, .int m_inStack, .int m_inPlace, .ref mrow, .int m_rowMany, .ref mthr, .ref mmays, .ref mtall, .ref mweights, .ref mrowOfWare, .ref mneededOf, .int m_goShelf, .int m_goStack, .int m_goLeft, .ref mtried, .ref mbestRow, .int m_bestCost, .int m_bestMany, .int m_bestShelf, .int m_bestSet, .ref mdigits])), (mtold, .inl (cyI, 240, .inl m_told)), (mthr, .inl (cyZ, 144, .inl m_thr)), (mrowOfWare, .inl (cyI, 12, .inl m_rowOfWare))] (fun u => some (.int (u.2.1 0))) (fun u => (0 ≤ (u.2.1 0).toInt ∧ (u.2.1 0).toInt ≤ 1)) (fun u => [(m0, .inr (11, [.int m_thrown, .ref mtape, .int m_taped, .int m_size, .ref msort, .ref mplace, .ref mvalue, .int m_at, .int m_fault, .ref mwords, .ref mtold, .ref mop, .ref marg, .int m_codes, .ref mnames, .ref mhasHabit, .int m_isNew, .ref mfactWords, .ref mfacts, .ref mpile, .ref mstates, .ref misMarked, .int m_inShelf, .int m_inStack, .int m_inPlace, .ref mrow, .int m_rowMany, .ref mthr, .ref mmays, .ref mtall, .ref mweights, .ref mrowOfWare, .ref mneededOf, .int m_goShelf, .int m_goStack, .int m_goLeft, .ref mtried, .ref mbestRow, .int m_bestCost, .int m_bestMany, .int m_bestShelf, .int m_bestSet, .ref mdigits])), (mtold, .inl (cyI, 240, .inl m_told)), (mthr, .inl (cyZ, 144, .inl m_thr)), (mrowOfWare, .inl (cyI, 12, .inl (u.2.2.1 0)))]) := by
  refine KK.of (lv0 := [(0, .ref m0), (1, .int p0), (2, .int p1), (3, .int p2)]) (by decide) rfl (Nat.le_of_ble_eq_true rfl) ?_
  intro p e s m args below meth c A C hr hk hin
  refine j_iload_n (pc := 0) C dX11_parts_0 rfl 1 rfl ?_
  refine j_aload_n (pc := 1) C dX11_parts_1 rfl 0 rfl ?_
  refine j_callV (pc := 2) (As := []) (rest := [.int p0]) (wr := [(mthr, .inl (cyZ, 144, .inl m_thr)), (mrowOfWare, .inl (cyI, 12, .inl m_rowOfWare))]) C (c_X11_wares l D cyC cyI cyJ cyZ cyO m0 mtold mtape msort mplace mvalue mwords mop marg mnames mhasHabit mfactWords mfacts mpile mstates misMarked mrow mthr mmays mtall mweights mrowOfWare mneededOf mtried mbestRow mdigits m_thrown m_taped m_size m_at m_fault m_codes m_isNew m_inShelf m_inStack m_inPlace m_rowMany m_goShelf m_goStack m_goLeft m_bestCost m_bestMany m_bestShelf m_bestSet m_told h_m_taped h_m_size h_m_at h_m_fault h_m_codes h_m_isNew h_m_inShelf h_m_inStack h_m_inPlace h_m_rowMany h_m_goShelf h_m_bestMany h_m_bestShelf h_m_told) wd_748 wd_624 wd_749 wd_750 wd_751 ⟨by decide, by decide, rfl⟩ rfl ⟨rfl, rfl, (by show (0 : Nat) + 1 ≤ 1 + 1 * (n9 + 1); omega), (by show 8 + (1 + 11) + (0 : Nat) ≤ 20 + 26 * (n9 + 1); omega)⟩ ⟨Nat.le_of_ble_eq_true rfl, Nat.le_of_ble_eq_true rfl⟩ [0, 1] [2, 3] rfl rfl ⟨by decide, by decide, by decide⟩ 0 rfl rfl rfl (Nat.le_of_ble_eq_true rfl) dX11_parts_2 (fun u_1 hw_2 => ?_)
  refine j_eq (ws2 := [(mthr, .inl (cyZ, 144, .inl m_thr)), (mrowOfWare, .inl (cyI, 12, .inl m_rowOfWare)), (m0, .inr (11, [.int m_thrown, .ref mtape, .int m_taped, .int m_size, .ref msort, .ref mplace, .ref mvalue, .int m_at, .int m_fault, .ref mwords, .ref mtold, .ref mop, .ref marg, .int m_codes, .ref mnames, .ref mhasHabit, .int m_isNew, .ref mfactWords, .ref mfacts, .ref mpile, .ref mstates, .ref misMarked, .int m_inShelf, .int m_inStack, .int m_inPlace, .ref mrow, .int m_rowMany, .ref mthr, .ref mmays, .ref mtall, .ref mweights, .ref mrowOfWare, .ref mneededOf, .int m_goShelf, .int m_goStack, .int m_goLeft, .ref mtried, .ref mbestRow, .int m_bestCost, .int m_bestMany, .int m_bestShelf, .int m_bestSet, .ref mdigits])), (mtold, .inl (cyI, 240, .inl m_told))]) (pc2 := 5) (lv2 := [(0, .ref m0), (1, .int p0), (2, .int p1), (3, .int p2)]) (st2 := [.int (u_1.2.1 0), .int p0]) rfl rfl rfl rfl ?_
  obtain ⟨hw_2_0, hw_2_1⟩ := hw_2
  have hw9 := congrArg Int32.toInt hw_2_1
  have hw8 : (u_1.2.1 0).toInt = (m_told 0).toInt := hw9
  refine j_icmp_ne (pc := 5) (tgt := 10) C dX11_parts_5 (by decide) (fun c_3 => ?_) (fun c_3 => ?_)
  · skip
    rw [i_eq] at c_3
    refine j_iconst (pc := 10) (v := 0) C dX11_parts_10 (by decide) ?_
    refine j_istore (pc := 11) (lv' := [(4, .int 0), (0, .ref m0), (1, .int p0), (2, .int p1), (3, .int p2)]) C dX11_parts_11 (by decide) rfl ?_
    have loop_4 : ∀ (k_4 : Nat) (x4_4 : Int32) (g4_mrowOfWare : Nat → Int32), (0 ≤ (x4_4).toInt ∧ (x4_4).toInt ≤ 13) → (20 - x4_4.toInt).toNat < k_4 → J p l e ({ frames := 1 + 1 * (n9 + 1), cells := 0, slots := 0, locals := 20 + 26 * (n9 + 1) } : Room) s m args below meth c D A 7 0 0 (QX below D (TY cyC cyI cyJ cyZ cyO) A (fun u => some (.int (u.2.1 0))) (fun u => (0 ≤ (u.2.1 0).toInt ∧ (u.2.1 0).toInt ≤ 1)) (fun u => [(m0, .inr (11, [.int m_thrown, .ref mtape, .int m_taped, .int m_size, .ref msort, .ref mplace, .ref mvalue, .int m_at, .int m_fault, .ref mwords, .ref mtold, .ref mop, .ref marg, .int m_codes, .ref mnames, .ref mhasHabit, .int m_isNew, .ref mfactWords, .ref mfacts, .ref mpile, .ref mstates, .ref misMarked, .int m_inShelf, .int m_inStack, .int m_inPlace, .ref mrow, .int m_rowMany, .ref mthr, .ref mmays, .ref mtall, .ref mweights, .ref mrowOfWare, .ref mneededOf, .int m_goShelf, .int m_goStack, .int m_goLeft, .ref mtried, .ref mbestRow, .int m_bestCost, .int m_bestMany, .int m_bestShelf, .int m_bestSet, .ref mdigits])), (mtold, .inl (cyI, 240, .inl m_told)), (mthr, .inl (cyZ, 144, .inl m_thr)), (mrowOfWare, .inl (cyI, 12, .inl (u.2.2.1 0)))]) args s 0 0) [(mthr, .inl (cyZ, 144, .inl m_thr)), (mrowOfWare, .inl (cyI, 12, .inl g4_mrowOfWare)), (m0, .inr (11, [.int m_thrown, .ref mtape, .int m_taped, .int m_size, .ref msort, .ref mplace, .ref mvalue, .int m_at, .int m_fault, .ref mwords, .ref mtold, .ref mop, .ref marg, .int m_codes, .ref mnames, .ref mhasHabit, .int m_isNew, .ref mfactWords, .ref mfacts, .ref mpile, .ref mstates, .ref misMarked, .int m_inShelf, .int m_inStack, .int m_inPlace, .ref mrow, .int m_rowMany, .ref mthr, .ref mmays, .ref mtall, .ref mweights, .ref mrowOfWare, .ref mneededOf, .int m_goShelf, .int m_goStack, .int m_goLeft, .ref mtried, .ref mbestRow, .int m_bestCost, .int m_bestMany, .int m_bestShelf, .int m_bestSet, .ref mdigits])), (mtold, .inl (cyI, 240, .inl m_told))] 13 [(4, .int x4_4), (0, .ref m0), (1, .int p0), (2, .int p1), (3, .int p2)] [] := by
      intro k_4
      induction k_4 with
      | zero =>
        intro x4_4 g4_mrowOfWare hi_4_0 hm_4
        exact absurd hm_4 (Nat.not_lt_zero _)
      | succ k_4 ih_4 =>
        intro x4_4 g4_mrowOfWare hi_4_0 hm_4
        refine j_iload (pc := 13) C dX11_parts_13 0 rfl ?_
        refine j_iload_n (pc := 15) C dX11_parts_15 rfl 3 rfl ?_
        refine j_icmp_gt (pc := 16) (tgt := 122) C dX11_parts_16 (by decide) (fun c_5 => ?_) (fun c_5 => ?_)
        · skip
          rw [i_lt] at c_5
          refine j_iconst (pc := 122) (v := 0) C dX11_parts_122 (by decide) ?_
          have el_0 : (0 : Int32).toInt = 0 := rfl
          exact j_zret (pc := 123) C hr rfl hk (fun i => [].getD i 0, fun i => [0].getD i 0, fun i => [g4_mrowOfWare].getD i (fun _ => 0), fun i => [].getD i (fun _ => 0)) rfl (show (0 ≤ ((0 : Int32)).toInt ∧ ((0 : Int32)).toInt ≤ 1) from (by omega)) [2, 3, 0, 1] (by decide) rfl (by decide) (by decide) dX11_parts_123
        · skip
          rw [i_lt] at c_5
          refine j_iload (pc := 19) C dX11_parts_19 0 rfl ?_
          refine j_iload_n (pc := 21) C dX11_parts_21 rfl 4 rfl ?_
          refine j_icmp_ge (pc := 22) (tgt := 122) C dX11_parts_22 (by decide) (fun c_6 => ?_) (fun c_6 => ?_)
          · skip
            rw [i_le] at c_6
            refine j_iconst (pc := 122) (v := 0) C dX11_parts_122 (by decide) ?_
            have el_0 : (0 : Int32).toInt = 0 := rfl
            exact j_zret (pc := 123) C hr rfl hk (fun i => [].getD i 0, fun i => [0].getD i 0, fun i => [g4_mrowOfWare].getD i (fun _ => 0), fun i => [].getD i (fun _ => 0)) rfl (show (0 ≤ ((0 : Int32)).toInt ∧ ((0 : Int32)).toInt ≤ 1) from (by omega)) [2, 3, 0, 1] (by decide) rfl (by decide) (by decide) dX11_parts_123
          · skip
            rw [i_le] at c_6
            refine j_iconst (pc := 25) (v := 1) C dX11_parts_25 (by decide) ?_
            refine j_istore (pc := 26) (lv' := [(5, .int 1), (4, .int x4_4), (0, .ref m0), (1, .int p0), (2, .int p1), (3, .int p2)]) C dX11_parts_26 (by decide) rfl ?_
            refine j_iconst (pc := 28) (v := 0) C dX11_parts_28 (by decide) ?_
            refine j_istore (pc := 29) (lv' := [(6, .int 0), (5, .int 1), (4, .int x4_4), (0, .ref m0), (1, .int p0), (2, .int p1), (3, .int p2)]) C dX11_parts_29 (by decide) rfl ?_
            have loop_7 : ∀ (k_7 : Nat) (x7_6 : Int32) (x7_5 : Int32), (0 ≤ (x7_6).toInt ∧ (x7_6).toInt ≤ 12) → (0 ≤ (x7_5).toInt ∧ (x7_5).toInt ≤ 1) → (20 - x7_6.toInt).toNat < k_7 → J p l e ({ frames := 1 + 1 * (n9 + 1), cells := 0, slots := 0, locals := 20 + 26 * (n9 + 1) } : Room) s m args below meth c D A 7 0 0 (QX below D (TY cyC cyI cyJ cyZ cyO) A (fun u => some (.int (u.2.1 0))) (fun u => (0 ≤ (u.2.1 0).toInt ∧ (u.2.1 0).toInt ≤ 1)) (fun u => [(m0, .inr (11, [.int m_thrown, .ref mtape, .int m_taped, .int m_size, .ref msort, .ref mplace, .ref mvalue, .int m_at, .int m_fault, .ref mwords, .ref mtold, .ref mop, .ref marg, .int m_codes, .ref mnames, .ref mhasHabit, .int m_isNew, .ref mfactWords, .ref mfacts, .ref mpile, .ref mstates, .ref misMarked, .int m_inShelf, .int m_inStack, .int m_inPlace, .ref mrow, .int m_rowMany, .ref mthr, .ref mmays, .ref mtall, .ref mweights, .ref mrowOfWare, .ref mneededOf, .int m_goShelf, .int m_goStack, .int m_goLeft, .ref mtried, .ref mbestRow, .int m_bestCost, .int m_bestMany, .int m_bestShelf, .int m_bestSet, .ref mdigits])), (mtold, .inl (cyI, 240, .inl m_told)), (mthr, .inl (cyZ, 144, .inl m_thr)), (mrowOfWare, .inl (cyI, 12, .inl (u.2.2.1 0)))]) args s 0 0) [(mthr, .inl (cyZ, 144, .inl m_thr)), (mrowOfWare, .inl (cyI, 12, .inl g4_mrowOfWare)), (m0, .inr (11, [.int m_thrown, .ref mtape, .int m_taped, .int m_size, .ref msort, .ref mplace, .ref mvalue, .int m_at, .int m_fault, .ref mwords, .ref mtold, .ref mop, .ref marg, .int m_codes, .ref mnames, .ref mhasHabit, .int m_isNew, .ref mfactWords, .ref mfacts, .ref mpile, .ref mstates, .ref misMarked, .int m_inShelf, .int m_inStack, .int m_inPlace, .ref mrow, .int m_rowMany, .ref mthr, .ref mmays, .ref mtall, .ref mweights, .ref mrowOfWare, .ref mneededOf, .int m_goShelf, .int m_goStack, .int m_goLeft, .ref mtried, .ref mbestRow, .int m_bestCost, .int m_bestMany, .int m_bestShelf, .int m_bestSet, .ref mdigits])), (mtold, .inl (cyI, 240, .inl m_told))] 31 [(6, .int x7_6), (5, .int x7_5), (4, .int x4_4), (0, .ref m0), (1, .int p0), (2, .int p1), (3, .int p2)] [] := by
              intro k_7
              induction k_7 with
              | zero =>
                intro x7_6 x7_5 hi_7_0 hi_7_1 hm_7
                exact absurd hm_7 (Nat.not_lt_zero _)
              | succ k_7 ih_7 =>
                intro x7_6 x7_5 hi_7_0 hi_7_1 hm_7
                refine j_iload (pc := 31) C dX11_parts_31 0 rfl ?_
                refine j_iload_n (pc := 33) C dX11_parts_33 rfl 4 rfl ?_
                refine j_icmp_ge (pc := 34) (tgt := 77) C dX11_parts_34 (by decide) (fun c_8 => ?_) (fun c_8 => ?_)
                · skip
                  rw [i_le] at c_8
                  refine j_aload_n (pc := 77) C dX11_parts_77 rfl 3 rfl ?_
                  refine j_get (pc := 78) (ci := 11) (v := .ref mrowOfWare) C inw_11 2 rfl rfl 31 (by decide) wd_935 rfl rfl dX11_parts_78 ?_
                  refine j_iload_n (pc := 81) C dX11_parts_81 rfl 4 rfl ?_
                  refine j_iload (pc := 82) C dX11_parts_82 2 rfl ?_
                  obtain ⟨f_9, ef_9⟩ : ∃ z, z = upd g4_mrowOfWare (p0).toInt.toNat x4_4 := ⟨_, rfl⟩
                  refine j_iast (pc := 84) (k := (p0).toInt.toNat) (ws' := [(mthr, .inl (cyZ, 144, .inl m_thr)), (mrowOfWare, .inl (cyI, 12, .inl f_9)), (m0, .inr (11, [.int m_thrown, .ref mtape, .int m_taped, .int m_size, .ref msort, .ref mplace, .ref mvalue, .int m_at, .int m_fault, .ref mwords, .ref mtold, .ref mop, .ref marg, .int m_codes, .ref mnames, .ref mhasHabit, .int m_isNew, .ref mfactWords, .ref mfacts, .ref mpile, .ref mstates, .ref misMarked, .int m_inShelf, .int m_inStack, .int m_inPlace, .ref mrow, .int m_rowMany, .ref mthr, .ref mmays, .ref mtall, .ref mweights, .ref mrowOfWare, .ref mneededOf, .int m_goShelf, .int m_goStack, .int m_goLeft, .ref mtried, .ref mbestRow, .int m_bestCost, .int m_bestMany, .int m_bestShelf, .int m_bestSet, .ref mdigits])), (mtold, .inl (cyI, 240, .inl m_told))]) C 1 1 rfl rfl (i_nn (by omega)) rfl (i_lt_n (by omega) (by omega)) dX11_parts_84 (by rw [ef_9]; rfl) ?_
                  refine j_iload (pc := 85) C dX11_parts_85 1 rfl ?_
                  refine j_if_eq (pc := 87) (tgt := 116) C dX11_parts_87 (by decide) (fun c_10 => ?_) (fun c_10 => ?_)
                  · skip
                    have el_0 : (0 : Int32).toInt = 0 := rfl
                    rw [i_eq] at c_10
                    obtain ⟨v_11, ev_11⟩ : ∃ z : Int32, x4_4 + 1 = z := ⟨_, rfl⟩
                    have el_1 : (1 : Int32).toInt = 1 := rfl
                    have hv_11 : v_11.toInt = x4_4.toInt + (1 : Int32).toInt := by rw [← ev_11]; exact fb_addI (by omega) (by omega)
                    refine j_iinc (pc := 116) (v := v_11) (lv' := [(4, .int v_11), (6, .int x7_6), (5, .int x7_5), (0, .ref m0), (1, .int p0), (2, .int p1), (3, .int p2)]) C dX11_parts_116 2 rfl ev_11 (by decide) rfl ?_
                    refine j_goto (pc := 119) (tgt := 13) C dX11_parts_119 (by decide) ?_
                    exact j_lv [0, 3, 4, 5, 6] rfl (ih_4 v_11 f_9 (by omega) (by omega))
                  · skip
                    have el_0 : (0 : Int32).toInt = 0 := rfl
                    rw [i_eq] at c_10
                    have k0c_10 : x7_5.toInt = 1 := by omega
                    refine j_aload_n (pc := 90) C dX11_parts_90 rfl 3 rfl ?_
                    refine j_iload_n (pc := 91) C dX11_parts_91 rfl 4 rfl ?_
                    refine j_iconst (pc := 92) (v := 1) C dX11_parts_92 (by decide) ?_
                    obtain ⟨v_12, ev_12⟩ : ∃ z : Int32, p0 + 1 = z := ⟨_, rfl⟩
                    have el_1 : (1 : Int32).toInt = 1 := rfl
                    have hv_12 : v_12.toInt = p0.toInt + (1 : Int32).toInt := by rw [← ev_12]; exact fb_addI (by omega) (by omega)
                    refine j_iadd (pc := 93) (v := v_12) C dX11_parts_93 ev_12 ?_
                    refine j_iload (pc := 94) C dX11_parts_94 2 rfl ?_
                    refine j_iload_n (pc := 96) C dX11_parts_96 rfl 5 rfl ?_
                    refine j_icmp_ne (pc := 97) (tgt := 106) C dX11_parts_97 (by decide) (fun c_13 => ?_) (fun c_13 => ?_)
                    · skip
                      rw [i_eq] at c_13
                      refine j_iload_n (pc := 106) C dX11_parts_106 rfl 5 rfl ?_
                      refine j_iload_n (pc := 107) C dX11_parts_107 rfl 6 rfl ?_
                      refine j_callV (pc := 108) (As := [.int v_12, .int p1, .int p2]) (rest := []) (wr := []) C (hA9 l D cyC cyI cyJ cyZ cyO m0 mtold mthr mrowOfWare mtape msort mplace mvalue mwords mop marg mnames mhasHabit mfactWords mfacts mpile mstates misMarked mrow mmays mtall mweights mneededOf mtried mbestRow mdigits v_12 p1 p2 m_thrown m_taped m_size m_at m_fault m_codes m_isNew m_inShelf m_inStack m_inPlace m_rowMany m_goShelf m_goStack m_goLeft m_bestCost m_bestMany m_bestShelf m_bestSet m_told m_thr f_9 h_m_taped h_m_size h_m_at h_m_fault h_m_codes h_m_isNew h_m_inShelf h_m_inStack h_m_inPlace h_m_rowMany h_m_goShelf h_m_bestMany h_m_bestShelf h_p1 h_m_told (by omega) (by omega) (by omega)) wd_936 wd_624 wd_937 wd_938 wd_939 ⟨by decide, by decide, rfl⟩ rfl ⟨rfl, rfl, (by show (1 + 1 * n9 : Nat) + 1 ≤ 1 + 1 * (n9 + 1); omega), (by show 8 + (7 + 11) + (20 + 26 * n9 : Nat) ≤ 20 + 26 * (n9 + 1); omega)⟩ ⟨Nat.le_of_ble_eq_true rfl, Nat.le_of_ble_eq_true rfl⟩ [2, 3, 0, 1] [] rfl rfl ⟨by decide, by decide, by decide⟩ 2 rfl rfl rfl (Nat.le_of_ble_eq_true rfl) dX11_parts_108 (fun u_14 hw_15 => ?_)
                      refine j_eq (ws2 := [(m0, .inr (11, [.int m_thrown, .ref mtape, .int m_taped, .int m_size, .ref msort, .ref mplace, .ref mvalue, .int m_at, .int m_fault, .ref mwords, .ref mtold, .ref mop, .ref marg, .int m_codes, .ref mnames, .ref mhasHabit, .int m_isNew, .ref mfactWords, .ref mfacts, .ref mpile, .ref mstates, .ref misMarked, .int m_inShelf, .int m_inStack, .int m_inPlace, .ref mrow, .int m_rowMany, .ref mthr, .ref mmays, .ref mtall, .ref mweights, .ref mrowOfWare, .ref mneededOf, .int m_goShelf, .int m_goStack, .int m_goLeft, .ref mtried, .ref mbestRow, .int m_bestCost, .int m_bestMany, .int m_bestShelf, .int m_bestSet, .ref mdigits])), (mtold, .inl (cyI, 240, .inl m_told)), (mthr, .inl (cyZ, 144, .inl m_thr)), (mrowOfWare, .inl (cyI, 12, .inl (u_14.2.2.1 0)))]) (pc2 := 111) (lv2 := [(6, .int x7_6), (5, .int x7_5), (4, .int x4_4), (0, .ref m0), (1, .int p0), (2, .int p1), (3, .int p2)]) (st2 := [.int (u_14.2.1 0)]) rfl rfl rfl rfl ?_
                      have hw_15_0 : 0 ≤ (u_14.2.1 0).toInt ∧ (u_14.2.1 0).toInt ≤ 1 := hw_15
                      refine j_if_eq (pc := 111) (tgt := 116) C dX11_parts_111 (by decide) (fun c_16 => ?_) (fun c_16 => ?_)
                      · skip
                        have el_0 : (0 : Int32).toInt = 0 := rfl
                        rw [i_eq] at c_16
                        obtain ⟨v_17, ev_17⟩ : ∃ z : Int32, x4_4 + 1 = z := ⟨_, rfl⟩
                        have el_1 : (1 : Int32).toInt = 1 := rfl
                        have hv_17 : v_17.toInt = x4_4.toInt + (1 : Int32).toInt := by rw [← ev_17]; exact fb_addI (by omega) (by omega)
                        refine j_iinc (pc := 116) (v := v_17) (lv' := [(4, .int v_17), (6, .int x7_6), (5, .int x7_5), (0, .ref m0), (1, .int p0), (2, .int p1), (3, .int p2)]) C dX11_parts_116 2 rfl ev_17 (by decide) rfl ?_
                        refine j_goto (pc := 119) (tgt := 13) C dX11_parts_119 (by decide) ?_
                        refine j_subG (ws' := [(mthr, .inl (cyZ, 144, .inl m_thr)), (mrowOfWare, .inl (cyI, 12, .inl (u_14.2.2.1 0))), (m0, .inr (11, [.int m_thrown, .ref mtape, .int m_taped, .int m_size, .ref msort, .ref mplace, .ref mvalue, .int m_at, .int m_fault, .ref mwords, .ref mtold, .ref mop, .ref marg, .int m_codes, .ref mnames, .ref mhasHabit, .int m_isNew, .ref mfactWords, .ref mfacts, .ref mpile, .ref mstates, .ref misMarked, .int m_inShelf, .int m_inStack, .int m_inPlace, .ref mrow, .int m_rowMany, .ref mthr, .ref mmays, .ref mtall, .ref mweights, .ref mrowOfWare, .ref mneededOf, .int m_goShelf, .int m_goStack, .int m_goLeft, .ref mtried, .ref mbestRow, .int m_bestCost, .int m_bestMany, .int m_bestShelf, .int m_bestSet, .ref mdigits])), (mtold, .inl (cyI, 240, .inl m_told))]) [2, 3, 0, 1] (by decide) rfl ?_
                        exact j_lv [0, 3, 4, 5, 6] rfl (ih_4 v_17 (u_14.2.2.1 0) (by omega) (by omega))
                      · skip
                        have el_0 : (0 : Int32).toInt = 0 := rfl
                        rw [i_eq] at c_16
                        have k0c_16 : ((u_14.2.1 0)).toInt = 1 := by omega
                        refine j_iconst (pc := 114) (v := 1) C dX11_parts_114 (by decide) ?_
                        have el_1 : (1 : Int32).toInt = 1 := rfl
                        exact j_zret (pc := 115) C hr rfl hk (fun i => [].getD i 0, fun i => [1].getD i 0, fun i => [(u_14.2.2.1 0)].getD i (fun _ => 0), fun i => [].getD i (fun _ => 0)) rfl (show (0 ≤ ((1 : Int32)).toInt ∧ ((1 : Int32)).toInt ≤ 1) from (by omega)) [0, 1, 2, 3] (by decide) rfl (by decide) (by decide) dX11_parts_115
                    · skip
                      rw [i_eq] at c_13
                      refine j_iload_n (pc := 100) C dX11_parts_100 rfl 5 rfl ?_
                      refine j_iconst (pc := 101) (v := 1) C dX11_parts_101 (by decide) ?_
                      obtain ⟨v_18, ev_18⟩ : ∃ z : Int32, p1 + 1 = z := ⟨_, rfl⟩
                      have el_1 : (1 : Int32).toInt = 1 := rfl
                      have hv_18 : v_18.toInt = p1.toInt + (1 : Int32).toInt := by rw [← ev_18]; exact fb_addI (by omega) (by omega)
                      refine j_iadd (pc := 102) (v := v_18) C dX11_parts_102 ev_18 ?_
                      refine j_goto (pc := 103) (tgt := 107) C dX11_parts_103 (by decide) ?_
                      refine j_iload_n (pc := 107) C dX11_parts_107 rfl 6 rfl ?_
                      refine j_callV (pc := 108) (As := [.int v_12, .int v_18, .int p2]) (rest := []) (wr := []) C (hA9 l D cyC cyI cyJ cyZ cyO m0 mtold mthr mrowOfWare mtape msort mplace mvalue mwords mop marg mnames mhasHabit mfactWords mfacts mpile mstates misMarked mrow mmays mtall mweights mneededOf mtried mbestRow mdigits v_12 v_18 p2 m_thrown m_taped m_size m_at m_fault m_codes m_isNew m_inShelf m_inStack m_inPlace m_rowMany m_goShelf m_goStack m_goLeft m_bestCost m_bestMany m_bestShelf m_bestSet m_told m_thr f_9 h_m_taped h_m_size h_m_at h_m_fault h_m_codes h_m_isNew h_m_inShelf h_m_inStack h_m_inPlace h_m_rowMany h_m_goShelf h_m_bestMany h_m_bestShelf (by omega) h_m_told (by omega) (by omega) (by omega)) wd_936 wd_624 wd_937 wd_938 wd_939 ⟨by decide, by decide, rfl⟩ rfl ⟨rfl, rfl, (by show (1 + 1 * n9 : Nat) + 1 ≤ 1 + 1 * (n9 + 1); omega), (by show 8 + (7 + 11) + (20 + 26 * n9 : Nat) ≤ 20 + 26 * (n9 + 1); omega)⟩ ⟨Nat.le_of_ble_eq_true rfl, Nat.le_of_ble_eq_true rfl⟩ [2, 3, 0, 1] [] rfl rfl ⟨by decide, by decide, by decide⟩ 2 rfl rfl rfl (Nat.le_of_ble_eq_true rfl) dX11_parts_108 (fun u_19 hw_20 => ?_)
                      refine j_eq (ws2 := [(m0, .inr (11, [.int m_thrown, .ref mtape, .int m_taped, .int m_size, .ref msort, .ref mplace, .ref mvalue, .int m_at, .int m_fault, .ref mwords, .ref mtold, .ref mop, .ref marg, .int m_codes, .ref mnames, .ref mhasHabit, .int m_isNew, .ref mfactWords, .ref mfacts, .ref mpile, .ref mstates, .ref misMarked, .int m_inShelf, .int m_inStack, .int m_inPlace, .ref mrow, .int m_rowMany, .ref mthr, .ref mmays, .ref mtall, .ref mweights, .ref mrowOfWare, .ref mneededOf, .int m_goShelf, .int m_goStack, .int m_goLeft, .ref mtried, .ref mbestRow, .int m_bestCost, .int m_bestMany, .int m_bestShelf, .int m_bestSet, .ref mdigits])), (mtold, .inl (cyI, 240, .inl m_told)), (mthr, .inl (cyZ, 144, .inl m_thr)), (mrowOfWare, .inl (cyI, 12, .inl (u_19.2.2.1 0)))]) (pc2 := 111) (lv2 := [(6, .int x7_6), (5, .int x7_5), (4, .int x4_4), (0, .ref m0), (1, .int p0), (2, .int p1), (3, .int p2)]) (st2 := [.int (u_19.2.1 0)]) rfl rfl rfl rfl ?_
                      have hw_20_0 : 0 ≤ (u_19.2.1 0).toInt ∧ (u_19.2.1 0).toInt ≤ 1 := hw_20
                      refine j_if_eq (pc := 111) (tgt := 116) C dX11_parts_111 (by decide) (fun c_21 => ?_) (fun c_21 => ?_)
                      · skip
                        have el_0 : (0 : Int32).toInt = 0 := rfl
                        rw [i_eq] at c_21
                        obtain ⟨v_22, ev_22⟩ : ∃ z : Int32, x4_4 + 1 = z := ⟨_, rfl⟩
                        have el_1 : (1 : Int32).toInt = 1 := rfl
                        have hv_22 : v_22.toInt = x4_4.toInt + (1 : Int32).toInt := by rw [← ev_22]; exact fb_addI (by omega) (by omega)
                        refine j_iinc (pc := 116) (v := v_22) (lv' := [(4, .int v_22), (6, .int x7_6), (5, .int x7_5), (0, .ref m0), (1, .int p0), (2, .int p1), (3, .int p2)]) C dX11_parts_116 2 rfl ev_22 (by decide) rfl ?_
                        refine j_goto (pc := 119) (tgt := 13) C dX11_parts_119 (by decide) ?_
                        refine j_subG (ws' := [(mthr, .inl (cyZ, 144, .inl m_thr)), (mrowOfWare, .inl (cyI, 12, .inl (u_19.2.2.1 0))), (m0, .inr (11, [.int m_thrown, .ref mtape, .int m_taped, .int m_size, .ref msort, .ref mplace, .ref mvalue, .int m_at, .int m_fault, .ref mwords, .ref mtold, .ref mop, .ref marg, .int m_codes, .ref mnames, .ref mhasHabit, .int m_isNew, .ref mfactWords, .ref mfacts, .ref mpile, .ref mstates, .ref misMarked, .int m_inShelf, .int m_inStack, .int m_inPlace, .ref mrow, .int m_rowMany, .ref mthr, .ref mmays, .ref mtall, .ref mweights, .ref mrowOfWare, .ref mneededOf, .int m_goShelf, .int m_goStack, .int m_goLeft, .ref mtried, .ref mbestRow, .int m_bestCost, .int m_bestMany, .int m_bestShelf, .int m_bestSet, .ref mdigits])), (mtold, .inl (cyI, 240, .inl m_told))]) [2, 3, 0, 1] (by decide) rfl ?_
                        exact j_lv [0, 3, 4, 5, 6] rfl (ih_4 v_22 (u_19.2.2.1 0) (by omega) (by omega))
                      · skip
                        have el_0 : (0 : Int32).toInt = 0 := rfl
                        rw [i_eq] at c_21
                        have k0c_21 : ((u_19.2.1 0)).toInt = 1 := by omega
                        refine j_iconst (pc := 114) (v := 1) C dX11_parts_114 (by decide) ?_
                        have el_1 : (1 : Int32).toInt = 1 := rfl
                        exact j_zret (pc := 115) C hr rfl hk (fun i => [].getD i 0, fun i => [1].getD i 0, fun i => [(u_19.2.2.1 0)].getD i (fun _ => 0), fun i => [].getD i (fun _ => 0)) rfl (show (0 ≤ ((1 : Int32)).toInt ∧ ((1 : Int32)).toInt ≤ 1) from (by omega)) [0, 1, 2, 3] (by decide) rfl (by decide) (by decide) dX11_parts_115
                · skip
                  rw [i_le] at c_8
                  refine j_iload (pc := 37) C dX11_parts_37 1 rfl ?_
                  refine j_if_eq (pc := 39) (tgt := 68) C dX11_parts_39 (by decide) (fun c_23 => ?_) (fun c_23 => ?_)
                  · skip
                    have el_0 : (0 : Int32).toInt = 0 := rfl
                    rw [i_eq] at c_23
                    refine j_iconst (pc := 68) (v := 0) C dX11_parts_68 (by decide) ?_
                    refine j_istore (pc := 69) (lv' := [(5, .int 0), (6, .int x7_6), (4, .int x4_4), (0, .ref m0), (1, .int p0), (2, .int p1), (3, .int p2)]) C dX11_parts_69 (by decide) rfl ?_
                    obtain ⟨v_24, ev_24⟩ : ∃ z : Int32, x7_6 + 1 = z := ⟨_, rfl⟩
                    have el_1 : (1 : Int32).toInt = 1 := rfl
                    have hv_24 : v_24.toInt = x7_6.toInt + (1 : Int32).toInt := by rw [← ev_24]; exact fb_addI (by omega) (by omega)
                    refine j_iinc (pc := 71) (v := v_24) (lv' := [(6, .int v_24), (5, .int 0), (4, .int x4_4), (0, .ref m0), (1, .int p0), (2, .int p1), (3, .int p2)]) C dX11_parts_71 1 rfl ev_24 (by decide) rfl ?_
                    refine j_goto (pc := 74) (tgt := 31) C dX11_parts_74 (by decide) ?_
                    have el_0 : (0 : Int32).toInt = 0 := rfl
                    exact j_lv [0, 1, 2, 3, 4, 5, 6] rfl (ih_7 v_24 0 (by omega) (by decide) (by omega))
                  · skip
                    have el_0 : (0 : Int32).toInt = 0 := rfl
                    rw [i_eq] at c_23
                    have k0c_23 : x7_5.toInt = 1 := by omega
                    refine j_aload_n (pc := 42) C dX11_parts_42 rfl 3 rfl ?_
                    refine j_get (pc := 43) (ci := 11) (v := .ref mrowOfWare) C inw_11 2 rfl rfl 31 (by decide) wd_935 rfl rfl dX11_parts_43 ?_
                    refine j_iload (pc := 46) C dX11_parts_46 0 rfl ?_
                    obtain ⟨v_25, ev_25⟩ : ∃ z, g4_mrowOfWare (x7_6).toInt.toNat = z := ⟨_, rfl⟩
                    have env_25 : (g4_mrowOfWare (x7_6).toInt.toNat).toInt = v_25.toInt := by rw [ev_25]
                    refine j_iald (pc := 48) (v := v_25) (k := (x7_6).toInt.toNat) C 1 1 rfl rfl (i_nn hi_7_0.1) rfl (i_lt_n hi_7_0.1 (by omega)) ev_25 dX11_parts_48 ?_
                    refine j_iload (pc := 49) C dX11_parts_49 2 rfl ?_
                    refine j_icmp_ne (pc := 51) (tgt := 64) C dX11_parts_51 (by decide) (fun c_26 => ?_) (fun c_26 => ?_)
                    · skip
                      rw [i_eq] at c_26
                      refine j_iconst (pc := 64) (v := 1) C dX11_parts_64 (by decide) ?_
                      refine j_goto (pc := 65) (tgt := 69) C dX11_parts_65 (by decide) ?_
                      refine j_istore (pc := 69) (lv' := [(5, .int 1), (6, .int x7_6), (4, .int x4_4), (0, .ref m0), (1, .int p0), (2, .int p1), (3, .int p2)]) C dX11_parts_69 (by decide) rfl ?_
                      obtain ⟨v_27, ev_27⟩ : ∃ z : Int32, x7_6 + 1 = z := ⟨_, rfl⟩
                      have el_1 : (1 : Int32).toInt = 1 := rfl
                      have hv_27 : v_27.toInt = x7_6.toInt + (1 : Int32).toInt := by rw [← ev_27]; exact fb_addI (by omega) (by omega)
                      refine j_iinc (pc := 71) (v := v_27) (lv' := [(6, .int v_27), (5, .int 1), (4, .int x4_4), (0, .ref m0), (1, .int p0), (2, .int p1), (3, .int p2)]) C dX11_parts_71 1 rfl ev_27 (by decide) rfl ?_
                      refine j_goto (pc := 74) (tgt := 31) C dX11_parts_74 (by decide) ?_
                      have el_1 : (1 : Int32).toInt = 1 := rfl
                      exact j_lv [0, 1, 2, 3, 4, 5, 6] rfl (ih_7 v_27 1 (by omega) (by decide) (by omega))
                    · skip
                      rw [i_eq] at c_26
                      refine j_aload_n (pc := 54) C dX11_parts_54 rfl 3 rfl ?_
                      refine j_iload_n (pc := 55) C dX11_parts_55 rfl 4 rfl ?_
                      refine j_iload (pc := 56) C dX11_parts_56 0 rfl ?_
                      refine j_callV (pc := 58) (As := [.int p0, .int x7_6]) (rest := []) (wr := [(mrowOfWare, .inl (cyI, 12, .inl g4_mrowOfWare)), (mtold, .inl (cyI, 240, .inl m_told))]) C (c_X11_areChained l D cyC cyI cyJ cyZ cyO m0 mthr mtape msort mplace mvalue mwords mtold mop marg mnames mhasHabit mfactWords mfacts mpile mstates misMarked mrow mmays mtall mweights mrowOfWare mneededOf mtried mbestRow mdigits p0 x7_6 m_thrown m_taped m_size m_at m_fault m_codes m_isNew m_inShelf m_inStack m_inPlace m_rowMany m_goShelf m_goStack m_goLeft m_bestCost m_bestMany m_bestShelf m_bestSet m_thr h_m_taped h_m_size h_m_at h_m_fault h_m_codes h_m_isNew h_m_inShelf h_m_inStack h_m_inPlace h_m_rowMany h_m_goShelf h_m_bestMany h_m_bestShelf (by omega) (by omega)) wd_912 wd_624 wd_913 wd_914 wd_915 ⟨by decide, by decide, rfl⟩ rfl ⟨rfl, rfl, (by show (0 : Nat) + 1 ≤ 1 + 1 * (n9 + 1); omega), (by show 8 + (3 + 11) + (0 : Nat) ≤ 20 + 26 * (n9 + 1); omega)⟩ ⟨Nat.le_of_ble_eq_true rfl, Nat.le_of_ble_eq_true rfl⟩ [2, 0] [1, 3] rfl rfl ⟨by decide, by decide, by decide⟩ 2 rfl rfl rfl (Nat.le_of_ble_eq_true rfl) dX11_parts_58 (fun u_28 hw_29 => ?_)
                      refine j_eq (ws2 := [(mrowOfWare, .inl (cyI, 12, .inl g4_mrowOfWare)), (mtold, .inl (cyI, 240, .inl m_told)), (m0, .inr (11, [.int m_thrown, .ref mtape, .int m_taped, .int m_size, .ref msort, .ref mplace, .ref mvalue, .int m_at, .int m_fault, .ref mwords, .ref mtold, .ref mop, .ref marg, .int m_codes, .ref mnames, .ref mhasHabit, .int m_isNew, .ref mfactWords, .ref mfacts, .ref mpile, .ref mstates, .ref misMarked, .int m_inShelf, .int m_inStack, .int m_inPlace, .ref mrow, .int m_rowMany, .ref mthr, .ref mmays, .ref mtall, .ref mweights, .ref mrowOfWare, .ref mneededOf, .int m_goShelf, .int m_goStack, .int m_goLeft, .ref mtried, .ref mbestRow, .int m_bestCost, .int m_bestMany, .int m_bestShelf, .int m_bestSet, .ref mdigits])), (mthr, .inl (cyZ, 144, .inl m_thr))]) (pc2 := 61) (lv2 := [(6, .int x7_6), (5, .int x7_5), (4, .int x4_4), (0, .ref m0), (1, .int p0), (2, .int p1), (3, .int p2)]) (st2 := [.int (u_28.2.1 0)]) rfl rfl rfl rfl ?_
                      have hw_29_0 : 0 ≤ (u_28.2.1 0).toInt ∧ (u_28.2.1 0).toInt ≤ 1 := hw_29
                      refine j_if_eq (pc := 61) (tgt := 68) C dX11_parts_61 (by decide) (fun c_30 => ?_) (fun c_30 => ?_)
                      · skip
                        have el_0 : (0 : Int32).toInt = 0 := rfl
                        rw [i_eq] at c_30
                        refine j_iconst (pc := 68) (v := 0) C dX11_parts_68 (by decide) ?_
                        refine j_istore (pc := 69) (lv' := [(5, .int 0), (6, .int x7_6), (4, .int x4_4), (0, .ref m0), (1, .int p0), (2, .int p1), (3, .int p2)]) C dX11_parts_69 (by decide) rfl ?_
                        obtain ⟨v_31, ev_31⟩ : ∃ z : Int32, x7_6 + 1 = z := ⟨_, rfl⟩
                        have el_1 : (1 : Int32).toInt = 1 := rfl
                        have hv_31 : v_31.toInt = x7_6.toInt + (1 : Int32).toInt := by rw [← ev_31]; exact fb_addI (by omega) (by omega)
                        refine j_iinc (pc := 71) (v := v_31) (lv' := [(6, .int v_31), (5, .int 0), (4, .int x4_4), (0, .ref m0), (1, .int p0), (2, .int p1), (3, .int p2)]) C dX11_parts_71 1 rfl ev_31 (by decide) rfl ?_
                        refine j_goto (pc := 74) (tgt := 31) C dX11_parts_74 (by decide) ?_
                        have el_0 : (0 : Int32).toInt = 0 := rfl
                        refine j_subG (ws' := [(mthr, .inl (cyZ, 144, .inl m_thr)), (mrowOfWare, .inl (cyI, 12, .inl g4_mrowOfWare)), (m0, .inr (11, [.int m_thrown, .ref mtape, .int m_taped, .int m_size, .ref msort, .ref mplace, .ref mvalue, .int m_at, .int m_fault, .ref mwords, .ref mtold, .ref mop, .ref marg, .int m_codes, .ref mnames, .ref mhasHabit, .int m_isNew, .ref mfactWords, .ref mfacts, .ref mpile, .ref mstates, .ref misMarked, .int m_inShelf, .int m_inStack, .int m_inPlace, .ref mrow, .int m_rowMany, .ref mthr, .ref mmays, .ref mtall, .ref mweights, .ref mrowOfWare, .ref mneededOf, .int m_goShelf, .int m_goStack, .int m_goLeft, .ref mtried, .ref mbestRow, .int m_bestCost, .int m_bestMany, .int m_bestShelf, .int m_bestSet, .ref mdigits])), (mtold, .inl (cyI, 240, .inl m_told))]) [3, 0, 2, 1] (by decide) rfl ?_
                        exact j_lv [0, 1, 2, 3, 4, 5, 6] rfl (ih_7 v_31 0 (by omega) (by decide) (by omega))
                      · skip
                        have el_0 : (0 : Int32).toInt = 0 := rfl
                        rw [i_eq] at c_30
                        have k0c_30 : ((u_28.2.1 0)).toInt = 1 := by omega
                        refine j_iconst (pc := 64) (v := 1) C dX11_parts_64 (by decide) ?_
                        refine j_goto (pc := 65) (tgt := 69) C dX11_parts_65 (by decide) ?_
                        refine j_istore (pc := 69) (lv' := [(5, .int 1), (6, .int x7_6), (4, .int x4_4), (0, .ref m0), (1, .int p0), (2, .int p1), (3, .int p2)]) C dX11_parts_69 (by decide) rfl ?_
                        obtain ⟨v_32, ev_32⟩ : ∃ z : Int32, x7_6 + 1 = z := ⟨_, rfl⟩
                        have el_1 : (1 : Int32).toInt = 1 := rfl
                        have hv_32 : v_32.toInt = x7_6.toInt + (1 : Int32).toInt := by rw [← ev_32]; exact fb_addI (by omega) (by omega)
                        refine j_iinc (pc := 71) (v := v_32) (lv' := [(6, .int v_32), (5, .int 1), (4, .int x4_4), (0, .ref m0), (1, .int p0), (2, .int p1), (3, .int p2)]) C dX11_parts_71 1 rfl ev_32 (by decide) rfl ?_
                        refine j_goto (pc := 74) (tgt := 31) C dX11_parts_74 (by decide) ?_
                        have el_1 : (1 : Int32).toInt = 1 := rfl
                        refine j_subG (ws' := [(mthr, .inl (cyZ, 144, .inl m_thr)), (mrowOfWare, .inl (cyI, 12, .inl g4_mrowOfWare)), (m0, .inr (11, [.int m_thrown, .ref mtape, .int m_taped, .int m_size, .ref msort, .ref mplace, .ref mvalue, .int m_at, .int m_fault, .ref mwords, .ref mtold, .ref mop, .ref marg, .int m_codes, .ref mnames, .ref mhasHabit, .int m_isNew, .ref mfactWords, .ref mfacts, .ref mpile, .ref mstates, .ref misMarked, .int m_inShelf, .int m_inStack, .int m_inPlace, .ref mrow, .int m_rowMany, .ref mthr, .ref mmays, .ref mtall, .ref mweights, .ref mrowOfWare, .ref mneededOf, .int m_goShelf, .int m_goStack, .int m_goLeft, .ref mtried, .ref mbestRow, .int m_bestCost, .int m_bestMany, .int m_bestShelf, .int m_bestSet, .ref mdigits])), (mtold, .inl (cyI, 240, .inl m_told))]) [3, 0, 2, 1] (by decide) rfl ?_
                        exact j_lv [0, 1, 2, 3, 4, 5, 6] rfl (ih_7 v_32 1 (by omega) (by decide) (by omega))
            have el_0 : (0 : Int32).toInt = 0 := rfl
            have el_1 : (1 : Int32).toInt = 1 := rfl
            exact j_lv [0, 1, 2, 3, 4, 5, 6] rfl (loop_7 4096 0 1 (by decide) (by decide) (by omega))
    have el_0 : (0 : Int32).toInt = 0 := rfl
    exact j_lv [0, 1, 2, 3, 4] rfl (loop_4 4096 0 m_rowOfWare (by decide) (by omega))
  · skip
    rw [i_eq] at c_3
    refine j_iconst (pc := 8) (v := 1) C dX11_parts_8 (by decide) ?_
    have el_1 : (1 : Int32).toInt = 1 := rfl
    exact j_zret (pc := 9) C hr rfl hk (fun i => [].getD i 0, fun i => [1].getD i 0, fun i => [m_rowOfWare].getD i (fun _ => 0), fun i => [].getD i (fun _ => 0)) rfl (show (0 ≤ ((1 : Int32)).toInt ∧ ((1 : Int32)).toInt ≤ 1) from (by omega)) [2, 3, 0, 1] (by decide) rfl (by decide) (by decide) dX11_parts_9
set_option maxHeartbeats 4000000 in
set_option maxRecDepth 100000 in
theorem S_fam_c_X11_parts : ∀ n9 : Nat, n9 ≤ 12 → S_c_X11_parts n9 := by
  intro n9
  induction n9 with
  | zero => exact fun _ => c_X11_parts_z
  | succ n9 ih =>
    intro h
    have i := ih (by omega)
    exact (fun l D cyC cyI cyJ cyZ cyO m0 mtold mthr mrowOfWare mtape msort mplace mvalue mwords mop marg mnames mhasHabit mfactWords mfacts mpile mstates misMarked mrow mmays mtall mweights mneededOf mtried mbestRow mdigits p0 p1 p2 m_thrown m_taped m_size m_at m_fault m_codes m_isNew m_inShelf m_inStack m_inPlace m_rowMany m_goShelf m_goStack m_goLeft m_bestCost m_bestMany m_bestShelf m_bestSet m_told m_thr m_rowOfWare h_m_taped h_m_size h_m_at h_m_fault h_m_codes h_m_isNew h_m_inShelf h_m_inStack h_m_inPlace h_m_rowMany h_m_goShelf h_m_bestMany h_m_bestShelf h_p1 h_m_told hpk hu9 hdp9 => c_X11_parts_s l D cyC cyI cyJ cyZ cyO m0 mtold mthr mrowOfWare mtape msort mplace mvalue mwords mop marg mnames mhasHabit mfactWords mfacts mpile mstates misMarked mrow mmays mtall mweights mneededOf mtried mbestRow mdigits p0 p1 p2 m_thrown m_taped m_size m_at m_fault m_codes m_isNew m_inShelf m_inStack m_inPlace m_rowMany m_goShelf m_goStack m_goLeft m_bestCost m_bestMany m_bestShelf m_bestSet m_told m_thr m_rowOfWare n9 h_m_taped h_m_size h_m_at h_m_fault h_m_codes h_m_isNew h_m_inShelf h_m_inStack h_m_inPlace h_m_rowMany h_m_goShelf h_m_bestMany h_m_bestShelf h_p1 h_m_told hpk hu9 hdp9 (by omega) i)
set_option maxHeartbeats 4000000 in
set_option maxRecDepth 100000 in
theorem c_X11_parts_0 (l : Launch) (D : DG) (cyC cyI cyJ cyZ cyO : ClassId) (m0 : Nat) (mtold : Nat) (mthr : Nat) (mrowOfWare : Nat) (mtape : Nat) (msort : Nat) (mplace : Nat) (mvalue : Nat) (mwords : Nat) (mop : Nat) (marg : Nat) (mnames : Nat) (mhasHabit : Nat) (mfactWords : Nat) (mfacts : Nat) (mpile : Nat) (mstates : Nat) (misMarked : Nat) (mrow : Nat) (mmays : Nat) (mtall : Nat) (mweights : Nat) (mneededOf : Nat) (mtried : Nat) (mbestRow : Nat) (mdigits : Nat) (p0 : Int32) (p1 : Int32) (p2 : Int32) (m_thrown : Int32) (m_taped : Int32) (m_size : Int32) (m_at : Int32) (m_fault : Int32) (m_codes : Int32) (m_isNew : Int32) (m_inShelf : Int32) (m_inStack : Int32) (m_inPlace : Int32) (m_rowMany : Int32) (m_goShelf : Int32) (m_goStack : Int32) (m_goLeft : Int32) (m_bestCost : Int32) (m_bestMany : Int32) (m_bestShelf : Int32) (m_bestSet : Int32) (m_told : Nat → Int32) (m_thr : Nat → Int32) (m_rowOfWare : Nat → Int32) (h_m_taped : 0 ≤ (m_taped).toInt ∧ (m_taped).toInt ≤ 1000) (h_m_size : 0 ≤ (m_size).toInt ∧ (m_size).toInt ≤ 1000) (h_m_at : 0 ≤ (m_at).toInt ∧ (m_at).toInt ≤ 1000) (h_m_fault : 0 ≤ (m_fault).toInt ∧ (m_fault).toInt ≤ 16005) (h_m_codes : 0 ≤ (m_codes).toInt ∧ (m_codes).toInt ≤ 1000) (h_m_isNew : 0 ≤ (m_isNew).toInt ∧ (m_isNew).toInt ≤ 1) (h_m_inShelf : 0 ≤ (m_inShelf).toInt ∧ (m_inShelf).toInt ≤ 3) (h_m_inStack : 0 ≤ (m_inStack).toInt ∧ (m_inStack).toInt ≤ 7) (h_m_inPlace : 0 ≤ (m_inPlace).toInt ∧ (m_inPlace).toInt ≤ 11) (h_m_rowMany : 0 ≤ (m_rowMany).toInt ∧ (m_rowMany).toInt ≤ 12) (h_m_goShelf : -1 ≤ (m_goShelf).toInt ∧ (m_goShelf).toInt ≤ 3) (h_m_bestMany : 0 ≤ (m_bestMany).toInt ∧ (m_bestMany).toInt ≤ 7) (h_m_bestShelf : 0 ≤ (m_bestShelf).toInt ∧ (m_bestShelf).toInt ≤ 3) (h_p1 : 0 ≤ (p1).toInt ∧ (p1).toInt ≤ 12) (h_m_told : TV m_told) (hpk : (p0).toInt ≤ (m_told 0).toInt) (hu9 : (p1).toInt ≤ (p0).toInt) (hdp9 : (p0).toInt = 12 - ((12 : Nat) : Int)) : KK l D (TY cyC cyI cyJ cyZ cyO) yX11_parts cX11_parts 7 (some .boolean) ({ frames := 13, cells := 0, slots := 0, locals := 332 } : Room) 0 0 [.ref m0, .int p0, .int p1, .int p2] [(m0, .inr (11, [.int m_thrown, .ref mtape, .int m_taped, .int m_size, .ref msort, .ref mplace, .ref mvalue, .int m_at, .int m_fault, .ref mwords, .ref mtold, .ref mop, .ref marg, .int m_codes, .ref mnames, .ref mhasHabit, .int m_isNew, .ref mfactWords, .ref mfacts, .ref mpile, .ref mstates, .ref misMarked, .int m_inShelf, .int m_inStack, .int m_inPlace, .ref mrow, .int m_rowMany, .ref mthr, .ref mmays, .ref mtall, .ref mweights, .ref mrowOfWare, .ref mneededOf, .int m_goShelf, .int m_goStack, .int m_goLeft, .ref mtried, .ref mbestRow, .int m_bestCost, .int m_bestMany, .int m_bestShelf, .int m_bestSet, .ref mdigits])), (mtold, .inl (cyI, 240, .inl m_told)), (mthr, .inl (cyZ, 144, .inl m_thr)), (mrowOfWare, .inl (cyI, 12, .inl m_rowOfWare))] (fun u => some (.int (u.2.1 0))) (fun u => (0 ≤ (u.2.1 0).toInt ∧ (u.2.1 0).toInt ≤ 1)) (fun u => [(m0, .inr (11, [.int m_thrown, .ref mtape, .int m_taped, .int m_size, .ref msort, .ref mplace, .ref mvalue, .int m_at, .int m_fault, .ref mwords, .ref mtold, .ref mop, .ref marg, .int m_codes, .ref mnames, .ref mhasHabit, .int m_isNew, .ref mfactWords, .ref mfacts, .ref mpile, .ref mstates, .ref misMarked, .int m_inShelf, .int m_inStack, .int m_inPlace, .ref mrow, .int m_rowMany, .ref mthr, .ref mmays, .ref mtall, .ref mweights, .ref mrowOfWare, .ref mneededOf, .int m_goShelf, .int m_goStack, .int m_goLeft, .ref mtried, .ref mbestRow, .int m_bestCost, .int m_bestMany, .int m_bestShelf, .int m_bestSet, .ref mdigits])), (mtold, .inl (cyI, 240, .inl m_told)), (mthr, .inl (cyZ, 144, .inl m_thr)), (mrowOfWare, .inl (cyI, 12, .inl (u.2.2.1 0)))]) := (S_fam_c_X11_parts 12 (Nat.le_refl _)) l D cyC cyI cyJ cyZ cyO m0 mtold mthr mrowOfWare mtape msort mplace mvalue mwords mop marg mnames mhasHabit mfactWords mfacts mpile mstates misMarked mrow mmays mtall mweights mneededOf mtried mbestRow mdigits p0 p1 p2 m_thrown m_taped m_size m_at m_fault m_codes m_isNew m_inShelf m_inStack m_inPlace m_rowMany m_goShelf m_goStack m_goLeft m_bestCost m_bestMany m_bestShelf m_bestSet m_told m_thr m_rowOfWare h_m_taped h_m_size h_m_at h_m_fault h_m_codes h_m_isNew h_m_inShelf h_m_inStack h_m_inPlace h_m_rowMany h_m_goShelf h_m_bestMany h_m_bestShelf h_p1 h_m_told hpk hu9 hdp9
set_option maxHeartbeats 4000000 in
set_option maxRecDepth 100000 in
theorem c_X11_rowOf (l : Launch) (D : DG) (cyC cyI cyJ cyZ cyO : ClassId) (m0 : Nat) (mtold : Nat) (mop : Nat) (marg : Nat) (mfacts : Nat) (mpile : Nat) (mthr : Nat) (mmays : Nat) (mtall : Nat) (mweights : Nat) (mrowOfWare : Nat) (mtape : Nat) (msort : Nat) (mplace : Nat) (mvalue : Nat) (mwords : Nat) (mnames : Nat) (mhasHabit : Nat) (mfactWords : Nat) (mstates : Nat) (misMarked : Nat) (mrow : Nat) (mneededOf : Nat) (mtried : Nat) (mbestRow : Nat) (mdigits : Nat) (p0 : Int32) (m_thrown : Int32) (m_taped : Int32) (m_size : Int32) (m_at : Int32) (m_fault : Int32) (m_codes : Int32) (m_isNew : Int32) (m_inShelf : Int32) (m_inStack : Int32) (m_inPlace : Int32) (m_rowMany : Int32) (m_goShelf : Int32) (m_goStack : Int32) (m_goLeft : Int32) (m_bestCost : Int32) (m_bestMany : Int32) (m_bestShelf : Int32) (m_bestSet : Int32) (m_told : Nat → Int32) (m_op : Nat → Int32) (m_arg : Nat → Int32) (m_facts : Nat → Int32) (m_pile : Nat → Int32) (m_thr : Nat → Int32) (m_mays : Nat → Int32) (m_tall : Nat → Int32) (m_weights : Nat → Int32) (m_rowOfWare : Nat → Int32) (h_m_taped : 0 ≤ (m_taped).toInt ∧ (m_taped).toInt ≤ 1000) (h_m_size : 0 ≤ (m_size).toInt ∧ (m_size).toInt ≤ 1000) (h_m_at : 0 ≤ (m_at).toInt ∧ (m_at).toInt ≤ 1000) (h_m_fault : 0 ≤ (m_fault).toInt ∧ (m_fault).toInt ≤ 16005) (h_m_codes : 0 ≤ (m_codes).toInt ∧ (m_codes).toInt ≤ 1000) (h_m_isNew : 0 ≤ (m_isNew).toInt ∧ (m_isNew).toInt ≤ 1) (h_m_inShelf : 0 ≤ (m_inShelf).toInt ∧ (m_inShelf).toInt ≤ 3) (h_m_inStack : 0 ≤ (m_inStack).toInt ∧ (m_inStack).toInt ≤ 7) (h_m_inPlace : 0 ≤ (m_inPlace).toInt ∧ (m_inPlace).toInt ≤ 11) (h_m_rowMany : 0 ≤ (m_rowMany).toInt ∧ (m_rowMany).toInt ≤ 12) (h_m_goShelf : -1 ≤ (m_goShelf).toInt ∧ (m_goShelf).toInt ≤ 3) (h_m_bestMany : 0 ≤ (m_bestMany).toInt ∧ (m_bestMany).toInt ≤ 7) (h_m_bestShelf : 0 ≤ (m_bestShelf).toInt ∧ (m_bestShelf).toInt ≤ 3) (h_m_told : TV m_told) (h_m_tall : Iv 49152 (0) (100000000) m_tall) (hwf : WFm m_told m_op m_arg) (hTA : (m_isNew).toInt = 0 → TALL m_told m_mays m_tall) : KK l D (TY cyC cyI cyJ cyZ cyO) yX11_rowOf cX11_rowOf 2 (some .int) ({ frames := 14, cells := 0, slots := 0, locals := 358 } : Room) 0 0 [.ref m0, .int p0] [(m0, .inr (11, [.int m_thrown, .ref mtape, .int m_taped, .int m_size, .ref msort, .ref mplace, .ref mvalue, .int m_at, .int m_fault, .ref mwords, .ref mtold, .ref mop, .ref marg, .int m_codes, .ref mnames, .ref mhasHabit, .int m_isNew, .ref mfactWords, .ref mfacts, .ref mpile, .ref mstates, .ref misMarked, .int m_inShelf, .int m_inStack, .int m_inPlace, .ref mrow, .int m_rowMany, .ref mthr, .ref mmays, .ref mtall, .ref mweights, .ref mrowOfWare, .ref mneededOf, .int m_goShelf, .int m_goStack, .int m_goLeft, .ref mtried, .ref mbestRow, .int m_bestCost, .int m_bestMany, .int m_bestShelf, .int m_bestSet, .ref mdigits])), (mtold, .inl (cyI, 240, .inl m_told)), (mop, .inl (cyI, 2200, .inl m_op)), (marg, .inl (cyI, 2200, .inl m_arg)), (mfacts, .inl (cyI, 8, .inl m_facts)), (mpile, .inl (cyI, 1100, .inl m_pile)), (mthr, .inl (cyZ, 144, .inl m_thr)), (mmays, .inl (cyZ, 144, .inl m_mays)), (mtall, .inl (cyI, 49152, .inl m_tall)), (mweights, .inl (cyI, 4096, .inl m_weights)), (mrowOfWare, .inl (cyI, 12, .inl m_rowOfWare))] (fun u => some (.int (u.2.1 0))) (fun u => (0 ≤ (u.2.1 1).toInt ∧ (u.2.1 1).toInt ≤ 1) ∧ (Iv 49152 (0) (100000000) (u.2.2.1 4)) ∧ (((u.2.1 1)).toInt = 0 → TALL m_told (u.2.2.1 3) (u.2.2.1 4))) (fun u => [(m0, .inr (11, [.int 0, .ref mtape, .int m_taped, .int m_size, .ref msort, .ref mplace, .ref mvalue, .int m_at, .int m_fault, .ref mwords, .ref mtold, .ref mop, .ref marg, .int m_codes, .ref mnames, .ref mhasHabit, .int (u.2.1 1), .ref mfactWords, .ref mfacts, .ref mpile, .ref mstates, .ref misMarked, .int m_inShelf, .int m_inStack, .int m_inPlace, .ref mrow, .int m_rowMany, .ref mthr, .ref mmays, .ref mtall, .ref mweights, .ref mrowOfWare, .ref mneededOf, .int m_goShelf, .int m_goStack, .int m_goLeft, .ref mtried, .ref mbestRow, .int m_bestCost, .int m_bestMany, .int m_bestShelf, .int m_bestSet, .ref mdigits])), (mtold, .inl (cyI, 240, .inl m_told)), (mop, .inl (cyI, 2200, .inl m_op)), (marg, .inl (cyI, 2200, .inl m_arg)), (mfacts, .inl (cyI, 8, .inl (u.2.2.1 0))), (mpile, .inl (cyI, 1100, .inl (u.2.2.1 1))), (mthr, .inl (cyZ, 144, .inl (u.2.2.1 2))), (mmays, .inl (cyZ, 144, .inl (u.2.2.1 3))), (mtall, .inl (cyI, 49152, .inl (u.2.2.1 4))), (mweights, .inl (cyI, 4096, .inl (u.2.2.1 5))), (mrowOfWare, .inl (cyI, 12, .inl (u.2.2.1 6)))]) := by
  refine KK.of (lv0 := [(0, .ref m0), (1, .int p0)]) (by decide) rfl (Nat.le_of_ble_eq_true rfl) ?_
  intro p e s m args below meth c A C hr hk hin
  refine j_aload_n (pc := 0) C dX11_rowOf_0 rfl 0 rfl ?_
  refine j_iconst (pc := 1) (v := 0) C dX11_rowOf_1 (by decide) ?_
  refine j_put (pc := 2) (ci := 11) (v := .int 0) (ws' := [(m0, .inr (11, [.int 0, .ref mtape, .int m_taped, .int m_size, .ref msort, .ref mplace, .ref mvalue, .int m_at, .int m_fault, .ref mwords, .ref mtold, .ref mop, .ref marg, .int m_codes, .ref mnames, .ref mhasHabit, .int m_isNew, .ref mfactWords, .ref mfacts, .ref mpile, .ref mstates, .ref misMarked, .int m_inShelf, .int m_inStack, .int m_inPlace, .ref mrow, .int m_rowMany, .ref mthr, .ref mmays, .ref mtall, .ref mweights, .ref mrowOfWare, .ref mneededOf, .int m_goShelf, .int m_goStack, .int m_goLeft, .ref mtried, .ref mbestRow, .int m_bestCost, .int m_bestMany, .int m_bestShelf, .int m_bestSet, .ref mdigits])), (mtold, .inl (cyI, 240, .inl m_told)), (mop, .inl (cyI, 2200, .inl m_op)), (marg, .inl (cyI, 2200, .inl m_arg)), (mfacts, .inl (cyI, 8, .inl m_facts)), (mpile, .inl (cyI, 1100, .inl m_pile)), (mthr, .inl (cyZ, 144, .inl m_thr)), (mmays, .inl (cyZ, 144, .inl m_mays)), (mtall, .inl (cyI, 49152, .inl m_tall)), (mweights, .inl (cyI, 4096, .inl m_weights)), (mrowOfWare, .inl (cyI, 12, .inl m_rowOfWare))]) C inw_11 0 rfl rfl 0 (by decide) wd_629 rfl tyX11_ok nmX11 rfl (tyX11_ok 0 (by decide)) rfl rfl (Nat.le_of_ble_eq_true rfl) dX11_rowOf_2 rfl ?_
  refine j_aload_n (pc := 5) C dX11_rowOf_5 rfl 0 rfl ?_
  refine j_iload_n (pc := 6) C dX11_rowOf_6 rfl 1 rfl ?_
  refine j_callV (pc := 7) (As := [.int p0]) (rest := []) (wr := [(mop, .inl (cyI, 2200, .inl m_op)), (marg, .inl (cyI, 2200, .inl m_arg)), (mfacts, .inl (cyI, 8, .inl m_facts)), (mpile, .inl (cyI, 1100, .inl m_pile)), (mthr, .inl (cyZ, 144, .inl m_thr)), (mmays, .inl (cyZ, 144, .inl m_mays)), (mtall, .inl (cyI, 49152, .inl m_tall)), (mweights, .inl (cyI, 4096, .inl m_weights)), (mrowOfWare, .inl (cyI, 12, .inl m_rowOfWare))]) C (c_X11_isWare l D cyC cyI cyJ cyZ cyO m0 mtold mtape msort mplace mvalue mwords mop marg mnames mhasHabit mfactWords mfacts mpile mstates misMarked mrow mthr mmays mtall mweights mrowOfWare mneededOf mtried mbestRow mdigits p0 0 m_taped m_size m_at m_fault m_codes m_isNew m_inShelf m_inStack m_inPlace m_rowMany m_goShelf m_goStack m_goLeft m_bestCost m_bestMany m_bestShelf m_bestSet m_told h_m_taped h_m_size h_m_at h_m_fault h_m_codes h_m_isNew h_m_inShelf h_m_inStack h_m_inPlace h_m_rowMany h_m_goShelf h_m_bestMany h_m_bestShelf h_m_told) wd_814 wd_624 wd_815 wd_816 wd_817 ⟨by decide, by decide, rfl⟩ rfl ⟨rfl, rfl, by decide, by decide⟩ ⟨by decide, by decide⟩ [0, 1] [2, 3, 4, 5, 6, 7, 8, 9, 10] rfl rfl ⟨by decide, by decide, by decide⟩ 0 rfl rfl rfl (Nat.le_of_ble_eq_true rfl) dX11_rowOf_7 (fun u_1 hw_2 => ?_)
  refine j_eq (ws2 := [(mop, .inl (cyI, 2200, .inl m_op)), (marg, .inl (cyI, 2200, .inl m_arg)), (mfacts, .inl (cyI, 8, .inl m_facts)), (mpile, .inl (cyI, 1100, .inl m_pile)), (mthr, .inl (cyZ, 144, .inl m_thr)), (mmays, .inl (cyZ, 144, .inl m_mays)), (mtall, .inl (cyI, 49152, .inl m_tall)), (mweights, .inl (cyI, 4096, .inl m_weights)), (mrowOfWare, .inl (cyI, 12, .inl m_rowOfWare)), (m0, .inr (11, [.int 0, .ref mtape, .int m_taped, .int m_size, .ref msort, .ref mplace, .ref mvalue, .int m_at, .int m_fault, .ref mwords, .ref mtold, .ref mop, .ref marg, .int m_codes, .ref mnames, .ref mhasHabit, .int m_isNew, .ref mfactWords, .ref mfacts, .ref mpile, .ref mstates, .ref misMarked, .int m_inShelf, .int m_inStack, .int m_inPlace, .ref mrow, .int m_rowMany, .ref mthr, .ref mmays, .ref mtall, .ref mweights, .ref mrowOfWare, .ref mneededOf, .int m_goShelf, .int m_goStack, .int m_goLeft, .ref mtried, .ref mbestRow, .int m_bestCost, .int m_bestMany, .int m_bestShelf, .int m_bestSet, .ref mdigits])), (mtold, .inl (cyI, 240, .inl m_told))]) (pc2 := 10) (lv2 := [(0, .ref m0), (1, .int p0)]) (st2 := [.int (u_1.2.1 0)]) rfl rfl rfl rfl ?_
  obtain ⟨hw_2_0, hw_2_1, hw_2_2⟩ := hw_2
  refine j_if_eq (pc := 10) (tgt := 20) C dX11_rowOf_10 (by decide) (fun c_3 => ?_) (fun c_3 => ?_)
  · skip
    have el_0 : (0 : Int32).toInt = 0 := rfl
    rw [i_eq] at c_3
    refine j_iconst (pc := 20) (v := (-1)) C dX11_rowOf_20 (by decide) ?_
    have el_m1 : ((-1) : Int32).toInt = (-1) := rfl
    exact j_iret (pc := 21) C hr hk (fun i => [].getD i 0, fun i => [(-1), m_isNew].getD i 0, fun i => [m_facts, m_pile, m_thr, m_mays, m_tall, m_weights, m_rowOfWare].getD i (fun _ => 0), fun i => [].getD i (fun _ => 0)) rfl (show (0 ≤ (m_isNew).toInt ∧ (m_isNew).toInt ≤ 1) ∧ (Iv 49152 (0) (100000000) m_tall) ∧ ((m_isNew).toInt = 0 → TALL m_told m_mays m_tall) from ⟨h_m_isNew, h_m_tall, hTA⟩) [9, 10, 0, 1, 2, 3, 4, 5, 6, 7, 8] (by decide) rfl (by decide) (by decide) dX11_rowOf_21
  · skip
    have el_0 : (0 : Int32).toInt = 0 := rfl
    rw [i_eq] at c_3
    have k0c_3 : ((u_1.2.1 0)).toInt = 1 := by omega
    refine j_aload_n (pc := 13) C dX11_rowOf_13 rfl 0 rfl ?_
    refine j_callV (pc := 14) (As := []) (rest := []) (wr := [(mrowOfWare, .inl (cyI, 12, .inl m_rowOfWare))]) C (c_X11_isRound l D cyC cyI cyJ cyZ cyO m0 mtold mop marg mfacts mpile mthr mmays mtall mweights mtape msort mplace mvalue mwords mnames mhasHabit mfactWords mstates misMarked mrow mrowOfWare mneededOf mtried mbestRow mdigits 0 m_taped m_size m_at m_fault m_codes m_isNew m_inShelf m_inStack m_inPlace m_rowMany m_goShelf m_goStack m_goLeft m_bestCost m_bestMany m_bestShelf m_bestSet m_told m_op m_arg m_facts m_pile m_thr m_mays m_tall m_weights h_m_taped h_m_size h_m_at h_m_fault h_m_codes h_m_isNew h_m_inShelf h_m_inStack h_m_inPlace h_m_rowMany h_m_goShelf h_m_bestMany h_m_bestShelf h_m_told h_m_tall hwf hTA) wd_927 wd_624 wd_928 wd_929 wd_930 ⟨by decide, by decide, rfl⟩ rfl ⟨rfl, rfl, by decide, by decide⟩ ⟨by decide, by decide⟩ [9, 10, 0, 1, 2, 3, 4, 5, 6, 7] [8] rfl rfl ⟨by decide, by decide, by decide⟩ 9 rfl rfl rfl (Nat.le_of_ble_eq_true rfl) dX11_rowOf_14 (fun u_4 hw_5 => ?_)
    refine j_eq (ws2 := [(mrowOfWare, .inl (cyI, 12, .inl m_rowOfWare)), (m0, .inr (11, [.int 0, .ref mtape, .int m_taped, .int m_size, .ref msort, .ref mplace, .ref mvalue, .int m_at, .int m_fault, .ref mwords, .ref mtold, .ref mop, .ref marg, .int m_codes, .ref mnames, .ref mhasHabit, .int (u_4.2.1 1), .ref mfactWords, .ref mfacts, .ref mpile, .ref mstates, .ref misMarked, .int m_inShelf, .int m_inStack, .int m_inPlace, .ref mrow, .int m_rowMany, .ref mthr, .ref mmays, .ref mtall, .ref mweights, .ref mrowOfWare, .ref mneededOf, .int m_goShelf, .int m_goStack, .int m_goLeft, .ref mtried, .ref mbestRow, .int m_bestCost, .int m_bestMany, .int m_bestShelf, .int m_bestSet, .ref mdigits])), (mtold, .inl (cyI, 240, .inl m_told)), (mop, .inl (cyI, 2200, .inl m_op)), (marg, .inl (cyI, 2200, .inl m_arg)), (mfacts, .inl (cyI, 8, .inl (u_4.2.2.1 0))), (mpile, .inl (cyI, 1100, .inl (u_4.2.2.1 1))), (mthr, .inl (cyZ, 144, .inl (u_4.2.2.1 2))), (mmays, .inl (cyZ, 144, .inl (u_4.2.2.1 3))), (mtall, .inl (cyI, 49152, .inl (u_4.2.2.1 4))), (mweights, .inl (cyI, 4096, .inl (u_4.2.2.1 5)))]) (pc2 := 17) (lv2 := [(0, .ref m0), (1, .int p0)]) (st2 := [.int (u_4.2.1 0)]) rfl rfl rfl rfl ?_
    obtain ⟨hw_5_0, hw_5_1, hw_5_2, hw_5_3⟩ := hw_5
    refine j_if_eq (pc := 17) (tgt := 22) C dX11_rowOf_17 (by decide) (fun c_6 => ?_) (fun c_6 => ?_)
    · skip
      have el_0 : (0 : Int32).toInt = 0 := rfl
      rw [i_eq] at c_6
      have hw9 := (h_m_told 0 (by decide)).1
      refine j_aload_n (pc := 22) C dX11_rowOf_22 rfl 0 rfl ?_
      refine j_iconst (pc := 23) (v := 0) C dX11_rowOf_23 (by decide) ?_
      refine j_iconst (pc := 24) (v := 0) C dX11_rowOf_24 (by decide) ?_
      refine j_aload_n (pc := 25) C dX11_rowOf_25 rfl 0 rfl ?_
      refine j_callV (pc := 26) (As := []) (rest := [.int 0, .int 0, .ref m0]) (wr := [(mrowOfWare, .inl (cyI, 12, .inl m_rowOfWare)), (mop, .inl (cyI, 2200, .inl m_op)), (marg, .inl (cyI, 2200, .inl m_arg)), (mfacts, .inl (cyI, 8, .inl (u_4.2.2.1 0))), (mpile, .inl (cyI, 1100, .inl (u_4.2.2.1 1))), (mmays, .inl (cyZ, 144, .inl (u_4.2.2.1 3))), (mtall, .inl (cyI, 49152, .inl (u_4.2.2.1 4))), (mweights, .inl (cyI, 4096, .inl (u_4.2.2.1 5)))]) C (c_X11_findApart l D cyC cyI cyJ cyZ cyO m0 mtold mthr mtape msort mplace mvalue mwords mop marg mnames mhasHabit mfactWords mfacts mpile mstates misMarked mrow mmays mtall mweights mrowOfWare mneededOf mtried mbestRow mdigits 0 m_taped m_size m_at m_fault m_codes (u_4.2.1 1) m_inShelf m_inStack m_inPlace m_rowMany m_goShelf m_goStack m_goLeft m_bestCost m_bestMany m_bestShelf m_bestSet m_told (u_4.2.2.1 2) h_m_taped h_m_size h_m_at h_m_fault h_m_codes (by omega) h_m_inShelf h_m_inStack h_m_inPlace h_m_rowMany h_m_goShelf h_m_bestMany h_m_bestShelf h_m_told) wd_931 wd_624 wd_932 wd_933 wd_934 ⟨by decide, by decide, rfl⟩ rfl ⟨rfl, rfl, by decide, by decide⟩ ⟨by decide, by decide⟩ [1, 2, 7] [0, 3, 4, 5, 6, 8, 9, 10] rfl rfl ⟨by decide, by decide, by decide⟩ 1 rfl rfl rfl (Nat.le_of_ble_eq_true rfl) dX11_rowOf_26 (fun u_7 hw_8 => ?_)
      refine j_eq (ws2 := [(mrowOfWare, .inl (cyI, 12, .inl m_rowOfWare)), (mop, .inl (cyI, 2200, .inl m_op)), (marg, .inl (cyI, 2200, .inl m_arg)), (mfacts, .inl (cyI, 8, .inl (u_4.2.2.1 0))), (mpile, .inl (cyI, 1100, .inl (u_4.2.2.1 1))), (mmays, .inl (cyZ, 144, .inl (u_4.2.2.1 3))), (mtall, .inl (cyI, 49152, .inl (u_4.2.2.1 4))), (mweights, .inl (cyI, 4096, .inl (u_4.2.2.1 5))), (m0, .inr (11, [.int 0, .ref mtape, .int m_taped, .int m_size, .ref msort, .ref mplace, .ref mvalue, .int m_at, .int m_fault, .ref mwords, .ref mtold, .ref mop, .ref marg, .int m_codes, .ref mnames, .ref mhasHabit, .int (u_4.2.1 1), .ref mfactWords, .ref mfacts, .ref mpile, .ref mstates, .ref misMarked, .int m_inShelf, .int m_inStack, .int m_inPlace, .ref mrow, .int m_rowMany, .ref mthr, .ref mmays, .ref mtall, .ref mweights, .ref mrowOfWare, .ref mneededOf, .int m_goShelf, .int m_goStack, .int m_goLeft, .ref mtried, .ref mbestRow, .int m_bestCost, .int m_bestMany, .int m_bestShelf, .int m_bestSet, .ref mdigits])), (mtold, .inl (cyI, 240, .inl m_told)), (mthr, .inl (cyZ, 144, .inl (u_4.2.2.1 2)))]) (pc2 := 29) (lv2 := [(0, .ref m0), (1, .int p0)]) (st2 := [.int (u_7.2.1 0), .int 0, .int 0, .ref m0]) rfl rfl rfl rfl ?_
      refine j_callS (pc := 29) (As := [.int (u_7.2.1 0)]) (rest := [.int 0, .int 0, .ref m0]) (wr := [(mrowOfWare, .inl (cyI, 12, .inl m_rowOfWare)), (mop, .inl (cyI, 2200, .inl m_op)), (marg, .inl (cyI, 2200, .inl m_arg)), (mfacts, .inl (cyI, 8, .inl (u_4.2.2.1 0))), (mpile, .inl (cyI, 1100, .inl (u_4.2.2.1 1))), (mmays, .inl (cyZ, 144, .inl (u_4.2.2.1 3))), (mtall, .inl (cyI, 49152, .inl (u_4.2.2.1 4))), (mweights, .inl (cyI, 4096, .inl (u_4.2.2.1 5))), (m0, .inr (11, [.int 0, .ref mtape, .int m_taped, .int m_size, .ref msort, .ref mplace, .ref mvalue, .int m_at, .int m_fault, .ref mwords, .ref mtold, .ref mop, .ref marg, .int m_codes, .ref mnames, .ref mhasHabit, .int (u_4.2.1 1), .ref mfactWords, .ref mfacts, .ref mpile, .ref mstates, .ref misMarked, .int m_inShelf, .int m_inStack, .int m_inPlace, .ref mrow, .int m_rowMany, .ref mthr, .ref mmays, .ref mtall, .ref mweights, .ref mrowOfWare, .ref mneededOf, .int m_goShelf, .int m_goStack, .int m_goLeft, .ref mtried, .ref mbestRow, .int m_bestCost, .int m_bestMany, .int m_bestShelf, .int m_bestSet, .ref mdigits])), (mtold, .inl (cyI, 240, .inl m_told)), (mthr, .inl (cyZ, 144, .inl (u_4.2.2.1 2)))]) C (c_X11_bits l D cyC cyI cyJ cyZ cyO (u_7.2.1 0)) wd_916 wd_624 wd_917 wd_918 ⟨by decide, by decide, rfl⟩ rfl ⟨rfl, rfl, by decide, by decide⟩ ⟨by decide, by decide⟩ [] [0, 1, 2, 3, 4, 5, 6, 7, 8, 9, 10] rfl rfl ⟨by decide, by decide, by decide⟩ rfl (Nat.le_of_ble_eq_true rfl) dX11_rowOf_29 (fun u_9 hw_10 => ?_)
      refine j_eq (ws2 := [(mrowOfWare, .inl (cyI, 12, .inl m_rowOfWare)), (mop, .inl (cyI, 2200, .inl m_op)), (marg, .inl (cyI, 2200, .inl m_arg)), (mfacts, .inl (cyI, 8, .inl (u_4.2.2.1 0))), (mpile, .inl (cyI, 1100, .inl (u_4.2.2.1 1))), (mmays, .inl (cyZ, 144, .inl (u_4.2.2.1 3))), (mtall, .inl (cyI, 49152, .inl (u_4.2.2.1 4))), (mweights, .inl (cyI, 4096, .inl (u_4.2.2.1 5))), (m0, .inr (11, [.int 0, .ref mtape, .int m_taped, .int m_size, .ref msort, .ref mplace, .ref mvalue, .int m_at, .int m_fault, .ref mwords, .ref mtold, .ref mop, .ref marg, .int m_codes, .ref mnames, .ref mhasHabit, .int (u_4.2.1 1), .ref mfactWords, .ref mfacts, .ref mpile, .ref mstates, .ref misMarked, .int m_inShelf, .int m_inStack, .int m_inPlace, .ref mrow, .int m_rowMany, .ref mthr, .ref mmays, .ref mtall, .ref mweights, .ref mrowOfWare, .ref mneededOf, .int m_goShelf, .int m_goStack, .int m_goLeft, .ref mtried, .ref mbestRow, .int m_bestCost, .int m_bestMany, .int m_bestShelf, .int m_bestSet, .ref mdigits])), (mtold, .inl (cyI, 240, .inl m_told)), (mthr, .inl (cyZ, 144, .inl (u_4.2.2.1 2)))]) (pc2 := 32) (lv2 := [(0, .ref m0), (1, .int p0)]) (st2 := [.int (u_9.2.1 0), .int 0, .int 0, .ref m0]) rfl rfl rfl rfl ?_
      obtain ⟨hw_10_0, hw_10_1⟩ := hw_10
      refine j_callV (pc := 32) (As := [.int 0, .int 0, .int (u_9.2.1 0)]) (rest := []) (wr := [(mop, .inl (cyI, 2200, .inl m_op)), (marg, .inl (cyI, 2200, .inl m_arg)), (mfacts, .inl (cyI, 8, .inl (u_4.2.2.1 0))), (mpile, .inl (cyI, 1100, .inl (u_4.2.2.1 1))), (mmays, .inl (cyZ, 144, .inl (u_4.2.2.1 3))), (mtall, .inl (cyI, 49152, .inl (u_4.2.2.1 4))), (mweights, .inl (cyI, 4096, .inl (u_4.2.2.1 5)))]) C (c_X11_parts_0 l D cyC cyI cyJ cyZ cyO m0 mtold mthr mrowOfWare mtape msort mplace mvalue mwords mop marg mnames mhasHabit mfactWords mfacts mpile mstates misMarked mrow mmays mtall mweights mneededOf mtried mbestRow mdigits 0 0 (u_9.2.1 0) 0 m_taped m_size m_at m_fault m_codes (u_4.2.1 1) m_inShelf m_inStack m_inPlace m_rowMany m_goShelf m_goStack m_goLeft m_bestCost m_bestMany m_bestShelf m_bestSet m_told (u_4.2.2.1 2) m_rowOfWare h_m_taped h_m_size h_m_at h_m_fault h_m_codes (by omega) h_m_inShelf h_m_inStack h_m_inPlace h_m_rowMany h_m_goShelf h_m_bestMany h_m_bestShelf (by decide) h_m_told (by omega) (by omega) (by decide)) wd_936 wd_624 wd_937 wd_938 wd_939 ⟨by decide, by decide, rfl⟩ rfl ⟨rfl, rfl, by decide, by decide⟩ ⟨by decide, by decide⟩ [8, 9, 10, 0] [1, 2, 3, 4, 5, 6, 7] rfl rfl ⟨by decide, by decide, by decide⟩ 8 rfl rfl rfl (Nat.le_of_ble_eq_true rfl) dX11_rowOf_32 (fun u_11 hw_12 => ?_)
      refine j_eq (ws2 := [(mop, .inl (cyI, 2200, .inl m_op)), (marg, .inl (cyI, 2200, .inl m_arg)), (mfacts, .inl (cyI, 8, .inl (u_4.2.2.1 0))), (mpile, .inl (cyI, 1100, .inl (u_4.2.2.1 1))), (mmays, .inl (cyZ, 144, .inl (u_4.2.2.1 3))), (mtall, .inl (cyI, 49152, .inl (u_4.2.2.1 4))), (mweights, .inl (cyI, 4096, .inl (u_4.2.2.1 5))), (m0, .inr (11, [.int 0, .ref mtape, .int m_taped, .int m_size, .ref msort, .ref mplace, .ref mvalue, .int m_at, .int m_fault, .ref mwords, .ref mtold, .ref mop, .ref marg, .int m_codes, .ref mnames, .ref mhasHabit, .int (u_4.2.1 1), .ref mfactWords, .ref mfacts, .ref mpile, .ref mstates, .ref misMarked, .int m_inShelf, .int m_inStack, .int m_inPlace, .ref mrow, .int m_rowMany, .ref mthr, .ref mmays, .ref mtall, .ref mweights, .ref mrowOfWare, .ref mneededOf, .int m_goShelf, .int m_goStack, .int m_goLeft, .ref mtried, .ref mbestRow, .int m_bestCost, .int m_bestMany, .int m_bestShelf, .int m_bestSet, .ref mdigits])), (mtold, .inl (cyI, 240, .inl m_told)), (mthr, .inl (cyZ, 144, .inl (u_4.2.2.1 2))), (mrowOfWare, .inl (cyI, 12, .inl (u_11.2.2.1 0)))]) (pc2 := 35) (lv2 := [(0, .ref m0), (1, .int p0)]) (st2 := [.int (u_11.2.1 0)]) rfl rfl rfl rfl ?_
      have hw_12_0 : 0 ≤ (u_11.2.1 0).toInt ∧ (u_11.2.1 0).toInt ≤ 1 := hw_12
      refine j_pop (pc := 35) C dX11_rowOf_35 rfl ?_
      refine j_aload_n (pc := 36) C dX11_rowOf_36 rfl 0 rfl ?_
      refine j_get (pc := 37) (ci := 11) (v := .ref mrowOfWare) C inw_11 7 rfl rfl 31 (by decide) wd_935 rfl rfl dX11_rowOf_37 ?_
      refine j_iload_n (pc := 40) C dX11_rowOf_40 rfl 1 rfl ?_
      obtain ⟨v_13, ev_13⟩ : ∃ z, (u_11.2.2.1 0) (p0).toInt.toNat = z := ⟨_, rfl⟩
      have env_13 : ((u_11.2.2.1 0) (p0).toInt.toNat).toInt = v_13.toInt := by rw [ev_13]
      refine j_iald (pc := 41) (v := v_13) (k := (p0).toInt.toNat) C 10 1 rfl rfl (i_nn (by omega)) rfl (i_lt_n (by omega) (by omega)) ev_13 dX11_rowOf_41 ?_
      exact j_iret (pc := 42) C hr hk (fun i => [].getD i 0, fun i => [v_13, (u_4.2.1 1)].getD i 0, fun i => [(u_4.2.2.1 0), (u_4.2.2.1 1), (u_4.2.2.1 2), (u_4.2.2.1 3), (u_4.2.2.1 4), (u_4.2.2.1 5), (u_11.2.2.1 0)].getD i (fun _ => 0), fun i => [].getD i (fun _ => 0)) rfl (show (0 ≤ ((u_4.2.1 1)).toInt ∧ ((u_4.2.1 1)).toInt ≤ 1) ∧ (Iv 49152 (0) (100000000) (u_4.2.2.1 4)) ∧ (((u_4.2.1 1)).toInt = 0 → TALL m_told (u_4.2.2.1 3) (u_4.2.2.1 4)) from ⟨by omega, hw_5_2, (fun _ => (hw_5_3 (by omega)))⟩) [7, 8, 0, 1, 2, 3, 9, 4, 5, 6, 10] (by decide) rfl (by decide) (by decide) dX11_rowOf_42
    · skip
      have el_0 : (0 : Int32).toInt = 0 := rfl
      rw [i_eq] at c_6
      have k0c_6 : ((u_4.2.1 0)).toInt = 1 := by omega
      refine j_iconst (pc := 20) (v := (-1)) C dX11_rowOf_20 (by decide) ?_
      have el_m1 : ((-1) : Int32).toInt = (-1) := rfl
      exact j_iret (pc := 21) C hr hk (fun i => [].getD i 0, fun i => [(-1), (u_4.2.1 1)].getD i 0, fun i => [(u_4.2.2.1 0), (u_4.2.2.1 1), (u_4.2.2.1 2), (u_4.2.2.1 3), (u_4.2.2.1 4), (u_4.2.2.1 5), m_rowOfWare].getD i (fun _ => 0), fun i => [].getD i (fun _ => 0)) rfl (show (0 ≤ ((u_4.2.1 1)).toInt ∧ ((u_4.2.1 1)).toInt ≤ 1) ∧ (Iv 49152 (0) (100000000) (u_4.2.2.1 4)) ∧ (((u_4.2.1 1)).toInt = 0 → TALL m_told (u_4.2.2.1 3) (u_4.2.2.1 4)) from ⟨by omega, hw_5_2, (fun _ => (hw_5_3 (by omega)))⟩) [1, 2, 3, 4, 5, 6, 7, 8, 9, 10, 0] (by decide) rfl (by decide) (by decide) dX11_rowOf_21
