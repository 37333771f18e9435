theorem wd_332 : Cond.code yX5_fact cX5_fact 1 (some .int) ∈ WALL := wl_in (by decide +kernel) (by decide +kernel)
theorem wd_333 : Cond.methodLink RX5 232 yX5_fact ∈ WALL := wl_in (by decide +kernel) (by decide +kernel)
theorem wd_334 : Cond.instanceMethod yX5_fact ∈ WALL := wl_in (by decide +kernel) (by decide +kernel)
theorem wd_335 : Cond.selects RX5 yX5_fact yX5_fact ∈ WALL := wl_in (by decide +kernel) (by decide +kernel)
theorem wd_336 : Cond.code yX5_readPart cX5_readPart 6 (some .boolean) ∈ WALL := wl_in (by decide +kernel) (by decide +kernel)
theorem wd_337 : Cond.methodLink RX5 216 yX5_readPart ∈ WALL := wl_in (by decide +kernel) (by decide +kernel)
theorem wd_338 : Cond.instanceMethod yX5_readPart ∈ WALL := wl_in (by decide +kernel) (by decide +kernel)
theorem wd_339 : Cond.selects RX5 yX5_readPart yX5_readPart ∈ WALL := wl_in (by decide +kernel) (by decide +kernel)
theorem wd_340 : Cond.code yX5_readChain cX5_readChain 7 (some .boolean) ∈ WALL := wl_in (by decide +kernel) (by decide +kernel)
theorem wd_341 : Cond.methodLink RX5 192 yX5_readChain ∈ WALL := wl_in (by decide +kernel) (by decide +kernel)
theorem wd_342 : Cond.instanceMethod yX5_readChain ∈ WALL := wl_in (by decide +kernel) (by decide +kernel)
theorem wd_343 : Cond.selects RX5 yX5_readChain yX5_readChain ∈ WALL := wl_in (by decide +kernel) (by decide +kernel)
theorem wd_344 : Cond.fieldLink RX5 21 "BowlShelf$Reader" "nests" "LBowlShelf$Nests;" ∈ WALL := wl_in (by decide +kernel) (by decide +kernel)
theorem wd_345 : Cond.code yX1_add cX1_add 2 none ∈ WALL := wl_in (by decide +kernel) (by decide +kernel)
theorem wd_346 : Cond.methodLink RX5 222 yX1_add ∈ WALL := wl_in (by decide +kernel) (by decide +kernel)
theorem wd_347 : Cond.instanceMethod yX1_add ∈ WALL := wl_in (by decide +kernel) (by decide +kernel)
theorem wd_348 : Cond.selects RX1 yX1_add yX1_add ∈ WALL := wl_in (by decide +kernel) (by decide +kernel)
theorem wd_349 : Cond.code yX5_joint cX5_joint 2 (some .int) ∈ WALL := wl_in (by decide +kernel) (by decide +kernel)
theorem wd_350 : Cond.methodLink RX5 219 yX5_joint ∈ WALL := wl_in (by decide +kernel) (by decide +kernel)
theorem wd_351 : Cond.instanceMethod yX5_joint ∈ WALL := wl_in (by decide +kernel) (by decide +kernel)
theorem wd_352 : Cond.selects RX5 yX5_joint yX5_joint ∈ WALL := wl_in (by decide +kernel) (by decide +kernel)
theorem wd_353 : Cond.code yX5_readSign cX5_readSign 2 (some .boolean) ∈ WALL := wl_in (by decide +kernel) (by decide +kernel)
theorem wd_354 : Cond.methodLink RX5 152 yX5_readSign ∈ WALL := wl_in (by decide +kernel) (by decide +kernel)
theorem wd_355 : Cond.instanceMethod yX5_readSign ∈ WALL := wl_in (by decide +kernel) (by decide +kernel)
theorem wd_356 : Cond.selects RX5 yX5_readSign yX5_readSign ∈ WALL := wl_in (by decide +kernel) (by decide +kernel)
theorem dX5_readPart_0 : decode cX5_readPart 0 = .ok (.aload_n 0, 1) := by decide +kernel
theorem dX5_readPart_1 : decode cX5_readPart 1 = .ok (.getfield 12, 3) := by decide +kernel
theorem dX5_readPart_4 : decode cX5_readPart 4 = .ok (.ldc 230, 2) := by decide +kernel
theorem dX5_readPart_6 : decode cX5_readPart 6 = .ok (.invokevirtual 88, 3) := by decide +kernel
theorem dX5_readPart_9 : decode cX5_readPart 9 = .ok (.istore_n 2, 1) := by decide +kernel
theorem dX5_readPart_10 : decode cX5_readPart 10 = .ok (.aload_n 0, 1) := by decide +kernel
theorem dX5_readPart_11 : decode cX5_readPart 11 = .ok (.getfield 12, 3) := by decide +kernel
theorem dX5_readPart_14 : decode cX5_readPart 14 = .ok (.bipush 40, 2) := by decide +kernel
theorem dX5_readPart_16 : decode cX5_readPart 16 = .ok (.invokevirtual 213, 3) := by decide +kernel
theorem dX5_readPart_19 : decode cX5_readPart 19 = .ok (.istore_n 3, 1) := by decide +kernel
theorem dX5_readPart_20 : decode cX5_readPart 20 = .ok (.aload_n 0, 1) := by decide +kernel
theorem dX5_readPart_21 : decode cX5_readPart 21 = .ok (.getfield 12, 3) := by decide +kernel
theorem dX5_readPart_24 : decode cX5_readPart 24 = .ok (.getfield 53, 3) := by decide +kernel
theorem dX5_readPart_27 : decode cX5_readPart 27 = .ok (.iconst 2, 1) := by decide +kernel
theorem dX5_readPart_28 : decode cX5_readPart 28 = .ok (.if_icmp .ne 13, 3) := by decide +kernel
theorem dX5_readPart_31 : decode cX5_readPart 31 = .ok (.aload_n 0, 1) := by decide +kernel
theorem dX5_readPart_32 : decode cX5_readPart 32 = .ok (.getfield 12, 3) := by decide +kernel
theorem dX5_readPart_35 : decode cX5_readPart 35 = .ok (.getfield 210, 3) := by decide +kernel
theorem dX5_readPart_38 : decode cX5_readPart 38 = .ok (.goto 7, 3) := by decide +kernel
theorem dX5_readPart_41 : decode cX5_readPart 41 = .ok (.aload_n 0, 1) := by decide +kernel
theorem dX5_readPart_42 : decode cX5_readPart 42 = .ok (.invokevirtual 232, 3) := by decide +kernel
theorem dX5_readPart_45 : decode cX5_readPart 45 = .ok (.istore 4, 2) := by decide +kernel
theorem dX5_readPart_47 : decode cX5_readPart 47 = .ok (.iload_n 2, 1) := by decide +kernel
theorem dX5_readPart_48 : decode cX5_readPart 48 = .ok (.ifCond .ne 20, 3) := by decide +kernel
theorem dX5_readPart_51 : decode cX5_readPart 51 = .ok (.iload_n 3, 1) := by decide +kernel
theorem dX5_readPart_52 : decode cX5_readPart 52 = .ok (.ifCond .ne 16, 3) := by decide +kernel
theorem dX5_readPart_55 : decode cX5_readPart 55 = .ok (.iload 4, 2) := by decide +kernel
theorem dX5_readPart_57 : decode cX5_readPart 57 = .ok (.bipush (-100), 2) := by decide +kernel
theorem dX5_readPart_59 : decode cX5_readPart 59 = .ok (.if_icmp .ne 9, 3) := by decide +kernel
theorem dX5_readPart_62 : decode cX5_readPart 62 = .ok (.aload_n 0, 1) := by decide +kernel
theorem dX5_readPart_63 : decode cX5_readPart 63 = .ok (.iconst 1, 1) := by decide +kernel
theorem dX5_readPart_64 : decode cX5_readPart 64 = .ok (.invokevirtual 120, 3) := by decide +kernel
theorem dX5_readPart_67 : decode cX5_readPart 67 = .ok (.ireturn, 1) := by decide +kernel
theorem dX5_readPart_68 : decode cX5_readPart 68 = .ok (.iload_n 1, 1) := by decide +kernel
theorem dX5_readPart_69 : decode cX5_readPart 69 = .ok (.iconst 5, 1) := by decide +kernel
theorem dX5_readPart_70 : decode cX5_readPart 70 = .ok (.if_icmp .lt 9, 3) := by decide +kernel
theorem dX5_readPart_73 : decode cX5_readPart 73 = .ok (.aload_n 0, 1) := by decide +kernel
theorem dX5_readPart_74 : decode cX5_readPart 74 = .ok (.iconst 5, 1) := by decide +kernel
theorem dX5_readPart_75 : decode cX5_readPart 75 = .ok (.invokevirtual 120, 3) := by decide +kernel
theorem dX5_readPart_78 : decode cX5_readPart 78 = .ok (.ireturn, 1) := by decide +kernel
theorem dX5_readPart_79 : decode cX5_readPart 79 = .ok (.aload_n 0, 1) := by decide +kernel
theorem dX5_readPart_80 : decode cX5_readPart 80 = .ok (.getfield 12, 3) := by decide +kernel
theorem dX5_readPart_83 : decode cX5_readPart 83 = .ok (.invokevirtual 189, 3) := by decide +kernel
theorem dX5_readPart_86 : decode cX5_readPart 86 = .ok (.iload_n 3, 1) := by decide +kernel
theorem dX5_readPart_87 : decode cX5_readPart 87 = .ok (.ifCond .eq 29, 3) := by decide +kernel
theorem dX5_readPart_90 : decode cX5_readPart 90 = .ok (.aload_n 0, 1) := by decide +kernel
theorem dX5_readPart_91 : decode cX5_readPart 91 = .ok (.iconst 0, 1) := by decide +kernel
theorem dX5_readPart_92 : decode cX5_readPart 92 = .ok (.iload_n 1, 1) := by decide +kernel
theorem dX5_readPart_93 : decode cX5_readPart 93 = .ok (.iconst 1, 1) := by decide +kernel
theorem dX5_readPart_94 : decode cX5_readPart 94 = .ok (.iadd, 1) := by decide +kernel
theorem dX5_readPart_95 : decode cX5_readPart 95 = .ok (.invokevirtual 192, 3) := by decide +kernel
theorem dX5_readPart_98 : decode cX5_readPart 98 = .ok (.ifCond .eq 16, 3) := by decide +kernel
theorem dX5_readPart_101 : decode cX5_readPart 101 = .ok (.aload_n 0, 1) := by decide +kernel
theorem dX5_readPart_102 : decode cX5_readPart 102 = .ok (.bipush 41, 2) := by decide +kernel
theorem dX5_readPart_104 : decode cX5_readPart 104 = .ok (.invokevirtual 152, 3) := by decide +kernel
theorem dX5_readPart_107 : decode cX5_readPart 107 = .ok (.ifCond .eq 7, 3) := by decide +kernel
theorem dX5_readPart_110 : decode cX5_readPart 110 = .ok (.iconst 1, 1) := by decide +kernel
theorem dX5_readPart_111 : decode cX5_readPart 111 = .ok (.goto 4, 3) := by decide +kernel
theorem dX5_readPart_114 : decode cX5_readPart 114 = .ok (.iconst 0, 1) := by decide +kernel
theorem dX5_readPart_115 : decode cX5_readPart 115 = .ok (.ireturn, 1) := by decide +kernel
theorem dX5_readPart_116 : decode cX5_readPart 116 = .ok (.iload_n 2, 1) := by decide +kernel
theorem dX5_readPart_117 : decode cX5_readPart 117 = .ok (.ifCond .eq 13, 3) := by decide +kernel
theorem dX5_readPart_120 : decode cX5_readPart 120 = .ok (.aload_n 0, 1) := by decide +kernel
theorem dX5_readPart_121 : decode cX5_readPart 121 = .ok (.iload_n 1, 1) := by decide +kernel
theorem dX5_readPart_122 : decode cX5_readPart 122 = .ok (.iconst 1, 1) := by decide +kernel
theorem dX5_readPart_123 : decode cX5_readPart 123 = .ok (.iadd, 1) := by decide +kernel
theorem dX5_readPart_124 : decode cX5_readPart 124 = .ok (.invokevirtual 216, 3) := by decide +kernel
theorem dX5_readPart_127 : decode cX5_readPart 127 = .ok (.ifCond .eq 7, 3) := by decide +kernel
theorem dX5_readPart_130 : decode cX5_readPart 130 = .ok (.iconst 1, 1) := by decide +kernel
theorem dX5_readPart_131 : decode cX5_readPart 131 = .ok (.goto 4, 3) := by decide +kernel
theorem dX5_readPart_134 : decode cX5_readPart 134 = .ok (.iconst 0, 1) := by decide +kernel
theorem dX5_readPart_135 : decode cX5_readPart 135 = .ok (.istore 5, 2) := by decide +kernel
theorem dX5_readPart_137 : decode cX5_readPart 137 = .ok (.aload_n 0, 1) := by decide +kernel
theorem dX5_readPart_138 : decode cX5_readPart 138 = .ok (.getfield 21, 3) := by decide +kernel
theorem dX5_readPart_141 : decode cX5_readPart 141 = .ok (.iload_n 2, 1) := by decide +kernel
theorem dX5_readPart_142 : decode cX5_readPart 142 = .ok (.ifCond .eq 8, 3) := by decide +kernel
theorem dX5_readPart_145 : decode cX5_readPart 145 = .ok (.bipush (-9), 2) := by decide +kernel
theorem dX5_readPart_147 : decode cX5_readPart 147 = .ok (.goto 5, 3) := by decide +kernel
theorem dX5_readPart_150 : decode cX5_readPart 150 = .ok (.iload 4, 2) := by decide +kernel
theorem dX5_readPart_152 : decode cX5_readPart 152 = .ok (.invokevirtual 222, 3) := by decide +kernel
theorem dX5_readPart_155 : decode cX5_readPart 155 = .ok (.iload 5, 2) := by decide +kernel
theorem dX5_readPart_157 : decode cX5_readPart 157 = .ok (.ireturn, 1) := by decide +kernel
theorem dX5_readChain_0 : decode cX5_readChain 0 = .ok (.iload_n 1, 1) := by decide +kernel
theorem dX5_readChain_1 : decode cX5_readChain 1 = .ok (.iconst 4, 1) := by decide +kernel
theorem dX5_readChain_2 : decode cX5_readChain 2 = .ok (.if_icmp .lt 9, 3) := by decide +kernel
theorem dX5_readChain_5 : decode cX5_readChain 5 = .ok (.aload_n 0, 1) := by decide +kernel
theorem dX5_readChain_6 : decode cX5_readChain 6 = .ok (.iload_n 2, 1) := by decide +kernel
theorem dX5_readChain_7 : decode cX5_readChain 7 = .ok (.invokevirtual 216, 3) := by decide +kernel
theorem dX5_readChain_10 : decode cX5_readChain 10 = .ok (.ireturn, 1) := by decide +kernel
theorem dX5_readChain_11 : decode cX5_readChain 11 = .ok (.aload_n 0, 1) := by decide +kernel
theorem dX5_readChain_12 : decode cX5_readChain 12 = .ok (.iload_n 1, 1) := by decide +kernel
theorem dX5_readChain_13 : decode cX5_readChain 13 = .ok (.iconst 1, 1) := by decide +kernel
theorem dX5_readChain_14 : decode cX5_readChain 14 = .ok (.iadd, 1) := by decide +kernel
theorem dX5_readChain_15 : decode cX5_readChain 15 = .ok (.iload_n 2, 1) := by decide +kernel
theorem dX5_readChain_16 : decode cX5_readChain 16 = .ok (.invokevirtual 192, 3) := by decide +kernel
theorem dX5_readChain_19 : decode cX5_readChain 19 = .ok (.istore_n 3, 1) := by decide +kernel
theorem dX5_readChain_20 : decode cX5_readChain 20 = .ok (.iload_n 1, 1) := by decide +kernel
theorem dX5_readChain_21 : decode cX5_readChain 21 = .ok (.iconst 1, 1) := by decide +kernel
theorem dX5_readChain_22 : decode cX5_readChain 22 = .ok (.if_icmp .ne 7, 3) := by decide +kernel
theorem dX5_readChain_25 : decode cX5_readChain 25 = .ok (.iconst 1, 1) := by decide +kernel
theorem dX5_readChain_26 : decode cX5_readChain 26 = .ok (.goto 6, 3) := by decide +kernel
theorem dX5_readChain_29 : decode cX5_readChain 29 = .ok (.sipush 1000, 3) := by decide +kernel
theorem dX5_readChain_32 : decode cX5_readChain 32 = .ok (.istore 4, 2) := by decide +kernel
theorem dX5_readChain_34 : decode cX5_readChain 34 = .ok (.iconst 0, 1) := by decide +kernel
theorem dX5_readChain_35 : decode cX5_readChain 35 = .ok (.istore 5, 2) := by decide +kernel
theorem dX5_readChain_37 : decode cX5_readChain 37 = .ok (.iload 5, 2) := by decide +kernel
theorem dX5_readChain_39 : decode cX5_readChain 39 = .ok (.iload 4, 2) := by decide +kernel
theorem dX5_readChain_41 : decode cX5_readChain 41 = .ok (.if_icmp .ge 54, 3) := by decide +kernel
theorem dX5_readChain_44 : decode cX5_readChain 44 = .ok (.iload_n 3, 1) := by decide +kernel
theorem dX5_readChain_45 : decode cX5_readChain 45 = .ok (.ifCond .eq 50, 3) := by decide +kernel
theorem dX5_readChain_48 : decode cX5_readChain 48 = .ok (.aload_n 0, 1) := by decide +kernel
theorem dX5_readChain_49 : decode cX5_readChain 49 = .ok (.iload_n 1, 1) := by decide +kernel
theorem dX5_readChain_50 : decode cX5_readChain 50 = .ok (.invokevirtual 219, 3) := by decide +kernel
theorem dX5_readChain_53 : decode cX5_readChain 53 = .ok (.istore 6, 2) := by decide +kernel
theorem dX5_readChain_55 : decode cX5_readChain 55 = .ok (.iload 6, 2) := by decide +kernel
theorem dX5_readChain_57 : decode cX5_readChain 57 = .ok (.bipush (-100), 2) := by decide +kernel
theorem dX5_readChain_59 : decode cX5_readChain 59 = .ok (.if_icmp .ne 5, 3) := by decide +kernel
theorem dX5_readChain_62 : decode cX5_readChain 62 = .ok (.iconst 1, 1) := by decide +kernel
theorem dX5_readChain_63 : decode cX5_readChain 63 = .ok (.ireturn, 1) := by decide +kernel
theorem dX5_readChain_64 : decode cX5_readChain 64 = .ok (.aload_n 0, 1) := by decide +kernel
theorem dX5_readChain_65 : decode cX5_readChain 65 = .ok (.getfield 12, 3) := by decide +kernel
theorem dX5_readChain_68 : decode cX5_readChain 68 = .ok (.invokevirtual 189, 3) := by decide +kernel
theorem dX5_readChain_71 : decode cX5_readChain 71 = .ok (.aload_n 0, 1) := by decide +kernel
theorem dX5_readChain_72 : decode cX5_readChain 72 = .ok (.iload_n 1, 1) := by decide +kernel
theorem dX5_readChain_73 : decode cX5_readChain 73 = .ok (.iconst 1, 1) := by decide +kernel
theorem dX5_readChain_74 : decode cX5_readChain 74 = .ok (.iadd, 1) := by decide +kernel
theorem dX5_readChain_75 : decode cX5_readChain 75 = .ok (.iload_n 2, 1) := by decide +kernel
theorem dX5_readChain_76 : decode cX5_readChain 76 = .ok (.invokevirtual 192, 3) := by decide +kernel
theorem dX5_readChain_79 : decode cX5_readChain 79 = .ok (.istore_n 3, 1) := by decide +kernel
theorem dX5_readChain_80 : decode cX5_readChain 80 = .ok (.aload_n 0, 1) := by decide +kernel
theorem dX5_readChain_81 : decode cX5_readChain 81 = .ok (.getfield 21, 3) := by decide +kernel
theorem dX5_readChain_84 : decode cX5_readChain 84 = .ok (.iload 6, 2) := by decide +kernel
theorem dX5_readChain_86 : decode cX5_readChain 86 = .ok (.invokevirtual 222, 3) := by decide +kernel
theorem dX5_readChain_89 : decode cX5_readChain 89 = .ok (.iinc 5 1, 3) := by decide +kernel
theorem dX5_readChain_92 : decode cX5_readChain 92 = .ok (.goto (-55), 3) := by decide +kernel
theorem dX5_readChain_95 : decode cX5_readChain 95 = .ok (.iload_n 3, 1) := by decide +kernel
theorem dX5_readChain_96 : decode cX5_readChain 96 = .ok (.ireturn, 1) := by decide +kernel
set_option maxHeartbeats 4000000 in
set_option maxRecDepth 100000 in
theorem c_X5_readPart_z (l : Launch) (D : DG) (cyC cyI cyJ cyZ cyO : ClassId) (r0 : Nat) (t0 : Nat) (t1 : Nat) (e0 : Nat) (e1 : Nat) (r1 : Nat) (r2 : Nat) (a0 : Nat) (e2 : Nat) (e3 : Nat) (p0 : Int32) (r_habits : Int32) (r_fault : Int32) (t_length : Int32) (t_next : Int32) (t_kind : Int32) (t_place : Int32) (t_number : Int32) (e_size : Int32) (e_nests : Int32) (t_text : Nat → Int32) (e_steps : Nat → Int32) (h_t_length : 0 ≤ (t_length).toInt ∧ (t_length).toInt ≤ 1000) (h_t_next : 0 ≤ (t_next).toInt ∧ (t_next).toInt ≤ 1000) (h_t_kind : 0 ≤ (t_kind).toInt ∧ (t_kind).toInt ≤ 4) (h_t_place : 0 ≤ (t_place).toInt ∧ (t_place).toInt ≤ 1000) (h_e_size : 0 ≤ (e_size).toInt ∧ (e_size).toInt ≤ 1000) (h_e_nests : 0 ≤ (e_nests).toInt ∧ (e_nests).toInt ≤ 4) (h_t_text : Iv 1000 (0) (126) t_text) (ht3 : ¬ (t_kind).toInt = 3 ∨ (t_place).toInt ≤ 999) (hTH : TH t_text (t_length).toInt.toNat (t_next).toInt (t_kind).toInt (t_place).toInt (t_number).toInt) (hsz6 : (e_size).toInt ≤ (t_place).toInt) (hdp9 : (p0).toInt = 5 - ((0 : Nat) : Int)) : KK l D (TY cyC cyI cyJ cyZ cyO) yX5_readPart cX5_readPart 6 (some .boolean) ({ frames := 6, cells := 0, slots := 0, locals := 127 } : Room) 0 0 [.ref r0, .int p0] [(r0, .inr (5, [.ref t0, .ref e0, .ref r1, .ref r2, .ref a0, .int r_habits, .int r_fault])), (t0, .inr (8, [.ref t1, .int t_length, .int t_next, .int t_kind, .int t_place, .int t_number])), (t1, .inl (cyC, 1000, .inl t_text)), (e0, .inr (1, [.int e_size, .int e_nests, .ref e1, .ref e2, .ref e3])), (e1, .inl (cyI, 1000, .inl e_steps))] (fun u => some (.int (u.2.1 0))) (fun u => (0 ≤ (u.2.1 0).toInt ∧ (u.2.1 0).toInt ≤ 1) ∧ (0 ≤ (u.2.1 2).toInt ∧ (u.2.1 2).toInt ≤ 1000) ∧ (0 ≤ (u.2.1 3).toInt ∧ (u.2.1 3).toInt ≤ 4) ∧ (0 ≤ (u.2.1 4).toInt ∧ (u.2.1 4).toInt ≤ 1000) ∧ (0 ≤ (u.2.1 6).toInt ∧ (u.2.1 6).toInt ≤ 1000) ∧ (¬ ((u.2.1 3)).toInt = 3 ∨ ((u.2.1 4)).toInt ≤ 999) ∧ ((e_size).toInt ≤ ((u.2.1 6)).toInt) ∧ (((u.2.1 6)).toInt + (t_place).toInt ≤ (e_size).toInt + ((u.2.1 4)).toInt) ∧ (IM (((u.2.1 0)).toInt = 1) (CG e_steps (u.2.2.1 0) (e_size).toInt.toNat ((u.2.1 6)).toInt.toNat (4 * 0 + 1) (vPt (TKS t_text (t_length).toInt.toNat) 0 (t_place).toInt.toNat))) ∧ (TH t_text (t_length).toInt.toNat ((u.2.1 2)).toInt ((u.2.1 3)).toInt ((u.2.1 4)).toInt ((u.2.1 5)).toInt) ∧ (CP ((u.2.1 0)).toInt ((u.2.1 4)).toInt ((u.2.1 1)).toInt (r_fault).toInt (rPt (TKS t_text (t_length).toInt.toNat) 0 (t_place).toInt.toNat))) (fun u => [(r0, .inr (5, [.ref t0, .ref e0, .ref r1, .ref r2, .ref a0, .int r_habits, .int (u.2.1 1)])), (t0, .inr (8, [.ref t1, .int t_length, .int (u.2.1 2), .int (u.2.1 3), .int (u.2.1 4), .int (u.2.1 5)])), (t1, .inl (cyC, 1000, .inl t_text)), (e0, .inr (1, [.int (u.2.1 6), .int e_nests, .ref e1, .ref e2, .ref e3])), (e1, .inl (cyI, 1000, .inl (u.2.2.1 0)))]) := by
  refine KK.of (lv0 := [(0, .ref r0), (1, .int p0)]) (by decide) rfl (Nat.le_of_ble_eq_true rfl) ?_
  intro p e s m args below meth c A C hr hk hin
  refine j_aload_n (pc := 0) C dX5_readPart_0 rfl 0 rfl ?_
  refine j_get (pc := 1) (ci := 5) (v := .ref t0) C inw_5 0 rfl rfl 0 (by decide) wd_296 rfl rfl dX5_readPart_1 ?_
  refine j_ldcS (pc := 4) (i := 18) C (by decide) rfl dX5_readPart_4 ?_
  refine j_callV (pc := 6) (As := [.ref (D.2.1 18)]) (rest := []) (wr := [(r0, .inr (5, [.ref t0, .ref e0, .ref r1, .ref r2, .ref a0, .int r_habits, .int r_fault])), (e0, .inr (1, [.int e_size, .int e_nests, .ref e1, .ref e2, .ref e3])), (e1, .inl (cyI, 1000, .inl e_steps))]) C (c_X8_isWord_f l D cyC cyI cyJ cyZ cyO t0 t1 18 t_length t_next t_kind t_place t_number t_text h_t_length h_t_next h_t_kind h_t_place h_t_text (by decide) ⟨by decide, by decide, by decide⟩ hTH) wd_288 wd_258 wd_312 wd_290 wd_291 ⟨by decide, by decide, rfl⟩ rfl ⟨rfl, rfl, by decide, by decide⟩ ⟨by decide, by decide⟩ [1, 2] [0, 3, 4] rfl rfl ⟨by decide, by decide, by decide⟩ 1 rfl rfl rfl (Nat.le_of_ble_eq_true rfl) dX5_readPart_6 (fun u_1 hw_2 => ?_)
  refine j_eq (ws2 := [(r0, .inr (5, [.ref t0, .ref e0, .ref r1, .ref r2, .ref a0, .int r_habits, .int r_fault])), (e0, .inr (1, [.int e_size, .int e_nests, .ref e1, .ref e2, .ref e3])), (e1, .inl (cyI, 1000, .inl e_steps)), (t0, .inr (8, [.ref t1, .int t_length, .int t_next, .int t_kind, .int t_place, .int t_number])), (t1, .inl (cyC, 1000, .inl t_text))]) (pc2 := 9) (lv2 := [(0, .ref r0), (1, .int p0)]) (st2 := [.int (u_1.2.1 0)]) rfl rfl rfl rfl ?_
  obtain ⟨hw_2_0, hw_2_1⟩ := hw_2
  have hW_u_1 : (u_1.2.1 0).toInt = wI (TKS t_text (t_length).toInt.toNat) (t_place).toInt.toNat (WN 14) := by rw [← wnE_18]; exact hw_2_1
  refine j_istore_n (pc := 9) (lv' := [(2, .int (u_1.2.1 0)), (0, .ref r0), (1, .int p0)]) C dX5_readPart_9 rfl (by decide) rfl ?_
  refine j_aload_n (pc := 10) C dX5_readPart_10 rfl 1 rfl ?_
  refine j_get (pc := 11) (ci := 5) (v := .ref t0) C inw_5 0 rfl rfl 0 (by decide) wd_296 rfl rfl dX5_readPart_11 ?_
  refine j_bipush (pc := 14) (v := 40) C dX5_readPart_14 (by decide) ?_
  refine j_callV (pc := 16) (As := [.int 40]) (rest := []) (wr := [(r0, .inr (5, [.ref t0, .ref e0, .ref r1, .ref r2, .ref a0, .int r_habits, .int r_fault])), (e0, .inr (1, [.int e_size, .int e_nests, .ref e1, .ref e2, .ref e3])), (e1, .inl (cyI, 1000, .inl e_steps))]) C (c_X8_isSign_f l D cyC cyI cyJ cyZ cyO t0 t1 40 t_length t_next t_kind t_place t_number t_text h_t_length h_t_next h_t_kind h_t_place h_t_text ht3 hTH) wd_300 wd_258 wd_301 wd_302 wd_303 ⟨by decide, by decide, rfl⟩ rfl ⟨rfl, rfl, by decide, by decide⟩ ⟨by decide, by decide⟩ [3, 4] [0, 1, 2] rfl rfl ⟨by decide, by decide, by decide⟩ 3 rfl rfl rfl (Nat.le_of_ble_eq_true rfl) dX5_readPart_16 (fun u_3 hw_4 => ?_)
  refine j_eq (ws2 := [(r0, .inr (5, [.ref t0, .ref e0, .ref r1, .ref r2, .ref a0, .int r_habits, .int r_fault])), (e0, .inr (1, [.int e_size, .int e_nests, .ref e1, .ref e2, .ref e3])), (e1, .inl (cyI, 1000, .inl e_steps)), (t0, .inr (8, [.ref t1, .int t_length, .int t_next, .int t_kind, .int t_place, .int t_number])), (t1, .inl (cyC, 1000, .inl t_text))]) (pc2 := 19) (lv2 := [(2, .int (u_1.2.1 0)), (0, .ref r0), (1, .int p0)]) (st2 := [.int (u_3.2.1 0)]) rfl rfl rfl rfl ?_
  obtain ⟨hw_4_0, hw_4_1⟩ := hw_4
  refine j_istore_n (pc := 19) (lv' := [(3, .int (u_3.2.1 0)), (2, .int (u_1.2.1 0)), (0, .ref r0), (1, .int p0)]) C dX5_readPart_19 rfl (by decide) rfl ?_
  refine j_aload_n (pc := 20) C dX5_readPart_20 rfl 2 rfl ?_
  refine j_get (pc := 21) (ci := 5) (v := .ref t0) C inw_5 0 rfl rfl 0 (by decide) wd_296 rfl rfl dX5_readPart_21 ?_
  refine j_get (pc := 24) (ci := 8) (v := .int t_kind) C inw_8 3 rfl rfl 3 (by decide) wd_310 rfl rfl dX5_readPart_24 ?_
  refine j_iconst (pc := 27) (v := 2) C dX5_readPart_27 (by decide) ?_
  refine j_icmp_ne (pc := 28) (tgt := 41) C dX5_readPart_28 (by decide) (fun c_5 => ?_) (fun c_5 => ?_)
  · skip
    have el_2 : (2 : Int32).toInt = 2 := rfl
    rw [i_eq] at c_5
    refine j_aload_n (pc := 41) C dX5_readPart_41 rfl 2 rfl ?_
    refine j_callV (pc := 42) (As := []) (rest := []) (wr := [(e0, .inr (1, [.int e_size, .int e_nests, .ref e1, .ref e2, .ref e3])), (e1, .inl (cyI, 1000, .inl e_steps))]) C (c_X5_fact l D cyC cyI cyJ cyZ cyO r0 t0 t1 e0 r1 r2 a0 r_habits r_fault t_length t_next t_kind t_place t_number t_text h_t_length h_t_next h_t_kind h_t_place h_t_text hTH) wd_332 wd_306 wd_333 wd_334 wd_335 ⟨by decide, by decide, rfl⟩ rfl ⟨rfl, rfl, by decide, by decide⟩ ⟨by decide, by decide⟩ [0, 3, 4] [1, 2] rfl rfl ⟨by decide, by decide, by decide⟩ 0 rfl rfl rfl (Nat.le_of_ble_eq_true rfl) dX5_readPart_42 (fun u_6 hw_7 => ?_)
    refine j_eq (ws2 := [(e0, .inr (1, [.int e_size, .int e_nests, .ref e1, .ref e2, .ref e3])), (e1, .inl (cyI, 1000, .inl e_steps)), (r0, .inr (5, [.ref t0, .ref e0, .ref r1, .ref r2, .ref a0, .int r_habits, .int r_fault])), (t0, .inr (8, [.ref t1, .int t_length, .int t_next, .int t_kind, .int t_place, .int t_number])), (t1, .inl (cyC, 1000, .inl t_text))]) (pc2 := 45) (lv2 := [(3, .int (u_3.2.1 0)), (2, .int (u_1.2.1 0)), (0, .ref r0), (1, .int p0)]) (st2 := [.int (u_6.2.1 0)]) rfl rfl rfl rfl ?_
    obtain ⟨hw_7_0, hw_7_1, hw_7_2⟩ := hw_7
    refine j_istore (pc := 45) (lv' := [(4, .int (u_6.2.1 0)), (3, .int (u_3.2.1 0)), (2, .int (u_1.2.1 0)), (0, .ref r0), (1, .int p0)]) C dX5_readPart_45 (by decide) rfl ?_
    refine j_iload_n (pc := 47) C dX5_readPart_47 rfl 2 rfl ?_
    refine j_if_ne (pc := 48) (tgt := 68) C dX5_readPart_48 (by decide) (fun c_8 => ?_) (fun c_8 => ?_)
    · skip
      have el_0 : (0 : Int32).toInt = 0 := rfl
      rw [i_eq] at c_8
      have k0c_8 : ((u_1.2.1 0)).toInt = 1 := by omega
      refine j_iload_n (pc := 68) C dX5_readPart_68 rfl 4 rfl ?_
      refine j_iconst (pc := 69) (v := 5) C dX5_readPart_69 (by decide) ?_
      have el_5 : (5 : Int32).toInt = 5 := rfl
      refine j_icmp_lt_f (pc := 70) (tgt := 79) C dX5_readPart_70 (by decide) (by rw [i_lt]; omega) ?_
      refine j_aload_n (pc := 73) C dX5_readPart_73 rfl 3 rfl ?_
      refine j_iconst (pc := 74) (v := 5) C dX5_readPart_74 (by decide) ?_
      refine j_callV (pc := 75) (As := [.int 5]) (rest := []) (wr := [(e0, .inr (1, [.int e_size, .int e_nests, .ref e1, .ref e2, .ref e3])), (e1, .inl (cyI, 1000, .inl e_steps)), (t1, .inl (cyC, 1000, .inl t_text))]) C (c_X5_wrong l D cyC cyI cyJ cyZ cyO r0 t0 e0 r1 r2 a0 t1 5 r_habits r_fault t_length t_next t_kind t_place t_number h_t_length h_t_next h_t_kind h_t_place (by decide)) wd_305 wd_306 wd_307 wd_308 wd_309 ⟨by decide, by decide, rfl⟩ rfl ⟨rfl, rfl, by decide, by decide⟩ ⟨by decide, by decide⟩ [2, 3] [0, 1, 4] rfl rfl ⟨by decide, by decide, by decide⟩ 2 rfl rfl rfl (Nat.le_of_ble_eq_true rfl) dX5_readPart_75 (fun u_9 hw_10 => ?_)
      refine j_eq (ws2 := [(e0, .inr (1, [.int e_size, .int e_nests, .ref e1, .ref e2, .ref e3])), (e1, .inl (cyI, 1000, .inl e_steps)), (t1, .inl (cyC, 1000, .inl t_text)), (r0, .inr (5, [.ref t0, .ref e0, .ref r1, .ref r2, .ref a0, .int r_habits, .int (u_9.2.1 0)])), (t0, .inr (8, [.ref t1, .int t_length, .int t_next, .int t_kind, .int t_place, .int t_number]))]) (pc2 := 78) (lv2 := [(4, .int (u_6.2.1 0)), (3, .int (u_3.2.1 0)), (2, .int (u_1.2.1 0)), (0, .ref r0), (1, .int p0)]) (st2 := [.int 0]) rfl rfl rfl rfl ?_
      have hw_10_0 : ((u_9.2.1 0)).toInt = ((5 : Int32)).toInt + 16 * (t_place).toInt := hw_10
      have el_0 : (0 : Int32).toInt = 0 := rfl
      have el_0 : (0 : Int32).toInt = 0 := rfl
      have el_0 : (0 : Int32).toInt = 0 := rfl
      have el_0 : (0 : Int32).toInt = 0 := rfl
      have el_0 : (0 : Int32).toInt = 0 := rfl
      have el_0 : (0 : Int32).toInt = 0 := rfl
      have el_0 : (0 : Int32).toInt = 0 := rfl
      have el_5 : (5 : Int32).toInt = 5 := rfl
      exact j_zret (pc := 78) C hr rfl hk (fun i => [].getD i 0, fun i => [0, (u_9.2.1 0), t_next, t_kind, t_place, t_number, e_size].getD i 0, fun i => [e_steps].getD i (fun _ => 0), fun i => [].getD i (fun _ => 0)) rfl (show (0 ≤ ((0 : Int32)).toInt ∧ ((0 : Int32)).toInt ≤ 1) ∧ (0 ≤ (t_next).toInt ∧ (t_next).toInt ≤ 1000) ∧ (0 ≤ (t_kind).toInt ∧ (t_kind).toInt ≤ 4) ∧ (0 ≤ (t_place).toInt ∧ (t_place).toInt ≤ 1000) ∧ (0 ≤ (e_size).toInt ∧ (e_size).toInt ≤ 1000) ∧ (¬ (t_kind).toInt = 3 ∨ (t_place).toInt ≤ 999) ∧ ((e_size).toInt ≤ (e_size).toInt) ∧ ((e_size).toInt + (t_place).toInt ≤ (e_size).toInt + (t_place).toInt) ∧ (IM (((0 : Int32)).toInt = 1) (CG e_steps e_steps (e_size).toInt.toNat (e_size).toInt.toNat (4 * 0 + 1) (vPt (TKS t_text (t_length).toInt.toNat) 0 (t_place).toInt.toNat))) ∧ (TH t_text (t_length).toInt.toNat (t_next).toInt (t_kind).toInt (t_place).toInt (t_number).toInt) ∧ (CP ((0 : Int32)).toInt (t_place).toInt ((u_9.2.1 0)).toInt (r_fault).toInt (rPt (TKS t_text (t_length).toInt.toNat) 0 (t_place).toInt.toNat)) from ⟨by omega, h_t_next, h_t_kind, h_t_place, h_e_size, by omega, by omega, by omega, (fun h => absurd h (by decide)), hTH, (CP.mv (CP.wr (k := 5) (by omega) (by omega) (by omega) (by omega)) (by rw [rPt_0]; rw [if_pos (show canP (TKS t_text (t_length).toInt.toNat) (t_place).toInt.toNat = true from canP_iff.mpr (Or.inr (Or.inr (Or.inr (by omega)))))]))⟩) [3, 4, 2, 0, 1] (by decide) rfl (by decide) (by decide) dX5_readPart_78
    · skip
      have el_0 : (0 : Int32).toInt = 0 := rfl
      rw [i_eq] at c_8
      refine j_iload_n (pc := 51) C dX5_readPart_51 rfl 1 rfl ?_
      refine j_if_ne (pc := 52) (tgt := 68) C dX5_readPart_52 (by decide) (fun c_11 => ?_) (fun c_11 => ?_)
      · skip
        have el_0 : (0 : Int32).toInt = 0 := rfl
        rw [i_eq] at c_11
        have k0c_11 : ((u_3.2.1 0)).toInt = 1 := by omega
        refine j_iload_n (pc := 68) C dX5_readPart_68 rfl 4 rfl ?_
        refine j_iconst (pc := 69) (v := 5) C dX5_readPart_69 (by decide) ?_
        have el_5 : (5 : Int32).toInt = 5 := rfl
        refine j_icmp_lt_f (pc := 70) (tgt := 79) C dX5_readPart_70 (by decide) (by rw [i_lt]; omega) ?_
        refine j_aload_n (pc := 73) C dX5_readPart_73 rfl 3 rfl ?_
        refine j_iconst (pc := 74) (v := 5) C dX5_readPart_74 (by decide) ?_
        refine j_callV (pc := 75) (As := [.int 5]) (rest := []) (wr := [(e0, .inr (1, [.int e_size, .int e_nests, .ref e1, .ref e2, .ref e3])), (e1, .inl (cyI, 1000, .inl e_steps)), (t1, .inl (cyC, 1000, .inl t_text))]) C (c_X5_wrong l D cyC cyI cyJ cyZ cyO r0 t0 e0 r1 r2 a0 t1 5 r_habits r_fault t_length t_next t_kind t_place t_number h_t_length h_t_next h_t_kind h_t_place (by decide)) wd_305 wd_306 wd_307 wd_308 wd_309 ⟨by decide, by decide, rfl⟩ rfl ⟨rfl, rfl, by decide, by decide⟩ ⟨by decide, by decide⟩ [2, 3] [0, 1, 4] rfl rfl ⟨by decide, by decide, by decide⟩ 2 rfl rfl rfl (Nat.le_of_ble_eq_true rfl) dX5_readPart_75 (fun u_12 hw_13 => ?_)
        refine j_eq (ws2 := [(e0, .inr (1, [.int e_size, .int e_nests, .ref e1, .ref e2, .ref e3])), (e1, .inl (cyI, 1000, .inl e_steps)), (t1, .inl (cyC, 1000, .inl t_text)), (r0, .inr (5, [.ref t0, .ref e0, .ref r1, .ref r2, .ref a0, .int r_habits, .int (u_12.2.1 0)])), (t0, .inr (8, [.ref t1, .int t_length, .int t_next, .int t_kind, .int t_place, .int t_number]))]) (pc2 := 78) (lv2 := [(4, .int (u_6.2.1 0)), (3, .int (u_3.2.1 0)), (2, .int (u_1.2.1 0)), (0, .ref r0), (1, .int p0)]) (st2 := [.int 0]) rfl rfl rfl rfl ?_
        have hw_13_0 : ((u_12.2.1 0)).toInt = ((5 : Int32)).toInt + 16 * (t_place).toInt := hw_13
        have el_0 : (0 : Int32).toInt = 0 := rfl
        have el_0 : (0 : Int32).toInt = 0 := rfl
        have el_0 : (0 : Int32).toInt = 0 := rfl
        have el_0 : (0 : Int32).toInt = 0 := rfl
        have el_0 : (0 : Int32).toInt = 0 := rfl
        have el_0 : (0 : Int32).toInt = 0 := rfl
        have el_0 : (0 : Int32).toInt = 0 := rfl
        have el_5 : (5 : Int32).toInt = 5 := rfl
        exact j_zret (pc := 78) C hr rfl hk (fun i => [].getD i 0, fun i => [0, (u_12.2.1 0), t_next, t_kind, t_place, t_number, e_size].getD i 0, fun i => [e_steps].getD i (fun _ => 0), fun i => [].getD i (fun _ => 0)) rfl (show (0 ≤ ((0 : Int32)).toInt ∧ ((0 : Int32)).toInt ≤ 1) ∧ (0 ≤ (t_next).toInt ∧ (t_next).toInt ≤ 1000) ∧ (0 ≤ (t_kind).toInt ∧ (t_kind).toInt ≤ 4) ∧ (0 ≤ (t_place).toInt ∧ (t_place).toInt ≤ 1000) ∧ (0 ≤ (e_size).toInt ∧ (e_size).toInt ≤ 1000) ∧ (¬ (t_kind).toInt = 3 ∨ (t_place).toInt ≤ 999) ∧ ((e_size).toInt ≤ (e_size).toInt) ∧ ((e_size).toInt + (t_place).toInt ≤ (e_size).toInt + (t_place).toInt) ∧ (IM (((0 : Int32)).toInt = 1) (CG e_steps e_steps (e_size).toInt.toNat (e_size).toInt.toNat (4 * 0 + 1) (vPt (TKS t_text (t_length).toInt.toNat) 0 (t_place).toInt.toNat))) ∧ (TH t_text (t_length).toInt.toNat (t_next).toInt (t_kind).toInt (t_place).toInt (t_number).toInt) ∧ (CP ((0 : Int32)).toInt (t_place).toInt ((u_12.2.1 0)).toInt (r_fault).toInt (rPt (TKS t_text (t_length).toInt.toNat) 0 (t_place).toInt.toNat)) from ⟨by omega, h_t_next, h_t_kind, h_t_place, h_e_size, by omega, by omega, by omega, (fun h => absurd h (by decide)), hTH, (CP.mv (CP.wr (k := 5) (by omega) (by omega) (by omega) (by omega)) (by rw [rPt_0]; rw [if_pos (show canP (TKS t_text (t_length).toInt.toNat) (t_place).toInt.toNat = true from canP_iff.mpr (Or.inr (Or.inr (Or.inl (by omega)))))]))⟩) [3, 4, 2, 0, 1] (by decide) rfl (by decide) (by decide) dX5_readPart_78
      · skip
        have el_0 : (0 : Int32).toInt = 0 := rfl
        rw [i_eq] at c_11
        refine j_iload (pc := 55) C dX5_readPart_55 0 rfl ?_
        refine j_bipush (pc := 57) (v := (-100)) C dX5_readPart_57 (by decide) ?_
        refine j_icmp_ne (pc := 59) (tgt := 68) C dX5_readPart_59 (by decide) (fun c_14 => ?_) (fun c_14 => ?_)
        · skip
          have el_m100 : ((-100) : Int32).toInt = (-100) := rfl
          rw [i_eq] at c_14
          refine j_iload_n (pc := 68) C dX5_readPart_68 rfl 4 rfl ?_
          refine j_iconst (pc := 69) (v := 5) C dX5_readPart_69 (by decide) ?_
          have el_5 : (5 : Int32).toInt = 5 := rfl
          refine j_icmp_lt_f (pc := 70) (tgt := 79) C dX5_readPart_70 (by decide) (by rw [i_lt]; omega) ?_
          refine j_aload_n (pc := 73) C dX5_readPart_73 rfl 3 rfl ?_
          refine j_iconst (pc := 74) (v := 5) C dX5_readPart_74 (by decide) ?_
          refine j_callV (pc := 75) (As := [.int 5]) (rest := []) (wr := [(e0, .inr (1, [.int e_size, .int e_nests, .ref e1, .ref e2, .ref e3])), (e1, .inl (cyI, 1000, .inl e_steps)), (t1, .inl (cyC, 1000, .inl t_text))]) C (c_X5_wrong l D cyC cyI cyJ cyZ cyO r0 t0 e0 r1 r2 a0 t1 5 r_habits r_fault t_length t_next t_kind t_place t_number h_t_length h_t_next h_t_kind h_t_place (by decide)) wd_305 wd_306 wd_307 wd_308 wd_309 ⟨by decide, by decide, rfl⟩ rfl ⟨rfl, rfl, by decide, by decide⟩ ⟨by decide, by decide⟩ [2, 3] [0, 1, 4] rfl rfl ⟨by decide, by decide, by decide⟩ 2 rfl rfl rfl (Nat.le_of_ble_eq_true rfl) dX5_readPart_75 (fun u_15 hw_16 => ?_)
          refine j_eq (ws2 := [(e0, .inr (1, [.int e_size, .int e_nests, .ref e1, .ref e2, .ref e3])), (e1, .inl (cyI, 1000, .inl e_steps)), (t1, .inl (cyC, 1000, .inl t_text)), (r0, .inr (5, [.ref t0, .ref e0, .ref r1, .ref r2, .ref a0, .int r_habits, .int (u_15.2.1 0)])), (t0, .inr (8, [.ref t1, .int t_length, .int t_next, .int t_kind, .int t_place, .int t_number]))]) (pc2 := 78) (lv2 := [(4, .int (u_6.2.1 0)), (3, .int (u_3.2.1 0)), (2, .int (u_1.2.1 0)), (0, .ref r0), (1, .int p0)]) (st2 := [.int 0]) rfl rfl rfl rfl ?_
          have hw_16_0 : ((u_15.2.1 0)).toInt = ((5 : Int32)).toInt + 16 * (t_place).toInt := hw_16
          have el_0 : (0 : Int32).toInt = 0 := rfl
          have el_0 : (0 : Int32).toInt = 0 := rfl
          have el_0 : (0 : Int32).toInt = 0 := rfl
          have el_0 : (0 : Int32).toInt = 0 := rfl
          have el_0 : (0 : Int32).toInt = 0 := rfl
          have el_0 : (0 : Int32).toInt = 0 := rfl
          have el_0 : (0 : Int32).toInt = 0 := rfl
          have el_5 : (5 : Int32).toInt = 5 := rfl
          exact j_zret (pc := 78) C hr rfl hk (fun i => [].getD i 0, fun i => [0, (u_15.2.1 0), t_next, t_kind, t_place, t_number, e_size].getD i 0, fun i => [e_steps].getD i (fun _ => 0), fun i => [].getD i (fun _ => 0)) rfl (show (0 ≤ ((0 : Int32)).toInt ∧ ((0 : Int32)).toInt ≤ 1) ∧ (0 ≤ (t_next).toInt ∧ (t_next).toInt ≤ 1000) ∧ (0 ≤ (t_kind).toInt ∧ (t_kind).toInt ≤ 4) ∧ (0 ≤ (t_place).toInt ∧ (t_place).toInt ≤ 1000) ∧ (0 ≤ (e_size).toInt ∧ (e_size).toInt ≤ 1000) ∧ (¬ (t_kind).toInt = 3 ∨ (t_place).toInt ≤ 999) ∧ ((e_size).toInt ≤ (e_size).toInt) ∧ ((e_size).toInt + (t_place).toInt ≤ (e_size).toInt + (t_place).toInt) ∧ (IM (((0 : Int32)).toInt = 1) (CG e_steps e_steps (e_size).toInt.toNat (e_size).toInt.toNat (4 * 0 + 1) (vPt (TKS t_text (t_length).toInt.toNat) 0 (t_place).toInt.toNat))) ∧ (TH t_text (t_length).toInt.toNat (t_next).toInt (t_kind).toInt (t_place).toInt (t_number).toInt) ∧ (CP ((0 : Int32)).toInt (t_place).toInt ((u_15.2.1 0)).toInt (r_fault).toInt (rPt (TKS t_text (t_length).toInt.toNat) 0 (t_place).toInt.toNat)) from ⟨by omega, h_t_next, h_t_kind, h_t_place, h_e_size, by omega, by omega, by omega, (fun h => absurd h (by decide)), hTH, (CP.mv (CP.wr (k := 5) (by omega) (by omega) (by omega) (by omega)) (by rw [rPt_0]; rw [if_pos (show canP (TKS t_text (t_length).toInt.toNat) (t_place).toInt.toNat = true from canP_iff.mpr (Or.inr (Or.inl (by rcases hw_7_2 with hz9 | hz9; (exfalso; omega); exact hz9.2))))]))⟩) [3, 4, 2, 0, 1] (by decide) rfl (by decide) (by decide) dX5_readPart_78
        · skip
          have el_m100 : ((-100) : Int32).toInt = (-100) := rfl
          rw [i_eq] at c_14
          refine j_aload_n (pc := 62) C dX5_readPart_62 rfl 3 rfl ?_
          refine j_iconst (pc := 63) (v := 1) C dX5_readPart_63 (by decide) ?_
          refine j_callV (pc := 64) (As := [.int 1]) (rest := []) (wr := [(e0, .inr (1, [.int e_size, .int e_nests, .ref e1, .ref e2, .ref e3])), (e1, .inl (cyI, 1000, .inl e_steps)), (t1, .inl (cyC, 1000, .inl t_text))]) C (c_X5_wrong l D cyC cyI cyJ cyZ cyO r0 t0 e0 r1 r2 a0 t1 1 r_habits r_fault t_length t_next t_kind t_place t_number h_t_length h_t_next h_t_kind h_t_place (by decide)) wd_305 wd_306 wd_307 wd_308 wd_309 ⟨by decide, by decide, rfl⟩ rfl ⟨rfl, rfl, by decide, by decide⟩ ⟨by decide, by decide⟩ [2, 3] [0, 1, 4] rfl rfl ⟨by decide, by decide, by decide⟩ 2 rfl rfl rfl (Nat.le_of_ble_eq_true rfl) dX5_readPart_64 (fun u_17 hw_18 => ?_)
          refine j_eq (ws2 := [(e0, .inr (1, [.int e_size, .int e_nests, .ref e1, .ref e2, .ref e3])), (e1, .inl (cyI, 1000, .inl e_steps)), (t1, .inl (cyC, 1000, .inl t_text)), (r0, .inr (5, [.ref t0, .ref e0, .ref r1, .ref r2, .ref a0, .int r_habits, .int (u_17.2.1 0)])), (t0, .inr (8, [.ref t1, .int t_length, .int t_next, .int t_kind, .int t_place, .int t_number]))]) (pc2 := 67) (lv2 := [(4, .int (u_6.2.1 0)), (3, .int (u_3.2.1 0)), (2, .int (u_1.2.1 0)), (0, .ref r0), (1, .int p0)]) (st2 := [.int 0]) rfl rfl rfl rfl ?_
          have hw_18_0 : ((u_17.2.1 0)).toInt = ((1 : Int32)).toInt + 16 * (t_place).toInt := hw_18
          have el_0 : (0 : Int32).toInt = 0 := rfl
          have el_0 : (0 : Int32).toInt = 0 := rfl
          have el_0 : (0 : Int32).toInt = 0 := rfl
          have el_0 : (0 : Int32).toInt = 0 := rfl
          have el_0 : (0 : Int32).toInt = 0 := rfl
          have el_0 : (0 : Int32).toInt = 0 := rfl
          have el_0 : (0 : Int32).toInt = 0 := rfl
          have el_1 : (1 : Int32).toInt = 1 := rfl
          exact j_zret (pc := 67) C hr rfl hk (fun i => [].getD i 0, fun i => [0, (u_17.2.1 0), t_next, t_kind, t_place, t_number, e_size].getD i 0, fun i => [e_steps].getD i (fun _ => 0), fun i => [].getD i (fun _ => 0)) rfl (show (0 ≤ ((0 : Int32)).toInt ∧ ((0 : Int32)).toInt ≤ 1) ∧ (0 ≤ (t_next).toInt ∧ (t_next).toInt ≤ 1000) ∧ (0 ≤ (t_kind).toInt ∧ (t_kind).toInt ≤ 4) ∧ (0 ≤ (t_place).toInt ∧ (t_place).toInt ≤ 1000) ∧ (0 ≤ (e_size).toInt ∧ (e_size).toInt ≤ 1000) ∧ (¬ (t_kind).toInt = 3 ∨ (t_place).toInt ≤ 999) ∧ ((e_size).toInt ≤ (e_size).toInt) ∧ ((e_size).toInt + (t_place).toInt ≤ (e_size).toInt + (t_place).toInt) ∧ (IM (((0 : Int32)).toInt = 1) (CG e_steps e_steps (e_size).toInt.toNat (e_size).toInt.toNat (4 * 0 + 1) (vPt (TKS t_text (t_length).toInt.toNat) 0 (t_place).toInt.toNat))) ∧ (TH t_text (t_length).toInt.toNat (t_next).toInt (t_kind).toInt (t_place).toInt (t_number).toInt) ∧ (CP ((0 : Int32)).toInt (t_place).toInt ((u_17.2.1 0)).toInt (r_fault).toInt (rPt (TKS t_text (t_length).toInt.toNat) 0 (t_place).toInt.toNat)) from ⟨by omega, h_t_next, h_t_kind, h_t_place, h_e_size, by omega, by omega, by omega, (fun h => absurd h (by decide)), hTH, (CP.mv (CP.wr (k := 1) (by omega) (by omega) (by omega) (by omega)) (by rw [rPt_0]; rw [if_neg (show ¬ canP (TKS t_text (t_length).toInt.toNat) (t_place).toInt.toNat = true from (fun q => by have hk9 := hTH.kind; rcases canP_iff.mp q with z | z | z | z; omega; (rcases hw_7_2 with hz9 | hz9; (rw [hz9.2] at z; exact absurd z (by decide)); omega); omega; omega))]))⟩) [3, 4, 2, 0, 1] (by decide) rfl (by decide) (by decide) dX5_readPart_67
  · skip
    have el_2 : (2 : Int32).toInt = 2 := rfl
    rw [i_eq] at c_5
    refine j_aload_n (pc := 31) C dX5_readPart_31 rfl 2 rfl ?_
    refine j_get (pc := 32) (ci := 5) (v := .ref t0) C inw_5 0 rfl rfl 0 (by decide) wd_296 rfl rfl dX5_readPart_32 ?_
    refine j_get (pc := 35) (ci := 8) (v := .int t_number) C inw_8 3 rfl rfl 5 (by decide) wd_311 rfl rfl dX5_readPart_35 ?_
    refine j_goto (pc := 38) (tgt := 45) C dX5_readPart_38 (by decide) ?_
    have hn8 := (hTH.2.2.2 (by omega)).2
    refine j_istore (pc := 45) (lv' := [(4, .int t_number), (3, .int (u_3.2.1 0)), (2, .int (u_1.2.1 0)), (0, .ref r0), (1, .int p0)]) C dX5_readPart_45 (by decide) rfl ?_
    refine j_iload_n (pc := 47) C dX5_readPart_47 rfl 2 rfl ?_
    refine j_if_ne (pc := 48) (tgt := 68) C dX5_readPart_48 (by decide) (fun c_19 => ?_) (fun c_19 => ?_)
    · skip
      have el_0 : (0 : Int32).toInt = 0 := rfl
      rw [i_eq] at c_19
      have k0c_19 : ((u_1.2.1 0)).toInt = 1 := by omega
      refine j_iload_n (pc := 68) C dX5_readPart_68 rfl 4 rfl ?_
      refine j_iconst (pc := 69) (v := 5) C dX5_readPart_69 (by decide) ?_
      have el_5 : (5 : Int32).toInt = 5 := rfl
      refine j_icmp_lt_f (pc := 70) (tgt := 79) C dX5_readPart_70 (by decide) (by rw [i_lt]; omega) ?_
      refine j_aload_n (pc := 73) C dX5_readPart_73 rfl 3 rfl ?_
      refine j_iconst (pc := 74) (v := 5) C dX5_readPart_74 (by decide) ?_
      refine j_callV (pc := 75) (As := [.int 5]) (rest := []) (wr := [(e0, .inr (1, [.int e_size, .int e_nests, .ref e1, .ref e2, .ref e3])), (e1, .inl (cyI, 1000, .inl e_steps)), (t1, .inl (cyC, 1000, .inl t_text))]) C (c_X5_wrong l D cyC cyI cyJ cyZ cyO r0 t0 e0 r1 r2 a0 t1 5 r_habits r_fault t_length t_next t_kind t_place t_number h_t_length h_t_next h_t_kind h_t_place (by decide)) wd_305 wd_306 wd_307 wd_308 wd_309 ⟨by decide, by decide, rfl⟩ rfl ⟨rfl, rfl, by decide, by decide⟩ ⟨by decide, by decide⟩ [0, 3] [1, 2, 4] rfl rfl ⟨by decide, by decide, by decide⟩ 0 rfl rfl rfl (Nat.le_of_ble_eq_true rfl) dX5_readPart_75 (fun u_20 hw_21 => ?_)
      refine j_eq (ws2 := [(e0, .inr (1, [.int e_size, .int e_nests, .ref e1, .ref e2, .ref e3])), (e1, .inl (cyI, 1000, .inl e_steps)), (t1, .inl (cyC, 1000, .inl t_text)), (r0, .inr (5, [.ref t0, .ref e0, .ref r1, .ref r2, .ref a0, .int r_habits, .int (u_20.2.1 0)])), (t0, .inr (8, [.ref t1, .int t_length, .int t_next, .int t_kind, .int t_place, .int t_number]))]) (pc2 := 78) (lv2 := [(4, .int t_number), (3, .int (u_3.2.1 0)), (2, .int (u_1.2.1 0)), (0, .ref r0), (1, .int p0)]) (st2 := [.int 0]) rfl rfl rfl rfl ?_
      have hw_21_0 : ((u_20.2.1 0)).toInt = ((5 : Int32)).toInt + 16 * (t_place).toInt := hw_21
      have el_0 : (0 : Int32).toInt = 0 := rfl
      have el_0 : (0 : Int32).toInt = 0 := rfl
      have el_0 : (0 : Int32).toInt = 0 := rfl
      have el_0 : (0 : Int32).toInt = 0 := rfl
      have el_0 : (0 : Int32).toInt = 0 := rfl
      have el_0 : (0 : Int32).toInt = 0 := rfl
      have el_0 : (0 : Int32).toInt = 0 := rfl
      have el_5 : (5 : Int32).toInt = 5 := rfl
      exact j_zret (pc := 78) C hr rfl hk (fun i => [].getD i 0, fun i => [0, (u_20.2.1 0), t_next, t_kind, t_place, t_number, e_size].getD i 0, fun i => [e_steps].getD i (fun _ => 0), fun i => [].getD i (fun _ => 0)) rfl (show (0 ≤ ((0 : Int32)).toInt ∧ ((0 : Int32)).toInt ≤ 1) ∧ (0 ≤ (t_next).toInt ∧ (t_next).toInt ≤ 1000) ∧ (0 ≤ (t_kind).toInt ∧ (t_kind).toInt ≤ 4) ∧ (0 ≤ (t_place).toInt ∧ (t_place).toInt ≤ 1000) ∧ (0 ≤ (e_size).toInt ∧ (e_size).toInt ≤ 1000) ∧ (¬ (t_kind).toInt = 3 ∨ (t_place).toInt ≤ 999) ∧ ((e_size).toInt ≤ (e_size).toInt) ∧ ((e_size).toInt + (t_place).toInt ≤ (e_size).toInt + (t_place).toInt) ∧ (IM (((0 : Int32)).toInt = 1) (CG e_steps e_steps (e_size).toInt.toNat (e_size).toInt.toNat (4 * 0 + 1) (vPt (TKS t_text (t_length).toInt.toNat) 0 (t_place).toInt.toNat))) ∧ (TH t_text (t_length).toInt.toNat (t_next).toInt (t_kind).toInt (t_place).toInt (t_number).toInt) ∧ (CP ((0 : Int32)).toInt (t_place).toInt ((u_20.2.1 0)).toInt (r_fault).toInt (rPt (TKS t_text (t_length).toInt.toNat) 0 (t_place).toInt.toNat)) from ⟨by omega, h_t_next, h_t_kind, h_t_place, h_e_size, by omega, by omega, by omega, (fun h => absurd h (by decide)), hTH, (CP.mv (CP.wr (k := 5) (by omega) (by omega) (by omega) (by omega)) (by rw [rPt_0]; rw [if_pos (show canP (TKS t_text (t_length).toInt.toNat) (t_place).toInt.toNat = true from canP_iff.mpr (Or.inr (Or.inr (Or.inr (by omega)))))]))⟩) [3, 4, 2, 0, 1] (by decide) rfl (by decide) (by decide) dX5_readPart_78
    · skip
      have el_0 : (0 : Int32).toInt = 0 := rfl
      rw [i_eq] at c_19
      refine j_iload_n (pc := 51) C dX5_readPart_51 rfl 1 rfl ?_
      refine j_if_ne (pc := 52) (tgt := 68) C dX5_readPart_52 (by decide) (fun c_22 => ?_) (fun c_22 => ?_)
      · skip
        have el_0 : (0 : Int32).toInt = 0 := rfl
        rw [i_eq] at c_22
        have k0c_22 : ((u_3.2.1 0)).toInt = 1 := by omega
        refine j_iload_n (pc := 68) C dX5_readPart_68 rfl 4 rfl ?_
        refine j_iconst (pc := 69) (v := 5) C dX5_readPart_69 (by decide) ?_
        have el_5 : (5 : Int32).toInt = 5 := rfl
        refine j_icmp_lt_f (pc := 70) (tgt := 79) C dX5_readPart_70 (by decide) (by rw [i_lt]; omega) ?_
        refine j_aload_n (pc := 73) C dX5_readPart_73 rfl 3 rfl ?_
        refine j_iconst (pc := 74) (v := 5) C dX5_readPart_74 (by decide) ?_
        refine j_callV (pc := 75) (As := [.int 5]) (rest := []) (wr := [(e0, .inr (1, [.int e_size, .int e_nests, .ref e1, .ref e2, .ref e3])), (e1, .inl (cyI, 1000, .inl e_steps)), (t1, .inl (cyC, 1000, .inl t_text))]) C (c_X5_wrong l D cyC cyI cyJ cyZ cyO r0 t0 e0 r1 r2 a0 t1 5 r_habits r_fault t_length t_next t_kind t_place t_number h_t_length h_t_next h_t_kind h_t_place (by decide)) wd_305 wd_306 wd_307 wd_308 wd_309 ⟨by decide, by decide, rfl⟩ rfl ⟨rfl, rfl, by decide, by decide⟩ ⟨by decide, by decide⟩ [0, 3] [1, 2, 4] rfl rfl ⟨by decide, by decide, by decide⟩ 0 rfl rfl rfl (Nat.le_of_ble_eq_true rfl) dX5_readPart_75 (fun u_23 hw_24 => ?_)
        refine j_eq (ws2 := [(e0, .inr (1, [.int e_size, .int e_nests, .ref e1, .ref e2, .ref e3])), (e1, .inl (cyI, 1000, .inl e_steps)), (t1, .inl (cyC, 1000, .inl t_text)), (r0, .inr (5, [.ref t0, .ref e0, .ref r1, .ref r2, .ref a0, .int r_habits, .int (u_23.2.1 0)])), (t0, .inr (8, [.ref t1, .int t_length, .int t_next, .int t_kind, .int t_place, .int t_number]))]) (pc2 := 78) (lv2 := [(4, .int t_number), (3, .int (u_3.2.1 0)), (2, .int (u_1.2.1 0)), (0, .ref r0), (1, .int p0)]) (st2 := [.int 0]) rfl rfl rfl rfl ?_
        have hw_24_0 : ((u_23.2.1 0)).toInt = ((5 : Int32)).toInt + 16 * (t_place).toInt := hw_24
        have el_0 : (0 : Int32).toInt = 0 := rfl
        have el_0 : (0 : Int32).toInt = 0 := rfl
        have el_0 : (0 : Int32).toInt = 0 := rfl
        have el_0 : (0 : Int32).toInt = 0 := rfl
        have el_0 : (0 : Int32).toInt = 0 := rfl
        have el_0 : (0 : Int32).toInt = 0 := rfl
        have el_0 : (0 : Int32).toInt = 0 := rfl
        have el_5 : (5 : Int32).toInt = 5 := rfl
        exact j_zret (pc := 78) C hr rfl hk (fun i => [].getD i 0, fun i => [0, (u_23.2.1 0), t_next, t_kind, t_place, t_number, e_size].getD i 0, fun i => [e_steps].getD i (fun _ => 0), fun i => [].getD i (fun _ => 0)) rfl (show (0 ≤ ((0 : Int32)).toInt ∧ ((0 : Int32)).toInt ≤ 1) ∧ (0 ≤ (t_next).toInt ∧ (t_next).toInt ≤ 1000) ∧ (0 ≤ (t_kind).toInt ∧ (t_kind).toInt ≤ 4) ∧ (0 ≤ (t_place).toInt ∧ (t_place).toInt ≤ 1000) ∧ (0 ≤ (e_size).toInt ∧ (e_size).toInt ≤ 1000) ∧ (¬ (t_kind).toInt = 3 ∨ (t_place).toInt ≤ 999) ∧ ((e_size).toInt ≤ (e_size).toInt) ∧ ((e_size).toInt + (t_place).toInt ≤ (e_size).toInt + (t_place).toInt) ∧ (IM (((0 : Int32)).toInt = 1) (CG e_steps e_steps (e_size).toInt.toNat (e_size).toInt.toNat (4 * 0 + 1) (vPt (TKS t_text (t_length).toInt.toNat) 0 (t_place).toInt.toNat))) ∧ (TH t_text (t_length).toInt.toNat (t_next).toInt (t_kind).toInt (t_place).toInt (t_number).toInt) ∧ (CP ((0 : Int32)).toInt (t_place).toInt ((u_23.2.1 0)).toInt (r_fault).toInt (rPt (TKS t_text (t_length).toInt.toNat) 0 (t_place).toInt.toNat)) from ⟨by omega, h_t_next, h_t_kind, h_t_place, h_e_size, by omega, by omega, by omega, (fun h => absurd h (by decide)), hTH, (CP.mv (CP.wr (k := 5) (by omega) (by omega) (by omega) (by omega)) (by rw [rPt_0]; rw [if_pos (show canP (TKS t_text (t_length).toInt.toNat) (t_place).toInt.toNat = true from canP_iff.mpr (Or.inr (Or.inr (Or.inl (by omega)))))]))⟩) [3, 4, 2, 0, 1] (by decide) rfl (by decide) (by decide) dX5_readPart_78
      · skip
        have el_0 : (0 : Int32).toInt = 0 := rfl
        rw [i_eq] at c_22
        refine j_iload (pc := 55) C dX5_readPart_55 0 rfl ?_
        refine j_bipush (pc := 57) (v := (-100)) C dX5_readPart_57 (by decide) ?_
        have el_m100 : ((-100) : Int32).toInt = (-100) := rfl
        refine j_icmp_ne_t (pc := 59) (tgt := 68) C dX5_readPart_59 (by decide) (by rw [i_eq]; omega) ?_
        refine j_iload_n (pc := 68) C dX5_readPart_68 rfl 4 rfl ?_
        refine j_iconst (pc := 69) (v := 5) C dX5_readPart_69 (by decide) ?_
        have el_5 : (5 : Int32).toInt = 5 := rfl
        refine j_icmp_lt_f (pc := 70) (tgt := 79) C dX5_readPart_70 (by decide) (by rw [i_lt]; omega) ?_
        refine j_aload_n (pc := 73) C dX5_readPart_73 rfl 3 rfl ?_
        refine j_iconst (pc := 74) (v := 5) C dX5_readPart_74 (by decide) ?_
        refine j_callV (pc := 75) (As := [.int 5]) (rest := []) (wr := [(e0, .inr (1, [.int e_size, .int e_nests, .ref e1, .ref e2, .ref e3])), (e1, .inl (cyI, 1000, .inl e_steps)), (t1, .inl (cyC, 1000, .inl t_text))]) C (c_X5_wrong l D cyC cyI cyJ cyZ cyO r0 t0 e0 r1 r2 a0 t1 5 r_habits r_fault t_length t_next t_kind t_place t_number h_t_length h_t_next h_t_kind h_t_place (by decide)) wd_305 wd_306 wd_307 wd_308 wd_309 ⟨by decide, by decide, rfl⟩ rfl ⟨rfl, rfl, by decide, by decide⟩ ⟨by decide, by decide⟩ [0, 3] [1, 2, 4] rfl rfl ⟨by decide, by decide, by decide⟩ 0 rfl rfl rfl (Nat.le_of_ble_eq_true rfl) dX5_readPart_75 (fun u_25 hw_26 => ?_)
        refine j_eq (ws2 := [(e0, .inr (1, [.int e_size, .int e_nests, .ref e1, .ref e2, .ref e3])), (e1, .inl (cyI, 1000, .inl e_steps)), (t1, .inl (cyC, 1000, .inl t_text)), (r0, .inr (5, [.ref t0, .ref e0, .ref r1, .ref r2, .ref a0, .int r_habits, .int (u_25.2.1 0)])), (t0, .inr (8, [.ref t1, .int t_length, .int t_next, .int t_kind, .int t_place, .int t_number]))]) (pc2 := 78) (lv2 := [(4, .int t_number), (3, .int (u_3.2.1 0)), (2, .int (u_1.2.1 0)), (0, .ref r0), (1, .int p0)]) (st2 := [.int 0]) rfl rfl rfl rfl ?_
        have hw_26_0 : ((u_25.2.1 0)).toInt = ((5 : Int32)).toInt + 16 * (t_place).toInt := hw_26
        have el_0 : (0 : Int32).toInt = 0 := rfl
        have el_0 : (0 : Int32).toInt = 0 := rfl
        have el_0 : (0 : Int32).toInt = 0 := rfl
        have el_0 : (0 : Int32).toInt = 0 := rfl
        have el_0 : (0 : Int32).toInt = 0 := rfl
        have el_0 : (0 : Int32).toInt = 0 := rfl
        have el_0 : (0 : Int32).toInt = 0 := rfl
        have el_5 : (5 : Int32).toInt = 5 := rfl
        exact j_zret (pc := 78) C hr rfl hk (fun i => [].getD i 0, fun i => [0, (u_25.2.1 0), t_next, t_kind, t_place, t_number, e_size].getD i 0, fun i => [e_steps].getD i (fun _ => 0), fun i => [].getD i (fun _ => 0)) rfl (show (0 ≤ ((0 : Int32)).toInt ∧ ((0 : Int32)).toInt ≤ 1) ∧ (0 ≤ (t_next).toInt ∧ (t_next).toInt ≤ 1000) ∧ (0 ≤ (t_kind).toInt ∧ (t_kind).toInt ≤ 4) ∧ (0 ≤ (t_place).toInt ∧ (t_place).toInt ≤ 1000) ∧ (0 ≤ (e_size).toInt ∧ (e_size).toInt ≤ 1000) ∧ (¬ (t_kind).toInt = 3 ∨ (t_place).toInt ≤ 999) ∧ ((e_size).toInt ≤ (e_size).toInt) ∧ ((e_size).toInt + (t_place).toInt ≤ (e_size).toInt + (t_place).toInt) ∧ (IM (((0 : Int32)).toInt = 1) (CG e_steps e_steps (e_size).toInt.toNat (e_size).toInt.toNat (4 * 0 + 1) (vPt (TKS t_text (t_length).toInt.toNat) 0 (t_place).toInt.toNat))) ∧ (TH t_text (t_length).toInt.toNat (t_next).toInt (t_kind).toInt (t_place).toInt (t_number).toInt) ∧ (CP ((0 : Int32)).toInt (t_place).toInt ((u_25.2.1 0)).toInt (r_fault).toInt (rPt (TKS t_text (t_length).toInt.toNat) 0 (t_place).toInt.toNat)) from ⟨by omega, h_t_next, h_t_kind, h_t_place, h_e_size, by omega, by omega, by omega, (fun h => absurd h (by decide)), hTH, (CP.mv (CP.wr (k := 5) (by omega) (by omega) (by omega) (by omega)) (by rw [rPt_0]; rw [if_pos (show canP (TKS t_text (t_length).toInt.toNat) (t_place).toInt.toNat = true from canP_iff.mpr (Or.inl (by have hk9 := hTH.kind; omega)))]))⟩) [3, 4, 2, 0, 1] (by decide) rfl (by decide) (by decide) dX5_readPart_78
set_option maxHeartbeats 4000000 in
set_option maxRecDepth 100000 in
theorem c_X5_readChain_4_z (l : Launch) (D : DG) (cyC cyI cyJ cyZ cyO : ClassId) (r0 : Nat) (t0 : Nat) (t1 : Nat) (e0 : Nat) (e1 : Nat) (r1 : Nat) (r2 : Nat) (a0 : Nat) (e2 : Nat) (e3 : Nat) (p0 : Int32) (r_habits : Int32) (r_fault : Int32) (t_length : Int32) (t_next : Int32) (t_kind : Int32) (t_place : Int32) (t_number : Int32) (e_size : Int32) (e_nests : Int32) (t_text : Nat → Int32) (e_steps : Nat → Int32) (h_t_length : 0 ≤ (t_length).toInt ∧ (t_length).toInt ≤ 1000) (h_t_next : 0 ≤ (t_next).toInt ∧ (t_next).toInt ≤ 1000) (h_t_kind : 0 ≤ (t_kind).toInt ∧ (t_kind).toInt ≤ 4) (h_t_place : 0 ≤ (t_place).toInt ∧ (t_place).toInt ≤ 1000) (h_e_size : 0 ≤ (e_size).toInt ∧ (e_size).toInt ≤ 1000) (h_e_nests : 0 ≤ (e_nests).toInt ∧ (e_nests).toInt ≤ 4) (h_t_text : Iv 1000 (0) (126) t_text) (ht3 : ¬ (t_kind).toInt = 3 ∨ (t_place).toInt ≤ 999) (hTH : TH t_text (t_length).toInt.toNat (t_next).toInt (t_kind).toInt (t_place).toInt (t_number).toInt) (hsz6 : (e_size).toInt ≤ (t_place).toInt) (hdp9 : (p0).toInt = 5 - ((0 : Nat) : Int)) : KK l D (TY cyC cyI cyJ cyZ cyO) yX5_readChain cX5_readChain 7 (some .boolean) ({ frames := 7, cells := 0, slots := 0, locals := 152 } : Room) 0 0 [.ref r0, .int 4, .int p0] [(r0, .inr (5, [.ref t0, .ref e0, .ref r1, .ref r2, .ref a0, .int r_habits, .int r_fault])), (t0, .inr (8, [.ref t1, .int t_length, .int t_next, .int t_kind, .int t_place, .int t_number])), (t1, .inl (cyC, 1000, .inl t_text)), (e0, .inr (1, [.int e_size, .int e_nests, .ref e1, .ref e2, .ref e3])), (e1, .inl (cyI, 1000, .inl e_steps))] (fun u => some (.int (u.2.1 0))) (fun u => (0 ≤ (u.2.1 0).toInt ∧ (u.2.1 0).toInt ≤ 1) ∧ (0 ≤ (u.2.1 2).toInt ∧ (u.2.1 2).toInt ≤ 1000) ∧ (0 ≤ (u.2.1 3).toInt ∧ (u.2.1 3).toInt ≤ 4) ∧ (0 ≤ (u.2.1 4).toInt ∧ (u.2.1 4).toInt ≤ 1000) ∧ (0 ≤ (u.2.1 6).toInt ∧ (u.2.1 6).toInt ≤ 1000) ∧ (¬ ((u.2.1 3)).toInt = 3 ∨ ((u.2.1 4)).toInt ≤ 999) ∧ ((e_size).toInt ≤ ((u.2.1 6)).toInt) ∧ (((u.2.1 6)).toInt + (t_place).toInt ≤ (e_size).toInt + ((u.2.1 4)).toInt) ∧ (IM (((u.2.1 0)).toInt = 1) (CG e_steps (u.2.2.1 0) (e_size).toInt.toNat ((u.2.1 6)).toInt.toNat (4 * 0 + 1) (vLv (TKS t_text (t_length).toInt.toNat) (rPt (TKS t_text (t_length).toInt.toNat) 0) (vPt (TKS t_text (t_length).toInt.toNat) 0) 0 (t_place).toInt.toNat))) ∧ (TH t_text (t_length).toInt.toNat ((u.2.1 2)).toInt ((u.2.1 3)).toInt ((u.2.1 4)).toInt ((u.2.1 5)).toInt) ∧ (CP ((u.2.1 0)).toInt ((u.2.1 4)).toInt ((u.2.1 1)).toInt (r_fault).toInt (rLv (TKS t_text (t_length).toInt.toNat) (rPt (TKS t_text (t_length).toInt.toNat) 0) 0 (t_place).toInt.toNat))) (fun u => [(r0, .inr (5, [.ref t0, .ref e0, .ref r1, .ref r2, .ref a0, .int r_habits, .int (u.2.1 1)])), (t0, .inr (8, [.ref t1, .int t_length, .int (u.2.1 2), .int (u.2.1 3), .int (u.2.1 4), .int (u.2.1 5)])), (t1, .inl (cyC, 1000, .inl t_text)), (e0, .inr (1, [.int (u.2.1 6), .int e_nests, .ref e1, .ref e2, .ref e3])), (e1, .inl (cyI, 1000, .inl (u.2.2.1 0)))]) := by
  refine KK.of (lv0 := [(0, .ref r0), (1, .int 4), (2, .int p0)]) (by decide) rfl (Nat.le_of_ble_eq_true rfl) ?_
  intro p e s m args below meth c A C hr hk hin
  refine j_iload_n (pc := 0) C dX5_readChain_0 rfl 1 rfl ?_
  refine j_iconst (pc := 1) (v := 4) C dX5_readChain_1 (by decide) ?_
  refine j_icmp_lt_f (pc := 2) (tgt := 11) C dX5_readChain_2 (by decide) (by decide) ?_
  refine j_aload_n (pc := 5) C dX5_readChain_5 rfl 0 rfl ?_
  refine j_iload_n (pc := 6) C dX5_readChain_6 rfl 2 rfl ?_
  refine j_callV (pc := 7) (As := [.int p0]) (rest := []) (wr := []) C (c_X5_readPart_z l D cyC cyI cyJ cyZ cyO r0 t0 t1 e0 e1 r1 r2 a0 e2 e3 p0 r_habits r_fault t_length t_next t_kind t_place t_number e_size e_nests t_text e_steps h_t_length h_t_next h_t_kind h_t_place h_e_size h_e_nests h_t_text ht3 hTH hsz6 hdp9) wd_336 wd_306 wd_337 wd_338 wd_339 ⟨by decide, by decide, rfl⟩ rfl ⟨rfl, rfl, by decide, by decide⟩ ⟨by decide, by decide⟩ [0, 1, 2, 3, 4] [] rfl rfl ⟨by decide, by decide, by decide⟩ 0 rfl rfl rfl (Nat.le_of_ble_eq_true rfl) dX5_readChain_7 (fun u_1 hw_2 => ?_)
  refine j_eq (ws2 := [(r0, .inr (5, [.ref t0, .ref e0, .ref r1, .ref r2, .ref a0, .int r_habits, .int (u_1.2.1 1)])), (t0, .inr (8, [.ref t1, .int t_length, .int (u_1.2.1 2), .int (u_1.2.1 3), .int (u_1.2.1 4), .int (u_1.2.1 5)])), (t1, .inl (cyC, 1000, .inl t_text)), (e0, .inr (1, [.int (u_1.2.1 6), .int e_nests, .ref e1, .ref e2, .ref e3])), (e1, .inl (cyI, 1000, .inl (u_1.2.2.1 0)))]) (pc2 := 10) (lv2 := [(0, .ref r0), (1, .int 4), (2, .int p0)]) (st2 := [.int (u_1.2.1 0)]) rfl rfl rfl rfl ?_
  obtain ⟨hw_2_0, hw_2_1, hw_2_2, hw_2_3, hw_2_4, hw_2_5, hw_2_6, hw_2_7, hw_2_8, hw_2_9, hw_2_10⟩ := hw_2
  exact j_zret (pc := 10) C hr (nb_01 ⟨by omega, by omega⟩).1 hk (fun i => [].getD i 0, fun i => [(u_1.2.1 0), (u_1.2.1 1), (u_1.2.1 2), (u_1.2.1 3), (u_1.2.1 4), (u_1.2.1 5), (u_1.2.1 6)].getD i 0, fun i => [(u_1.2.2.1 0)].getD i (fun _ => 0), fun i => [].getD i (fun _ => 0)) rfl (show (0 ≤ ((u_1.2.1 0)).toInt ∧ ((u_1.2.1 0)).toInt ≤ 1) ∧ (0 ≤ ((u_1.2.1 2)).toInt ∧ ((u_1.2.1 2)).toInt ≤ 1000) ∧ (0 ≤ ((u_1.2.1 3)).toInt ∧ ((u_1.2.1 3)).toInt ≤ 4) ∧ (0 ≤ ((u_1.2.1 4)).toInt ∧ ((u_1.2.1 4)).toInt ≤ 1000) ∧ (0 ≤ ((u_1.2.1 6)).toInt ∧ ((u_1.2.1 6)).toInt ≤ 1000) ∧ (¬ ((u_1.2.1 3)).toInt = 3 ∨ ((u_1.2.1 4)).toInt ≤ 999) ∧ ((e_size).toInt ≤ ((u_1.2.1 6)).toInt) ∧ (((u_1.2.1 6)).toInt + (t_place).toInt ≤ (e_size).toInt + ((u_1.2.1 4)).toInt) ∧ (IM (((u_1.2.1 0)).toInt = 1) (CG e_steps (u_1.2.2.1 0) (e_size).toInt.toNat ((u_1.2.1 6)).toInt.toNat (4 * 0 + 1) (vLv (TKS t_text (t_length).toInt.toNat) (rPt (TKS t_text (t_length).toInt.toNat) 0) (vPt (TKS t_text (t_length).toInt.toNat) 0) 0 (t_place).toInt.toNat))) ∧ (TH t_text (t_length).toInt.toNat ((u_1.2.1 2)).toInt ((u_1.2.1 3)).toInt ((u_1.2.1 4)).toInt ((u_1.2.1 5)).toInt) ∧ (CP ((u_1.2.1 0)).toInt ((u_1.2.1 4)).toInt ((u_1.2.1 1)).toInt (r_fault).toInt (rLv (TKS t_text (t_length).toInt.toNat) (rPt (TKS t_text (t_length).toInt.toNat) 0) 0 (t_place).toInt.toNat)) from ⟨hw_2_0, hw_2_1, hw_2_2, hw_2_3, hw_2_4, by omega, by omega, by omega, hw_2_8, hw_2_9, (CP.mv hw_2_10 rLv0)⟩) [0, 1, 2, 3, 4] (by decide) rfl (by decide) (by decide) dX5_readChain_10
set_option maxHeartbeats 4000000 in
set_option maxRecDepth 100000 in
theorem c_X5_readChain_3_z (l : Launch) (D : DG) (cyC cyI cyJ cyZ cyO : ClassId) (r0 : Nat) (t0 : Nat) (t1 : Nat) (e0 : Nat) (e1 : Nat) (r1 : Nat) (r2 : Nat) (a0 : Nat) (e2 : Nat) (e3 : Nat) (p0 : Int32) (r_habits : Int32) (r_fault : Int32) (t_length : Int32) (t_next : Int32) (t_kind : Int32) (t_place : Int32) (t_number : Int32) (e_size : Int32) (e_nests : Int32) (t_text : Nat → Int32) (e_steps : Nat → Int32) (h_t_length : 0 ≤ (t_length).toInt ∧ (t_length).toInt ≤ 1000) (h_t_next : 0 ≤ (t_next).toInt ∧ (t_next).toInt ≤ 1000) (h_t_kind : 0 ≤ (t_kind).toInt ∧ (t_kind).toInt ≤ 4) (h_t_place : 0 ≤ (t_place).toInt ∧ (t_place).toInt ≤ 1000) (h_e_size : 0 ≤ (e_size).toInt ∧ (e_size).toInt ≤ 1000) (h_e_nests : 0 ≤ (e_nests).toInt ∧ (e_nests).toInt ≤ 4) (h_t_text : Iv 1000 (0) (126) t_text) (ht3 : ¬ (t_kind).toInt = 3 ∨ (t_place).toInt ≤ 999) (hTH : TH t_text (t_length).toInt.toNat (t_next).toInt (t_kind).toInt (t_place).toInt (t_number).toInt) (hsz6 : (e_size).toInt ≤ (t_place).toInt) (hdp9 : (p0).toInt = 5 - ((0 : Nat) : Int)) : KK l D (TY cyC cyI cyJ cyZ cyO) yX5_readChain cX5_readChain 7 (some .boolean) ({ frames := 8, cells := 0, slots := 0, locals := 178 } : Room) 0 0 [.ref r0, .int 3, .int p0] [(r0, .inr (5, [.ref t0, .ref e0, .ref r1, .ref r2, .ref a0, .int r_habits, .int r_fault])), (t0, .inr (8, [.ref t1, .int t_length, .int t_next, .int t_kind, .int t_place, .int t_number])), (t1, .inl (cyC, 1000, .inl t_text)), (e0, .inr (1, [.int e_size, .int e_nests, .ref e1, .ref e2, .ref e3])), (e1, .inl (cyI, 1000, .inl e_steps))] (fun u => some (.int (u.2.1 0))) (fun u => (0 ≤ (u.2.1 0).toInt ∧ (u.2.1 0).toInt ≤ 1) ∧ (0 ≤ (u.2.1 2).toInt ∧ (u.2.1 2).toInt ≤ 1000) ∧ (0 ≤ (u.2.1 3).toInt ∧ (u.2.1 3).toInt ≤ 4) ∧ (0 ≤ (u.2.1 4).toInt ∧ (u.2.1 4).toInt ≤ 1000) ∧ (0 ≤ (u.2.1 6).toInt ∧ (u.2.1 6).toInt ≤ 1000) ∧ (¬ ((u.2.1 3)).toInt = 3 ∨ ((u.2.1 4)).toInt ≤ 999) ∧ ((e_size).toInt ≤ ((u.2.1 6)).toInt) ∧ (((u.2.1 6)).toInt + (t_place).toInt ≤ (e_size).toInt + ((u.2.1 4)).toInt) ∧ (IM (((u.2.1 0)).toInt = 1) (CG e_steps (u.2.2.1 0) (e_size).toInt.toNat ((u.2.1 6)).toInt.toNat (4 * 0 + 2) (vLv (TKS t_text (t_length).toInt.toNat) (rPt (TKS t_text (t_length).toInt.toNat) 0) (vPt (TKS t_text (t_length).toInt.toNat) 0) 1 (t_place).toInt.toNat))) ∧ (TH t_text (t_length).toInt.toNat ((u.2.1 2)).toInt ((u.2.1 3)).toInt ((u.2.1 4)).toInt ((u.2.1 5)).toInt) ∧ (CP ((u.2.1 0)).toInt ((u.2.1 4)).toInt ((u.2.1 1)).toInt (r_fault).toInt (rLv (TKS t_text (t_length).toInt.toNat) (rPt (TKS t_text (t_length).toInt.toNat) 0) 1 (t_place).toInt.toNat))) (fun u => [(r0, .inr (5, [.ref t0, .ref e0, .ref r1, .ref r2, .ref a0, .int r_habits, .int (u.2.1 1)])), (t0, .inr (8, [.ref t1, .int t_length, .int (u.2.1 2), .int (u.2.1 3), .int (u.2.1 4), .int (u.2.1 5)])), (t1, .inl (cyC, 1000, .inl t_text)), (e0, .inr (1, [.int (u.2.1 6), .int e_nests, .ref e1, .ref e2, .ref e3])), (e1, .inl (cyI, 1000, .inl (u.2.2.1 0)))]) := by
  refine KK.of (lv0 := [(0, .ref r0), (1, .int 3), (2, .int p0)]) (by decide) rfl (Nat.le_of_ble_eq_true rfl) ?_
  intro p e s m args below meth c A C hr hk hin
  refine j_iload_n (pc := 0) C dX5_readChain_0 rfl 1 rfl ?_
  refine j_iconst (pc := 1) (v := 4) C dX5_readChain_1 (by decide) ?_
  refine j_icmp_lt_t (pc := 2) (tgt := 11) C dX5_readChain_2 (by decide) (by decide) ?_
  refine j_aload_n (pc := 11) C dX5_readChain_11 rfl 0 rfl ?_
  refine j_iload_n (pc := 12) C dX5_readChain_12 rfl 1 rfl ?_
  refine j_iconst (pc := 13) (v := 1) C dX5_readChain_13 (by decide) ?_
  refine j_iadd (pc := 14) (v := 4) C dX5_readChain_14 (by decide) ?_
  refine j_iload_n (pc := 15) C dX5_readChain_15 rfl 2 rfl ?_
  refine j_callV (pc := 16) (As := [.int 4, .int p0]) (rest := []) (wr := []) C (c_X5_readChain_4_z l D cyC cyI cyJ cyZ cyO r0 t0 t1 e0 e1 r1 r2 a0 e2 e3 p0 r_habits r_fault t_length t_next t_kind t_place t_number e_size e_nests t_text e_steps h_t_length h_t_next h_t_kind h_t_place h_e_size h_e_nests h_t_text ht3 hTH hsz6 hdp9) wd_340 wd_306 wd_341 wd_342 wd_343 ⟨by decide, by decide, rfl⟩ rfl ⟨rfl, rfl, by decide, by decide⟩ ⟨by decide, by decide⟩ [0, 1, 2, 3, 4] [] rfl rfl ⟨by decide, by decide, by decide⟩ 0 rfl rfl rfl (Nat.le_of_ble_eq_true rfl) dX5_readChain_16 (fun u_1 hw_2 => ?_)
  refine j_eq (ws2 := [(r0, .inr (5, [.ref t0, .ref e0, .ref r1, .ref r2, .ref a0, .int r_habits, .int (u_1.2.1 1)])), (t0, .inr (8, [.ref t1, .int t_length, .int (u_1.2.1 2), .int (u_1.2.1 3), .int (u_1.2.1 4), .int (u_1.2.1 5)])), (t1, .inl (cyC, 1000, .inl t_text)), (e0, .inr (1, [.int (u_1.2.1 6), .int e_nests, .ref e1, .ref e2, .ref e3])), (e1, .inl (cyI, 1000, .inl (u_1.2.2.1 0)))]) (pc2 := 19) (lv2 := [(0, .ref r0), (1, .int 3), (2, .int p0)]) (st2 := [.int (u_1.2.1 0)]) rfl rfl rfl rfl ?_
  obtain ⟨hw_2_0, hw_2_1, hw_2_2, hw_2_3, hw_2_4, hw_2_5, hw_2_6, hw_2_7, hw_2_8, hw_2_9, hw_2_10⟩ := hw_2
  refine j_istore_n (pc := 19) (lv' := [(3, .int (u_1.2.1 0)), (0, .ref r0), (1, .int 3), (2, .int p0)]) C dX5_readChain_19 rfl (by decide) rfl ?_
  refine j_iload_n (pc := 20) C dX5_readChain_20 rfl 2 rfl ?_
  refine j_iconst (pc := 21) (v := 1) C dX5_readChain_21 (by decide) ?_
  refine j_icmp_ne_t (pc := 22) (tgt := 29) C dX5_readChain_22 (by decide) (by decide) ?_
  refine j_sipush (pc := 29) (v := 1000) C dX5_readChain_29 (by decide) ?_
  refine j_istore (pc := 32) (lv' := [(4, .int 1000), (3, .int (u_1.2.1 0)), (0, .ref r0), (1, .int 3), (2, .int p0)]) C dX5_readChain_32 (by decide) rfl ?_
  refine j_iconst (pc := 34) (v := 0) C dX5_readChain_34 (by decide) ?_
  refine j_istore (pc := 35) (lv' := [(5, .int 0), (4, .int 1000), (3, .int (u_1.2.1 0)), (0, .ref r0), (1, .int 3), (2, .int p0)]) C dX5_readChain_35 (by decide) rfl ?_
  have loop_3 : ∀ (k_3 : Nat) (x3_5 : Int32) (x3_3 : Int32) (y3_r0_6 : Int32) (y3_t0_2 : Int32) (y3_t0_3 : Int32) (y3_t0_4 : Int32) (y3_t0_5 : Int32) (y3_e0_0 : Int32) (g3_e1 : Nat → Int32), (0 ≤ (x3_5).toInt ∧ (x3_5).toInt ≤ 1000) → (0 ≤ (x3_3).toInt ∧ (x3_3).toInt ≤ 1) → (0 ≤ (y3_t0_2).toInt ∧ (y3_t0_2).toInt ≤ 1000) → (0 ≤ (y3_t0_3).toInt ∧ (y3_t0_3).toInt ≤ 4) → (0 ≤ (y3_t0_4).toInt ∧ (y3_t0_4).toInt ≤ 1000) → (0 ≤ (y3_e0_0).toInt ∧ (y3_e0_0).toInt ≤ 1000) → ((¬ y3_t0_3.toInt = 3 ∨ y3_t0_4.toInt ≤ 999) ∧ (e_size).toInt ≤ y3_e0_0.toInt ∧ y3_e0_0.toInt + (t_place).toInt ≤ (e_size).toInt + y3_t0_4.toInt) → (TH t_text (t_length).toInt.toNat y3_t0_2.toInt y3_t0_3.toInt y3_t0_4.toInt y3_t0_5.toInt) → (CH (TKS t_text (t_length).toInt.toNat) (rLv (TKS t_text (t_length).toInt.toNat) (rPt (TKS t_text (t_length).toInt.toNat) 0) 0) (jnt (TKS t_text (t_length).toInt.toNat) 3) (1000 - x3_5.toInt).toNat x3_3.toInt y3_t0_4.toInt y3_r0_6.toInt (r_fault).toInt (rLv (TKS t_text (t_length).toInt.toNat) (rPt (TKS t_text (t_length).toInt.toNat) 0) 1 (t_place).toInt.toNat)) → (IM (x3_3.toInt = 1) (CHV (TKS t_text (t_length).toInt.toNat) e_steps g3_e1 (e_size).toInt.toNat (y3_e0_0.toInt).toNat (4 * 0 + 2) (rLv (TKS t_text (t_length).toInt.toNat) (rPt (TKS t_text (t_length).toInt.toNat) 0) 0) (vLv (TKS t_text (t_length).toInt.toNat) (rPt (TKS t_text (t_length).toInt.toNat) 0) (vPt (TKS t_text (t_length).toInt.toNat) 0) 0) (jnt (TKS t_text (t_length).toInt.toNat) 3) (jcd (TKS t_text (t_length).toInt.toNat) 3) (1000 - x3_5.toInt).toNat (y3_t0_4.toInt).toNat (vLv (TKS t_text (t_length).toInt.toNat) (rPt (TKS t_text (t_length).toInt.toNat) 0) (vPt (TKS t_text (t_length).toInt.toNat) 0) 1 (t_place).toInt.toNat))) → (1000 - x3_5.toInt).toNat < k_3 → J p l e ({ frames := 8, cells := 0, slots := 0, locals := 178 } : Room) s m args below meth c D A 7 0 0 (QX below D (TY cyC cyI cyJ cyZ cyO) A (fun u => some (.int (u.2.1 0))) (fun u => (0 ≤ (u.2.1 0).toInt ∧ (u.2.1 0).toInt ≤ 1) ∧ (0 ≤ (u.2.1 2).toInt ∧ (u.2.1 2).toInt ≤ 1000) ∧ (0 ≤ (u.2.1 3).toInt ∧ (u.2.1 3).toInt ≤ 4) ∧ (0 ≤ (u.2.1 4).toInt ∧ (u.2.1 4).toInt ≤ 1000) ∧ (0 ≤ (u.2.1 6).toInt ∧ (u.2.1 6).toInt ≤ 1000) ∧ (¬ ((u.2.1 3)).toInt = 3 ∨ ((u.2.1 4)).toInt ≤ 999) ∧ ((e_size).toInt ≤ ((u.2.1 6)).toInt) ∧ (((u.2.1 6)).toInt + (t_place).toInt ≤ (e_size).toInt + ((u.2.1 4)).toInt) ∧ (IM (((u.2.1 0)).toInt = 1) (CG e_steps (u.2.2.1 0) (e_size).toInt.toNat ((u.2.1 6)).toInt.toNat (4 * 0 + 2) (vLv (TKS t_text (t_length).toInt.toNat) (rPt (TKS t_text (t_length).toInt.toNat) 0) (vPt (TKS t_text (t_length).toInt.toNat) 0) 1 (t_place).toInt.toNat))) ∧ (TH t_text (t_length).toInt.toNat ((u.2.1 2)).toInt ((u.2.1 3)).toInt ((u.2.1 4)).toInt ((u.2.1 5)).toInt) ∧ (CP ((u.2.1 0)).toInt ((u.2.1 4)).toInt ((u.2.1 1)).toInt (r_fault).toInt (rLv (TKS t_text (t_length).toInt.toNat) (rPt (TKS t_text (t_length).toInt.toNat) 0) 1 (t_place).toInt.toNat))) (fun u => [(r0, .inr (5, [.ref t0, .ref e0, .ref r1, .ref r2, .ref a0, .int r_habits, .int (u.2.1 1)])), (t0, .inr (8, [.ref t1, .int t_length, .int (u.2.1 2), .int (u.2.1 3), .int (u.2.1 4), .int (u.2.1 5)])), (t1, .inl (cyC, 1000, .inl t_text)), (e0, .inr (1, [.int (u.2.1 6), .int e_nests, .ref e1, .ref e2, .ref e3])), (e1, .inl (cyI, 1000, .inl (u.2.2.1 0)))]) args s 0 0) [(r0, .inr (5, [.ref t0, .ref e0, .ref r1, .ref r2, .ref a0, .int r_habits, .int y3_r0_6])), (t0, .inr (8, [.ref t1, .int t_length, .int y3_t0_2, .int y3_t0_3, .int y3_t0_4, .int y3_t0_5])), (t1, .inl (cyC, 1000, .inl t_text)), (e0, .inr (1, [.int y3_e0_0, .int e_nests, .ref e1, .ref e2, .ref e3])), (e1, .inl (cyI, 1000, .inl g3_e1))] 37 [(5, .int x3_5), (4, .int 1000), (3, .int x3_3), (0, .ref r0), (1, .int 3), (2, .int p0)] [] := by
    intro k_3
    induction k_3 with
    | zero =>
      intro x3_5 x3_3 y3_r0_6 y3_t0_2 y3_t0_3 y3_t0_4 y3_t0_5 y3_e0_0 g3_e1 hi_3_0 hi_3_1 hi_3_3 hi_3_4 hi_3_5 hi_3_7 hr_3 hq_3_0 hq_3_1 hq_3_2 hm_3
      exact absurd hm_3 (Nat.not_lt_zero _)
    | succ k_3 ih_3 =>
      intro x3_5 x3_3 y3_r0_6 y3_t0_2 y3_t0_3 y3_t0_4 y3_t0_5 y3_e0_0 g3_e1 hi_3_0 hi_3_1 hi_3_3 hi_3_4 hi_3_5 hi_3_7 hr_3 hq_3_0 hq_3_1 hq_3_2 hm_3
      refine j_iload (pc := 37) C dX5_readChain_37 0 rfl ?_
      refine j_iload (pc := 39) C dX5_readChain_39 1 rfl ?_
      refine j_icmp_ge (pc := 41) (tgt := 95) C dX5_readChain_41 (by decide) (fun c_4 => ?_) (fun c_4 => ?_)
      · skip
        have el_1000 : (1000 : Int32).toInt = 1000 := rfl
        rw [i_le] at c_4
        have k0c_4 : x3_5.toInt = 1000 := by omega
        refine j_iload_n (pc := 95) C dX5_readChain_95 rfl 2 rfl ?_
        exact j_zret (pc := 96) C hr (nb_01 ⟨by omega, by omega⟩).1 hk (fun i => [].getD i 0, fun i => [x3_3, y3_r0_6, y3_t0_2, y3_t0_3, y3_t0_4, y3_t0_5, y3_e0_0].getD i 0, fun i => [g3_e1].getD i (fun _ => 0), fun i => [].getD i (fun _ => 0)) rfl (show (0 ≤ (x3_3).toInt ∧ (x3_3).toInt ≤ 1) ∧ (0 ≤ (y3_t0_2).toInt ∧ (y3_t0_2).toInt ≤ 1000) ∧ (0 ≤ (y3_t0_3).toInt ∧ (y3_t0_3).toInt ≤ 4) ∧ (0 ≤ (y3_t0_4).toInt ∧ (y3_t0_4).toInt ≤ 1000) ∧ (0 ≤ (y3_e0_0).toInt ∧ (y3_e0_0).toInt ≤ 1000) ∧ (¬ (y3_t0_3).toInt = 3 ∨ (y3_t0_4).toInt ≤ 999) ∧ ((e_size).toInt ≤ (y3_e0_0).toInt) ∧ ((y3_e0_0).toInt + (t_place).toInt ≤ (e_size).toInt + (y3_t0_4).toInt) ∧ (IM ((x3_3).toInt = 1) (CG e_steps g3_e1 (e_size).toInt.toNat (y3_e0_0).toInt.toNat (4 * 0 + 2) (vLv (TKS t_text (t_length).toInt.toNat) (rPt (TKS t_text (t_length).toInt.toNat) 0) (vPt (TKS t_text (t_length).toInt.toNat) 0) 1 (t_place).toInt.toNat))) ∧ (TH t_text (t_length).toInt.toNat (y3_t0_2).toInt (y3_t0_3).toInt (y3_t0_4).toInt (y3_t0_5).toInt) ∧ (CP (x3_3).toInt (y3_t0_4).toInt (y3_r0_6).toInt (r_fault).toInt (rLv (TKS t_text (t_length).toInt.toNat) (rPt (TKS t_text (t_length).toInt.toNat) 0) 1 (t_place).toInt.toNat)) from ⟨hi_3_1, hi_3_3, hi_3_4, hi_3_5, hi_3_7, by omega, by omega, by omega, (fun z => CHV.stop (hq_3_2 (by omega)) (Or.inl (by omega))), hq_3_0, (CH.stop hq_3_1 (fun z => Or.inl (by omega)))⟩) [0, 1, 2, 3, 4] (by decide) rfl (by decide) (by decide) dX5_readChain_96
      · skip
        have el_1000 : (1000 : Int32).toInt = 1000 := rfl
        rw [i_le] at c_4
        refine j_iload_n (pc := 44) C dX5_readChain_44 rfl 2 rfl ?_
        refine j_if_eq (pc := 45) (tgt := 95) C dX5_readChain_45 (by decide) (fun c_5 => ?_) (fun c_5 => ?_)
        · skip
          have el_0 : (0 : Int32).toInt = 0 := rfl
          rw [i_eq] at c_5
          refine j_iload_n (pc := 95) C dX5_readChain_95 rfl 2 rfl ?_
          exact j_zret (pc := 96) C hr (nb_01 ⟨by omega, by omega⟩).1 hk (fun i => [].getD i 0, fun i => [x3_3, y3_r0_6, y3_t0_2, y3_t0_3, y3_t0_4, y3_t0_5, y3_e0_0].getD i 0, fun i => [g3_e1].getD i (fun _ => 0), fun i => [].getD i (fun _ => 0)) rfl (show (0 ≤ (x3_3).toInt ∧ (x3_3).toInt ≤ 1) ∧ (0 ≤ (y3_t0_2).toInt ∧ (y3_t0_2).toInt ≤ 1000) ∧ (0 ≤ (y3_t0_3).toInt ∧ (y3_t0_3).toInt ≤ 4) ∧ (0 ≤ (y3_t0_4).toInt ∧ (y3_t0_4).toInt ≤ 1000) ∧ (0 ≤ (y3_e0_0).toInt ∧ (y3_e0_0).toInt ≤ 1000) ∧ (¬ (y3_t0_3).toInt = 3 ∨ (y3_t0_4).toInt ≤ 999) ∧ ((e_size).toInt ≤ (y3_e0_0).toInt) ∧ ((y3_e0_0).toInt + (t_place).toInt ≤ (e_size).toInt + (y3_t0_4).toInt) ∧ (IM ((x3_3).toInt = 1) (CG e_steps g3_e1 (e_size).toInt.toNat (y3_e0_0).toInt.toNat (4 * 0 + 2) (vLv (TKS t_text (t_length).toInt.toNat) (rPt (TKS t_text (t_length).toInt.toNat) 0) (vPt (TKS t_text (t_length).toInt.toNat) 0) 1 (t_place).toInt.toNat))) ∧ (TH t_text (t_length).toInt.toNat (y3_t0_2).toInt (y3_t0_3).toInt (y3_t0_4).toInt (y3_t0_5).toInt) ∧ (CP (x3_3).toInt (y3_t0_4).toInt (y3_r0_6).toInt (r_fault).toInt (rLv (TKS t_text (t_length).toInt.toNat) (rPt (TKS t_text (t_length).toInt.toNat) 0) 1 (t_place).toInt.toNat)) from ⟨hi_3_1, hi_3_3, hi_3_4, hi_3_5, hi_3_7, by omega, by omega, by omega, (fun z => absurd z (by omega)), hq_3_0, (CH.stop hq_3_1 (fun z => absurd z (by omega)))⟩) [0, 1, 2, 3, 4] (by decide) rfl (by decide) (by decide) dX5_readChain_96
        · skip
          have el_0 : (0 : Int32).toInt = 0 := rfl
          rw [i_eq] at c_5
          have k0c_5 : x3_3.toInt = 1 := by omega
          refine j_aload_n (pc := 48) C dX5_readChain_48 rfl 3 rfl ?_
          refine j_iload_n (pc := 49) C dX5_readChain_49 rfl 4 rfl ?_
          refine j_callV (pc := 50) (As := [.int 3]) (rest := []) (wr := [(e0, .inr (1, [.int y3_e0_0, .int e_nests, .ref e1, .ref e2, .ref e3])), (e1, .inl (cyI, 1000, .inl g3_e1))]) C (c_X5_joint_3 l D cyC cyI cyJ cyZ cyO r0 t0 t1 e0 r1 r2 a0 r_habits y3_r0_6 t_length y3_t0_2 y3_t0_3 y3_t0_4 y3_t0_5 t_text h_t_length hi_3_3 hi_3_4 hi_3_5 h_t_text (by omega) hq_3_0) wd_349 wd_306 wd_350 wd_351 wd_352 ⟨by decide, by decide, rfl⟩ rfl ⟨rfl, rfl, by decide, by decide⟩ ⟨by decide, by decide⟩ [0, 1, 2] [3, 4] rfl rfl ⟨by decide, by decide, by decide⟩ 0 rfl rfl rfl (Nat.le_of_ble_eq_true rfl) dX5_readChain_50 (fun u_6 hw_7 => ?_)
          refine j_eq (ws2 := [(e0, .inr (1, [.int y3_e0_0, .int e_nests, .ref e1, .ref e2, .ref e3])), (e1, .inl (cyI, 1000, .inl g3_e1)), (r0, .inr (5, [.ref t0, .ref e0, .ref r1, .ref r2, .ref a0, .int r_habits, .int y3_r0_6])), (t0, .inr (8, [.ref t1, .int t_length, .int y3_t0_2, .int y3_t0_3, .int y3_t0_4, .int y3_t0_5])), (t1, .inl (cyC, 1000, .inl t_text))]) (pc2 := 53) (lv2 := [(5, .int x3_5), (4, .int 1000), (3, .int x3_3), (0, .ref r0), (1, .int 3), (2, .int p0)]) (st2 := [.int (u_6.2.1 0)]) rfl rfl rfl rfl ?_
          obtain ⟨hw_7_0, hw_7_1, hw_7_2⟩ := hw_7
          refine j_istore (pc := 53) (lv' := [(6, .int (u_6.2.1 0)), (5, .int x3_5), (4, .int 1000), (3, .int x3_3), (0, .ref r0), (1, .int 3), (2, .int p0)]) C dX5_readChain_53 (by decide) rfl ?_
          refine j_iload (pc := 55) C dX5_readChain_55 0 rfl ?_
          refine j_bipush (pc := 57) (v := (-100)) C dX5_readChain_57 (by decide) ?_
          refine j_icmp_ne (pc := 59) (tgt := 64) C dX5_readChain_59 (by decide) (fun c_8 => ?_) (fun c_8 => ?_)
          · skip
            have el_m100 : ((-100) : Int32).toInt = (-100) := rfl
            rw [i_eq] at c_8
            refine j_aload_n (pc := 64) C dX5_readChain_64 rfl 4 rfl ?_
            refine j_get (pc := 65) (ci := 5) (v := .ref t0) C inw_5 2 rfl rfl 0 (by decide) wd_296 rfl rfl dX5_readChain_65 ?_
            refine j_callV (pc := 68) (As := []) (rest := []) (wr := [(e0, .inr (1, [.int y3_e0_0, .int e_nests, .ref e1, .ref e2, .ref e3])), (e1, .inl (cyI, 1000, .inl g3_e1)), (r0, .inr (5, [.ref t0, .ref e0, .ref r1, .ref r2, .ref a0, .int r_habits, .int y3_r0_6]))]) C (c_X8_advance_f l D cyC cyI cyJ cyZ cyO t0 t1 t_length y3_t0_2 y3_t0_3 y3_t0_4 y3_t0_5 t_text h_t_length hi_3_3 hi_3_4 hi_3_5 h_t_text) wd_277 wd_258 wd_304 wd_279 wd_280 ⟨by decide, by decide, rfl⟩ rfl ⟨rfl, rfl, by decide, by decide⟩ ⟨by decide, by decide⟩ [3, 4] [0, 1, 2] rfl rfl ⟨by decide, by decide, by decide⟩ 3 rfl rfl rfl (Nat.le_of_ble_eq_true rfl) dX5_readChain_68 (fun u_9 hw_10 => ?_)
            refine j_eq (ws2 := [(e0, .inr (1, [.int y3_e0_0, .int e_nests, .ref e1, .ref e2, .ref e3])), (e1, .inl (cyI, 1000, .inl g3_e1)), (r0, .inr (5, [.ref t0, .ref e0, .ref r1, .ref r2, .ref a0, .int r_habits, .int y3_r0_6])), (t0, .inr (8, [.ref t1, .int t_length, .int (u_9.2.1 0), .int (u_9.2.1 1), .int (u_9.2.1 2), .int (u_9.2.1 3)])), (t1, .inl (cyC, 1000, .inl t_text))]) (pc2 := 71) (lv2 := [(6, .int (u_6.2.1 0)), (5, .int x3_5), (4, .int 1000), (3, .int x3_3), (0, .ref r0), (1, .int 3), (2, .int p0)]) (st2 := []) rfl rfl rfl rfl ?_
            obtain ⟨hw_10_0, hw_10_1, hw_10_2, hw_10_3, hw_10_4, hw_10_5⟩ := hw_10
            have ha_u_9 := (hw_10_5).trans (TH.adv hq_3_0)
            have hj9 : jnt (TKS t_text (t_length).toInt.toNat) 3 (y3_t0_4).toInt.toNat = true := by rcases hw_7_2 with z | z; (exfalso; omega); exact z.2
            have hg9 := jnt_gt (PT_TKS (f := t_text) (n := (t_length).toInt.toNat) (by omega)) hj9
            have hga9 := ha_u_9
            refine j_aload_n (pc := 71) C dX5_readChain_71 rfl 4 rfl ?_
            refine j_iload_n (pc := 72) C dX5_readChain_72 rfl 5 rfl ?_
            refine j_iconst (pc := 73) (v := 1) C dX5_readChain_73 (by decide) ?_
            refine j_iadd (pc := 74) (v := 4) C dX5_readChain_74 (by decide) ?_
            refine j_iload_n (pc := 75) C dX5_readChain_75 rfl 6 rfl ?_
            refine j_callV (pc := 76) (As := [.int 4, .int p0]) (rest := []) (wr := []) C (c_X5_readChain_4_z l D cyC cyI cyJ cyZ cyO r0 t0 t1 e0 e1 r1 r2 a0 e2 e3 p0 r_habits y3_r0_6 t_length (u_9.2.1 0) (u_9.2.1 1) (u_9.2.1 2) (u_9.2.1 3) y3_e0_0 e_nests t_text g3_e1 h_t_length hw_10_0 hw_10_1 hw_10_2 hi_3_7 h_e_nests h_t_text (by omega) hw_10_4 (by omega) hdp9) wd_340 wd_306 wd_341 wd_342 wd_343 ⟨by decide, by decide, rfl⟩ rfl ⟨rfl, rfl, by decide, by decide⟩ ⟨by decide, by decide⟩ [2, 3, 4, 0, 1] [] rfl rfl ⟨by decide, by decide, by decide⟩ 2 rfl rfl rfl (Nat.le_of_ble_eq_true rfl) dX5_readChain_76 (fun u_11 hw_12 => ?_)
            refine j_eq (ws2 := [(r0, .inr (5, [.ref t0, .ref e0, .ref r1, .ref r2, .ref a0, .int r_habits, .int (u_11.2.1 1)])), (t0, .inr (8, [.ref t1, .int t_length, .int (u_11.2.1 2), .int (u_11.2.1 3), .int (u_11.2.1 4), .int (u_11.2.1 5)])), (t1, .inl (cyC, 1000, .inl t_text)), (e0, .inr (1, [.int (u_11.2.1 6), .int e_nests, .ref e1, .ref e2, .ref e3])), (e1, .inl (cyI, 1000, .inl (u_11.2.2.1 0)))]) (pc2 := 79) (lv2 := [(6, .int (u_6.2.1 0)), (5, .int x3_5), (4, .int 1000), (3, .int x3_3), (0, .ref r0), (1, .int 3), (2, .int p0)]) (st2 := [.int (u_11.2.1 0)]) rfl rfl rfl rfl ?_
            obtain ⟨hw_12_0, hw_12_1, hw_12_2, hw_12_3, hw_12_4, hw_12_5, hw_12_6, hw_12_7, hw_12_8, hw_12_9, hw_12_10⟩ := hw_12
            refine j_istore_n (pc := 79) (lv' := [(3, .int (u_11.2.1 0)), (6, .int (u_6.2.1 0)), (5, .int x3_5), (4, .int 1000), (0, .ref r0), (1, .int 3), (2, .int p0)]) C dX5_readChain_79 rfl (by decide) rfl ?_
            refine j_aload_n (pc := 80) C dX5_readChain_80 rfl 4 rfl ?_
            refine j_get (pc := 81) (ci := 5) (v := .ref e0) C inw_5 0 rfl rfl 1 (by decide) wd_344 rfl rfl dX5_readChain_81 ?_
            refine j_iload (pc := 84) C dX5_readChain_84 1 rfl ?_
            refine j_callV (pc := 86) (As := [.int (u_6.2.1 0)]) (rest := []) (wr := [(r0, .inr (5, [.ref t0, .ref e0, .ref r1, .ref r2, .ref a0, .int r_habits, .int (u_11.2.1 1)])), (t0, .inr (8, [.ref t1, .int t_length, .int (u_11.2.1 2), .int (u_11.2.1 3), .int (u_11.2.1 4), .int (u_11.2.1 5)])), (t1, .inl (cyC, 1000, .inl t_text))]) C (c_X1_add l D cyC cyI cyJ cyZ cyO e0 e1 e2 e3 (u_6.2.1 0) (u_11.2.1 6) e_nests (u_11.2.2.1 0) hw_12_4 h_e_nests) wd_345 wd_200 wd_346 wd_347 wd_348 ⟨by decide, by decide, rfl⟩ rfl ⟨rfl, rfl, by decide, by decide⟩ ⟨by decide, by decide⟩ [3, 4] [0, 1, 2] rfl rfl ⟨by decide, by decide, by decide⟩ 3 rfl rfl rfl (Nat.le_of_ble_eq_true rfl) dX5_readChain_86 (fun u_13 hw_14 => ?_)
            refine j_eq (ws2 := [(r0, .inr (5, [.ref t0, .ref e0, .ref r1, .ref r2, .ref a0, .int r_habits, .int (u_11.2.1 1)])), (t0, .inr (8, [.ref t1, .int t_length, .int (u_11.2.1 2), .int (u_11.2.1 3), .int (u_11.2.1 4), .int (u_11.2.1 5)])), (t1, .inl (cyC, 1000, .inl t_text)), (e0, .inr (1, [.int (u_13.2.1 0), .int e_nests, .ref e1, .ref e2, .ref e3])), (e1, .inl (cyI, 1000, .inl (u_13.2.2.1 0)))]) (pc2 := 89) (lv2 := [(3, .int (u_11.2.1 0)), (6, .int (u_6.2.1 0)), (5, .int x3_5), (4, .int 1000), (0, .ref r0), (1, .int 3), (2, .int p0)]) (st2 := []) rfl rfl rfl rfl ?_
            obtain ⟨hw_14_0, hw_14_1, hw_14_2, hw_14_3, hw_14_4⟩ := hw_14
            obtain ⟨v_15, ev_15⟩ : ∃ z : Int32, x3_5 + 1 = z := ⟨_, rfl⟩
            have el_1 : (1 : Int32).toInt = 1 := rfl
            have hv_15 : v_15.toInt = x3_5.toInt + (1 : Int32).toInt := by rw [← ev_15]; exact fb_addI (by omega) (by omega)
            refine j_iinc (pc := 89) (v := v_15) (lv' := [(5, .int v_15), (3, .int (u_11.2.1 0)), (6, .int (u_6.2.1 0)), (4, .int 1000), (0, .ref r0), (1, .int 3), (2, .int p0)]) C dX5_readChain_89 2 rfl ev_15 (by decide) rfl ?_
            refine j_goto (pc := 92) (tgt := 37) C dX5_readChain_92 (by decide) ?_
            exact j_lv [0, 3, 1, 4, 5, 6] rfl (ih_3 v_15 (u_11.2.1 0) (u_11.2.1 1) (u_11.2.1 2) (u_11.2.1 3) (u_11.2.1 4) (u_11.2.1 5) (u_13.2.1 0) (u_13.2.2.1 0) (by omega) hw_12_0 hw_12_1 hw_12_2 hw_12_3 hw_14_0 (by omega) hw_12_9 (CH.step (k := (1000 - (v_15).toInt).toNat) (by rw [show (1000 - (v_15).toInt).toNat + 1 = (1000 - (x3_5).toInt).toNat from (by omega)]; exact hq_3_1) (by omega) (by rcases hw_7_2 with z | z; omega; exact z.2) ha_u_9 hw_12_10) (fun z => CHV.step (k := (1000 - (v_15).toInt).toNat) (by rw [show (1000 - (v_15).toInt).toNat + 1 = (1000 - (x3_5).toInt).toNat from (by omega)]; exact hq_3_2 (by omega)) hj9 hga9 ((hw_12_10).1 (by omega)).1 (hw_12_8 (by omega)) (hw_14_4 (by omega)) (hw_7_1 hj9) (jcd_lt _ _ _) (by have y9 := hw_14_3 (by omega); omega)) (by omega))
          · skip
            have el_m100 : ((-100) : Int32).toInt = (-100) := rfl
            rw [i_eq] at c_8
            refine j_iconst (pc := 62) (v := 1) C dX5_readChain_62 (by decide) ?_
            have el_1 : (1 : Int32).toInt = 1 := rfl
            have el_1 : (1 : Int32).toInt = 1 := rfl
            have el_1 : (1 : Int32).toInt = 1 := rfl
            have el_1 : (1 : Int32).toInt = 1 := rfl
            have el_1 : (1 : Int32).toInt = 1 := rfl
            have el_1 : (1 : Int32).toInt = 1 := rfl
            have el_1 : (1 : Int32).toInt = 1 := rfl
            exact j_zret (pc := 63) C hr rfl hk (fun i => [].getD i 0, fun i => [1, y3_r0_6, y3_t0_2, y3_t0_3, y3_t0_4, y3_t0_5, y3_e0_0].getD i 0, fun i => [g3_e1].getD i (fun _ => 0), fun i => [].getD i (fun _ => 0)) rfl (show (0 ≤ ((1 : Int32)).toInt ∧ ((1 : Int32)).toInt ≤ 1) ∧ (0 ≤ (y3_t0_2).toInt ∧ (y3_t0_2).toInt ≤ 1000) ∧ (0 ≤ (y3_t0_3).toInt ∧ (y3_t0_3).toInt ≤ 4) ∧ (0 ≤ (y3_t0_4).toInt ∧ (y3_t0_4).toInt ≤ 1000) ∧ (0 ≤ (y3_e0_0).toInt ∧ (y3_e0_0).toInt ≤ 1000) ∧ (¬ (y3_t0_3).toInt = 3 ∨ (y3_t0_4).toInt ≤ 999) ∧ ((e_size).toInt ≤ (y3_e0_0).toInt) ∧ ((y3_e0_0).toInt + (t_place).toInt ≤ (e_size).toInt + (y3_t0_4).toInt) ∧ (IM (((1 : Int32)).toInt = 1) (CG e_steps g3_e1 (e_size).toInt.toNat (y3_e0_0).toInt.toNat (4 * 0 + 2) (vLv (TKS t_text (t_length).toInt.toNat) (rPt (TKS t_text (t_length).toInt.toNat) 0) (vPt (TKS t_text (t_length).toInt.toNat) 0) 1 (t_place).toInt.toNat))) ∧ (TH t_text (t_length).toInt.toNat (y3_t0_2).toInt (y3_t0_3).toInt (y3_t0_4).toInt (y3_t0_5).toInt) ∧ (CP ((1 : Int32)).toInt (y3_t0_4).toInt (y3_r0_6).toInt (r_fault).toInt (rLv (TKS t_text (t_length).toInt.toNat) (rPt (TKS t_text (t_length).toInt.toNat) 0) 1 (t_place).toInt.toNat)) from ⟨by omega, hi_3_3, hi_3_4, hi_3_5, hi_3_7, by omega, by omega, by omega, (fun z => CHV.stop (hq_3_2 (by omega)) (Or.inr (by rcases hw_7_2 with z | z; (rw [z.2]; decide); omega))), hq_3_0, (CP.ok (by omega) ((CH.stop hq_3_1 (fun _ => Or.inr (by rcases hw_7_2 with z | z; (rw [z.2]; decide); omega))).1 (by omega)).2 ((CH.stop hq_3_1 (fun _ => Or.inr (by rcases hw_7_2 with z | z; (rw [z.2]; decide); omega))).1 (by omega)).1)⟩) [2, 3, 4, 0, 1] (by decide) rfl (by decide) (by decide) dX5_readChain_63
  have el_0 : (0 : Int32).toInt = 0 := rfl
  exact j_lv [0, 1, 2, 3, 4, 5] rfl (loop_3 4096 0 (u_1.2.1 0) (u_1.2.1 1) (u_1.2.1 2) (u_1.2.1 3) (u_1.2.1 4) (u_1.2.1 5) (u_1.2.1 6) (u_1.2.2.1 0) (by decide) hw_2_0 hw_2_1 hw_2_2 hw_2_3 hw_2_4 (by omega) hw_2_9 (by rw [rLv1, show (1000 - (0 : Int32).toInt).toNat = 1000 from by decide]; exact CH.start hw_2_10) (fun z => by rw [show (1000 - (0 : Int32).toInt).toNat = 1000 from by decide]; exact CHV.start (hw_2_8 (by omega)) ((hw_2_10).1 (by omega)).1) (by omega))
set_option maxHeartbeats 4000000 in
set_option maxRecDepth 100000 in
theorem c_X5_readChain_2_z (l : Launch) (D : DG) (cyC cyI cyJ cyZ cyO : ClassId) (r0 : Nat) (t0 : Nat) (t1 : Nat) (e0 : Nat) (e1 : Nat) (r1 : Nat) (r2 : Nat) (a0 : Nat) (e2 : Nat) (e3 : Nat) (p0 : Int32) (r_habits : Int32) (r_fault : Int32) (t_length : Int32) (t_next : Int32) (t_kind : Int32) (t_place : Int32) (t_number : Int32) (e_size : Int32) (e_nests : Int32) (t_text : Nat → Int32) (e_steps : Nat → Int32) (h_t_length : 0 ≤ (t_length).toInt ∧ (t_length).toInt ≤ 1000) (h_t_next : 0 ≤ (t_next).toInt ∧ (t_next).toInt ≤ 1000) (h_t_kind : 0 ≤ (t_kind).toInt ∧ (t_kind).toInt ≤ 4) (h_t_place : 0 ≤ (t_place).toInt ∧ (t_place).toInt ≤ 1000) (h_e_size : 0 ≤ (e_size).toInt ∧ (e_size).toInt ≤ 1000) (h_e_nests : 0 ≤ (e_nests).toInt ∧ (e_nests).toInt ≤ 4) (h_t_text : Iv 1000 (0) (126) t_text) (ht3 : ¬ (t_kind).toInt = 3 ∨ (t_place).toInt ≤ 999) (hTH : TH t_text (t_length).toInt.toNat (t_next).toInt (t_kind).toInt (t_place).toInt (t_number).toInt) (hsz6 : (e_size).toInt ≤ (t_place).toInt) (hdp9 : (p0).toInt = 5 - ((0 : Nat) : Int)) : KK l D (TY cyC cyI cyJ cyZ cyO) yX5_readChain cX5_readChain 7 (some .boolean) ({ frames := 9, cells := 0, slots := 0, locals := 204 } : Room) 0 0 [.ref r0, .int 2, .int p0] [(r0, .inr (5, [.ref t0, .ref e0, .ref r1, .ref r2, .ref a0, .int r_habits, .int r_fault])), (t0, .inr (8, [.ref t1, .int t_length, .int t_next, .int t_kind, .int t_place, .int t_number])), (t1, .inl (cyC, 1000, .inl t_text)), (e0, .inr (1, [.int e_size, .int e_nests, .ref e1, .ref e2, .ref e3])), (e1, .inl (cyI, 1000, .inl e_steps))] (fun u => some (.int (u.2.1 0))) (fun u => (0 ≤ (u.2.1 0).toInt ∧ (u.2.1 0).toInt ≤ 1) ∧ (0 ≤ (u.2.1 2).toInt ∧ (u.2.1 2).toInt ≤ 1000) ∧ (0 ≤ (u.2.1 3).toInt ∧ (u.2.1 3).toInt ≤ 4) ∧ (0 ≤ (u.2.1 4).toInt ∧ (u.2.1 4).toInt ≤ 1000) ∧ (0 ≤ (u.2.1 6).toInt ∧ (u.2.1 6).toInt ≤ 1000) ∧ (¬ ((u.2.1 3)).toInt = 3 ∨ ((u.2.1 4)).toInt ≤ 999) ∧ ((e_size).toInt ≤ ((u.2.1 6)).toInt) ∧ (((u.2.1 6)).toInt + (t_place).toInt ≤ (e_size).toInt + ((u.2.1 4)).toInt) ∧ (IM (((u.2.1 0)).toInt = 1) (CG e_steps (u.2.2.1 0) (e_size).toInt.toNat ((u.2.1 6)).toInt.toNat (4 * 0 + 3) (vLv (TKS t_text (t_length).toInt.toNat) (rPt (TKS t_text (t_length).toInt.toNat) 0) (vPt (TKS t_text (t_length).toInt.toNat) 0) 2 (t_place).toInt.toNat))) ∧ (TH t_text (t_length).toInt.toNat ((u.2.1 2)).toInt ((u.2.1 3)).toInt ((u.2.1 4)).toInt ((u.2.1 5)).toInt) ∧ (CP ((u.2.1 0)).toInt ((u.2.1 4)).toInt ((u.2.1 1)).toInt (r_fault).toInt (rLv (TKS t_text (t_length).toInt.toNat) (rPt (TKS t_text (t_length).toInt.toNat) 0) 2 (t_place).toInt.toNat))) (fun u => [(r0, .inr (5, [.ref t0, .ref e0, .ref r1, .ref r2, .ref a0, .int r_habits, .int (u.2.1 1)])), (t0, .inr (8, [.ref t1, .int t_length, .int (u.2.1 2), .int (u.2.1 3), .int (u.2.1 4), .int (u.2.1 5)])), (t1, .inl (cyC, 1000, .inl t_text)), (e0, .inr (1, [.int (u.2.1 6), .int e_nests, .ref e1, .ref e2, .ref e3])), (e1, .inl (cyI, 1000, .inl (u.2.2.1 0)))]) := by
  refine KK.of (lv0 := [(0, .ref r0), (1, .int 2), (2, .int p0)]) (by decide) rfl (Nat.le_of_ble_eq_true rfl) ?_
  intro p e s m args below meth c A C hr hk hin
  refine j_iload_n (pc := 0) C dX5_readChain_0 rfl 1 rfl ?_
  refine j_iconst (pc := 1) (v := 4) C dX5_readChain_1 (by decide) ?_
  refine j_icmp_lt_t (pc := 2) (tgt := 11) C dX5_readChain_2 (by decide) (by decide) ?_
  refine j_aload_n (pc := 11) C dX5_readChain_11 rfl 0 rfl ?_
  refine j_iload_n (pc := 12) C dX5_readChain_12 rfl 1 rfl ?_
  refine j_iconst (pc := 13) (v := 1) C dX5_readChain_13 (by decide) ?_
  refine j_iadd (pc := 14) (v := 3) C dX5_readChain_14 (by decide) ?_
  refine j_iload_n (pc := 15) C dX5_readChain_15 rfl 2 rfl ?_
  refine j_callV (pc := 16) (As := [.int 3, .int p0]) (rest := []) (wr := []) C (c_X5_readChain_3_z l D cyC cyI cyJ cyZ cyO r0 t0 t1 e0 e1 r1 r2 a0 e2 e3 p0 r_habits r_fault t_length t_next t_kind t_place t_number e_size e_nests t_text e_steps h_t_length h_t_next h_t_kind h_t_place h_e_size h_e_nests h_t_text ht3 hTH hsz6 hdp9) wd_340 wd_306 wd_341 wd_342 wd_343 ⟨by decide, by decide, rfl⟩ rfl ⟨rfl, rfl, by decide, by decide⟩ ⟨by decide, by decide⟩ [0, 1, 2, 3, 4] [] rfl rfl ⟨by decide, by decide, by decide⟩ 0 rfl rfl rfl (Nat.le_of_ble_eq_true rfl) dX5_readChain_16 (fun u_1 hw_2 => ?_)
  refine j_eq (ws2 := [(r0, .inr (5, [.ref t0, .ref e0, .ref r1, .ref r2, .ref a0, .int r_habits, .int (u_1.2.1 1)])), (t0, .inr (8, [.ref t1, .int t_length, .int (u_1.2.1 2), .int (u_1.2.1 3), .int (u_1.2.1 4), .int (u_1.2.1 5)])), (t1, .inl (cyC, 1000, .inl t_text)), (e0, .inr (1, [.int (u_1.2.1 6), .int e_nests, .ref e1, .ref e2, .ref e3])), (e1, .inl (cyI, 1000, .inl (u_1.2.2.1 0)))]) (pc2 := 19) (lv2 := [(0, .ref r0), (1, .int 2), (2, .int p0)]) (st2 := [.int (u_1.2.1 0)]) rfl rfl rfl rfl ?_
  obtain ⟨hw_2_0, hw_2_1, hw_2_2, hw_2_3, hw_2_4, hw_2_5, hw_2_6, hw_2_7, hw_2_8, hw_2_9, hw_2_10⟩ := hw_2
  refine j_istore_n (pc := 19) (lv' := [(3, .int (u_1.2.1 0)), (0, .ref r0), (1, .int 2), (2, .int p0)]) C dX5_readChain_19 rfl (by decide) rfl ?_
  refine j_iload_n (pc := 20) C dX5_readChain_20 rfl 2 rfl ?_
  refine j_iconst (pc := 21) (v := 1) C dX5_readChain_21 (by decide) ?_
  refine j_icmp_ne_t (pc := 22) (tgt := 29) C dX5_readChain_22 (by decide) (by decide) ?_
  refine j_sipush (pc := 29) (v := 1000) C dX5_readChain_29 (by decide) ?_
  refine j_istore (pc := 32) (lv' := [(4, .int 1000), (3, .int (u_1.2.1 0)), (0, .ref r0), (1, .int 2), (2, .int p0)]) C dX5_readChain_32 (by decide) rfl ?_
  refine j_iconst (pc := 34) (v := 0) C dX5_readChain_34 (by decide) ?_
  refine j_istore (pc := 35) (lv' := [(5, .int 0), (4, .int 1000), (3, .int (u_1.2.1 0)), (0, .ref r0), (1, .int 2), (2, .int p0)]) C dX5_readChain_35 (by decide) rfl ?_
  have loop_3 : ∀ (k_3 : Nat) (x3_5 : Int32) (x3_3 : Int32) (y3_r0_6 : Int32) (y3_t0_2 : Int32) (y3_t0_3 : Int32) (y3_t0_4 : Int32) (y3_t0_5 : Int32) (y3_e0_0 : Int32) (g3_e1 : Nat → Int32), (0 ≤ (x3_5).toInt ∧ (x3_5).toInt ≤ 1000) → (0 ≤ (x3_3).toInt ∧ (x3_3).toInt ≤ 1) → (0 ≤ (y3_t0_2).toInt ∧ (y3_t0_2).toInt ≤ 1000) → (0 ≤ (y3_t0_3).toInt ∧ (y3_t0_3).toInt ≤ 4) → (0 ≤ (y3_t0_4).toInt ∧ (y3_t0_4).toInt ≤ 1000) → (0 ≤ (y3_e0_0).toInt ∧ (y3_e0_0).toInt ≤ 1000) → ((¬ y3_t0_3.toInt = 3 ∨ y3_t0_4.toInt ≤ 999) ∧ (e_size).toInt ≤ y3_e0_0.toInt ∧ y3_e0_0.toInt + (t_place).toInt ≤ (e_size).toInt + y3_t0_4.toInt) → (TH t_text (t_length).toInt.toNat y3_t0_2.toInt y3_t0_3.toInt y3_t0_4.toInt y3_t0_5.toInt) → (CH (TKS t_text (t_length).toInt.toNat) (rLv (TKS t_text (t_length).toInt.toNat) (rPt (TKS t_text (t_length).toInt.toNat) 0) 1) (jnt (TKS t_text (t_length).toInt.toNat) 2) (1000 - x3_5.toInt).toNat x3_3.toInt y3_t0_4.toInt y3_r0_6.toInt (r_fault).toInt (rLv (TKS t_text (t_length).toInt.toNat) (rPt (TKS t_text (t_length).toInt.toNat) 0) 2 (t_place).toInt.toNat)) → (IM (x3_3.toInt = 1) (CHV (TKS t_text (t_length).toInt.toNat) e_steps g3_e1 (e_size).toInt.toNat (y3_e0_0.toInt).toNat (4 * 0 + 3) (rLv (TKS t_text (t_length).toInt.toNat) (rPt (TKS t_text (t_length).toInt.toNat) 0) 1) (vLv (TKS t_text (t_length).toInt.toNat) (rPt (TKS t_text (t_length).toInt.toNat) 0) (vPt (TKS t_text (t_length).toInt.toNat) 0) 1) (jnt (TKS t_text (t_length).toInt.toNat) 2) (jcd (TKS t_text (t_length).toInt.toNat) 2) (1000 - x3_5.toInt).toNat (y3_t0_4.toInt).toNat (vLv (TKS t_text (t_length).toInt.toNat) (rPt (TKS t_text (t_length).toInt.toNat) 0) (vPt (TKS t_text (t_length).toInt.toNat) 0) 2 (t_place).toInt.toNat))) → (1000 - x3_5.toInt).toNat < k_3 → J p l e ({ frames := 9, cells := 0, slots := 0, locals := 204 } : Room) s m args below meth c D A 7 0 0 (QX below D (TY cyC cyI cyJ cyZ cyO) A (fun u => some (.int (u.2.1 0))) (fun u => (0 ≤ (u.2.1 0).toInt ∧ (u.2.1 0).toInt ≤ 1) ∧ (0 ≤ (u.2.1 2).toInt ∧ (u.2.1 2).toInt ≤ 1000) ∧ (0 ≤ (u.2.1 3).toInt ∧ (u.2.1 3).toInt ≤ 4) ∧ (0 ≤ (u.2.1 4).toInt ∧ (u.2.1 4).toInt ≤ 1000) ∧ (0 ≤ (u.2.1 6).toInt ∧ (u.2.1 6).toInt ≤ 1000) ∧ (¬ ((u.2.1 3)).toInt = 3 ∨ ((u.2.1 4)).toInt ≤ 999) ∧ ((e_size).toInt ≤ ((u.2.1 6)).toInt) ∧ (((u.2.1 6)).toInt + (t_place).toInt ≤ (e_size).toInt + ((u.2.1 4)).toInt) ∧ (IM (((u.2.1 0)).toInt = 1) (CG e_steps (u.2.2.1 0) (e_size).toInt.toNat ((u.2.1 6)).toInt.toNat (4 * 0 + 3) (vLv (TKS t_text (t_length).toInt.toNat) (rPt (TKS t_text (t_length).toInt.toNat) 0) (vPt (TKS t_text (t_length).toInt.toNat) 0) 2 (t_place).toInt.toNat))) ∧ (TH t_text (t_length).toInt.toNat ((u.2.1 2)).toInt ((u.2.1 3)).toInt ((u.2.1 4)).toInt ((u.2.1 5)).toInt) ∧ (CP ((u.2.1 0)).toInt ((u.2.1 4)).toInt ((u.2.1 1)).toInt (r_fault).toInt (rLv (TKS t_text (t_length).toInt.toNat) (rPt (TKS t_text (t_length).toInt.toNat) 0) 2 (t_place).toInt.toNat))) (fun u => [(r0, .inr (5, [.ref t0, .ref e0, .ref r1, .ref r2, .ref a0, .int r_habits, .int (u.2.1 1)])), (t0, .inr (8, [.ref t1, .int t_length, .int (u.2.1 2), .int (u.2.1 3), .int (u.2.1 4), .int (u.2.1 5)])), (t1, .inl (cyC, 1000, .inl t_text)), (e0, .inr (1, [.int (u.2.1 6), .int e_nests, .ref e1, .ref e2, .ref e3])), (e1, .inl (cyI, 1000, .inl (u.2.2.1 0)))]) args s 0 0) [(r0, .inr (5, [.ref t0, .ref e0, .ref r1, .ref r2, .ref a0, .int r_habits, .int y3_r0_6])), (t0, .inr (8, [.ref t1, .int t_length, .int y3_t0_2, .int y3_t0_3, .int y3_t0_4, .int y3_t0_5])), (t1, .inl (cyC, 1000, .inl t_text)), (e0, .inr (1, [.int y3_e0_0, .int e_nests, .ref e1, .ref e2, .ref e3])), (e1, .inl (cyI, 1000, .inl g3_e1))] 37 [(5, .int x3_5), (4, .int 1000), (3, .int x3_3), (0, .ref r0), (1, .int 2), (2, .int p0)] [] := by
    intro k_3
    induction k_3 with
    | zero =>
      intro x3_5 x3_3 y3_r0_6 y3_t0_2 y3_t0_3 y3_t0_4 y3_t0_5 y3_e0_0 g3_e1 hi_3_0 hi_3_1 hi_3_3 hi_3_4 hi_3_5 hi_3_7 hr_3 hq_3_0 hq_3_1 hq_3_2 hm_3
      exact absurd hm_3 (Nat.not_lt_zero _)
    | succ k_3 ih_3 =>
      intro x3_5 x3_3 y3_r0_6 y3_t0_2 y3_t0_3 y3_t0_4 y3_t0_5 y3_e0_0 g3_e1 hi_3_0 hi_3_1 hi_3_3 hi_3_4 hi_3_5 hi_3_7 hr_3 hq_3_0 hq_3_1 hq_3_2 hm_3
      refine j_iload (pc := 37) C dX5_readChain_37 0 rfl ?_
      refine j_iload (pc := 39) C dX5_readChain_39 1 rfl ?_
      refine j_icmp_ge (pc := 41) (tgt := 95) C dX5_readChain_41 (by decide) (fun c_4 => ?_) (fun c_4 => ?_)
      · skip
        have el_1000 : (1000 : Int32).toInt = 1000 := rfl
        rw [i_le] at c_4
        have k0c_4 : x3_5.toInt = 1000 := by omega
        refine j_iload_n (pc := 95) C dX5_readChain_95 rfl 2 rfl ?_
        exact j_zret (pc := 96) C hr (nb_01 ⟨by omega, by omega⟩).1 hk (fun i => [].getD i 0, fun i => [x3_3, y3_r0_6, y3_t0_2, y3_t0_3, y3_t0_4, y3_t0_5, y3_e0_0].getD i 0, fun i => [g3_e1].getD i (fun _ => 0), fun i => [].getD i (fun _ => 0)) rfl (show (0 ≤ (x3_3).toInt ∧ (x3_3).toInt ≤ 1) ∧ (0 ≤ (y3_t0_2).toInt ∧ (y3_t0_2).toInt ≤ 1000) ∧ (0 ≤ (y3_t0_3).toInt ∧ (y3_t0_3).toInt ≤ 4) ∧ (0 ≤ (y3_t0_4).toInt ∧ (y3_t0_4).toInt ≤ 1000) ∧ (0 ≤ (y3_e0_0).toInt ∧ (y3_e0_0).toInt ≤ 1000) ∧ (¬ (y3_t0_3).toInt = 3 ∨ (y3_t0_4).toInt ≤ 999) ∧ ((e_size).toInt ≤ (y3_e0_0).toInt) ∧ ((y3_e0_0).toInt + (t_place).toInt ≤ (e_size).toInt + (y3_t0_4).toInt) ∧ (IM ((x3_3).toInt = 1) (CG e_steps g3_e1 (e_size).toInt.toNat (y3_e0_0).toInt.toNat (4 * 0 + 3) (vLv (TKS t_text (t_length).toInt.toNat) (rPt (TKS t_text (t_length).toInt.toNat) 0) (vPt (TKS t_text (t_length).toInt.toNat) 0) 2 (t_place).toInt.toNat))) ∧ (TH t_text (t_length).toInt.toNat (y3_t0_2).toInt (y3_t0_3).toInt (y3_t0_4).toInt (y3_t0_5).toInt) ∧ (CP (x3_3).toInt (y3_t0_4).toInt (y3_r0_6).toInt (r_fault).toInt (rLv (TKS t_text (t_length).toInt.toNat) (rPt (TKS t_text (t_length).toInt.toNat) 0) 2 (t_place).toInt.toNat)) from ⟨hi_3_1, hi_3_3, hi_3_4, hi_3_5, hi_3_7, by omega, by omega, by omega, (fun z => CHV.stop (hq_3_2 (by omega)) (Or.inl (by omega))), hq_3_0, (CH.stop hq_3_1 (fun z => Or.inl (by omega)))⟩) [0, 1, 2, 3, 4] (by decide) rfl (by decide) (by decide) dX5_readChain_96
      · skip
        have el_1000 : (1000 : Int32).toInt = 1000 := rfl
        rw [i_le] at c_4
        refine j_iload_n (pc := 44) C dX5_readChain_44 rfl 2 rfl ?_
        refine j_if_eq (pc := 45) (tgt := 95) C dX5_readChain_45 (by decide) (fun c_5 => ?_) (fun c_5 => ?_)
        · skip
          have el_0 : (0 : Int32).toInt = 0 := rfl
          rw [i_eq] at c_5
          refine j_iload_n (pc := 95) C dX5_readChain_95 rfl 2 rfl ?_
          exact j_zret (pc := 96) C hr (nb_01 ⟨by omega, by omega⟩).1 hk (fun i => [].getD i 0, fun i => [x3_3, y3_r0_6, y3_t0_2, y3_t0_3, y3_t0_4, y3_t0_5, y3_e0_0].getD i 0, fun i => [g3_e1].getD i (fun _ => 0), fun i => [].getD i (fun _ => 0)) rfl (show (0 ≤ (x3_3).toInt ∧ (x3_3).toInt ≤ 1) ∧ (0 ≤ (y3_t0_2).toInt ∧ (y3_t0_2).toInt ≤ 1000) ∧ (0 ≤ (y3_t0_3).toInt ∧ (y3_t0_3).toInt ≤ 4) ∧ (0 ≤ (y3_t0_4).toInt ∧ (y3_t0_4).toInt ≤ 1000) ∧ (0 ≤ (y3_e0_0).toInt ∧ (y3_e0_0).toInt ≤ 1000) ∧ (¬ (y3_t0_3).toInt = 3 ∨ (y3_t0_4).toInt ≤ 999) ∧ ((e_size).toInt ≤ (y3_e0_0).toInt) ∧ ((y3_e0_0).toInt + (t_place).toInt ≤ (e_size).toInt + (y3_t0_4).toInt) ∧ (IM ((x3_3).toInt = 1) (CG e_steps g3_e1 (e_size).toInt.toNat (y3_e0_0).toInt.toNat (4 * 0 + 3) (vLv (TKS t_text (t_length).toInt.toNat) (rPt (TKS t_text (t_length).toInt.toNat) 0) (vPt (TKS t_text (t_length).toInt.toNat) 0) 2 (t_place).toInt.toNat))) ∧ (TH t_text (t_length).toInt.toNat (y3_t0_2).toInt (y3_t0_3).toInt (y3_t0_4).toInt (y3_t0_5).toInt) ∧ (CP (x3_3).toInt (y3_t0_4).toInt (y3_r0_6).toInt (r_fault).toInt (rLv (TKS t_text (t_length).toInt.toNat) (rPt (TKS t_text (t_length).toInt.toNat) 0) 2 (t_place).toInt.toNat)) from ⟨hi_3_1, hi_3_3, hi_3_4, hi_3_5, hi_3_7, by omega, by omega, by omega, (fun z => absurd z (by omega)), hq_3_0, (CH.stop hq_3_1 (fun z => absurd z (by omega)))⟩) [0, 1, 2, 3, 4] (by decide) rfl (by decide) (by decide) dX5_readChain_96
        · skip
          have el_0 : (0 : Int32).toInt = 0 := rfl
          rw [i_eq] at c_5
          have k0c_5 : x3_3.toInt = 1 := by omega
          refine j_aload_n (pc := 48) C dX5_readChain_48 rfl 3 rfl ?_
          refine j_iload_n (pc := 49) C dX5_readChain_49 rfl 4 rfl ?_
          refine j_callV (pc := 50) (As := [.int 2]) (rest := []) (wr := [(e0, .inr (1, [.int y3_e0_0, .int e_nests, .ref e1, .ref e2, .ref e3])), (e1, .inl (cyI, 1000, .inl g3_e1))]) C (c_X5_joint_2 l D cyC cyI cyJ cyZ cyO r0 t0 t1 e0 r1 r2 a0 r_habits y3_r0_6 t_length y3_t0_2 y3_t0_3 y3_t0_4 y3_t0_5 t_text h_t_length hi_3_3 hi_3_4 hi_3_5 h_t_text (by omega) hq_3_0) wd_349 wd_306 wd_350 wd_351 wd_352 ⟨by decide, by decide, rfl⟩ rfl ⟨rfl, rfl, by decide, by decide⟩ ⟨by decide, by decide⟩ [0, 1, 2] [3, 4] rfl rfl ⟨by decide, by decide, by decide⟩ 0 rfl rfl rfl (Nat.le_of_ble_eq_true rfl) dX5_readChain_50 (fun u_6 hw_7 => ?_)
          refine j_eq (ws2 := [(e0, .inr (1, [.int y3_e0_0, .int e_nests, .ref e1, .ref e2, .ref e3])), (e1, .inl (cyI, 1000, .inl g3_e1)), (r0, .inr (5, [.ref t0, .ref e0, .ref r1, .ref r2, .ref a0, .int r_habits, .int y3_r0_6])), (t0, .inr (8, [.ref t1, .int t_length, .int y3_t0_2, .int y3_t0_3, .int y3_t0_4, .int y3_t0_5])), (t1, .inl (cyC, 1000, .inl t_text))]) (pc2 := 53) (lv2 := [(5, .int x3_5), (4, .int 1000), (3, .int x3_3), (0, .ref r0), (1, .int 2), (2, .int p0)]) (st2 := [.int (u_6.2.1 0)]) rfl rfl rfl rfl ?_
          obtain ⟨hw_7_0, hw_7_1, hw_7_2⟩ := hw_7
          refine j_istore (pc := 53) (lv' := [(6, .int (u_6.2.1 0)), (5, .int x3_5), (4, .int 1000), (3, .int x3_3), (0, .ref r0), (1, .int 2), (2, .int p0)]) C dX5_readChain_53 (by decide) rfl ?_
          refine j_iload (pc := 55) C dX5_readChain_55 0 rfl ?_
          refine j_bipush (pc := 57) (v := (-100)) C dX5_readChain_57 (by decide) ?_
          refine j_icmp_ne (pc := 59) (tgt := 64) C dX5_readChain_59 (by decide) (fun c_8 => ?_) (fun c_8 => ?_)
          · skip
            have el_m100 : ((-100) : Int32).toInt = (-100) := rfl
            rw [i_eq] at c_8
            refine j_aload_n (pc := 64) C dX5_readChain_64 rfl 4 rfl ?_
            refine j_get (pc := 65) (ci := 5) (v := .ref t0) C inw_5 2 rfl rfl 0 (by decide) wd_296 rfl rfl dX5_readChain_65 ?_
            refine j_callV (pc := 68) (As := []) (rest := []) (wr := [(e0, .inr (1, [.int y3_e0_0, .int e_nests, .ref e1, .ref e2, .ref e3])), (e1, .inl (cyI, 1000, .inl g3_e1)), (r0, .inr (5, [.ref t0, .ref e0, .ref r1, .ref r2, .ref a0, .int r_habits, .int y3_r0_6]))]) C (c_X8_advance_f l D cyC cyI cyJ cyZ cyO t0 t1 t_length y3_t0_2 y3_t0_3 y3_t0_4 y3_t0_5 t_text h_t_length hi_3_3 hi_3_4 hi_3_5 h_t_text) wd_277 wd_258 wd_304 wd_279 wd_280 ⟨by decide, by decide, rfl⟩ rfl ⟨rfl, rfl, by decide, by decide⟩ ⟨by decide, by decide⟩ [3, 4] [0, 1, 2] rfl rfl ⟨by decide, by decide, by decide⟩ 3 rfl rfl rfl (Nat.le_of_ble_eq_true rfl) dX5_readChain_68 (fun u_9 hw_10 => ?_)
            refine j_eq (ws2 := [(e0, .inr (1, [.int y3_e0_0, .int e_nests, .ref e1, .ref e2, .ref e3])), (e1, .inl (cyI, 1000, .inl g3_e1)), (r0, .inr (5, [.ref t0, .ref e0, .ref r1, .ref r2, .ref a0, .int r_habits, .int y3_r0_6])), (t0, .inr (8, [.ref t1, .int t_length, .int (u_9.2.1 0), .int (u_9.2.1 1), .int (u_9.2.1 2), .int (u_9.2.1 3)])), (t1, .inl (cyC, 1000, .inl t_text))]) (pc2 := 71) (lv2 := [(6, .int (u_6.2.1 0)), (5, .int x3_5), (4, .int 1000), (3, .int x3_3), (0, .ref r0), (1, .int 2), (2, .int p0)]) (st2 := []) rfl rfl rfl rfl ?_
            obtain ⟨hw_10_0, hw_10_1, hw_10_2, hw_10_3, hw_10_4, hw_10_5⟩ := hw_10
            have ha_u_9 := (hw_10_5).trans (TH.adv hq_3_0)
            have hj9 : jnt (TKS t_text (t_length).toInt.toNat) 2 (y3_t0_4).toInt.toNat = true := by rcases hw_7_2 with z | z; (exfalso; omega); exact z.2
            have hg9 := jnt_gt (PT_TKS (f := t_text) (n := (t_length).toInt.toNat) (by omega)) hj9
            have hga9 := ha_u_9
            refine j_aload_n (pc := 71) C dX5_readChain_71 rfl 4 rfl ?_
            refine j_iload_n (pc := 72) C dX5_readChain_72 rfl 5 rfl ?_
            refine j_iconst (pc := 73) (v := 1) C dX5_readChain_73 (by decide) ?_
            refine j_iadd (pc := 74) (v := 3) C dX5_readChain_74 (by decide) ?_
            refine j_iload_n (pc := 75) C dX5_readChain_75 rfl 6 rfl ?_
            refine j_callV (pc := 76) (As := [.int 3, .int p0]) (rest := []) (wr := []) C (c_X5_readChain_3_z l D cyC cyI cyJ cyZ cyO r0 t0 t1 e0 e1 r1 r2 a0 e2 e3 p0 r_habits y3_r0_6 t_length (u_9.2.1 0) (u_9.2.1 1) (u_9.2.1 2) (u_9.2.1 3) y3_e0_0 e_nests t_text g3_e1 h_t_length hw_10_0 hw_10_1 hw_10_2 hi_3_7 h_e_nests h_t_text (by omega) hw_10_4 (by omega) hdp9) wd_340 wd_306 wd_341 wd_342 wd_343 ⟨by decide, by decide, rfl⟩ rfl ⟨rfl, rfl, by decide, by decide⟩ ⟨by decide, by decide⟩ [2, 3, 4, 0, 1] [] rfl rfl ⟨by decide, by decide, by decide⟩ 2 rfl rfl rfl (Nat.le_of_ble_eq_true rfl) dX5_readChain_76 (fun u_11 hw_12 => ?_)
            refine j_eq (ws2 := [(r0, .inr (5, [.ref t0, .ref e0, .ref r1, .ref r2, .ref a0, .int r_habits, .int (u_11.2.1 1)])), (t0, .inr (8, [.ref t1, .int t_length, .int (u_11.2.1 2), .int (u_11.2.1 3), .int (u_11.2.1 4), .int (u_11.2.1 5)])), (t1, .inl (cyC, 1000, .inl t_text)), (e0, .inr (1, [.int (u_11.2.1 6), .int e_nests, .ref e1, .ref e2, .ref e3])), (e1, .inl (cyI, 1000, .inl (u_11.2.2.1 0)))]) (pc2 := 79) (lv2 := [(6, .int (u_6.2.1 0)), (5, .int x3_5), (4, .int 1000), (3, .int x3_3), (0, .ref r0), (1, .int 2), (2, .int p0)]) (st2 := [.int (u_11.2.1 0)]) rfl rfl rfl rfl ?_
            obtain ⟨hw_12_0, hw_12_1, hw_12_2, hw_12_3, hw_12_4, hw_12_5, hw_12_6, hw_12_7, hw_12_8, hw_12_9, hw_12_10⟩ := hw_12
            refine j_istore_n (pc := 79) (lv' := [(3, .int (u_11.2.1 0)), (6, .int (u_6.2.1 0)), (5, .int x3_5), (4, .int 1000), (0, .ref r0), (1, .int 2), (2, .int p0)]) C dX5_readChain_79 rfl (by decide) rfl ?_
            refine j_aload_n (pc := 80) C dX5_readChain_80 rfl 4 rfl ?_
            refine j_get (pc := 81) (ci := 5) (v := .ref e0) C inw_5 0 rfl rfl 1 (by decide) wd_344 rfl rfl dX5_readChain_81 ?_
            refine j_iload (pc := 84) C dX5_readChain_84 1 rfl ?_
            refine j_callV (pc := 86) (As := [.int (u_6.2.1 0)]) (rest := []) (wr := [(r0, .inr (5, [.ref t0, .ref e0, .ref r1, .ref r2, .ref a0, .int r_habits, .int (u_11.2.1 1)])), (t0, .inr (8, [.ref t1, .int t_length, .int (u_11.2.1 2), .int (u_11.2.1 3), .int (u_11.2.1 4), .int (u_11.2.1 5)])), (t1, .inl (cyC, 1000, .inl t_text))]) C (c_X1_add l D cyC cyI cyJ cyZ cyO e0 e1 e2 e3 (u_6.2.1 0) (u_11.2.1 6) e_nests (u_11.2.2.1 0) hw_12_4 h_e_nests) wd_345 wd_200 wd_346 wd_347 wd_348 ⟨by decide, by decide, rfl⟩ rfl ⟨rfl, rfl, by decide, by decide⟩ ⟨by decide, by decide⟩ [3, 4] [0, 1, 2] rfl rfl ⟨by decide, by decide, by decide⟩ 3 rfl rfl rfl (Nat.le_of_ble_eq_true rfl) dX5_readChain_86 (fun u_13 hw_14 => ?_)
            refine j_eq (ws2 := [(r0, .inr (5, [.ref t0, .ref e0, .ref r1, .ref r2, .ref a0, .int r_habits, .int (u_11.2.1 1)])), (t0, .inr (8, [.ref t1, .int t_length, .int (u_11.2.1 2), .int (u_11.2.1 3), .int (u_11.2.1 4), .int (u_11.2.1 5)])), (t1, .inl (cyC, 1000, .inl t_text)), (e0, .inr (1, [.int (u_13.2.1 0), .int e_nests, .ref e1, .ref e2, .ref e3])), (e1, .inl (cyI, 1000, .inl (u_13.2.2.1 0)))]) (pc2 := 89) (lv2 := [(3, .int (u_11.2.1 0)), (6, .int (u_6.2.1 0)), (5, .int x3_5), (4, .int 1000), (0, .ref r0), (1, .int 2), (2, .int p0)]) (st2 := []) rfl rfl rfl rfl ?_
            obtain ⟨hw_14_0, hw_14_1, hw_14_2, hw_14_3, hw_14_4⟩ := hw_14
            obtain ⟨v_15, ev_15⟩ : ∃ z : Int32, x3_5 + 1 = z := ⟨_, rfl⟩
            have el_1 : (1 : Int32).toInt = 1 := rfl
            have hv_15 : v_15.toInt = x3_5.toInt + (1 : Int32).toInt := by rw [← ev_15]; exact fb_addI (by omega) (by omega)
            refine j_iinc (pc := 89) (v := v_15) (lv' := [(5, .int v_15), (3, .int (u_11.2.1 0)), (6, .int (u_6.2.1 0)), (4, .int 1000), (0, .ref r0), (1, .int 2), (2, .int p0)]) C dX5_readChain_89 2 rfl ev_15 (by decide) rfl ?_
            refine j_goto (pc := 92) (tgt := 37) C dX5_readChain_92 (by decide) ?_
            exact j_lv [0, 3, 1, 4, 5, 6] rfl (ih_3 v_15 (u_11.2.1 0) (u_11.2.1 1) (u_11.2.1 2) (u_11.2.1 3) (u_11.2.1 4) (u_11.2.1 5) (u_13.2.1 0) (u_13.2.2.1 0) (by omega) hw_12_0 hw_12_1 hw_12_2 hw_12_3 hw_14_0 (by omega) hw_12_9 (CH.step (k := (1000 - (v_15).toInt).toNat) (by rw [show (1000 - (v_15).toInt).toNat + 1 = (1000 - (x3_5).toInt).toNat from (by omega)]; exact hq_3_1) (by omega) (by rcases hw_7_2 with z | z; omega; exact z.2) ha_u_9 hw_12_10) (fun z => CHV.step (k := (1000 - (v_15).toInt).toNat) (by rw [show (1000 - (v_15).toInt).toNat + 1 = (1000 - (x3_5).toInt).toNat from (by omega)]; exact hq_3_2 (by omega)) hj9 hga9 ((hw_12_10).1 (by omega)).1 (hw_12_8 (by omega)) (hw_14_4 (by omega)) (hw_7_1 hj9) (jcd_lt _ _ _) (by have y9 := hw_14_3 (by omega); omega)) (by omega))
          · skip
            have el_m100 : ((-100) : Int32).toInt = (-100) := rfl
            rw [i_eq] at c_8
            refine j_iconst (pc := 62) (v := 1) C dX5_readChain_62 (by decide) ?_
            have el_1 : (1 : Int32).toInt = 1 := rfl
            have el_1 : (1 : Int32).toInt = 1 := rfl
            have el_1 : (1 : Int32).toInt = 1 := rfl
            have el_1 : (1 : Int32).toInt = 1 := rfl
            have el_1 : (1 : Int32).toInt = 1 := rfl
            have el_1 : (1 : Int32).toInt = 1 := rfl
            have el_1 : (1 : Int32).toInt = 1 := rfl
            exact j_zret (pc := 63) C hr rfl hk (fun i => [].getD i 0, fun i => [1, y3_r0_6, y3_t0_2, y3_t0_3, y3_t0_4, y3_t0_5, y3_e0_0].getD i 0, fun i => [g3_e1].getD i (fun _ => 0), fun i => [].getD i (fun _ => 0)) rfl (show (0 ≤ ((1 : Int32)).toInt ∧ ((1 : Int32)).toInt ≤ 1) ∧ (0 ≤ (y3_t0_2).toInt ∧ (y3_t0_2).toInt ≤ 1000) ∧ (0 ≤ (y3_t0_3).toInt ∧ (y3_t0_3).toInt ≤ 4) ∧ (0 ≤ (y3_t0_4).toInt ∧ (y3_t0_4).toInt ≤ 1000) ∧ (0 ≤ (y3_e0_0).toInt ∧ (y3_e0_0).toInt ≤ 1000) ∧ (¬ (y3_t0_3).toInt = 3 ∨ (y3_t0_4).toInt ≤ 999) ∧ ((e_size).toInt ≤ (y3_e0_0).toInt) ∧ ((y3_e0_0).toInt + (t_place).toInt ≤ (e_size).toInt + (y3_t0_4).toInt) ∧ (IM (((1 : Int32)).toInt = 1) (CG e_steps g3_e1 (e_size).toInt.toNat (y3_e0_0).toInt.toNat (4 * 0 + 3) (vLv (TKS t_text (t_length).toInt.toNat) (rPt (TKS t_text (t_length).toInt.toNat) 0) (vPt (TKS t_text (t_length).toInt.toNat) 0) 2 (t_place).toInt.toNat))) ∧ (TH t_text (t_length).toInt.toNat (y3_t0_2).toInt (y3_t0_3).toInt (y3_t0_4).toInt (y3_t0_5).toInt) ∧ (CP ((1 : Int32)).toInt (y3_t0_4).toInt (y3_r0_6).toInt (r_fault).toInt (rLv (TKS t_text (t_length).toInt.toNat) (rPt (TKS t_text (t_length).toInt.toNat) 0) 2 (t_place).toInt.toNat)) from ⟨by omega, hi_3_3, hi_3_4, hi_3_5, hi_3_7, by omega, by omega, by omega, (fun z => CHV.stop (hq_3_2 (by omega)) (Or.inr (by rcases hw_7_2 with z | z; (rw [z.2]; decide); omega))), hq_3_0, (CP.ok (by omega) ((CH.stop hq_3_1 (fun _ => Or.inr (by rcases hw_7_2 with z | z; (rw [z.2]; decide); omega))).1 (by omega)).2 ((CH.stop hq_3_1 (fun _ => Or.inr (by rcases hw_7_2 with z | z; (rw [z.2]; decide); omega))).1 (by omega)).1)⟩) [2, 3, 4, 0, 1] (by decide) rfl (by decide) (by decide) dX5_readChain_63
  have el_0 : (0 : Int32).toInt = 0 := rfl
  exact j_lv [0, 1, 2, 3, 4, 5] rfl (loop_3 4096 0 (u_1.2.1 0) (u_1.2.1 1) (u_1.2.1 2) (u_1.2.1 3) (u_1.2.1 4) (u_1.2.1 5) (u_1.2.1 6) (u_1.2.2.1 0) (by decide) hw_2_0 hw_2_1 hw_2_2 hw_2_3 hw_2_4 (by omega) hw_2_9 (by rw [rLv2, show (1000 - (0 : Int32).toInt).toNat = 1000 from by decide]; exact CH.start hw_2_10) (fun z => by rw [show (1000 - (0 : Int32).toInt).toNat = 1000 from by decide]; exact CHV.start (hw_2_8 (by omega)) ((hw_2_10).1 (by omega)).1) (by omega))
set_option maxHeartbeats 4000000 in
set_option maxRecDepth 100000 in
theorem c_X5_readChain_1_z (l : Launch) (D : DG) (cyC cyI cyJ cyZ cyO : ClassId) (r0 : Nat) (t0 : Nat) (t1 : Nat) (e0 : Nat) (e1 : Nat) (r1 : Nat) (r2 : Nat) (a0 : Nat) (e2 : Nat) (e3 : Nat) (p0 : Int32) (r_habits : Int32) (r_fault : Int32) (t_length : Int32) (t_next : Int32) (t_kind : Int32) (t_place : Int32) (t_number : Int32) (e_size : Int32) (e_nests : Int32) (t_text : Nat → Int32) (e_steps : Nat → Int32) (h_t_length : 0 ≤ (t_length).toInt ∧ (t_length).toInt ≤ 1000) (h_t_next : 0 ≤ (t_next).toInt ∧ (t_next).toInt ≤ 1000) (h_t_kind : 0 ≤ (t_kind).toInt ∧ (t_kind).toInt ≤ 4) (h_t_place : 0 ≤ (t_place).toInt ∧ (t_place).toInt ≤ 1000) (h_e_size : 0 ≤ (e_size).toInt ∧ (e_size).toInt ≤ 1000) (h_e_nests : 0 ≤ (e_nests).toInt ∧ (e_nests).toInt ≤ 4) (h_t_text : Iv 1000 (0) (126) t_text) (ht3 : ¬ (t_kind).toInt = 3 ∨ (t_place).toInt ≤ 999) (hTH : TH t_text (t_length).toInt.toNat (t_next).toInt (t_kind).toInt (t_place).toInt (t_number).toInt) (hsz6 : (e_size).toInt ≤ (t_place).toInt) (hdp9 : (p0).toInt = 5 - ((0 : Nat) : Int)) : KK l D (TY cyC cyI cyJ cyZ cyO) yX5_readChain cX5_readChain 7 (some .boolean) ({ frames := 10, cells := 0, slots := 0, locals := 230 } : Room) 0 0 [.ref r0, .int 1, .int p0] [(r0, .inr (5, [.ref t0, .ref e0, .ref r1, .ref r2, .ref a0, .int r_habits, .int r_fault])), (t0, .inr (8, [.ref t1, .int t_length, .int t_next, .int t_kind, .int t_place, .int t_number])), (t1, .inl (cyC, 1000, .inl t_text)), (e0, .inr (1, [.int e_size, .int e_nests, .ref e1, .ref e2, .ref e3])), (e1, .inl (cyI, 1000, .inl e_steps))] (fun u => some (.int (u.2.1 0))) (fun u => (0 ≤ (u.2.1 0).toInt ∧ (u.2.1 0).toInt ≤ 1) ∧ (0 ≤ (u.2.1 2).toInt ∧ (u.2.1 2).toInt ≤ 1000) ∧ (0 ≤ (u.2.1 3).toInt ∧ (u.2.1 3).toInt ≤ 4) ∧ (0 ≤ (u.2.1 4).toInt ∧ (u.2.1 4).toInt ≤ 1000) ∧ (0 ≤ (u.2.1 6).toInt ∧ (u.2.1 6).toInt ≤ 1000) ∧ (¬ ((u.2.1 3)).toInt = 3 ∨ ((u.2.1 4)).toInt ≤ 999) ∧ ((e_size).toInt ≤ ((u.2.1 6)).toInt) ∧ (((u.2.1 6)).toInt + (t_place).toInt ≤ (e_size).toInt + ((u.2.1 4)).toInt) ∧ (IM (((u.2.1 0)).toInt = 1) (CG e_steps (u.2.2.1 0) (e_size).toInt.toNat ((u.2.1 6)).toInt.toNat (4 * 0 + 4) (vLv (TKS t_text (t_length).toInt.toNat) (rPt (TKS t_text (t_length).toInt.toNat) 0) (vPt (TKS t_text (t_length).toInt.toNat) 0) 3 (t_place).toInt.toNat))) ∧ (TH t_text (t_length).toInt.toNat ((u.2.1 2)).toInt ((u.2.1 3)).toInt ((u.2.1 4)).toInt ((u.2.1 5)).toInt) ∧ (CP ((u.2.1 0)).toInt ((u.2.1 4)).toInt ((u.2.1 1)).toInt (r_fault).toInt (rLv (TKS t_text (t_length).toInt.toNat) (rPt (TKS t_text (t_length).toInt.toNat) 0) 3 (t_place).toInt.toNat))) (fun u => [(r0, .inr (5, [.ref t0, .ref e0, .ref r1, .ref r2, .ref a0, .int r_habits, .int (u.2.1 1)])), (t0, .inr (8, [.ref t1, .int t_length, .int (u.2.1 2), .int (u.2.1 3), .int (u.2.1 4), .int (u.2.1 5)])), (t1, .inl (cyC, 1000, .inl t_text)), (e0, .inr (1, [.int (u.2.1 6), .int e_nests, .ref e1, .ref e2, .ref e3])), (e1, .inl (cyI, 1000, .inl (u.2.2.1 0)))]) := by
  refine KK.of (lv0 := [(0, .ref r0), (1, .int 1), (2, .int p0)]) (by decide) rfl (Nat.le_of_ble_eq_true rfl) ?_
  intro p e s m args below meth c A C hr hk hin
  refine j_iload_n (pc := 0) C dX5_readChain_0 rfl 1 rfl ?_
  refine j_iconst (pc := 1) (v := 4) C dX5_readChain_1 (by decide) ?_
  refine j_icmp_lt_t (pc := 2) (tgt := 11) C dX5_readChain_2 (by decide) (by decide) ?_
  refine j_aload_n (pc := 11) C dX5_readChain_11 rfl 0 rfl ?_
  refine j_iload_n (pc := 12) C dX5_readChain_12 rfl 1 rfl ?_
  refine j_iconst (pc := 13) (v := 1) C dX5_readChain_13 (by decide) ?_
  refine j_iadd (pc := 14) (v := 2) C dX5_readChain_14 (by decide) ?_
  refine j_iload_n (pc := 15) C dX5_readChain_15 rfl 2 rfl ?_
  refine j_callV (pc := 16) (As := [.int 2, .int p0]) (rest := []) (wr := []) C (c_X5_readChain_2_z l D cyC cyI cyJ cyZ cyO r0 t0 t1 e0 e1 r1 r2 a0 e2 e3 p0 r_habits r_fault t_length t_next t_kind t_place t_number e_size e_nests t_text e_steps h_t_length h_t_next h_t_kind h_t_place h_e_size h_e_nests h_t_text ht3 hTH hsz6 hdp9) wd_340 wd_306 wd_341 wd_342 wd_343 ⟨by decide, by decide, rfl⟩ rfl ⟨rfl, rfl, by decide, by decide⟩ ⟨by decide, by decide⟩ [0, 1, 2, 3, 4] [] rfl rfl ⟨by decide, by decide, by decide⟩ 0 rfl rfl rfl (Nat.le_of_ble_eq_true rfl) dX5_readChain_16 (fun u_1 hw_2 => ?_)
  refine j_eq (ws2 := [(r0, .inr (5, [.ref t0, .ref e0, .ref r1, .ref r2, .ref a0, .int r_habits, .int (u_1.2.1 1)])), (t0, .inr (8, [.ref t1, .int t_length, .int (u_1.2.1 2), .int (u_1.2.1 3), .int (u_1.2.1 4), .int (u_1.2.1 5)])), (t1, .inl (cyC, 1000, .inl t_text)), (e0, .inr (1, [.int (u_1.2.1 6), .int e_nests, .ref e1, .ref e2, .ref e3])), (e1, .inl (cyI, 1000, .inl (u_1.2.2.1 0)))]) (pc2 := 19) (lv2 := [(0, .ref r0), (1, .int 1), (2, .int p0)]) (st2 := [.int (u_1.2.1 0)]) rfl rfl rfl rfl ?_
  obtain ⟨hw_2_0, hw_2_1, hw_2_2, hw_2_3, hw_2_4, hw_2_5, hw_2_6, hw_2_7, hw_2_8, hw_2_9, hw_2_10⟩ := hw_2
  refine j_istore_n (pc := 19) (lv' := [(3, .int (u_1.2.1 0)), (0, .ref r0), (1, .int 1), (2, .int p0)]) C dX5_readChain_19 rfl (by decide) rfl ?_
  refine j_iload_n (pc := 20) C dX5_readChain_20 rfl 2 rfl ?_
  refine j_iconst (pc := 21) (v := 1) C dX5_readChain_21 (by decide) ?_
  refine j_icmp_ne_f (pc := 22) (tgt := 29) C dX5_readChain_22 (by decide) (by decide) ?_
  refine j_iconst (pc := 25) (v := 1) C dX5_readChain_25 (by decide) ?_
  refine j_goto (pc := 26) (tgt := 32) C dX5_readChain_26 (by decide) ?_
  refine j_istore (pc := 32) (lv' := [(4, .int 1), (3, .int (u_1.2.1 0)), (0, .ref r0), (1, .int 1), (2, .int p0)]) C dX5_readChain_32 (by decide) rfl ?_
  refine j_iconst (pc := 34) (v := 0) C dX5_readChain_34 (by decide) ?_
  refine j_istore (pc := 35) (lv' := [(5, .int 0), (4, .int 1), (3, .int (u_1.2.1 0)), (0, .ref r0), (1, .int 1), (2, .int p0)]) C dX5_readChain_35 (by decide) rfl ?_
  have loop_3 : ∀ (k_3 : Nat) (x3_5 : Int32) (x3_3 : Int32) (y3_r0_6 : Int32) (y3_t0_2 : Int32) (y3_t0_3 : Int32) (y3_t0_4 : Int32) (y3_t0_5 : Int32) (y3_e0_0 : Int32) (g3_e1 : Nat → Int32), (0 ≤ (x3_5).toInt ∧ (x3_5).toInt ≤ 1000) → (0 ≤ (x3_3).toInt ∧ (x3_3).toInt ≤ 1) → (0 ≤ (y3_t0_2).toInt ∧ (y3_t0_2).toInt ≤ 1000) → (0 ≤ (y3_t0_3).toInt ∧ (y3_t0_3).toInt ≤ 4) → (0 ≤ (y3_t0_4).toInt ∧ (y3_t0_4).toInt ≤ 1000) → (0 ≤ (y3_e0_0).toInt ∧ (y3_e0_0).toInt ≤ 1000) → ((¬ y3_t0_3.toInt = 3 ∨ y3_t0_4.toInt ≤ 999) ∧ (e_size).toInt ≤ y3_e0_0.toInt ∧ y3_e0_0.toInt + (t_place).toInt ≤ (e_size).toInt + y3_t0_4.toInt) → (TH t_text (t_length).toInt.toNat y3_t0_2.toInt y3_t0_3.toInt y3_t0_4.toInt y3_t0_5.toInt) → (CH (TKS t_text (t_length).toInt.toNat) (rLv (TKS t_text (t_length).toInt.toNat) (rPt (TKS t_text (t_length).toInt.toNat) 0) 2) (jnt (TKS t_text (t_length).toInt.toNat) 1) (1 - x3_5.toInt).toNat x3_3.toInt y3_t0_4.toInt y3_r0_6.toInt (r_fault).toInt (rLv (TKS t_text (t_length).toInt.toNat) (rPt (TKS t_text (t_length).toInt.toNat) 0) 3 (t_place).toInt.toNat)) → (IM (x3_3.toInt = 1) (CHV (TKS t_text (t_length).toInt.toNat) e_steps g3_e1 (e_size).toInt.toNat (y3_e0_0.toInt).toNat (4 * 0 + 4) (rLv (TKS t_text (t_length).toInt.toNat) (rPt (TKS t_text (t_length).toInt.toNat) 0) 2) (vLv (TKS t_text (t_length).toInt.toNat) (rPt (TKS t_text (t_length).toInt.toNat) 0) (vPt (TKS t_text (t_length).toInt.toNat) 0) 2) (jnt (TKS t_text (t_length).toInt.toNat) 1) (jcd (TKS t_text (t_length).toInt.toNat) 1) (1 - x3_5.toInt).toNat (y3_t0_4.toInt).toNat (vLv (TKS t_text (t_length).toInt.toNat) (rPt (TKS t_text (t_length).toInt.toNat) 0) (vPt (TKS t_text (t_length).toInt.toNat) 0) 3 (t_place).toInt.toNat))) → (1000 - x3_5.toInt).toNat < k_3 → J p l e ({ frames := 10, cells := 0, slots := 0, locals := 230 } : Room) s m args below meth c D A 7 0 0 (QX below D (TY cyC cyI cyJ cyZ cyO) A (fun u => some (.int (u.2.1 0))) (fun u => (0 ≤ (u.2.1 0).toInt ∧ (u.2.1 0).toInt ≤ 1) ∧ (0 ≤ (u.2.1 2).toInt ∧ (u.2.1 2).toInt ≤ 1000) ∧ (0 ≤ (u.2.1 3).toInt ∧ (u.2.1 3).toInt ≤ 4) ∧ (0 ≤ (u.2.1 4).toInt ∧ (u.2.1 4).toInt ≤ 1000) ∧ (0 ≤ (u.2.1 6).toInt ∧ (u.2.1 6).toInt ≤ 1000) ∧ (¬ ((u.2.1 3)).toInt = 3 ∨ ((u.2.1 4)).toInt ≤ 999) ∧ ((e_size).toInt ≤ ((u.2.1 6)).toInt) ∧ (((u.2.1 6)).toInt + (t_place).toInt ≤ (e_size).toInt + ((u.2.1 4)).toInt) ∧ (IM (((u.2.1 0)).toInt = 1) (CG e_steps (u.2.2.1 0) (e_size).toInt.toNat ((u.2.1 6)).toInt.toNat (4 * 0 + 4) (vLv (TKS t_text (t_length).toInt.toNat) (rPt (TKS t_text (t_length).toInt.toNat) 0) (vPt (TKS t_text (t_length).toInt.toNat) 0) 3 (t_place).toInt.toNat))) ∧ (TH t_text (t_length).toInt.toNat ((u.2.1 2)).toInt ((u.2.1 3)).toInt ((u.2.1 4)).toInt ((u.2.1 5)).toInt) ∧ (CP ((u.2.1 0)).toInt ((u.2.1 4)).toInt ((u.2.1 1)).toInt (r_fault).toInt (rLv (TKS t_text (t_length).toInt.toNat) (rPt (TKS t_text (t_length).toInt.toNat) 0) 3 (t_place).toInt.toNat))) (fun u => [(r0, .inr (5, [.ref t0, .ref e0, .ref r1, .ref r2, .ref a0, .int r_habits, .int (u.2.1 1)])), (t0, .inr (8, [.ref t1, .int t_length, .int (u.2.1 2), .int (u.2.1 3), .int (u.2.1 4), .int (u.2.1 5)])), (t1, .inl (cyC, 1000, .inl t_text)), (e0, .inr (1, [.int (u.2.1 6), .int e_nests, .ref e1, .ref e2, .ref e3])), (e1, .inl (cyI, 1000, .inl (u.2.2.1 0)))]) args s 0 0) [(r0, .inr (5, [.ref t0, .ref e0, .ref r1, .ref r2, .ref a0, .int r_habits, .int y3_r0_6])), (t0, .inr (8, [.ref t1, .int t_length, .int y3_t0_2, .int y3_t0_3, .int y3_t0_4, .int y3_t0_5])), (t1, .inl (cyC, 1000, .inl t_text)), (e0, .inr (1, [.int y3_e0_0, .int e_nests, .ref e1, .ref e2, .ref e3])), (e1, .inl (cyI, 1000, .inl g3_e1))] 37 [(5, .int x3_5), (4, .int 1), (3, .int x3_3), (0, .ref r0), (1, .int 1), (2, .int p0)] [] := by
    intro k_3
    induction k_3 with
    | zero =>
      intro x3_5 x3_3 y3_r0_6 y3_t0_2 y3_t0_3 y3_t0_4 y3_t0_5 y3_e0_0 g3_e1 hi_3_0 hi_3_1 hi_3_3 hi_3_4 hi_3_5 hi_3_7 hr_3 hq_3_0 hq_3_1 hq_3_2 hm_3
      exact absurd hm_3 (Nat.not_lt_zero _)
    | succ k_3 ih_3 =>
      intro x3_5 x3_3 y3_r0_6 y3_t0_2 y3_t0_3 y3_t0_4 y3_t0_5 y3_e0_0 g3_e1 hi_3_0 hi_3_1 hi_3_3 hi_3_4 hi_3_5 hi_3_7 hr_3 hq_3_0 hq_3_1 hq_3_2 hm_3
      refine j_iload (pc := 37) C dX5_readChain_37 0 rfl ?_
      refine j_iload (pc := 39) C dX5_readChain_39 1 rfl ?_
      refine j_icmp_ge (pc := 41) (tgt := 95) C dX5_readChain_41 (by decide) (fun c_4 => ?_) (fun c_4 => ?_)
      · skip
        have el_1 : (1 : Int32).toInt = 1 := rfl
        rw [i_le] at c_4
        refine j_iload_n (pc := 95) C dX5_readChain_95 rfl 2 rfl ?_
        exact j_zret (pc := 96) C hr (nb_01 ⟨by omega, by omega⟩).1 hk (fun i => [].getD i 0, fun i => [x3_3, y3_r0_6, y3_t0_2, y3_t0_3, y3_t0_4, y3_t0_5, y3_e0_0].getD i 0, fun i => [g3_e1].getD i (fun _ => 0), fun i => [].getD i (fun _ => 0)) rfl (show (0 ≤ (x3_3).toInt ∧ (x3_3).toInt ≤ 1) ∧ (0 ≤ (y3_t0_2).toInt ∧ (y3_t0_2).toInt ≤ 1000) ∧ (0 ≤ (y3_t0_3).toInt ∧ (y3_t0_3).toInt ≤ 4) ∧ (0 ≤ (y3_t0_4).toInt ∧ (y3_t0_4).toInt ≤ 1000) ∧ (0 ≤ (y3_e0_0).toInt ∧ (y3_e0_0).toInt ≤ 1000) ∧ (¬ (y3_t0_3).toInt = 3 ∨ (y3_t0_4).toInt ≤ 999) ∧ ((e_size).toInt ≤ (y3_e0_0).toInt) ∧ ((y3_e0_0).toInt + (t_place).toInt ≤ (e_size).toInt + (y3_t0_4).toInt) ∧ (IM ((x3_3).toInt = 1) (CG e_steps g3_e1 (e_size).toInt.toNat (y3_e0_0).toInt.toNat (4 * 0 + 4) (vLv (TKS t_text (t_length).toInt.toNat) (rPt (TKS t_text (t_length).toInt.toNat) 0) (vPt (TKS t_text (t_length).toInt.toNat) 0) 3 (t_place).toInt.toNat))) ∧ (TH t_text (t_length).toInt.toNat (y3_t0_2).toInt (y3_t0_3).toInt (y3_t0_4).toInt (y3_t0_5).toInt) ∧ (CP (x3_3).toInt (y3_t0_4).toInt (y3_r0_6).toInt (r_fault).toInt (rLv (TKS t_text (t_length).toInt.toNat) (rPt (TKS t_text (t_length).toInt.toNat) 0) 3 (t_place).toInt.toNat)) from ⟨hi_3_1, hi_3_3, hi_3_4, hi_3_5, hi_3_7, by omega, by omega, by omega, (fun z => CHV.stop (hq_3_2 (by omega)) (Or.inl (by omega))), hq_3_0, (CH.stop hq_3_1 (fun z => Or.inl (by omega)))⟩) [0, 1, 2, 3, 4] (by decide) rfl (by decide) (by decide) dX5_readChain_96
      · skip
        have el_1 : (1 : Int32).toInt = 1 := rfl
        rw [i_le] at c_4
        have k0c_4 : x3_5.toInt = 0 := by omega
        refine j_iload_n (pc := 44) C dX5_readChain_44 rfl 2 rfl ?_
        refine j_if_eq (pc := 45) (tgt := 95) C dX5_readChain_45 (by decide) (fun c_5 => ?_) (fun c_5 => ?_)
        · skip
          have el_0 : (0 : Int32).toInt = 0 := rfl
          rw [i_eq] at c_5
          refine j_iload_n (pc := 95) C dX5_readChain_95 rfl 2 rfl ?_
          exact j_zret (pc := 96) C hr (nb_01 ⟨by omega, by omega⟩).1 hk (fun i => [].getD i 0, fun i => [x3_3, y3_r0_6, y3_t0_2, y3_t0_3, y3_t0_4, y3_t0_5, y3_e0_0].getD i 0, fun i => [g3_e1].getD i (fun _ => 0), fun i => [].getD i (fun _ => 0)) rfl (show (0 ≤ (x3_3).toInt ∧ (x3_3).toInt ≤ 1) ∧ (0 ≤ (y3_t0_2).toInt ∧ (y3_t0_2).toInt ≤ 1000) ∧ (0 ≤ (y3_t0_3).toInt ∧ (y3_t0_3).toInt ≤ 4) ∧ (0 ≤ (y3_t0_4).toInt ∧ (y3_t0_4).toInt ≤ 1000) ∧ (0 ≤ (y3_e0_0).toInt ∧ (y3_e0_0).toInt ≤ 1000) ∧ (¬ (y3_t0_3).toInt = 3 ∨ (y3_t0_4).toInt ≤ 999) ∧ ((e_size).toInt ≤ (y3_e0_0).toInt) ∧ ((y3_e0_0).toInt + (t_place).toInt ≤ (e_size).toInt + (y3_t0_4).toInt) ∧ (IM ((x3_3).toInt = 1) (CG e_steps g3_e1 (e_size).toInt.toNat (y3_e0_0).toInt.toNat (4 * 0 + 4) (vLv (TKS t_text (t_length).toInt.toNat) (rPt (TKS t_text (t_length).toInt.toNat) 0) (vPt (TKS t_text (t_length).toInt.toNat) 0) 3 (t_place).toInt.toNat))) ∧ (TH t_text (t_length).toInt.toNat (y3_t0_2).toInt (y3_t0_3).toInt (y3_t0_4).toInt (y3_t0_5).toInt) ∧ (CP (x3_3).toInt (y3_t0_4).toInt (y3_r0_6).toInt (r_fault).toInt (rLv (TKS t_text (t_length).toInt.toNat) (rPt (TKS t_text (t_length).toInt.toNat) 0) 3 (t_place).toInt.toNat)) from ⟨hi_3_1, hi_3_3, hi_3_4, hi_3_5, hi_3_7, by omega, by omega, by omega, (fun z => absurd z (by omega)), hq_3_0, (CH.stop hq_3_1 (fun z => absurd z (by omega)))⟩) [0, 1, 2, 3, 4] (by decide) rfl (by decide) (by decide) dX5_readChain_96
        · skip
          have el_0 : (0 : Int32).toInt = 0 := rfl
          rw [i_eq] at c_5
          have k0c_5 : x3_3.toInt = 1 := by omega
          refine j_aload_n (pc := 48) C dX5_readChain_48 rfl 3 rfl ?_
          refine j_iload_n (pc := 49) C dX5_readChain_49 rfl 4 rfl ?_
          refine j_callV (pc := 50) (As := [.int 1]) (rest := []) (wr := [(e0, .inr (1, [.int y3_e0_0, .int e_nests, .ref e1, .ref e2, .ref e3])), (e1, .inl (cyI, 1000, .inl g3_e1))]) C (c_X5_joint_1 l D cyC cyI cyJ cyZ cyO r0 t0 t1 e0 r1 r2 a0 r_habits y3_r0_6 t_length y3_t0_2 y3_t0_3 y3_t0_4 y3_t0_5 t_text h_t_length hi_3_3 hi_3_4 hi_3_5 h_t_text (by omega) hq_3_0) wd_349 wd_306 wd_350 wd_351 wd_352 ⟨by decide, by decide, rfl⟩ rfl ⟨rfl, rfl, by decide, by decide⟩ ⟨by decide, by decide⟩ [0, 1, 2] [3, 4] rfl rfl ⟨by decide, by decide, by decide⟩ 0 rfl rfl rfl (Nat.le_of_ble_eq_true rfl) dX5_readChain_50 (fun u_6 hw_7 => ?_)
          refine j_eq (ws2 := [(e0, .inr (1, [.int y3_e0_0, .int e_nests, .ref e1, .ref e2, .ref e3])), (e1, .inl (cyI, 1000, .inl g3_e1)), (r0, .inr (5, [.ref t0, .ref e0, .ref r1, .ref r2, .ref a0, .int r_habits, .int y3_r0_6])), (t0, .inr (8, [.ref t1, .int t_length, .int y3_t0_2, .int y3_t0_3, .int y3_t0_4, .int y3_t0_5])), (t1, .inl (cyC, 1000, .inl t_text))]) (pc2 := 53) (lv2 := [(5, .int x3_5), (4, .int 1), (3, .int x3_3), (0, .ref r0), (1, .int 1), (2, .int p0)]) (st2 := [.int (u_6.2.1 0)]) rfl rfl rfl rfl ?_
          obtain ⟨hw_7_0, hw_7_1, hw_7_2⟩ := hw_7
          refine j_istore (pc := 53) (lv' := [(6, .int (u_6.2.1 0)), (5, .int x3_5), (4, .int 1), (3, .int x3_3), (0, .ref r0), (1, .int 1), (2, .int p0)]) C dX5_readChain_53 (by decide) rfl ?_
          refine j_iload (pc := 55) C dX5_readChain_55 0 rfl ?_
          refine j_bipush (pc := 57) (v := (-100)) C dX5_readChain_57 (by decide) ?_
          refine j_icmp_ne (pc := 59) (tgt := 64) C dX5_readChain_59 (by decide) (fun c_8 => ?_) (fun c_8 => ?_)
          · skip
            have el_m100 : ((-100) : Int32).toInt = (-100) := rfl
            rw [i_eq] at c_8
            refine j_aload_n (pc := 64) C dX5_readChain_64 rfl 4 rfl ?_
            refine j_get (pc := 65) (ci := 5) (v := .ref t0) C inw_5 2 rfl rfl 0 (by decide) wd_296 rfl rfl dX5_readChain_65 ?_
            refine j_callV (pc := 68) (As := []) (rest := []) (wr := [(e0, .inr (1, [.int y3_e0_0, .int e_nests, .ref e1, .ref e2, .ref e3])), (e1, .inl (cyI, 1000, .inl g3_e1)), (r0, .inr (5, [.ref t0, .ref e0, .ref r1, .ref r2, .ref a0, .int r_habits, .int y3_r0_6]))]) C (c_X8_advance_f l D cyC cyI cyJ cyZ cyO t0 t1 t_length y3_t0_2 y3_t0_3 y3_t0_4 y3_t0_5 t_text h_t_length hi_3_3 hi_3_4 hi_3_5 h_t_text) wd_277 wd_258 wd_304 wd_279 wd_280 ⟨by decide, by decide, rfl⟩ rfl ⟨rfl, rfl, by decide, by decide⟩ ⟨by decide, by decide⟩ [3, 4] [0, 1, 2] rfl rfl ⟨by decide, by decide, by decide⟩ 3 rfl rfl rfl (Nat.le_of_ble_eq_true rfl) dX5_readChain_68 (fun u_9 hw_10 => ?_)
            refine j_eq (ws2 := [(e0, .inr (1, [.int y3_e0_0, .int e_nests, .ref e1, .ref e2, .ref e3])), (e1, .inl (cyI, 1000, .inl g3_e1)), (r0, .inr (5, [.ref t0, .ref e0, .ref r1, .ref r2, .ref a0, .int r_habits, .int y3_r0_6])), (t0, .inr (8, [.ref t1, .int t_length, .int (u_9.2.1 0), .int (u_9.2.1 1), .int (u_9.2.1 2), .int (u_9.2.1 3)])), (t1, .inl (cyC, 1000, .inl t_text))]) (pc2 := 71) (lv2 := [(6, .int (u_6.2.1 0)), (5, .int x3_5), (4, .int 1), (3, .int x3_3), (0, .ref r0), (1, .int 1), (2, .int p0)]) (st2 := []) rfl rfl rfl rfl ?_
            obtain ⟨hw_10_0, hw_10_1, hw_10_2, hw_10_3, hw_10_4, hw_10_5⟩ := hw_10
            have ha_u_9 := (hw_10_5).trans (TH.adv hq_3_0)
            have hj9 : jnt (TKS t_text (t_length).toInt.toNat) 1 (y3_t0_4).toInt.toNat = true := by rcases hw_7_2 with z | z; (exfalso; omega); exact z.2
            have hg9 := jnt_gt (PT_TKS (f := t_text) (n := (t_length).toInt.toNat) (by omega)) hj9
            have hga9 := ha_u_9
            refine j_aload_n (pc := 71) C dX5_readChain_71 rfl 4 rfl ?_
            refine j_iload_n (pc := 72) C dX5_readChain_72 rfl 5 rfl ?_
            refine j_iconst (pc := 73) (v := 1) C dX5_readChain_73 (by decide) ?_
            refine j_iadd (pc := 74) (v := 2) C dX5_readChain_74 (by decide) ?_
            refine j_iload_n (pc := 75) C dX5_readChain_75 rfl 6 rfl ?_
            refine j_callV (pc := 76) (As := [.int 2, .int p0]) (rest := []) (wr := []) C (c_X5_readChain_2_z l D cyC cyI cyJ cyZ cyO r0 t0 t1 e0 e1 r1 r2 a0 e2 e3 p0 r_habits y3_r0_6 t_length (u_9.2.1 0) (u_9.2.1 1) (u_9.2.1 2) (u_9.2.1 3) y3_e0_0 e_nests t_text g3_e1 h_t_length hw_10_0 hw_10_1 hw_10_2 hi_3_7 h_e_nests h_t_text (by omega) hw_10_4 (by omega) hdp9) wd_340 wd_306 wd_341 wd_342 wd_343 ⟨by decide, by decide, rfl⟩ rfl ⟨rfl, rfl, by decide, by decide⟩ ⟨by decide, by decide⟩ [2, 3, 4, 0, 1] [] rfl rfl ⟨by decide, by decide, by decide⟩ 2 rfl rfl rfl (Nat.le_of_ble_eq_true rfl) dX5_readChain_76 (fun u_11 hw_12 => ?_)
            refine j_eq (ws2 := [(r0, .inr (5, [.ref t0, .ref e0, .ref r1, .ref r2, .ref a0, .int r_habits, .int (u_11.2.1 1)])), (t0, .inr (8, [.ref t1, .int t_length, .int (u_11.2.1 2), .int (u_11.2.1 3), .int (u_11.2.1 4), .int (u_11.2.1 5)])), (t1, .inl (cyC, 1000, .inl t_text)), (e0, .inr (1, [.int (u_11.2.1 6), .int e_nests, .ref e1, .ref e2, .ref e3])), (e1, .inl (cyI, 1000, .inl (u_11.2.2.1 0)))]) (pc2 := 79) (lv2 := [(6, .int (u_6.2.1 0)), (5, .int x3_5), (4, .int 1), (3, .int x3_3), (0, .ref r0), (1, .int 1), (2, .int p0)]) (st2 := [.int (u_11.2.1 0)]) rfl rfl rfl rfl ?_
            obtain ⟨hw_12_0, hw_12_1, hw_12_2, hw_12_3, hw_12_4, hw_12_5, hw_12_6, hw_12_7, hw_12_8, hw_12_9, hw_12_10⟩ := hw_12
            refine j_istore_n (pc := 79) (lv' := [(3, .int (u_11.2.1 0)), (6, .int (u_6.2.1 0)), (5, .int x3_5), (4, .int 1), (0, .ref r0), (1, .int 1), (2, .int p0)]) C dX5_readChain_79 rfl (by decide) rfl ?_
            refine j_aload_n (pc := 80) C dX5_readChain_80 rfl 4 rfl ?_
            refine j_get (pc := 81) (ci := 5) (v := .ref e0) C inw_5 0 rfl rfl 1 (by decide) wd_344 rfl rfl dX5_readChain_81 ?_
            refine j_iload (pc := 84) C dX5_readChain_84 1 rfl ?_
            refine j_callV (pc := 86) (As := [.int (u_6.2.1 0)]) (rest := []) (wr := [(r0, .inr (5, [.ref t0, .ref e0, .ref r1, .ref r2, .ref a0, .int r_habits, .int (u_11.2.1 1)])), (t0, .inr (8, [.ref t1, .int t_length, .int (u_11.2.1 2), .int (u_11.2.1 3), .int (u_11.2.1 4), .int (u_11.2.1 5)])), (t1, .inl (cyC, 1000, .inl t_text))]) C (c_X1_add l D cyC cyI cyJ cyZ cyO e0 e1 e2 e3 (u_6.2.1 0) (u_11.2.1 6) e_nests (u_11.2.2.1 0) hw_12_4 h_e_nests) wd_345 wd_200 wd_346 wd_347 wd_348 ⟨by decide, by decide, rfl⟩ rfl ⟨rfl, rfl, by decide, by decide⟩ ⟨by decide, by decide⟩ [3, 4] [0, 1, 2] rfl rfl ⟨by decide, by decide, by decide⟩ 3 rfl rfl rfl (Nat.le_of_ble_eq_true rfl) dX5_readChain_86 (fun u_13 hw_14 => ?_)
            refine j_eq (ws2 := [(r0, .inr (5, [.ref t0, .ref e0, .ref r1, .ref r2, .ref a0, .int r_habits, .int (u_11.2.1 1)])), (t0, .inr (8, [.ref t1, .int t_length, .int (u_11.2.1 2), .int (u_11.2.1 3), .int (u_11.2.1 4), .int (u_11.2.1 5)])), (t1, .inl (cyC, 1000, .inl t_text)), (e0, .inr (1, [.int (u_13.2.1 0), .int e_nests, .ref e1, .ref e2, .ref e3])), (e1, .inl (cyI, 1000, .inl (u_13.2.2.1 0)))]) (pc2 := 89) (lv2 := [(3, .int (u_11.2.1 0)), (6, .int (u_6.2.1 0)), (5, .int x3_5), (4, .int 1), (0, .ref r0), (1, .int 1), (2, .int p0)]) (st2 := []) rfl rfl rfl rfl ?_
            obtain ⟨hw_14_0, hw_14_1, hw_14_2, hw_14_3, hw_14_4⟩ := hw_14
            obtain ⟨v_15, ev_15⟩ : ∃ z : Int32, x3_5 + 1 = z := ⟨_, rfl⟩
            have el_1 : (1 : Int32).toInt = 1 := rfl
            have hv_15 : v_15.toInt = x3_5.toInt + (1 : Int32).toInt := by rw [← ev_15]; exact fb_addI (by omega) (by omega)
            refine j_iinc (pc := 89) (v := v_15) (lv' := [(5, .int v_15), (3, .int (u_11.2.1 0)), (6, .int (u_6.2.1 0)), (4, .int 1), (0, .ref r0), (1, .int 1), (2, .int p0)]) C dX5_readChain_89 2 rfl ev_15 (by decide) rfl ?_
            refine j_goto (pc := 92) (tgt := 37) C dX5_readChain_92 (by decide) ?_
            exact j_lv [0, 3, 1, 4, 5, 6] rfl (ih_3 v_15 (u_11.2.1 0) (u_11.2.1 1) (u_11.2.1 2) (u_11.2.1 3) (u_11.2.1 4) (u_11.2.1 5) (u_13.2.1 0) (u_13.2.2.1 0) (by omega) hw_12_0 hw_12_1 hw_12_2 hw_12_3 hw_14_0 (by omega) hw_12_9 (CH.step (k := (1 - (v_15).toInt).toNat) (by rw [show (1 - (v_15).toInt).toNat + 1 = (1 - (x3_5).toInt).toNat from (by omega)]; exact hq_3_1) (by omega) (by rcases hw_7_2 with z | z; omega; exact z.2) ha_u_9 hw_12_10) (fun z => CHV.step (k := (1 - (v_15).toInt).toNat) (by rw [show (1 - (v_15).toInt).toNat + 1 = (1 - (x3_5).toInt).toNat from (by omega)]; exact hq_3_2 (by omega)) hj9 hga9 ((hw_12_10).1 (by omega)).1 (hw_12_8 (by omega)) (hw_14_4 (by omega)) (hw_7_1 hj9) (jcd_lt _ _ _) (by have y9 := hw_14_3 (by omega); omega)) (by omega))
          · skip
            have el_m100 : ((-100) : Int32).toInt = (-100) := rfl
            rw [i_eq] at c_8
            refine j_iconst (pc := 62) (v := 1) C dX5_readChain_62 (by decide) ?_
            have el_1 : (1 : Int32).toInt = 1 := rfl
            have el_1 : (1 : Int32).toInt = 1 := rfl
            have el_1 : (1 : Int32).toInt = 1 := rfl
            have el_1 : (1 : Int32).toInt = 1 := rfl
            have el_1 : (1 : Int32).toInt = 1 := rfl
            have el_1 : (1 : Int32).toInt = 1 := rfl
            have el_1 : (1 : Int32).toInt = 1 := rfl
            exact j_zret (pc := 63) C hr rfl hk (fun i => [].getD i 0, fun i => [1, y3_r0_6, y3_t0_2, y3_t0_3, y3_t0_4, y3_t0_5, y3_e0_0].getD i 0, fun i => [g3_e1].getD i (fun _ => 0), fun i => [].getD i (fun _ => 0)) rfl (show (0 ≤ ((1 : Int32)).toInt ∧ ((1 : Int32)).toInt ≤ 1) ∧ (0 ≤ (y3_t0_2).toInt ∧ (y3_t0_2).toInt ≤ 1000) ∧ (0 ≤ (y3_t0_3).toInt ∧ (y3_t0_3).toInt ≤ 4) ∧ (0 ≤ (y3_t0_4).toInt ∧ (y3_t0_4).toInt ≤ 1000) ∧ (0 ≤ (y3_e0_0).toInt ∧ (y3_e0_0).toInt ≤ 1000) ∧ (¬ (y3_t0_3).toInt = 3 ∨ (y3_t0_4).toInt ≤ 999) ∧ ((e_size).toInt ≤ (y3_e0_0).toInt) ∧ ((y3_e0_0).toInt + (t_place).toInt ≤ (e_size).toInt + (y3_t0_4).toInt) ∧ (IM (((1 : Int32)).toInt = 1) (CG e_steps g3_e1 (e_size).toInt.toNat (y3_e0_0).toInt.toNat (4 * 0 + 4) (vLv (TKS t_text (t_length).toInt.toNat) (rPt (TKS t_text (t_length).toInt.toNat) 0) (vPt (TKS t_text (t_length).toInt.toNat) 0) 3 (t_place).toInt.toNat))) ∧ (TH t_text (t_length).toInt.toNat (y3_t0_2).toInt (y3_t0_3).toInt (y3_t0_4).toInt (y3_t0_5).toInt) ∧ (CP ((1 : Int32)).toInt (y3_t0_4).toInt (y3_r0_6).toInt (r_fault).toInt (rLv (TKS t_text (t_length).toInt.toNat) (rPt (TKS t_text (t_length).toInt.toNat) 0) 3 (t_place).toInt.toNat)) from ⟨by omega, hi_3_3, hi_3_4, hi_3_5, hi_3_7, by omega, by omega, by omega, (fun z => CHV.stop (hq_3_2 (by omega)) (Or.inr (by rcases hw_7_2 with z | z; (rw [z.2]; decide); omega))), hq_3_0, (CP.ok (by omega) ((CH.stop hq_3_1 (fun _ => Or.inr (by rcases hw_7_2 with z | z; (rw [z.2]; decide); omega))).1 (by omega)).2 ((CH.stop hq_3_1 (fun _ => Or.inr (by rcases hw_7_2 with z | z; (rw [z.2]; decide); omega))).1 (by omega)).1)⟩) [2, 3, 4, 0, 1] (by decide) rfl (by decide) (by decide) dX5_readChain_63
  have el_0 : (0 : Int32).toInt = 0 := rfl
  exact j_lv [0, 1, 2, 3, 4, 5] rfl (loop_3 4096 0 (u_1.2.1 0) (u_1.2.1 1) (u_1.2.1 2) (u_1.2.1 3) (u_1.2.1 4) (u_1.2.1 5) (u_1.2.1 6) (u_1.2.2.1 0) (by decide) hw_2_0 hw_2_1 hw_2_2 hw_2_3 hw_2_4 (by omega) hw_2_9 (by rw [rLv3, show (1 - (0 : Int32).toInt).toNat = 1 from by decide]; exact CH.start hw_2_10) (fun z => by rw [show (1 - (0 : Int32).toInt).toNat = 1 from by decide]; exact CHV.start (hw_2_8 (by omega)) ((hw_2_10).1 (by omega)).1) (by omega))
set_option maxHeartbeats 4000000 in
set_option maxRecDepth 100000 in
theorem c_X5_readChain_0_z (l : Launch) (D : DG) (cyC cyI cyJ cyZ cyO : ClassId) (r0 : Nat) (t0 : Nat) (t1 : Nat) (e0 : Nat) (e1 : Nat) (r1 : Nat) (r2 : Nat) (a0 : Nat) (e2 : Nat) (e3 : Nat) (p0 : Int32) (r_habits : Int32) (r_fault : Int32) (t_length : Int32) (t_next : Int32) (t_kind : Int32) (t_place : Int32) (t_number : Int32) (e_size : Int32) (e_nests : Int32) (t_text : Nat → Int32) (e_steps : Nat → Int32) (h_t_length : 0 ≤ (t_length).toInt ∧ (t_length).toInt ≤ 1000) (h_t_next : 0 ≤ (t_next).toInt ∧ (t_next).toInt ≤ 1000) (h_t_kind : 0 ≤ (t_kind).toInt ∧ (t_kind).toInt ≤ 4) (h_t_place : 0 ≤ (t_place).toInt ∧ (t_place).toInt ≤ 1000) (h_e_size : 0 ≤ (e_size).toInt ∧ (e_size).toInt ≤ 1000) (h_e_nests : 0 ≤ (e_nests).toInt ∧ (e_nests).toInt ≤ 4) (h_t_text : Iv 1000 (0) (126) t_text) (ht3 : ¬ (t_kind).toInt = 3 ∨ (t_place).toInt ≤ 999) (hTH : TH t_text (t_length).toInt.toNat (t_next).toInt (t_kind).toInt (t_place).toInt (t_number).toInt) (hsz6 : (e_size).toInt ≤ (t_place).toInt) (hdp9 : (p0).toInt = 5 - ((0 : Nat) : Int)) : KK l D (TY cyC cyI cyJ cyZ cyO) yX5_readChain cX5_readChain 7 (some .boolean) ({ frames := 11, cells := 0, slots := 0, locals := 256 } : Room) 0 0 [.ref r0, .int 0, .int p0] [(r0, .inr (5, [.ref t0, .ref e0, .ref r1, .ref r2, .ref a0, .int r_habits, .int r_fault])), (t0, .inr (8, [.ref t1, .int t_length, .int t_next, .int t_kind, .int t_place, .int t_number])), (t1, .inl (cyC, 1000, .inl t_text)), (e0, .inr (1, [.int e_size, .int e_nests, .ref e1, .ref e2, .ref e3])), (e1, .inl (cyI, 1000, .inl e_steps))] (fun u => some (.int (u.2.1 0))) (fun u => (0 ≤ (u.2.1 0).toInt ∧ (u.2.1 0).toInt ≤ 1) ∧ (0 ≤ (u.2.1 2).toInt ∧ (u.2.1 2).toInt ≤ 1000) ∧ (0 ≤ (u.2.1 3).toInt ∧ (u.2.1 3).toInt ≤ 4) ∧ (0 ≤ (u.2.1 4).toInt ∧ (u.2.1 4).toInt ≤ 1000) ∧ (0 ≤ (u.2.1 6).toInt ∧ (u.2.1 6).toInt ≤ 1000) ∧ (¬ ((u.2.1 3)).toInt = 3 ∨ ((u.2.1 4)).toInt ≤ 999) ∧ ((e_size).toInt ≤ ((u.2.1 6)).toInt) ∧ (((u.2.1 6)).toInt + (t_place).toInt ≤ (e_size).toInt + ((u.2.1 4)).toInt) ∧ (IM (((u.2.1 0)).toInt = 1) (CG e_steps (u.2.2.1 0) (e_size).toInt.toNat ((u.2.1 6)).toInt.toNat (4 * 0 + 5) (vLv (TKS t_text (t_length).toInt.toNat) (rPt (TKS t_text (t_length).toInt.toNat) 0) (vPt (TKS t_text (t_length).toInt.toNat) 0) 4 (t_place).toInt.toNat))) ∧ (TH t_text (t_length).toInt.toNat ((u.2.1 2)).toInt ((u.2.1 3)).toInt ((u.2.1 4)).toInt ((u.2.1 5)).toInt) ∧ (CP ((u.2.1 0)).toInt ((u.2.1 4)).toInt ((u.2.1 1)).toInt (r_fault).toInt (rLv (TKS t_text (t_length).toInt.toNat) (rPt (TKS t_text (t_length).toInt.toNat) 0) 4 (t_place).toInt.toNat))) (fun u => [(r0, .inr (5, [.ref t0, .ref e0, .ref r1, .ref r2, .ref a0, .int r_habits, .int (u.2.1 1)])), (t0, .inr (8, [.ref t1, .int t_length, .int (u.2.1 2), .int (u.2.1 3), .int (u.2.1 4), .int (u.2.1 5)])), (t1, .inl (cyC, 1000, .inl t_text)), (e0, .inr (1, [.int (u.2.1 6), .int e_nests, .ref e1, .ref e2, .ref e3])), (e1, .inl (cyI, 1000, .inl (u.2.2.1 0)))]) := by
  refine KK.of (lv0 := [(0, .ref r0), (1, .int 0), (2, .int p0)]) (by decide) rfl (Nat.le_of_ble_eq_true rfl) ?_
  intro p e s m args below meth c A C hr hk hin
  refine j_iload_n (pc := 0) C dX5_readChain_0 rfl 1 rfl ?_
  refine j_iconst (pc := 1) (v := 4) C dX5_readChain_1 (by decide) ?_
  refine j_icmp_lt_t (pc := 2) (tgt := 11) C dX5_readChain_2 (by decide) (by decide) ?_
  refine j_aload_n (pc := 11) C dX5_readChain_11 rfl 0 rfl ?_
  refine j_iload_n (pc := 12) C dX5_readChain_12 rfl 1 rfl ?_
  refine j_iconst (pc := 13) (v := 1) C dX5_readChain_13 (by decide) ?_
  refine j_iadd (pc := 14) (v := 1) C dX5_readChain_14 (by decide) ?_
  refine j_iload_n (pc := 15) C dX5_readChain_15 rfl 2 rfl ?_
  refine j_callV (pc := 16) (As := [.int 1, .int p0]) (rest := []) (wr := []) C (c_X5_readChain_1_z l D cyC cyI cyJ cyZ cyO r0 t0 t1 e0 e1 r1 r2 a0 e2 e3 p0 r_habits r_fault t_length t_next t_kind t_place t_number e_size e_nests t_text e_steps h_t_length h_t_next h_t_kind h_t_place h_e_size h_e_nests h_t_text ht3 hTH hsz6 hdp9) wd_340 wd_306 wd_341 wd_342 wd_343 ⟨by decide, by decide, rfl⟩ rfl ⟨rfl, rfl, by decide, by decide⟩ ⟨by decide, by decide⟩ [0, 1, 2, 3, 4] [] rfl rfl ⟨by decide, by decide, by decide⟩ 0 rfl rfl rfl (Nat.le_of_ble_eq_true rfl) dX5_readChain_16 (fun u_1 hw_2 => ?_)
  refine j_eq (ws2 := [(r0, .inr (5, [.ref t0, .ref e0, .ref r1, .ref r2, .ref a0, .int r_habits, .int (u_1.2.1 1)])), (t0, .inr (8, [.ref t1, .int t_length, .int (u_1.2.1 2), .int (u_1.2.1 3), .int (u_1.2.1 4), .int (u_1.2.1 5)])), (t1, .inl (cyC, 1000, .inl t_text)), (e0, .inr (1, [.int (u_1.2.1 6), .int e_nests, .ref e1, .ref e2, .ref e3])), (e1, .inl (cyI, 1000, .inl (u_1.2.2.1 0)))]) (pc2 := 19) (lv2 := [(0, .ref r0), (1, .int 0), (2, .int p0)]) (st2 := [.int (u_1.2.1 0)]) rfl rfl rfl rfl ?_
  obtain ⟨hw_2_0, hw_2_1, hw_2_2, hw_2_3, hw_2_4, hw_2_5, hw_2_6, hw_2_7, hw_2_8, hw_2_9, hw_2_10⟩ := hw_2
  refine j_istore_n (pc := 19) (lv' := [(3, .int (u_1.2.1 0)), (0, .ref r0), (1, .int 0), (2, .int p0)]) C dX5_readChain_19 rfl (by decide) rfl ?_
  refine j_iload_n (pc := 20) C dX5_readChain_20 rfl 2 rfl ?_
  refine j_iconst (pc := 21) (v := 1) C dX5_readChain_21 (by decide) ?_
  refine j_icmp_ne_t (pc := 22) (tgt := 29) C dX5_readChain_22 (by decide) (by decide) ?_
  refine j_sipush (pc := 29) (v := 1000) C dX5_readChain_29 (by decide) ?_
  refine j_istore (pc := 32) (lv' := [(4, .int 1000), (3, .int (u_1.2.1 0)), (0, .ref r0), (1, .int 0), (2, .int p0)]) C dX5_readChain_32 (by decide) rfl ?_
  refine j_iconst (pc := 34) (v := 0) C dX5_readChain_34 (by decide) ?_
  refine j_istore (pc := 35) (lv' := [(5, .int 0), (4, .int 1000), (3, .int (u_1.2.1 0)), (0, .ref r0), (1, .int 0), (2, .int p0)]) C dX5_readChain_35 (by decide) rfl ?_
  have loop_3 : ∀ (k_3 : Nat) (x3_5 : Int32) (x3_3 : Int32) (y3_r0_6 : Int32) (y3_t0_2 : Int32) (y3_t0_3 : Int32) (y3_t0_4 : Int32) (y3_t0_5 : Int32) (y3_e0_0 : Int32) (g3_e1 : Nat → Int32), (0 ≤ (x3_5).toInt ∧ (x3_5).toInt ≤ 1000) → (0 ≤ (x3_3).toInt ∧ (x3_3).toInt ≤ 1) → (0 ≤ (y3_t0_2).toInt ∧ (y3_t0_2).toInt ≤ 1000) → (0 ≤ (y3_t0_3).toInt ∧ (y3_t0_3).toInt ≤ 4) → (0 ≤ (y3_t0_4).toInt ∧ (y3_t0_4).toInt ≤ 1000) → (0 ≤ (y3_e0_0).toInt ∧ (y3_e0_0).toInt ≤ 1000) → ((¬ y3_t0_3.toInt = 3 ∨ y3_t0_4.toInt ≤ 999) ∧ (e_size).toInt ≤ y3_e0_0.toInt ∧ y3_e0_0.toInt + (t_place).toInt ≤ (e_size).toInt + y3_t0_4.toInt) → (TH t_text (t_length).toInt.toNat y3_t0_2.toInt y3_t0_3.toInt y3_t0_4.toInt y3_t0_5.toInt) → (CH (TKS t_text (t_length).toInt.toNat) (rLv (TKS t_text (t_length).toInt.toNat) (rPt (TKS t_text (t_length).toInt.toNat) 0) 3) (jnt (TKS t_text (t_length).toInt.toNat) 0) (1000 - x3_5.toInt).toNat x3_3.toInt y3_t0_4.toInt y3_r0_6.toInt (r_fault).toInt (rLv (TKS t_text (t_length).toInt.toNat) (rPt (TKS t_text (t_length).toInt.toNat) 0) 4 (t_place).toInt.toNat)) → (IM (x3_3.toInt = 1) (CHV (TKS t_text (t_length).toInt.toNat) e_steps g3_e1 (e_size).toInt.toNat (y3_e0_0.toInt).toNat (4 * 0 + 5) (rLv (TKS t_text (t_length).toInt.toNat) (rPt (TKS t_text (t_length).toInt.toNat) 0) 3) (vLv (TKS t_text (t_length).toInt.toNat) (rPt (TKS t_text (t_length).toInt.toNat) 0) (vPt (TKS t_text (t_length).toInt.toNat) 0) 3) (jnt (TKS t_text (t_length).toInt.toNat) 0) (jcd (TKS t_text (t_length).toInt.toNat) 0) (1000 - x3_5.toInt).toNat (y3_t0_4.toInt).toNat (vLv (TKS t_text (t_length).toInt.toNat) (rPt (TKS t_text (t_length).toInt.toNat) 0) (vPt (TKS t_text (t_length).toInt.toNat) 0) 4 (t_place).toInt.toNat))) → (1000 - x3_5.toInt).toNat < k_3 → J p l e ({ frames := 11, cells := 0, slots := 0, locals := 256 } : Room) s m args below meth c D A 7 0 0 (QX below D (TY cyC cyI cyJ cyZ cyO) A (fun u => some (.int (u.2.1 0))) (fun u => (0 ≤ (u.2.1 0).toInt ∧ (u.2.1 0).toInt ≤ 1) ∧ (0 ≤ (u.2.1 2).toInt ∧ (u.2.1 2).toInt ≤ 1000) ∧ (0 ≤ (u.2.1 3).toInt ∧ (u.2.1 3).toInt ≤ 4) ∧ (0 ≤ (u.2.1 4).toInt ∧ (u.2.1 4).toInt ≤ 1000) ∧ (0 ≤ (u.2.1 6).toInt ∧ (u.2.1 6).toInt ≤ 1000) ∧ (¬ ((u.2.1 3)).toInt = 3 ∨ ((u.2.1 4)).toInt ≤ 999) ∧ ((e_size).toInt ≤ ((u.2.1 6)).toInt) ∧ (((u.2.1 6)).toInt + (t_place).toInt ≤ (e_size).toInt + ((u.2.1 4)).toInt) ∧ (IM (((u.2.1 0)).toInt = 1) (CG e_steps (u.2.2.1 0) (e_size).toInt.toNat ((u.2.1 6)).toInt.toNat (4 * 0 + 5) (vLv (TKS t_text (t_length).toInt.toNat) (rPt (TKS t_text (t_length).toInt.toNat) 0) (vPt (TKS t_text (t_length).toInt.toNat) 0) 4 (t_place).toInt.toNat))) ∧ (TH t_text (t_length).toInt.toNat ((u.2.1 2)).toInt ((u.2.1 3)).toInt ((u.2.1 4)).toInt ((u.2.1 5)).toInt) ∧ (CP ((u.2.1 0)).toInt ((u.2.1 4)).toInt ((u.2.1 1)).toInt (r_fault).toInt (rLv (TKS t_text (t_length).toInt.toNat) (rPt (TKS t_text (t_length).toInt.toNat) 0) 4 (t_place).toInt.toNat))) (fun u => [(r0, .inr (5, [.ref t0, .ref e0, .ref r1, .ref r2, .ref a0, .int r_habits, .int (u.2.1 1)])), (t0, .inr (8, [.ref t1, .int t_length, .int (u.2.1 2), .int (u.2.1 3), .int (u.2.1 4), .int (u.2.1 5)])), (t1, .inl (cyC, 1000, .inl t_text)), (e0, .inr (1, [.int (u.2.1 6), .int e_nests, .ref e1, .ref e2, .ref e3])), (e1, .inl (cyI, 1000, .inl (u.2.2.1 0)))]) args s 0 0) [(r0, .inr (5, [.ref t0, .ref e0, .ref r1, .ref r2, .ref a0, .int r_habits, .int y3_r0_6])), (t0, .inr (8, [.ref t1, .int t_length, .int y3_t0_2, .int y3_t0_3, .int y3_t0_4, .int y3_t0_5])), (t1, .inl (cyC, 1000, .inl t_text)), (e0, .inr (1, [.int y3_e0_0, .int e_nests, .ref e1, .ref e2, .ref e3])), (e1, .inl (cyI, 1000, .inl g3_e1))] 37 [(5, .int x3_5), (4, .int 1000), (3, .int x3_3), (0, .ref r0), (1, .int 0), (2, .int p0)] [] := by
    intro k_3
    induction k_3 with
    | zero =>
      intro x3_5 x3_3 y3_r0_6 y3_t0_2 y3_t0_3 y3_t0_4 y3_t0_5 y3_e0_0 g3_e1 hi_3_0 hi_3_1 hi_3_3 hi_3_4 hi_3_5 hi_3_7 hr_3 hq_3_0 hq_3_1 hq_3_2 hm_3
      exact absurd hm_3 (Nat.not_lt_zero _)
    | succ k_3 ih_3 =>
      intro x3_5 x3_3 y3_r0_6 y3_t0_2 y3_t0_3 y3_t0_4 y3_t0_5 y3_e0_0 g3_e1 hi_3_0 hi_3_1 hi_3_3 hi_3_4 hi_3_5 hi_3_7 hr_3 hq_3_0 hq_3_1 hq_3_2 hm_3
      refine j_iload (pc := 37) C dX5_readChain_37 0 rfl ?_
      refine j_iload (pc := 39) C dX5_readChain_39 1 rfl ?_
      refine j_icmp_ge (pc := 41) (tgt := 95) C dX5_readChain_41 (by decide) (fun c_4 => ?_) (fun c_4 => ?_)
      · skip
        have el_1000 : (1000 : Int32).toInt = 1000 := rfl
        rw [i_le] at c_4
        have k0c_4 : x3_5.toInt = 1000 := by omega
        refine j_iload_n (pc := 95) C dX5_readChain_95 rfl 2 rfl ?_
        exact j_zret (pc := 96) C hr (nb_01 ⟨by omega, by omega⟩).1 hk (fun i => [].getD i 0, fun i => [x3_3, y3_r0_6, y3_t0_2, y3_t0_3, y3_t0_4, y3_t0_5, y3_e0_0].getD i 0, fun i => [g3_e1].getD i (fun _ => 0), fun i => [].getD i (fun _ => 0)) rfl (show (0 ≤ (x3_3).toInt ∧ (x3_3).toInt ≤ 1) ∧ (0 ≤ (y3_t0_2).toInt ∧ (y3_t0_2).toInt ≤ 1000) ∧ (0 ≤ (y3_t0_3).toInt ∧ (y3_t0_3).toInt ≤ 4) ∧ (0 ≤ (y3_t0_4).toInt ∧ (y3_t0_4).toInt ≤ 1000) ∧ (0 ≤ (y3_e0_0).toInt ∧ (y3_e0_0).toInt ≤ 1000) ∧ (¬ (y3_t0_3).toInt = 3 ∨ (y3_t0_4).toInt ≤ 999) ∧ ((e_size).toInt ≤ (y3_e0_0).toInt) ∧ ((y3_e0_0).toInt + (t_place).toInt ≤ (e_size).toInt + (y3_t0_4).toInt) ∧ (IM ((x3_3).toInt = 1) (CG e_steps g3_e1 (e_size).toInt.toNat (y3_e0_0).toInt.toNat (4 * 0 + 5) (vLv (TKS t_text (t_length).toInt.toNat) (rPt (TKS t_text (t_length).toInt.toNat) 0) (vPt (TKS t_text (t_length).toInt.toNat) 0) 4 (t_place).toInt.toNat))) ∧ (TH t_text (t_length).toInt.toNat (y3_t0_2).toInt (y3_t0_3).toInt (y3_t0_4).toInt (y3_t0_5).toInt) ∧ (CP (x3_3).toInt (y3_t0_4).toInt (y3_r0_6).toInt (r_fault).toInt (rLv (TKS t_text (t_length).toInt.toNat) (rPt (TKS t_text (t_length).toInt.toNat) 0) 4 (t_place).toInt.toNat)) from ⟨hi_3_1, hi_3_3, hi_3_4, hi_3_5, hi_3_7, by omega, by omega, by omega, (fun z => CHV.stop (hq_3_2 (by omega)) (Or.inl (by omega))), hq_3_0, (CH.stop hq_3_1 (fun z => Or.inl (by omega)))⟩) [0, 1, 2, 3, 4] (by decide) rfl (by decide) (by decide) dX5_readChain_96
      · skip
        have el_1000 : (1000 : Int32).toInt = 1000 := rfl
        rw [i_le] at c_4
        refine j_iload_n (pc := 44) C dX5_readChain_44 rfl 2 rfl ?_
        refine j_if_eq (pc := 45) (tgt := 95) C dX5_readChain_45 (by decide) (fun c_5 => ?_) (fun c_5 => ?_)
        · skip
          have el_0 : (0 : Int32).toInt = 0 := rfl
          rw [i_eq] at c_5
          refine j_iload_n (pc := 95) C dX5_readChain_95 rfl 2 rfl ?_
          exact j_zret (pc := 96) C hr (nb_01 ⟨by omega, by omega⟩).1 hk (fun i => [].getD i 0, fun i => [x3_3, y3_r0_6, y3_t0_2, y3_t0_3, y3_t0_4, y3_t0_5, y3_e0_0].getD i 0, fun i => [g3_e1].getD i (fun _ => 0), fun i => [].getD i (fun _ => 0)) rfl (show (0 ≤ (x3_3).toInt ∧ (x3_3).toInt ≤ 1) ∧ (0 ≤ (y3_t0_2).toInt ∧ (y3_t0_2).toInt ≤ 1000) ∧ (0 ≤ (y3_t0_3).toInt ∧ (y3_t0_3).toInt ≤ 4) ∧ (0 ≤ (y3_t0_4).toInt ∧ (y3_t0_4).toInt ≤ 1000) ∧ (0 ≤ (y3_e0_0).toInt ∧ (y3_e0_0).toInt ≤ 1000) ∧ (¬ (y3_t0_3).toInt = 3 ∨ (y3_t0_4).toInt ≤ 999) ∧ ((e_size).toInt ≤ (y3_e0_0).toInt) ∧ ((y3_e0_0).toInt + (t_place).toInt ≤ (e_size).toInt + (y3_t0_4).toInt) ∧ (IM ((x3_3).toInt = 1) (CG e_steps g3_e1 (e_size).toInt.toNat (y3_e0_0).toInt.toNat (4 * 0 + 5) (vLv (TKS t_text (t_length).toInt.toNat) (rPt (TKS t_text (t_length).toInt.toNat) 0) (vPt (TKS t_text (t_length).toInt.toNat) 0) 4 (t_place).toInt.toNat))) ∧ (TH t_text (t_length).toInt.toNat (y3_t0_2).toInt (y3_t0_3).toInt (y3_t0_4).toInt (y3_t0_5).toInt) ∧ (CP (x3_3).toInt (y3_t0_4).toInt (y3_r0_6).toInt (r_fault).toInt (rLv (TKS t_text (t_length).toInt.toNat) (rPt (TKS t_text (t_length).toInt.toNat) 0) 4 (t_place).toInt.toNat)) from ⟨hi_3_1, hi_3_3, hi_3_4, hi_3_5, hi_3_7, by omega, by omega, by omega, (fun z => absurd z (by omega)), hq_3_0, (CH.stop hq_3_1 (fun z => absurd z (by omega)))⟩) [0, 1, 2, 3, 4] (by decide) rfl (by decide) (by decide) dX5_readChain_96
        · skip
          have el_0 : (0 : Int32).toInt = 0 := rfl
          rw [i_eq] at c_5
          have k0c_5 : x3_3.toInt = 1 := by omega
          refine j_aload_n (pc := 48) C dX5_readChain_48 rfl 3 rfl ?_
          refine j_iload_n (pc := 49) C dX5_readChain_49 rfl 4 rfl ?_
          refine j_callV (pc := 50) (As := [.int 0]) (rest := []) (wr := [(e0, .inr (1, [.int y3_e0_0, .int e_nests, .ref e1, .ref e2, .ref e3])), (e1, .inl (cyI, 1000, .inl g3_e1))]) C (c_X5_joint_0 l D cyC cyI cyJ cyZ cyO r0 t0 t1 e0 r1 r2 a0 r_habits y3_r0_6 t_length y3_t0_2 y3_t0_3 y3_t0_4 y3_t0_5 t_text h_t_length hi_3_3 hi_3_4 hi_3_5 h_t_text (by omega) hq_3_0) wd_349 wd_306 wd_350 wd_351 wd_352 ⟨by decide, by decide, rfl⟩ rfl ⟨rfl, rfl, by decide, by decide⟩ ⟨by decide, by decide⟩ [0, 1, 2] [3, 4] rfl rfl ⟨by decide, by decide, by decide⟩ 0 rfl rfl rfl (Nat.le_of_ble_eq_true rfl) dX5_readChain_50 (fun u_6 hw_7 => ?_)
          refine j_eq (ws2 := [(e0, .inr (1, [.int y3_e0_0, .int e_nests, .ref e1, .ref e2, .ref e3])), (e1, .inl (cyI, 1000, .inl g3_e1)), (r0, .inr (5, [.ref t0, .ref e0, .ref r1, .ref r2, .ref a0, .int r_habits, .int y3_r0_6])), (t0, .inr (8, [.ref t1, .int t_length, .int y3_t0_2, .int y3_t0_3, .int y3_t0_4, .int y3_t0_5])), (t1, .inl (cyC, 1000, .inl t_text))]) (pc2 := 53) (lv2 := [(5, .int x3_5), (4, .int 1000), (3, .int x3_3), (0, .ref r0), (1, .int 0), (2, .int p0)]) (st2 := [.int (u_6.2.1 0)]) rfl rfl rfl rfl ?_
          obtain ⟨hw_7_0, hw_7_1, hw_7_2⟩ := hw_7
          refine j_istore (pc := 53) (lv' := [(6, .int (u_6.2.1 0)), (5, .int x3_5), (4, .int 1000), (3, .int x3_3), (0, .ref r0), (1, .int 0), (2, .int p0)]) C dX5_readChain_53 (by decide) rfl ?_
          refine j_iload (pc := 55) C dX5_readChain_55 0 rfl ?_
          refine j_bipush (pc := 57) (v := (-100)) C dX5_readChain_57 (by decide) ?_
          refine j_icmp_ne (pc := 59) (tgt := 64) C dX5_readChain_59 (by decide) (fun c_8 => ?_) (fun c_8 => ?_)
          · skip
            have el_m100 : ((-100) : Int32).toInt = (-100) := rfl
            rw [i_eq] at c_8
            refine j_aload_n (pc := 64) C dX5_readChain_64 rfl 4 rfl ?_
            refine j_get (pc := 65) (ci := 5) (v := .ref t0) C inw_5 2 rfl rfl 0 (by decide) wd_296 rfl rfl dX5_readChain_65 ?_
            refine j_callV (pc := 68) (As := []) (rest := []) (wr := [(e0, .inr (1, [.int y3_e0_0, .int e_nests, .ref e1, .ref e2, .ref e3])), (e1, .inl (cyI, 1000, .inl g3_e1)), (r0, .inr (5, [.ref t0, .ref e0, .ref r1, .ref r2, .ref a0, .int r_habits, .int y3_r0_6]))]) C (c_X8_advance_f l D cyC cyI cyJ cyZ cyO t0 t1 t_length y3_t0_2 y3_t0_3 y3_t0_4 y3_t0_5 t_text h_t_length hi_3_3 hi_3_4 hi_3_5 h_t_text) wd_277 wd_258 wd_304 wd_279 wd_280 ⟨by decide, by decide, rfl⟩ rfl ⟨rfl, rfl, by decide, by decide⟩ ⟨by decide, by decide⟩ [3, 4] [0, 1, 2] rfl rfl ⟨by decide, by decide, by decide⟩ 3 rfl rfl rfl (Nat.le_of_ble_eq_true rfl) dX5_readChain_68 (fun u_9 hw_10 => ?_)
            refine j_eq (ws2 := [(e0, .inr (1, [.int y3_e0_0, .int e_nests, .ref e1, .ref e2, .ref e3])), (e1, .inl (cyI, 1000, .inl g3_e1)), (r0, .inr (5, [.ref t0, .ref e0, .ref r1, .ref r2, .ref a0, .int r_habits, .int y3_r0_6])), (t0, .inr (8, [.ref t1, .int t_length, .int (u_9.2.1 0), .int (u_9.2.1 1), .int (u_9.2.1 2), .int (u_9.2.1 3)])), (t1, .inl (cyC, 1000, .inl t_text))]) (pc2 := 71) (lv2 := [(6, .int (u_6.2.1 0)), (5, .int x3_5), (4, .int 1000), (3, .int x3_3), (0, .ref r0), (1, .int 0), (2, .int p0)]) (st2 := []) rfl rfl rfl rfl ?_
            obtain ⟨hw_10_0, hw_10_1, hw_10_2, hw_10_3, hw_10_4, hw_10_5⟩ := hw_10
            have ha_u_9 := (hw_10_5).trans (TH.adv hq_3_0)
            have hj9 : jnt (TKS t_text (t_length).toInt.toNat) 0 (y3_t0_4).toInt.toNat = true := by rcases hw_7_2 with z | z; (exfalso; omega); exact z.2
            have hg9 := jnt_gt (PT_TKS (f := t_text) (n := (t_length).toInt.toNat) (by omega)) hj9
            have hga9 := ha_u_9
            refine j_aload_n (pc := 71) C dX5_readChain_71 rfl 4 rfl ?_
            refine j_iload_n (pc := 72) C dX5_readChain_72 rfl 5 rfl ?_
            refine j_iconst (pc := 73) (v := 1) C dX5_readChain_73 (by decide) ?_
            refine j_iadd (pc := 74) (v := 1) C dX5_readChain_74 (by decide) ?_
            refine j_iload_n (pc := 75) C dX5_readChain_75 rfl 6 rfl ?_
            refine j_callV (pc := 76) (As := [.int 1, .int p0]) (rest := []) (wr := []) C (c_X5_readChain_1_z l D cyC cyI cyJ cyZ cyO r0 t0 t1 e0 e1 r1 r2 a0 e2 e3 p0 r_habits y3_r0_6 t_length (u_9.2.1 0) (u_9.2.1 1) (u_9.2.1 2) (u_9.2.1 3) y3_e0_0 e_nests t_text g3_e1 h_t_length hw_10_0 hw_10_1 hw_10_2 hi_3_7 h_e_nests h_t_text (by omega) hw_10_4 (by omega) hdp9) wd_340 wd_306 wd_341 wd_342 wd_343 ⟨by decide, by decide, rfl⟩ rfl ⟨rfl, rfl, by decide, by decide⟩ ⟨by decide, by decide⟩ [2, 3, 4, 0, 1] [] rfl rfl ⟨by decide, by decide, by decide⟩ 2 rfl rfl rfl (Nat.le_of_ble_eq_true rfl) dX5_readChain_76 (fun u_11 hw_12 => ?_)
            refine j_eq (ws2 := [(r0, .inr (5, [.ref t0, .ref e0, .ref r1, .ref r2, .ref a0, .int r_habits, .int (u_11.2.1 1)])), (t0, .inr (8, [.ref t1, .int t_length, .int (u_11.2.1 2), .int (u_11.2.1 3), .int (u_11.2.1 4), .int (u_11.2.1 5)])), (t1, .inl (cyC, 1000, .inl t_text)), (e0, .inr (1, [.int (u_11.2.1 6), .int e_nests, .ref e1, .ref e2, .ref e3])), (e1, .inl (cyI, 1000, .inl (u_11.2.2.1 0)))]) (pc2 := 79) (lv2 := [(6, .int (u_6.2.1 0)), (5, .int x3_5), (4, .int 1000), (3, .int x3_3), (0, .ref r0), (1, .int 0), (2, .int p0)]) (st2 := [.int (u_11.2.1 0)]) rfl rfl rfl rfl ?_
            obtain ⟨hw_12_0, hw_12_1, hw_12_2, hw_12_3, hw_12_4, hw_12_5, hw_12_6, hw_12_7, hw_12_8, hw_12_9, hw_12_10⟩ := hw_12
            refine j_istore_n (pc := 79) (lv' := [(3, .int (u_11.2.1 0)), (6, .int (u_6.2.1 0)), (5, .int x3_5), (4, .int 1000), (0, .ref r0), (1, .int 0), (2, .int p0)]) C dX5_readChain_79 rfl (by decide) rfl ?_
            refine j_aload_n (pc := 80) C dX5_readChain_80 rfl 4 rfl ?_
            refine j_get (pc := 81) (ci := 5) (v := .ref e0) C inw_5 0 rfl rfl 1 (by decide) wd_344 rfl rfl dX5_readChain_81 ?_
            refine j_iload (pc := 84) C dX5_readChain_84 1 rfl ?_
            refine j_callV (pc := 86) (As := [.int (u_6.2.1 0)]) (rest := []) (wr := [(r0, .inr (5, [.ref t0, .ref e0, .ref r1, .ref r2, .ref a0, .int r_habits, .int (u_11.2.1 1)])), (t0, .inr (8, [.ref t1, .int t_length, .int (u_11.2.1 2), .int (u_11.2.1 3), .int (u_11.2.1 4), .int (u_11.2.1 5)])), (t1, .inl (cyC, 1000, .inl t_text))]) C (c_X1_add l D cyC cyI cyJ cyZ cyO e0 e1 e2 e3 (u_6.2.1 0) (u_11.2.1 6) e_nests (u_11.2.2.1 0) hw_12_4 h_e_nests) wd_345 wd_200 wd_346 wd_347 wd_348 ⟨by decide, by decide, rfl⟩ rfl ⟨rfl, rfl, by decide, by decide⟩ ⟨by decide, by decide⟩ [3, 4] [0, 1, 2] rfl rfl ⟨by decide, by decide, by decide⟩ 3 rfl rfl rfl (Nat.le_of_ble_eq_true rfl) dX5_readChain_86 (fun u_13 hw_14 => ?_)
            refine j_eq (ws2 := [(r0, .inr (5, [.ref t0, .ref e0, .ref r1, .ref r2, .ref a0, .int r_habits, .int (u_11.2.1 1)])), (t0, .inr (8, [.ref t1, .int t_length, .int (u_11.2.1 2), .int (u_11.2.1 3), .int (u_11.2.1 4), .int (u_11.2.1 5)])), (t1, .inl (cyC, 1000, .inl t_text)), (e0, .inr (1, [.int (u_13.2.1 0), .int e_nests, .ref e1, .ref e2, .ref e3])), (e1, .inl (cyI, 1000, .inl (u_13.2.2.1 0)))]) (pc2 := 89) (lv2 := [(3, .int (u_11.2.1 0)), (6, .int (u_6.2.1 0)), (5, .int x3_5), (4, .int 1000), (0, .ref r0), (1, .int 0), (2, .int p0)]) (st2 := []) rfl rfl rfl rfl ?_
            obtain ⟨hw_14_0, hw_14_1, hw_14_2, hw_14_3, hw_14_4⟩ := hw_14
            obtain ⟨v_15, ev_15⟩ : ∃ z : Int32, x3_5 + 1 = z := ⟨_, rfl⟩
            have el_1 : (1 : Int32).toInt = 1 := rfl
            have hv_15 : v_15.toInt = x3_5.toInt + (1 : Int32).toInt := by rw [← ev_15]; exact fb_addI (by omega) (by omega)
            refine j_iinc (pc := 89) (v := v_15) (lv' := [(5, .int v_15), (3, .int (u_11.2.1 0)), (6, .int (u_6.2.1 0)), (4, .int 1000), (0, .ref r0), (1, .int 0), (2, .int p0)]) C dX5_readChain_89 2 rfl ev_15 (by decide) rfl ?_
            refine j_goto (pc := 92) (tgt := 37) C dX5_readChain_92 (by decide) ?_
            exact j_lv [0, 3, 1, 4, 5, 6] rfl (ih_3 v_15 (u_11.2.1 0) (u_11.2.1 1) (u_11.2.1 2) (u_11.2.1 3) (u_11.2.1 4) (u_11.2.1 5) (u_13.2.1 0) (u_13.2.2.1 0) (by omega) hw_12_0 hw_12_1 hw_12_2 hw_12_3 hw_14_0 (by omega) hw_12_9 (CH.step (k := (1000 - (v_15).toInt).toNat) (by rw [show (1000 - (v_15).toInt).toNat + 1 = (1000 - (x3_5).toInt).toNat from (by omega)]; exact hq_3_1) (by omega) (by rcases hw_7_2 with z | z; omega; exact z.2) ha_u_9 hw_12_10) (fun z => CHV.step (k := (1000 - (v_15).toInt).toNat) (by rw [show (1000 - (v_15).toInt).toNat + 1 = (1000 - (x3_5).toInt).toNat from (by omega)]; exact hq_3_2 (by omega)) hj9 hga9 ((hw_12_10).1 (by omega)).1 (hw_12_8 (by omega)) (hw_14_4 (by omega)) (hw_7_1 hj9) (jcd_lt _ _ _) (by have y9 := hw_14_3 (by omega); omega)) (by omega))
          · skip
            have el_m100 : ((-100) : Int32).toInt = (-100) := rfl
            rw [i_eq] at c_8
            refine j_iconst (pc := 62) (v := 1) C dX5_readChain_62 (by decide) ?_
            have el_1 : (1 : Int32).toInt = 1 := rfl
            have el_1 : (1 : Int32).toInt = 1 := rfl
            have el_1 : (1 : Int32).toInt = 1 := rfl
            have el_1 : (1 : Int32).toInt = 1 := rfl
            have el_1 : (1 : Int32).toInt = 1 := rfl
            have el_1 : (1 : Int32).toInt = 1 := rfl
            have el_1 : (1 : Int32).toInt = 1 := rfl
            exact j_zret (pc := 63) C hr rfl hk (fun i => [].getD i 0, fun i => [1, y3_r0_6, y3_t0_2, y3_t0_3, y3_t0_4, y3_t0_5, y3_e0_0].getD i 0, fun i => [g3_e1].getD i (fun _ => 0), fun i => [].getD i (fun _ => 0)) rfl (show (0 ≤ ((1 : Int32)).toInt ∧ ((1 : Int32)).toInt ≤ 1) ∧ (0 ≤ (y3_t0_2).toInt ∧ (y3_t0_2).toInt ≤ 1000) ∧ (0 ≤ (y3_t0_3).toInt ∧ (y3_t0_3).toInt ≤ 4) ∧ (0 ≤ (y3_t0_4).toInt ∧ (y3_t0_4).toInt ≤ 1000) ∧ (0 ≤ (y3_e0_0).toInt ∧ (y3_e0_0).toInt ≤ 1000) ∧ (¬ (y3_t0_3).toInt = 3 ∨ (y3_t0_4).toInt ≤ 999) ∧ ((e_size).toInt ≤ (y3_e0_0).toInt) ∧ ((y3_e0_0).toInt + (t_place).toInt ≤ (e_size).toInt + (y3_t0_4).toInt) ∧ (IM (((1 : Int32)).toInt = 1) (CG e_steps g3_e1 (e_size).toInt.toNat (y3_e0_0).toInt.toNat (4 * 0 + 5) (vLv (TKS t_text (t_length).toInt.toNat) (rPt (TKS t_text (t_length).toInt.toNat) 0) (vPt (TKS t_text (t_length).toInt.toNat) 0) 4 (t_place).toInt.toNat))) ∧ (TH t_text (t_length).toInt.toNat (y3_t0_2).toInt (y3_t0_3).toInt (y3_t0_4).toInt (y3_t0_5).toInt) ∧ (CP ((1 : Int32)).toInt (y3_t0_4).toInt (y3_r0_6).toInt (r_fault).toInt (rLv (TKS t_text (t_length).toInt.toNat) (rPt (TKS t_text (t_length).toInt.toNat) 0) 4 (t_place).toInt.toNat)) from ⟨by omega, hi_3_3, hi_3_4, hi_3_5, hi_3_7, by omega, by omega, by omega, (fun z => CHV.stop (hq_3_2 (by omega)) (Or.inr (by rcases hw_7_2 with z | z; (rw [z.2]; decide); omega))), hq_3_0, (CP.ok (by omega) ((CH.stop hq_3_1 (fun _ => Or.inr (by rcases hw_7_2 with z | z; (rw [z.2]; decide); omega))).1 (by omega)).2 ((CH.stop hq_3_1 (fun _ => Or.inr (by rcases hw_7_2 with z | z; (rw [z.2]; decide); omega))).1 (by omega)).1)⟩) [2, 3, 4, 0, 1] (by decide) rfl (by decide) (by decide) dX5_readChain_63
  have el_0 : (0 : Int32).toInt = 0 := rfl
  exact j_lv [0, 1, 2, 3, 4, 5] rfl (loop_3 4096 0 (u_1.2.1 0) (u_1.2.1 1) (u_1.2.1 2) (u_1.2.1 3) (u_1.2.1 4) (u_1.2.1 5) (u_1.2.1 6) (u_1.2.2.1 0) (by decide) hw_2_0 hw_2_1 hw_2_2 hw_2_3 hw_2_4 (by omega) hw_2_9 (by rw [rLv4, show (1000 - (0 : Int32).toInt).toNat = 1000 from by decide]; exact CH.start hw_2_10) (fun z => by rw [show (1000 - (0 : Int32).toInt).toNat = 1000 from by decide]; exact CHV.start (hw_2_8 (by omega)) ((hw_2_10).1 (by omega)).1) (by omega))
