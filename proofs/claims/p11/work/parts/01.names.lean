-- ===== PART A: goes FIRST, ahead of the names: the tables' words, and 'selects' of the private methods out of them =====
/-- a private method of a class that the tables say can be made, by its rows of tables_1 -/
def lw_okq (q : MethodName × Nat) : Prop := (q.1.cls ≠ "java/lang/invoke/MethodHandle" ∧ q.1.cls ≠ "java/lang/invoke/VarHandle") ∧ Cond.instantiable q.1.cls q.2 ∈ tables_1 ∧ Cond.privateMethod q.1 ∈ tables_1 ∧ Cond.instanceMethod q.1 ∈ tables_1
theorem lw_p0 : lw_okq (⟨"BowlShelf", "feedBytes", "(J)V"⟩, 10) := ⟨⟨by decide +kernel, by decide +kernel⟩, List.mem_of_getElem? (i := 27) (by decide +kernel), List.mem_of_getElem? (i := 419) (by decide +kernel), List.mem_of_getElem? (i := 420) (by decide +kernel)⟩
theorem lw_p1 : lw_okq (⟨"BowlShelf$Tape", "pastBlanks", "(I)I"⟩, 6) := ⟨⟨by decide +kernel, by decide +kernel⟩, List.mem_of_getElem? (i := 41) (by decide +kernel), List.mem_of_getElem? (i := 452) (by decide +kernel), List.mem_of_getElem? (i := 453) (by decide +kernel)⟩
theorem lw_p2 : lw_okq (⟨"BowlShelf$Tape", "pastRun", "(ICC)I"⟩, 6) := ⟨⟨by decide +kernel, by decide +kernel⟩, List.mem_of_getElem? (i := 41) (by decide +kernel), List.mem_of_getElem? (i := 456) (by decide +kernel), List.mem_of_getElem? (i := 457) (by decide +kernel)⟩
theorem lw_p3 : lw_okq (⟨"BowlShelf$Tape", "valueOf", "(II)I"⟩, 6) := ⟨⟨by decide +kernel, by decide +kernel⟩, List.mem_of_getElem? (i := 41) (by decide +kernel), List.mem_of_getElem? (i := 460) (by decide +kernel), List.mem_of_getElem? (i := 461) (by decide +kernel)⟩
theorem lw_p4 : lw_okq (⟨"BowlShelf$Reader", "readStatement", "()Z"⟩, 7) := ⟨⟨by decide +kernel, by decide +kernel⟩, List.mem_of_getElem? (i := 35) (by decide +kernel), List.mem_of_getElem? (i := 551) (by decide +kernel), List.mem_of_getElem? (i := 552) (by decide +kernel)⟩
theorem lw_p5 : lw_okq (⟨"BowlShelf$Reader", "readBowl", "()Z"⟩, 7) := ⟨⟨by decide +kernel, by decide +kernel⟩, List.mem_of_getElem? (i := 35) (by decide +kernel), List.mem_of_getElem? (i := 581) (by decide +kernel), List.mem_of_getElem? (i := 582) (by decide +kernel)⟩
theorem lw_p6 : lw_okq (⟨"BowlShelf$Reader", "wrong", "(I)Z"⟩, 7) := ⟨⟨by decide +kernel, by decide +kernel⟩, List.mem_of_getElem? (i := 35) (by decide +kernel), List.mem_of_getElem? (i := 585) (by decide +kernel), List.mem_of_getElem? (i := 586) (by decide +kernel)⟩
theorem lw_p7 : lw_okq (⟨"BowlShelf$Reader", "readNewName", "([JI)Z"⟩, 7) := ⟨⟨by decide +kernel, by decide +kernel⟩, List.mem_of_getElem? (i := 35) (by decide +kernel), List.mem_of_getElem? (i := 589) (by decide +kernel), List.mem_of_getElem? (i := 590) (by decide +kernel)⟩
theorem lw_p8 : lw_okq (⟨"BowlShelf$Reader", "readAmount", "(Ljava/lang/String;II[II)Z"⟩, 7) := ⟨⟨by decide +kernel, by decide +kernel⟩, List.mem_of_getElem? (i := 35) (by decide +kernel), List.mem_of_getElem? (i := 626) (by decide +kernel), List.mem_of_getElem? (i := 627) (by decide +kernel)⟩
theorem lw_p9 : lw_okq (⟨"BowlShelf$Reader", "readNumber", "(II[II)Z"⟩, 7) := ⟨⟨by decide +kernel, by decide +kernel⟩, List.mem_of_getElem? (i := 35) (by decide +kernel), List.mem_of_getElem? (i := 630) (by decide +kernel), List.mem_of_getElem? (i := 631) (by decide +kernel)⟩
theorem lw_p10 : lw_okq (⟨"BowlShelf$Reader", "readSign", "(C)Z"⟩, 7) := ⟨⟨by decide +kernel, by decide +kernel⟩, List.mem_of_getElem? (i := 35) (by decide +kernel), List.mem_of_getElem? (i := 638) (by decide +kernel), List.mem_of_getElem? (i := 639) (by decide +kernel)⟩
theorem lw_p11 : lw_okq (⟨"BowlShelf$Reader", "readLid", "()Z"⟩, 7) := ⟨⟨by decide +kernel, by decide +kernel⟩, List.mem_of_getElem? (i := 35) (by decide +kernel), List.mem_of_getElem? (i := 647) (by decide +kernel), List.mem_of_getElem? (i := 648) (by decide +kernel)⟩
theorem lw_p12 : lw_okq (⟨"BowlShelf$Reader", "readShelf", "()Z"⟩, 7) := ⟨⟨by decide +kernel, by decide +kernel⟩, List.mem_of_getElem? (i := 35) (by decide +kernel), List.mem_of_getElem? (i := 652) (by decide +kernel), List.mem_of_getElem? (i := 653) (by decide +kernel)⟩
theorem lw_p13 : lw_okq (⟨"BowlShelf$Reader", "readTop", "()Z"⟩, 7) := ⟨⟨by decide +kernel, by decide +kernel⟩, List.mem_of_getElem? (i := 35) (by decide +kernel), List.mem_of_getElem? (i := 660) (by decide +kernel), List.mem_of_getElem? (i := 661) (by decide +kernel)⟩
theorem lw_p14 : lw_okq (⟨"BowlShelf$Reader", "readWare", "(I)I"⟩, 7) := ⟨⟨by decide +kernel, by decide +kernel⟩, List.mem_of_getElem? (i := 35) (by decide +kernel), List.mem_of_getElem? (i := 664) (by decide +kernel), List.mem_of_getElem? (i := 665) (by decide +kernel)⟩
theorem lw_p15 : lw_okq (⟨"BowlShelf$Reader", "readHabit", "()Z"⟩, 7) := ⟨⟨by decide +kernel, by decide +kernel⟩, List.mem_of_getElem? (i := 35) (by decide +kernel), List.mem_of_getElem? (i := 669) (by decide +kernel), List.mem_of_getElem? (i := 670) (by decide +kernel)⟩
def lw_privs_1 : List (MethodName × Nat) := [(⟨"BowlShelf", "feedBytes", "(J)V"⟩, 10), (⟨"BowlShelf$Tape", "pastBlanks", "(I)I"⟩, 6), (⟨"BowlShelf$Tape", "pastRun", "(ICC)I"⟩, 6), (⟨"BowlShelf$Tape", "valueOf", "(II)I"⟩, 6), (⟨"BowlShelf$Reader", "readStatement", "()Z"⟩, 7), (⟨"BowlShelf$Reader", "readBowl", "()Z"⟩, 7), (⟨"BowlShelf$Reader", "wrong", "(I)Z"⟩, 7), (⟨"BowlShelf$Reader", "readNewName", "([JI)Z"⟩, 7), (⟨"BowlShelf$Reader", "readAmount", "(Ljava/lang/String;II[II)Z"⟩, 7), (⟨"BowlShelf$Reader", "readNumber", "(II[II)Z"⟩, 7), (⟨"BowlShelf$Reader", "readSign", "(C)Z"⟩, 7), (⟨"BowlShelf$Reader", "readLid", "()Z"⟩, 7), (⟨"BowlShelf$Reader", "readShelf", "()Z"⟩, 7), (⟨"BowlShelf$Reader", "readTop", "()Z"⟩, 7), (⟨"BowlShelf$Reader", "readWare", "(I)I"⟩, 7), (⟨"BowlShelf$Reader", "readHabit", "()Z"⟩, 7)]
theorem lw_r1 : ∀ q ∈ lw_privs_1, lw_okq q := List.forall_mem_cons.mpr ⟨lw_p0, List.forall_mem_cons.mpr ⟨lw_p1, List.forall_mem_cons.mpr ⟨lw_p2, List.forall_mem_cons.mpr ⟨lw_p3, List.forall_mem_cons.mpr ⟨lw_p4, List.forall_mem_cons.mpr ⟨lw_p5, List.forall_mem_cons.mpr ⟨lw_p6, List.forall_mem_cons.mpr ⟨lw_p7, List.forall_mem_cons.mpr ⟨lw_p8, List.forall_mem_cons.mpr ⟨lw_p9, List.forall_mem_cons.mpr ⟨lw_p10, List.forall_mem_cons.mpr ⟨lw_p11, List.forall_mem_cons.mpr ⟨lw_p12, List.forall_mem_cons.mpr ⟨lw_p13, List.forall_mem_cons.mpr ⟨lw_p14, List.forall_mem_cons.mpr ⟨lw_p15, fun _ h => absurd h List.not_mem_nil⟩⟩⟩⟩⟩⟩⟩⟩⟩⟩⟩⟩⟩⟩⟩⟩
theorem lw_p16 : lw_okq (⟨"BowlShelf$Reader", "readNest", "()Z"⟩, 7) := ⟨⟨by decide +kernel, by decide +kernel⟩, List.mem_of_getElem? (i := 35) (by decide +kernel), List.mem_of_getElem? (i := 674) (by decide +kernel), List.mem_of_getElem? (i := 675) (by decide +kernel)⟩
theorem lw_p17 : lw_okq (⟨"BowlShelf$Reader", "readChain", "(II)Z"⟩, 7) := ⟨⟨by decide +kernel, by decide +kernel⟩, List.mem_of_getElem? (i := 35) (by decide +kernel), List.mem_of_getElem? (i := 678) (by decide +kernel), List.mem_of_getElem? (i := 679) (by decide +kernel)⟩
theorem lw_p18 : lw_okq (⟨"BowlShelf$Reader", "readPart", "(I)Z"⟩, 7) := ⟨⟨by decide +kernel, by decide +kernel⟩, List.mem_of_getElem? (i := 35) (by decide +kernel), List.mem_of_getElem? (i := 682) (by decide +kernel), List.mem_of_getElem? (i := 683) (by decide +kernel)⟩
theorem lw_p19 : lw_okq (⟨"BowlShelf$Reader", "fact", "()I"⟩, 7) := ⟨⟨by decide +kernel, by decide +kernel⟩, List.mem_of_getElem? (i := 35) (by decide +kernel), List.mem_of_getElem? (i := 687) (by decide +kernel), List.mem_of_getElem? (i := 688) (by decide +kernel)⟩
theorem lw_p20 : lw_okq (⟨"BowlShelf$Reader", "joint", "(I)I"⟩, 7) := ⟨⟨by decide +kernel, by decide +kernel⟩, List.mem_of_getElem? (i := 35) (by decide +kernel), List.mem_of_getElem? (i := 701) (by decide +kernel), List.mem_of_getElem? (i := 702) (by decide +kernel)⟩
theorem lw_p21 : lw_okq (⟨"BowlShelf$Reader", "findMay", "()V"⟩, 7) := ⟨⟨by decide +kernel, by decide +kernel⟩, List.mem_of_getElem? (i := 35) (by decide +kernel), List.mem_of_getElem? (i := 711) (by decide +kernel), List.mem_of_getElem? (i := 712) (by decide +kernel)⟩
theorem lw_p22 : lw_okq (⟨"BowlShelf$Nests", "value", "(LBowlShelf$Told;IIII)I"⟩, 5) := ⟨⟨by decide +kernel, by decide +kernel⟩, List.mem_of_getElem? (i := 72) (by decide +kernel), List.mem_of_getElem? (i := 720) (by decide +kernel), List.mem_of_getElem? (i := 721) (by decide +kernel)⟩
theorem lw_p23 : lw_okq (⟨"BowlShelf", "refusal", "(LBowlShelf$Standing;III)I"⟩, 10) := ⟨⟨by decide +kernel, by decide +kernel⟩, List.mem_of_getElem? (i := 27) (by decide +kernel), List.mem_of_getElem? (i := 779) (by decide +kernel), List.mem_of_getElem? (i := 780) (by decide +kernel)⟩
theorem lw_p24 : lw_okq (⟨"BowlShelf$Standing", "sinkAbove", "(I)V"⟩, 7) := ⟨⟨by decide +kernel, by decide +kernel⟩, List.mem_of_getElem? (i := 226) (by decide +kernel), List.mem_of_getElem? (i := 837) (by decide +kernel), List.mem_of_getElem? (i := 838) (by decide +kernel)⟩
theorem lw_p25 : lw_okq (⟨"BowlShelf$Standing", "closeGap", "(II)V"⟩, 7) := ⟨⟨by decide +kernel, by decide +kernel⟩, List.mem_of_getElem? (i := 226) (by decide +kernel), List.mem_of_getElem? (i := 841) (by decide +kernel), List.mem_of_getElem? (i := 842) (by decide +kernel)⟩
theorem lw_p26 : lw_okq (⟨"BowlShelf", "isStack", "(II)Z"⟩, 10) := ⟨⟨by decide +kernel, by decide +kernel⟩, List.mem_of_getElem? (i := 27) (by decide +kernel), List.mem_of_getElem? (i := 849) (by decide +kernel), List.mem_of_getElem? (i := 850) (by decide +kernel)⟩
theorem lw_p27 : lw_okq (⟨"BowlShelf", "price", "(LBowlShelf$Standing;I)I"⟩, 10) := ⟨⟨by decide +kernel, by decide +kernel⟩, List.mem_of_getElem? (i := 27) (by decide +kernel), List.mem_of_getElem? (i := 880) (by decide +kernel), List.mem_of_getElem? (i := 881) (by decide +kernel)⟩
theorem lw_p28 : lw_okq (⟨"BowlShelf$Order", "findKin", "()V"⟩, 8) := ⟨⟨by decide +kernel, by decide +kernel⟩, List.mem_of_getElem? (i := 282) (by decide +kernel), List.mem_of_getElem? (i := 904) (by decide +kernel), List.mem_of_getElem? (i := 905) (by decide +kernel)⟩
theorem lw_p29 : lw_okq (⟨"BowlShelf$Order", "findApart", "()V"⟩, 8) := ⟨⟨by decide +kernel, by decide +kernel⟩, List.mem_of_getElem? (i := 282) (by decide +kernel), List.mem_of_getElem? (i := 908) (by decide +kernel), List.mem_of_getElem? (i := 909) (by decide +kernel)⟩
theorem lw_p30 : lw_okq (⟨"BowlShelf$Order", "isApart", "(I)Z"⟩, 8) := ⟨⟨by decide +kernel, by decide +kernel⟩, List.mem_of_getElem? (i := 282) (by decide +kernel), List.mem_of_getElem? (i := 918) (by decide +kernel), List.mem_of_getElem? (i := 919) (by decide +kernel)⟩
theorem lw_p31 : lw_okq (⟨"BowlShelf$Order", "give", "(II)Z"⟩, 8) := ⟨⟨by decide +kernel, by decide +kernel⟩, List.mem_of_getElem? (i := 282) (by decide +kernel), List.mem_of_getElem? (i := 923) (by decide +kernel), List.mem_of_getElem? (i := 924) (by decide +kernel)⟩
def lw_privs_2 : List (MethodName × Nat) := [(⟨"BowlShelf$Reader", "readNest", "()Z"⟩, 7), (⟨"BowlShelf$Reader", "readChain", "(II)Z"⟩, 7), (⟨"BowlShelf$Reader", "readPart", "(I)Z"⟩, 7), (⟨"BowlShelf$Reader", "fact", "()I"⟩, 7), (⟨"BowlShelf$Reader", "joint", "(I)I"⟩, 7), (⟨"BowlShelf$Reader", "findMay", "()V"⟩, 7), (⟨"BowlShelf$Nests", "value", "(LBowlShelf$Told;IIII)I"⟩, 5), (⟨"BowlShelf", "refusal", "(LBowlShelf$Standing;III)I"⟩, 10), (⟨"BowlShelf$Standing", "sinkAbove", "(I)V"⟩, 7), (⟨"BowlShelf$Standing", "closeGap", "(II)V"⟩, 7), (⟨"BowlShelf", "isStack", "(II)Z"⟩, 10), (⟨"BowlShelf", "price", "(LBowlShelf$Standing;I)I"⟩, 10), (⟨"BowlShelf$Order", "findKin", "()V"⟩, 8), (⟨"BowlShelf$Order", "findApart", "()V"⟩, 8), (⟨"BowlShelf$Order", "isApart", "(I)Z"⟩, 8), (⟨"BowlShelf$Order", "give", "(II)Z"⟩, 8)]
theorem lw_r2 : ∀ q ∈ lw_privs_2, lw_okq q := List.forall_mem_cons.mpr ⟨lw_p16, List.forall_mem_cons.mpr ⟨lw_p17, List.forall_mem_cons.mpr ⟨lw_p18, List.forall_mem_cons.mpr ⟨lw_p19, List.forall_mem_cons.mpr ⟨lw_p20, List.forall_mem_cons.mpr ⟨lw_p21, List.forall_mem_cons.mpr ⟨lw_p22, List.forall_mem_cons.mpr ⟨lw_p23, List.forall_mem_cons.mpr ⟨lw_p24, List.forall_mem_cons.mpr ⟨lw_p25, List.forall_mem_cons.mpr ⟨lw_p26, List.forall_mem_cons.mpr ⟨lw_p27, List.forall_mem_cons.mpr ⟨lw_p28, List.forall_mem_cons.mpr ⟨lw_p29, List.forall_mem_cons.mpr ⟨lw_p30, List.forall_mem_cons.mpr ⟨lw_p31, fun _ h => absurd h List.not_mem_nil⟩⟩⟩⟩⟩⟩⟩⟩⟩⟩⟩⟩⟩⟩⟩⟩
theorem lw_p32 : lw_okq (⟨"BowlShelf$Heights", "settleSet", "(LBowlShelf$Told;I)V"⟩, 5) := ⟨⟨by decide +kernel, by decide +kernel⟩, List.mem_of_getElem? (i := 317) (by decide +kernel), List.mem_of_getElem? (i := 943) (by decide +kernel), List.mem_of_getElem? (i := 944) (by decide +kernel)⟩
theorem lw_p33 : lw_okq (⟨"BowlShelf$Heights", "rimOver", "(LBowlShelf$Told;II)I"⟩, 5) := ⟨⟨by decide +kernel, by decide +kernel⟩, List.mem_of_getElem? (i := 317) (by decide +kernel), List.mem_of_getElem? (i := 952) (by decide +kernel), List.mem_of_getElem? (i := 953) (by decide +kernel)⟩
theorem lw_p34 : lw_okq (⟨"BowlShelf$Heights", "fewestOf", "(II)I"⟩, 5) := ⟨⟨by decide +kernel, by decide +kernel⟩, List.mem_of_getElem? (i := 317) (by decide +kernel), List.mem_of_getElem? (i := 963) (by decide +kernel), List.mem_of_getElem? (i := 964) (by decide +kernel)⟩
theorem lw_p35 : lw_okq (⟨"BowlShelf$Heights", "firstOn", "(LBowlShelf$Told;III)I"⟩, 5) := ⟨⟨by decide +kernel, by decide +kernel⟩, List.mem_of_getElem? (i := 317) (by decide +kernel), List.mem_of_getElem? (i := 980) (by decide +kernel), List.mem_of_getElem? (i := 981) (by decide +kernel)⟩
theorem lw_p36 : lw_okq (⟨"BowlShelf", "bestPlace", "(I)I"⟩, 10) := ⟨⟨by decide +kernel, by decide +kernel⟩, List.mem_of_getElem? (i := 27) (by decide +kernel), List.mem_of_getElem? (i := 988) (by decide +kernel), List.mem_of_getElem? (i := 989) (by decide +kernel)⟩
theorem lw_p37 : lw_okq (⟨"BowlShelf", "stranded", "(LBowlShelf$Standing;)I"⟩, 10) := ⟨⟨by decide +kernel, by decide +kernel⟩, List.mem_of_getElem? (i := 27) (by decide +kernel), List.mem_of_getElem? (i := 997) (by decide +kernel), List.mem_of_getElem? (i := 998) (by decide +kernel)⟩
theorem lw_p38 : lw_okq (⟨"BowlShelf", "hasPlace", "(LBowlShelf$Standing;I)Z"⟩, 10) := ⟨⟨by decide +kernel, by decide +kernel⟩, List.mem_of_getElem? (i := 27) (by decide +kernel), List.mem_of_getElem? (i := 1001) (by decide +kernel), List.mem_of_getElem? (i := 1002) (by decide +kernel)⟩
theorem lw_p39 : lw_okq (⟨"BowlShelf$Search", "extend", "(LBowlShelf$Told;IIII)V"⟩, 8) := ⟨⟨by decide +kernel, by decide +kernel⟩, List.mem_of_getElem? (i := 340) (by decide +kernel), List.mem_of_getElem? (i := 1030) (by decide +kernel), List.mem_of_getElem? (i := 1031) (by decide +kernel)⟩
theorem lw_p40 : lw_okq (⟨"BowlShelf$Search", "tryOn", "(LBowlShelf$Told;IIIII)V"⟩, 8) := ⟨⟨by decide +kernel, by decide +kernel⟩, List.mem_of_getElem? (i := 340) (by decide +kernel), List.mem_of_getElem? (i := 1035) (by decide +kernel), List.mem_of_getElem? (i := 1036) (by decide +kernel)⟩
theorem lw_p41 : lw_okq (⟨"BowlShelf", "raise", "(I)V"⟩, 10) := ⟨⟨by decide +kernel, by decide +kernel⟩, List.mem_of_getElem? (i := 27) (by decide +kernel), List.mem_of_getElem? (i := 1045) (by decide +kernel), List.mem_of_getElem? (i := 1046) (by decide +kernel)⟩
theorem lw_p42 : lw_okq (⟨"java/lang/Throwable", "fillInStackTrace", "(I)Ljava/lang/Throwable;"⟩, 6) := ⟨⟨by decide +kernel, by decide +kernel⟩, List.mem_of_getElem? (i := 1117) (by decide +kernel), List.mem_of_getElem? (i := 1115) (by decide +kernel), List.mem_of_getElem? (i := 1116) (by decide +kernel)⟩
theorem lw_p43 : lw_okq (⟨"BowlShelfModel", "lay", "(J)V"⟩, 43) := ⟨⟨by decide +kernel, by decide +kernel⟩, List.mem_of_getElem? (i := 1165) (by decide +kernel), List.mem_of_getElem? (i := 1163) (by decide +kernel), List.mem_of_getElem? (i := 1164) (by decide +kernel)⟩
theorem lw_p44 : lw_okq (⟨"BowlShelfModel", "cutAll", "()V"⟩, 43) := ⟨⟨by decide +kernel, by decide +kernel⟩, List.mem_of_getElem? (i := 1165) (by decide +kernel), List.mem_of_getElem? (i := 1332) (by decide +kernel), List.mem_of_getElem? (i := 1333) (by decide +kernel)⟩
theorem lw_p45 : lw_okq (⟨"BowlShelfModel", "readLine", "()V"⟩, 43) := ⟨⟨by decide +kernel, by decide +kernel⟩, List.mem_of_getElem? (i := 1165) (by decide +kernel), List.mem_of_getElem? (i := 1351) (by decide +kernel), List.mem_of_getElem? (i := 1352) (by decide +kernel)⟩
theorem lw_p46 : lw_okq (⟨"BowlShelfModel", "isWord", "(I)Z"⟩, 43) := ⟨⟨by decide +kernel, by decide +kernel⟩, List.mem_of_getElem? (i := 1165) (by decide +kernel), List.mem_of_getElem? (i := 1355) (by decide +kernel), List.mem_of_getElem? (i := 1356) (by decide +kernel)⟩
theorem lw_p47 : lw_okq (⟨"BowlShelfModel", "wrong", "(I)V"⟩, 43) := ⟨⟨by decide +kernel, by decide +kernel⟩, List.mem_of_getElem? (i := 1165) (by decide +kernel), List.mem_of_getElem? (i := 1359) (by decide +kernel), List.mem_of_getElem? (i := 1360) (by decide +kernel)⟩
def lw_privs_3 : List (MethodName × Nat) := [(⟨"BowlShelf$Heights", "settleSet", "(LBowlShelf$Told;I)V"⟩, 5), (⟨"BowlShelf$Heights", "rimOver", "(LBowlShelf$Told;II)I"⟩, 5), (⟨"BowlShelf$Heights", "fewestOf", "(II)I"⟩, 5), (⟨"BowlShelf$Heights", "firstOn", "(LBowlShelf$Told;III)I"⟩, 5), (⟨"BowlShelf", "bestPlace", "(I)I"⟩, 10), (⟨"BowlShelf", "stranded", "(LBowlShelf$Standing;)I"⟩, 10), (⟨"BowlShelf", "hasPlace", "(LBowlShelf$Standing;I)Z"⟩, 10), (⟨"BowlShelf$Search", "extend", "(LBowlShelf$Told;IIII)V"⟩, 8), (⟨"BowlShelf$Search", "tryOn", "(LBowlShelf$Told;IIIII)V"⟩, 8), (⟨"BowlShelf", "raise", "(I)V"⟩, 10), (⟨"java/lang/Throwable", "fillInStackTrace", "(I)Ljava/lang/Throwable;"⟩, 6), (⟨"BowlShelfModel", "lay", "(J)V"⟩, 43), (⟨"BowlShelfModel", "cutAll", "()V"⟩, 43), (⟨"BowlShelfModel", "readLine", "()V"⟩, 43), (⟨"BowlShelfModel", "isWord", "(I)Z"⟩, 43), (⟨"BowlShelfModel", "wrong", "(I)V"⟩, 43)]
theorem lw_r3 : ∀ q ∈ lw_privs_3, lw_okq q := List.forall_mem_cons.mpr ⟨lw_p32, List.forall_mem_cons.mpr ⟨lw_p33, List.forall_mem_cons.mpr ⟨lw_p34, List.forall_mem_cons.mpr ⟨lw_p35, List.forall_mem_cons.mpr ⟨lw_p36, List.forall_mem_cons.mpr ⟨lw_p37, List.forall_mem_cons.mpr ⟨lw_p38, List.forall_mem_cons.mpr ⟨lw_p39, List.forall_mem_cons.mpr ⟨lw_p40, List.forall_mem_cons.mpr ⟨lw_p41, List.forall_mem_cons.mpr ⟨lw_p42, List.forall_mem_cons.mpr ⟨lw_p43, List.forall_mem_cons.mpr ⟨lw_p44, List.forall_mem_cons.mpr ⟨lw_p45, List.forall_mem_cons.mpr ⟨lw_p46, List.forall_mem_cons.mpr ⟨lw_p47, fun _ h => absurd h List.not_mem_nil⟩⟩⟩⟩⟩⟩⟩⟩⟩⟩⟩⟩⟩⟩⟩⟩
theorem lw_p48 : lw_okq (⟨"BowlShelfModel", "readWare", "(Z)V"⟩, 43) := ⟨⟨by decide +kernel, by decide +kernel⟩, List.mem_of_getElem? (i := 1165) (by decide +kernel), List.mem_of_getElem? (i := 1363) (by decide +kernel), List.mem_of_getElem? (i := 1364) (by decide +kernel)⟩
theorem lw_p49 : lw_okq (⟨"BowlShelfModel", "newName", "()J"⟩, 43) := ⟨⟨by decide +kernel, by decide +kernel⟩, List.mem_of_getElem? (i := 1165) (by decide +kernel), List.mem_of_getElem? (i := 1367) (by decide +kernel), List.mem_of_getElem? (i := 1368) (by decide +kernel)⟩
theorem lw_p50 : lw_okq (⟨"BowlShelfModel", "isName", "()Z"⟩, 43) := ⟨⟨by decide +kernel, by decide +kernel⟩, List.mem_of_getElem? (i := 1165) (by decide +kernel), List.mem_of_getElem? (i := 1371) (by decide +kernel), List.mem_of_getElem? (i := 1372) (by decide +kernel)⟩
theorem lw_p51 : lw_okq (⟨"BowlShelfModel", "nameOf", "(J)I"⟩, 43) := ⟨⟨by decide +kernel, by decide +kernel⟩, List.mem_of_getElem? (i := 1165) (by decide +kernel), List.mem_of_getElem? (i := 1375) (by decide +kernel), List.mem_of_getElem? (i := 1376) (by decide +kernel)⟩
theorem lw_p52 : lw_okq (⟨"BowlShelfModel", "takeAfter", "(III)I"⟩, 43) := ⟨⟨by decide +kernel, by decide +kernel⟩, List.mem_of_getElem? (i := 1165) (by decide +kernel), List.mem_of_getElem? (i := 1379) (by decide +kernel), List.mem_of_getElem? (i := 1380) (by decide +kernel)⟩
theorem lw_p53 : lw_okq (⟨"BowlShelfModel", "takeWord", "(I)V"⟩, 43) := ⟨⟨by decide +kernel, by decide +kernel⟩, List.mem_of_getElem? (i := 1165) (by decide +kernel), List.mem_of_getElem? (i := 1383) (by decide +kernel), List.mem_of_getElem? (i := 1384) (by decide +kernel)⟩
theorem lw_p54 : lw_okq (⟨"BowlShelfModel", "hasWord", "(I)Z"⟩, 43) := ⟨⟨by decide +kernel, by decide +kernel⟩, List.mem_of_getElem? (i := 1165) (by decide +kernel), List.mem_of_getElem? (i := 1387) (by decide +kernel), List.mem_of_getElem? (i := 1388) (by decide +kernel)⟩
theorem lw_p55 : lw_okq (⟨"BowlShelfModel", "takeNumber", "(II)I"⟩, 43) := ⟨⟨by decide +kernel, by decide +kernel⟩, List.mem_of_getElem? (i := 1165) (by decide +kernel), List.mem_of_getElem? (i := 1391) (by decide +kernel), List.mem_of_getElem? (i := 1392) (by decide +kernel)⟩
theorem lw_p56 : lw_okq (⟨"BowlShelfModel", "readShelf", "()V"⟩, 43) := ⟨⟨by decide +kernel, by decide +kernel⟩, List.mem_of_getElem? (i := 1165) (by decide +kernel), List.mem_of_getElem? (i := 1395) (by decide +kernel), List.mem_of_getElem? (i := 1396) (by decide +kernel)⟩
theorem lw_p57 : lw_okq (⟨"BowlShelfModel", "readNest", "()V"⟩, 43) := ⟨⟨by decide +kernel, by decide +kernel⟩, List.mem_of_getElem? (i := 1165) (by decide +kernel), List.mem_of_getElem? (i := 1399) (by decide +kernel), List.mem_of_getElem? (i := 1400) (by decide +kernel)⟩
theorem lw_p58 : lw_okq (⟨"BowlShelfModel", "all", "(I)V"⟩, 43) := ⟨⟨by decide +kernel, by decide +kernel⟩, List.mem_of_getElem? (i := 1165) (by decide +kernel), List.mem_of_getElem? (i := 1403) (by decide +kernel), List.mem_of_getElem? (i := 1404) (by decide +kernel)⟩
theorem lw_p59 : lw_okq (⟨"BowlShelfModel", "test", "(I)V"⟩, 43) := ⟨⟨by decide +kernel, by decide +kernel⟩, List.mem_of_getElem? (i := 1165) (by decide +kernel), List.mem_of_getElem? (i := 1407) (by decide +kernel), List.mem_of_getElem? (i := 1408) (by decide +kernel)⟩
theorem lw_p60 : lw_okq (⟨"BowlShelfModel", "sums", "(I)V"⟩, 43) := ⟨⟨by decide +kernel, by decide +kernel⟩, List.mem_of_getElem? (i := 1165) (by decide +kernel), List.mem_of_getElem? (i := 1411) (by decide +kernel), List.mem_of_getElem? (i := 1412) (by decide +kernel)⟩
theorem lw_p61 : lw_okq (⟨"BowlShelfModel", "products", "(I)V"⟩, 43) := ⟨⟨by decide +kernel, by decide +kernel⟩, List.mem_of_getElem? (i := 1165) (by decide +kernel), List.mem_of_getElem? (i := 1415) (by decide +kernel), List.mem_of_getElem? (i := 1416) (by decide +kernel)⟩
theorem lw_p62 : lw_okq (⟨"BowlShelfModel", "takePart", "(I)V"⟩, 43) := ⟨⟨by decide +kernel, by decide +kernel⟩, List.mem_of_getElem? (i := 1165) (by decide +kernel), List.mem_of_getElem? (i := 1419) (by decide +kernel), List.mem_of_getElem? (i := 1420) (by decide +kernel)⟩
theorem lw_p63 : lw_okq (⟨"BowlShelfModel", "isSign", "(I)Z"⟩, 43) := ⟨⟨by decide +kernel, by decide +kernel⟩, List.mem_of_getElem? (i := 1165) (by decide +kernel), List.mem_of_getElem? (i := 1423) (by decide +kernel), List.mem_of_getElem? (i := 1424) (by decide +kernel)⟩
def lw_privs_4 : List (MethodName × Nat) := [(⟨"BowlShelfModel", "readWare", "(Z)V"⟩, 43), (⟨"BowlShelfModel", "newName", "()J"⟩, 43), (⟨"BowlShelfModel", "isName", "()Z"⟩, 43), (⟨"BowlShelfModel", "nameOf", "(J)I"⟩, 43), (⟨"BowlShelfModel", "takeAfter", "(III)I"⟩, 43), (⟨"BowlShelfModel", "takeWord", "(I)V"⟩, 43), (⟨"BowlShelfModel", "hasWord", "(I)Z"⟩, 43), (⟨"BowlShelfModel", "takeNumber", "(II)I"⟩, 43), (⟨"BowlShelfModel", "readShelf", "()V"⟩, 43), (⟨"BowlShelfModel", "readNest", "()V"⟩, 43), (⟨"BowlShelfModel", "all", "(I)V"⟩, 43), (⟨"BowlShelfModel", "test", "(I)V"⟩, 43), (⟨"BowlShelfModel", "sums", "(I)V"⟩, 43), (⟨"BowlShelfModel", "products", "(I)V"⟩, 43), (⟨"BowlShelfModel", "takePart", "(I)V"⟩, 43), (⟨"BowlShelfModel", "isSign", "(I)Z"⟩, 43)]
theorem lw_r4 : ∀ q ∈ lw_privs_4, lw_okq q := List.forall_mem_cons.mpr ⟨lw_p48, List.forall_mem_cons.mpr ⟨lw_p49, List.forall_mem_cons.mpr ⟨lw_p50, List.forall_mem_cons.mpr ⟨lw_p51, List.forall_mem_cons.mpr ⟨lw_p52, List.forall_mem_cons.mpr ⟨lw_p53, List.forall_mem_cons.mpr ⟨lw_p54, List.forall_mem_cons.mpr ⟨lw_p55, List.forall_mem_cons.mpr ⟨lw_p56, List.forall_mem_cons.mpr ⟨lw_p57, List.forall_mem_cons.mpr ⟨lw_p58, List.forall_mem_cons.mpr ⟨lw_p59, List.forall_mem_cons.mpr ⟨lw_p60, List.forall_mem_cons.mpr ⟨lw_p61, List.forall_mem_cons.mpr ⟨lw_p62, List.forall_mem_cons.mpr ⟨lw_p63, fun _ h => absurd h List.not_mem_nil⟩⟩⟩⟩⟩⟩⟩⟩⟩⟩⟩⟩⟩⟩⟩⟩
theorem lw_p64 : lw_okq (⟨"BowlShelfModel", "emit", "(II)V"⟩, 43) := ⟨⟨by decide +kernel, by decide +kernel⟩, List.mem_of_getElem? (i := 1165) (by decide +kernel), List.mem_of_getElem? (i := 1427) (by decide +kernel), List.mem_of_getElem? (i := 1428) (by decide +kernel)⟩
theorem lw_p65 : lw_okq (⟨"BowlShelfModel", "hasSign", "(I)Z"⟩, 43) := ⟨⟨by decide +kernel, by decide +kernel⟩, List.mem_of_getElem? (i := 1165) (by decide +kernel), List.mem_of_getElem? (i := 1431) (by decide +kernel), List.mem_of_getElem? (i := 1432) (by decide +kernel)⟩
theorem lw_p66 : lw_okq (⟨"BowlShelfModel", "takeSign", "(I)V"⟩, 43) := ⟨⟨by decide +kernel, by decide +kernel⟩, List.mem_of_getElem? (i := 1165) (by decide +kernel), List.mem_of_getElem? (i := 1435) (by decide +kernel), List.mem_of_getElem? (i := 1436) (by decide +kernel)⟩
theorem lw_p67 : lw_okq (⟨"BowlShelfModel", "readOf", "(I)V"⟩, 43) := ⟨⟨by decide +kernel, by decide +kernel⟩, List.mem_of_getElem? (i := 1165) (by decide +kernel), List.mem_of_getElem? (i := 1439) (by decide +kernel), List.mem_of_getElem? (i := 1440) (by decide +kernel)⟩
theorem lw_p68 : lw_okq (⟨"BowlShelfModel", "isWare", "(I)Z"⟩, 43) := ⟨⟨by decide +kernel, by decide +kernel⟩, List.mem_of_getElem? (i := 1165) (by decide +kernel), List.mem_of_getElem? (i := 1447) (by decide +kernel), List.mem_of_getElem? (i := 1448) (by decide +kernel)⟩
theorem lw_p69 : lw_okq (⟨"BowlShelfModel", "wares", "()I"⟩, 43) := ⟨⟨by decide +kernel, by decide +kernel⟩, List.mem_of_getElem? (i := 1165) (by decide +kernel), List.mem_of_getElem? (i := 1451) (by decide +kernel), List.mem_of_getElem? (i := 1452) (by decide +kernel)⟩
theorem lw_p70 : lw_okq (⟨"BowlShelfModel", "wareOf", "(II)I"⟩, 43) := ⟨⟨by decide +kernel, by decide +kernel⟩, List.mem_of_getElem? (i := 1165) (by decide +kernel), List.mem_of_getElem? (i := 1458) (by decide +kernel), List.mem_of_getElem? (i := 1459) (by decide +kernel)⟩
theorem lw_p71 : lw_okq (⟨"BowlShelfModel", "mayOn", "(II)Z"⟩, 43) := ⟨⟨by decide +kernel, by decide +kernel⟩, List.mem_of_getElem? (i := 1165) (by decide +kernel), List.mem_of_getElem? (i := 1466) (by decide +kernel), List.mem_of_getElem? (i := 1467) (by decide +kernel)⟩
theorem lw_p72 : lw_okq (⟨"BowlShelfModel", "worthAt", "(I)I"⟩, 43) := ⟨⟨by decide +kernel, by decide +kernel⟩, List.mem_of_getElem? (i := 1165) (by decide +kernel), List.mem_of_getElem? (i := 1470) (by decide +kernel), List.mem_of_getElem? (i := 1471) (by decide +kernel)⟩
theorem lw_p73 : lw_okq (⟨"BowlShelfModel", "whyNotPut", "(IIII)I"⟩, 43) := ⟨⟨by decide +kernel, by decide +kernel⟩, List.mem_of_getElem? (i := 1165) (by decide +kernel), List.mem_of_getElem? (i := 1481) (by decide +kernel), List.mem_of_getElem? (i := 1482) (by decide +kernel)⟩
theorem lw_p74 : lw_okq (⟨"BowlShelfModel", "isShelf", "(I)Z"⟩, 43) := ⟨⟨by decide +kernel, by decide +kernel⟩, List.mem_of_getElem? (i := 1165) (by decide +kernel), List.mem_of_getElem? (i := 1485) (by decide +kernel), List.mem_of_getElem? (i := 1486) (by decide +kernel)⟩
theorem lw_p75 : lw_okq (⟨"BowlShelfModel", "shelves", "()I"⟩, 43) := ⟨⟨by decide +kernel, by decide +kernel⟩, List.mem_of_getElem? (i := 1165) (by decide +kernel), List.mem_of_getElem? (i := 1489) (by decide +kernel), List.mem_of_getElem? (i := 1490) (by decide +kernel)⟩
theorem lw_p76 : lw_okq (⟨"BowlShelfModel", "isStack", "(III)Z"⟩, 43) := ⟨⟨by decide +kernel, by decide +kernel⟩, List.mem_of_getElem? (i := 1165) (by decide +kernel), List.mem_of_getElem? (i := 1493) (by decide +kernel), List.mem_of_getElem? (i := 1494) (by decide +kernel)⟩
theorem lw_p77 : lw_okq (⟨"BowlShelfModel", "stacks", "(II)I"⟩, 43) := ⟨⟨by decide +kernel, by decide +kernel⟩, List.mem_of_getElem? (i := 1165) (by decide +kernel), List.mem_of_getElem? (i := 1497) (by decide +kernel), List.mem_of_getElem? (i := 1498) (by decide +kernel)⟩
theorem lw_p78 : lw_okq (⟨"BowlShelfModel", "isIn", "(II)Z"⟩, 43) := ⟨⟨by decide +kernel, by decide +kernel⟩, List.mem_of_getElem? (i := 1165) (by decide +kernel), List.mem_of_getElem? (i := 1501) (by decide +kernel), List.mem_of_getElem? (i := 1502) (by decide +kernel)⟩
theorem lw_p79 : lw_okq (⟨"BowlShelfModel", "shelfOf", "(II)I"⟩, 43) := ⟨⟨by decide +kernel, by decide +kernel⟩, List.mem_of_getElem? (i := 1165) (by decide +kernel), List.mem_of_getElem? (i := 1508) (by decide +kernel), List.mem_of_getElem? (i := 1509) (by decide +kernel)⟩
def lw_privs_5 : List (MethodName × Nat) := [(⟨"BowlShelfModel", "emit", "(II)V"⟩, 43), (⟨"BowlShelfModel", "hasSign", "(I)Z"⟩, 43), (⟨"BowlShelfModel", "takeSign", "(I)V"⟩, 43), (⟨"BowlShelfModel", "readOf", "(I)V"⟩, 43), (⟨"BowlShelfModel", "isWare", "(I)Z"⟩, 43), (⟨"BowlShelfModel", "wares", "()I"⟩, 43), (⟨"BowlShelfModel", "wareOf", "(II)I"⟩, 43), (⟨"BowlShelfModel", "mayOn", "(II)Z"⟩, 43), (⟨"BowlShelfModel", "worthAt", "(I)I"⟩, 43), (⟨"BowlShelfModel", "whyNotPut", "(IIII)I"⟩, 43), (⟨"BowlShelfModel", "isShelf", "(I)Z"⟩, 43), (⟨"BowlShelfModel", "shelves", "()I"⟩, 43), (⟨"BowlShelfModel", "isStack", "(III)Z"⟩, 43), (⟨"BowlShelfModel", "stacks", "(II)I"⟩, 43), (⟨"BowlShelfModel", "isIn", "(II)Z"⟩, 43), (⟨"BowlShelfModel", "shelfOf", "(II)I"⟩, 43)]
theorem lw_r5 : ∀ q ∈ lw_privs_5, lw_okq q := List.forall_mem_cons.mpr ⟨lw_p64, List.forall_mem_cons.mpr ⟨lw_p65, List.forall_mem_cons.mpr ⟨lw_p66, List.forall_mem_cons.mpr ⟨lw_p67, List.forall_mem_cons.mpr ⟨lw_p68, List.forall_mem_cons.mpr ⟨lw_p69, List.forall_mem_cons.mpr ⟨lw_p70, List.forall_mem_cons.mpr ⟨lw_p71, List.forall_mem_cons.mpr ⟨lw_p72, List.forall_mem_cons.mpr ⟨lw_p73, List.forall_mem_cons.mpr ⟨lw_p74, List.forall_mem_cons.mpr ⟨lw_p75, List.forall_mem_cons.mpr ⟨lw_p76, List.forall_mem_cons.mpr ⟨lw_p77, List.forall_mem_cons.mpr ⟨lw_p78, List.forall_mem_cons.mpr ⟨lw_p79, fun _ h => absurd h List.not_mem_nil⟩⟩⟩⟩⟩⟩⟩⟩⟩⟩⟩⟩⟩⟩⟩⟩
theorem lw_p80 : lw_okq (⟨"BowlShelfModel", "takesRow", "(I)V"⟩, 43) := ⟨⟨by decide +kernel, by decide +kernel⟩, List.mem_of_getElem? (i := 1165) (by decide +kernel), List.mem_of_getElem? (i := 1512) (by decide +kernel), List.mem_of_getElem? (i := 1513) (by decide +kernel)⟩
theorem lw_p81 : lw_okq (⟨"BowlShelfModel", "whyNot", "(I)I"⟩, 43) := ⟨⟨by decide +kernel, by decide +kernel⟩, List.mem_of_getElem? (i := 1165) (by decide +kernel), List.mem_of_getElem? (i := 1516) (by decide +kernel), List.mem_of_getElem? (i := 1517) (by decide +kernel)⟩
theorem lw_p82 : lw_okq (⟨"BowlShelfModel", "highest", "()I"⟩, 43) := ⟨⟨by decide +kernel, by decide +kernel⟩, List.mem_of_getElem? (i := 1165) (by decide +kernel), List.mem_of_getElem? (i := 1520) (by decide +kernel), List.mem_of_getElem? (i := 1521) (by decide +kernel)⟩
theorem lw_p83 : lw_okq (⟨"BowlShelfModel", "footAt", "(I)I"⟩, 43) := ⟨⟨by decide +kernel, by decide +kernel⟩, List.mem_of_getElem? (i := 1165) (by decide +kernel), List.mem_of_getElem? (i := 1524) (by decide +kernel), List.mem_of_getElem? (i := 1525) (by decide +kernel)⟩
theorem lw_p84 : lw_okq (⟨"BowlShelfModel", "rises", "(II)I"⟩, 43) := ⟨⟨by decide +kernel, by decide +kernel⟩, List.mem_of_getElem? (i := 1165) (by decide +kernel), List.mem_of_getElem? (i := 1528) (by decide +kernel), List.mem_of_getElem? (i := 1529) (by decide +kernel)⟩
theorem lw_p85 : lw_okq (⟨"BowlShelfModel", "puts", "(IIII)V"⟩, 43) := ⟨⟨by decide +kernel, by decide +kernel⟩, List.mem_of_getElem? (i := 1165) (by decide +kernel), List.mem_of_getElem? (i := 1532) (by decide +kernel), List.mem_of_getElem? (i := 1533) (by decide +kernel)⟩
theorem lw_p86 : lw_okq (⟨"BowlShelfModel", "costOf", "(II)I"⟩, 43) := ⟨⟨by decide +kernel, by decide +kernel⟩, List.mem_of_getElem? (i := 1165) (by decide +kernel), List.mem_of_getElem? (i := 1536) (by decide +kernel), List.mem_of_getElem? (i := 1537) (by decide +kernel)⟩
theorem lw_p87 : lw_okq (⟨"BowlShelfModel", "takesWithout", "(I)V"⟩, 43) := ⟨⟨by decide +kernel, by decide +kernel⟩, List.mem_of_getElem? (i := 1165) (by decide +kernel), List.mem_of_getElem? (i := 1544) (by decide +kernel), List.mem_of_getElem? (i := 1545) (by decide +kernel)⟩
theorem lw_p88 : lw_okq (⟨"BowlShelfModel", "liftCost", "(I)I"⟩, 43) := ⟨⟨by decide +kernel, by decide +kernel⟩, List.mem_of_getElem? (i := 1165) (by decide +kernel), List.mem_of_getElem? (i := 1548) (by decide +kernel), List.mem_of_getElem? (i := 1549) (by decide +kernel)⟩
theorem lw_p89 : lw_okq (⟨"BowlShelfModel", "laysRow", "(I)V"⟩, 43) := ⟨⟨by decide +kernel, by decide +kernel⟩, List.mem_of_getElem? (i := 1165) (by decide +kernel), List.mem_of_getElem? (i := 1552) (by decide +kernel), List.mem_of_getElem? (i := 1553) (by decide +kernel)⟩
theorem lw_p90 : lw_okq (⟨"BowlShelfModel", "goesAway", "(III)V"⟩, 43) := ⟨⟨by decide +kernel, by decide +kernel⟩, List.mem_of_getElem? (i := 1165) (by decide +kernel), List.mem_of_getElem? (i := 1556) (by decide +kernel), List.mem_of_getElem? (i := 1557) (by decide +kernel)⟩
theorem lw_p91 : lw_okq (⟨"BowlShelfModel", "find", "()V"⟩, 43) := ⟨⟨by decide +kernel, by decide +kernel⟩, List.mem_of_getElem? (i := 1165) (by decide +kernel), List.mem_of_getElem? (i := 1592) (by decide +kernel), List.mem_of_getElem? (i := 1593) (by decide +kernel)⟩
theorem lw_p92 : lw_okq (⟨"BowlShelfModel", "findTall", "(I)V"⟩, 43) := ⟨⟨by decide +kernel, by decide +kernel⟩, List.mem_of_getElem? (i := 1165) (by decide +kernel), List.mem_of_getElem? (i := 1596) (by decide +kernel), List.mem_of_getElem? (i := 1597) (by decide +kernel)⟩
theorem lw_p93 : lw_okq (⟨"BowlShelfModel", "tallOn", "(II)I"⟩, 43) := ⟨⟨by decide +kernel, by decide +kernel⟩, List.mem_of_getElem? (i := 1165) (by decide +kernel), List.mem_of_getElem? (i := 1600) (by decide +kernel), List.mem_of_getElem? (i := 1601) (by decide +kernel)⟩
theorem lw_p94 : lw_okq (⟨"BowlShelfModel", "isRound", "()Z"⟩, 43) := ⟨⟨by decide +kernel, by decide +kernel⟩, List.mem_of_getElem? (i := 1165) (by decide +kernel), List.mem_of_getElem? (i := 1609) (by decide +kernel), List.mem_of_getElem? (i := 1610) (by decide +kernel)⟩
theorem lw_p95 : lw_okq (⟨"BowlShelfModel", "findApart", "()I"⟩, 43) := ⟨⟨by decide +kernel, by decide +kernel⟩, List.mem_of_getElem? (i := 1165) (by decide +kernel), List.mem_of_getElem? (i := 1613) (by decide +kernel), List.mem_of_getElem? (i := 1614) (by decide +kernel)⟩
def lw_privs_6 : List (MethodName × Nat) := [(⟨"BowlShelfModel", "takesRow", "(I)V"⟩, 43), (⟨"BowlShelfModel", "whyNot", "(I)I"⟩, 43), (⟨"BowlShelfModel", "highest", "()I"⟩, 43), (⟨"BowlShelfModel", "footAt", "(I)I"⟩, 43), (⟨"BowlShelfModel", "rises", "(II)I"⟩, 43), (⟨"BowlShelfModel", "puts", "(IIII)V"⟩, 43), (⟨"BowlShelfModel", "costOf", "(II)I"⟩, 43), (⟨"BowlShelfModel", "takesWithout", "(I)V"⟩, 43), (⟨"BowlShelfModel", "liftCost", "(I)I"⟩, 43), (⟨"BowlShelfModel", "laysRow", "(I)V"⟩, 43), (⟨"BowlShelfModel", "goesAway", "(III)V"⟩, 43), (⟨"BowlShelfModel", "find", "()V"⟩, 43), (⟨"BowlShelfModel", "findTall", "(I)V"⟩, 43), (⟨"BowlShelfModel", "tallOn", "(II)I"⟩, 43), (⟨"BowlShelfModel", "isRound", "()Z"⟩, 43), (⟨"BowlShelfModel", "findApart", "()I"⟩, 43)]
theorem lw_r6 : ∀ q ∈ lw_privs_6, lw_okq q := List.forall_mem_cons.mpr ⟨lw_p80, List.forall_mem_cons.mpr ⟨lw_p81, List.forall_mem_cons.mpr ⟨lw_p82, List.forall_mem_cons.mpr ⟨lw_p83, List.forall_mem_cons.mpr ⟨lw_p84, List.forall_mem_cons.mpr ⟨lw_p85, List.forall_mem_cons.mpr ⟨lw_p86, List.forall_mem_cons.mpr ⟨lw_p87, List.forall_mem_cons.mpr ⟨lw_p88, List.forall_mem_cons.mpr ⟨lw_p89, List.forall_mem_cons.mpr ⟨lw_p90, List.forall_mem_cons.mpr ⟨lw_p91, List.forall_mem_cons.mpr ⟨lw_p92, List.forall_mem_cons.mpr ⟨lw_p93, List.forall_mem_cons.mpr ⟨lw_p94, List.forall_mem_cons.mpr ⟨lw_p95, fun _ h => absurd h List.not_mem_nil⟩⟩⟩⟩⟩⟩⟩⟩⟩⟩⟩⟩⟩⟩⟩⟩
theorem lw_p96 : lw_okq (⟨"BowlShelfModel", "areApart", "(I)Z"⟩, 43) := ⟨⟨by decide +kernel, by decide +kernel⟩, List.mem_of_getElem? (i := 1165) (by decide +kernel), List.mem_of_getElem? (i := 1620) (by decide +kernel), List.mem_of_getElem? (i := 1621) (by decide +kernel)⟩
theorem lw_p97 : lw_okq (⟨"BowlShelfModel", "areChained", "(II)Z"⟩, 43) := ⟨⟨by decide +kernel, by decide +kernel⟩, List.mem_of_getElem? (i := 1165) (by decide +kernel), List.mem_of_getElem? (i := 1624) (by decide +kernel), List.mem_of_getElem? (i := 1625) (by decide +kernel)⟩
theorem lw_p98 : lw_okq (⟨"BowlShelfModel", "parts", "(III)Z"⟩, 43) := ⟨⟨by decide +kernel, by decide +kernel⟩, List.mem_of_getElem? (i := 1165) (by decide +kernel), List.mem_of_getElem? (i := 1632) (by decide +kernel), List.mem_of_getElem? (i := 1633) (by decide +kernel)⟩
theorem lw_p99 : lw_okq (⟨"BowlShelfModel", "canStand", "(II)Z"⟩, 43) := ⟨⟨by decide +kernel, by decide +kernel⟩, List.mem_of_getElem? (i := 1165) (by decide +kernel), List.mem_of_getElem? (i := 1640) (by decide +kernel), List.mem_of_getElem? (i := 1641) (by decide +kernel)⟩
theorem lw_p100 : lw_okq (⟨"BowlShelfModel", "mayFollow", "(IIIII)Z"⟩, 43) := ⟨⟨by decide +kernel, by decide +kernel⟩, List.mem_of_getElem? (i := 1165) (by decide +kernel), List.mem_of_getElem? (i := 1648) (by decide +kernel), List.mem_of_getElem? (i := 1649) (by decide +kernel)⟩
theorem lw_p101 : lw_okq (⟨"BowlShelfModel", "findGoes", "(I)Z"⟩, 43) := ⟨⟨by decide +kernel, by decide +kernel⟩, List.mem_of_getElem? (i := 1165) (by decide +kernel), List.mem_of_getElem? (i := 1656) (by decide +kernel), List.mem_of_getElem? (i := 1657) (by decide +kernel)⟩
theorem lw_p102 : lw_okq (⟨"BowlShelfModel", "copies", "(II)V"⟩, 43) := ⟨⟨by decide +kernel, by decide +kernel⟩, List.mem_of_getElem? (i := 1165) (by decide +kernel), List.mem_of_getElem? (i := 1660) (by decide +kernel), List.mem_of_getElem? (i := 1661) (by decide +kernel)⟩
theorem lw_p103 : lw_okq (⟨"BowlShelfModel", "couldGo", "(II)Z"⟩, 43) := ⟨⟨by decide +kernel, by decide +kernel⟩, List.mem_of_getElem? (i := 1165) (by decide +kernel), List.mem_of_getElem? (i := 1664) (by decide +kernel), List.mem_of_getElem? (i := 1665) (by decide +kernel)⟩
theorem lw_p104 : lw_okq (⟨"BowlShelfModel", "asks", "()I"⟩, 43) := ⟨⟨by decide +kernel, by decide +kernel⟩, List.mem_of_getElem? (i := 1165) (by decide +kernel), List.mem_of_getElem? (i := 1672) (by decide +kernel), List.mem_of_getElem? (i := 1673) (by decide +kernel)⟩
theorem lw_p105 : lw_okq (⟨"BowlShelfModel", "triesOrders", "(II)V"⟩, 43) := ⟨⟨by decide +kernel, by decide +kernel⟩, List.mem_of_getElem? (i := 1165) (by decide +kernel), List.mem_of_getElem? (i := 1688) (by decide +kernel), List.mem_of_getElem? (i := 1689) (by decide +kernel)⟩
theorem lw_p106 : lw_okq (⟨"BowlShelfModel", "takesOrder", "()V"⟩, 43) := ⟨⟨by decide +kernel, by decide +kernel⟩, List.mem_of_getElem? (i := 1165) (by decide +kernel), List.mem_of_getElem? (i := 1692) (by decide +kernel), List.mem_of_getElem? (i := 1693) (by decide +kernel)⟩
theorem lw_p107 : lw_okq (⟨"BowlShelfModel", "lifted", "(I)I"⟩, 43) := ⟨⟨by decide +kernel, by decide +kernel⟩, List.mem_of_getElem? (i := 1165) (by decide +kernel), List.mem_of_getElem? (i := 1708) (by decide +kernel), List.mem_of_getElem? (i := 1709) (by decide +kernel)⟩
def lw_privs_7 : List (MethodName × Nat) := [(⟨"BowlShelfModel", "areApart", "(I)Z"⟩, 43), (⟨"BowlShelfModel", "areChained", "(II)Z"⟩, 43), (⟨"BowlShelfModel", "parts", "(III)Z"⟩, 43), (⟨"BowlShelfModel", "canStand", "(II)Z"⟩, 43), (⟨"BowlShelfModel", "mayFollow", "(IIIII)Z"⟩, 43), (⟨"BowlShelfModel", "findGoes", "(I)Z"⟩, 43), (⟨"BowlShelfModel", "copies", "(II)V"⟩, 43), (⟨"BowlShelfModel", "couldGo", "(II)Z"⟩, 43), (⟨"BowlShelfModel", "asks", "()I"⟩, 43), (⟨"BowlShelfModel", "triesOrders", "(II)V"⟩, 43), (⟨"BowlShelfModel", "takesOrder", "()V"⟩, 43), (⟨"BowlShelfModel", "lifted", "(I)I"⟩, 43)]
theorem lw_r7 : ∀ q ∈ lw_privs_7, lw_okq q := List.forall_mem_cons.mpr ⟨lw_p96, List.forall_mem_cons.mpr ⟨lw_p97, List.forall_mem_cons.mpr ⟨lw_p98, List.forall_mem_cons.mpr ⟨lw_p99, List.forall_mem_cons.mpr ⟨lw_p100, List.forall_mem_cons.mpr ⟨lw_p101, List.forall_mem_cons.mpr ⟨lw_p102, List.forall_mem_cons.mpr ⟨lw_p103, List.forall_mem_cons.mpr ⟨lw_p104, List.forall_mem_cons.mpr ⟨lw_p105, List.forall_mem_cons.mpr ⟨lw_p106, List.forall_mem_cons.mpr ⟨lw_p107, fun _ h => absurd h List.not_mem_nil⟩⟩⟩⟩⟩⟩⟩⟩⟩⟩⟩⟩
def lw_privs : List (MethodName × Nat) := lw_privs_1 ++ (lw_privs_2 ++ (lw_privs_3 ++ (lw_privs_4 ++ (lw_privs_5 ++ (lw_privs_6 ++ (lw_privs_7))))))
def lw_tbl : List Cond := k2_sels lw_privs ++ tables_1
theorem lw_privs_ok : ∀ q ∈ lw_privs, lw_okq q := by
  show ∀ q ∈ lw_privs_1 ++ (lw_privs_2 ++ (lw_privs_3 ++ (lw_privs_4 ++ (lw_privs_5 ++ (lw_privs_6 ++ (lw_privs_7)))))), lw_okq q
  exact List.forall_mem_append.mpr ⟨lw_r1, List.forall_mem_append.mpr ⟨lw_r2, List.forall_mem_append.mpr ⟨lw_r3, List.forall_mem_append.mpr ⟨lw_r4, List.forall_mem_append.mpr ⟨lw_r5, List.forall_mem_append.mpr ⟨lw_r6, lw_r7⟩⟩⟩⟩⟩⟩
/-! ===== BEGIN words of one list among another's, by their places ===== -/
theorem goodIn_r {big : List Cond} (ws : List Cond) (ps : List Nat) (hp : ws = ps.filterMap (fun i => big[i]?)) (h : ws.all goodWord = true) : GoodIn big ws := by
  intro w hw
  have h1 := List.all_eq_true.mp h w hw
  rw [hp] at hw
  obtain ⟨i, -, hi⟩ := List.mem_filterMap.mp hw
  have hm : w ∈ big := by first | exact List.mem_of_getElem? hi | exact List.getElem?_mem hi
  exact ⟨hm, good_of_word h1⟩
theorem goodIn_app {big a b : List Cond} (ha : GoodIn big a) (hb : GoodIn big b) : GoodIn big (a ++ b) := fun w h => (List.mem_append.mp h).elim (ha w) (hb w)
theorem goodIn_ca {big a b : List Cond} {c : Cond} (ha : GoodIn big (c :: a)) (hb : GoodIn big b) : GoodIn big (c :: (a ++ b)) := fun w h => (List.mem_cons.mp h).elim (fun e => ha w (List.mem_cons.mpr (Or.inl e))) (fun h => (List.mem_append.mp h).elim (fun h => ha w (List.mem_cons.mpr (Or.inr h))) (hb w))
theorem goodIn_sub {big ws : List Cond} (hm : ∀ w ∈ ws, w ∈ big) (h : ws.all goodWord = true) : GoodIn big ws := fun w hw => ⟨hm w hw, good_of_word (List.all_eq_true.mp h w hw)⟩
/-! ===== END ===== -/
def RX0 : String := "BowlShelf$Heights"
def TX0 : u_T := fun k => match k with
  | 0 => ("BowlShelf$Heights", "known", "Z", false)
  | 1 => ("BowlShelf$Heights", "wares", "I", false)
  | 2 => ("BowlShelf$Heights", "leastRim", "[I", false)
  | 3 => ("BowlShelf$Heights", "least", "[I", false)
  | _ => ("BowlShelf$Heights", "stacks", "[I", false)
def tyX0 : Nat → FieldType := fun k => match k with
  | 0 => .boolean
  | 1 => .int
  | 2 => .array .int
  | 3 => .array .int
  | _ => .array .int
abbrev wsX00 : List Cond := u_ws RX0 TX0 5
theorem nmX0 : ∀ a, a < 5 → ∀ b, b < 5 → a ≠ b → (TX0 a).2.1 ≠ (TX0 b).2.1 := by decide +kernel
theorem tyX0_ok : ∀ k, k < 5 → parseFieldDescriptor (TX0 k).2.2.1 = some (tyX0 k) := by decide +kernel
abbrev cX0_init : ByteArray := prog_2_method_1_code
def yX0_init : MethodName := ⟨RX0, "<init>", "()V"⟩
abbrev cX0_settle : ByteArray := prog_2_method_2_code
def yX0_settle : MethodName := ⟨RX0, "settle", "(LBowlShelf$Told;)V"⟩
abbrev cX0_settleSet : ByteArray := prog_2_method_3_code
def yX0_settleSet : MethodName := ⟨RX0, "settleSet", "(LBowlShelf$Told;I)V"⟩
abbrev cX0_rimOver : ByteArray := prog_2_method_4_code
def yX0_rimOver : MethodName := ⟨RX0, "rimOver", "(LBowlShelf$Told;II)I"⟩
abbrev cX0_fewestStacks : ByteArray := prog_2_method_5_code
def yX0_fewestStacks : MethodName := ⟨RX0, "fewestStacks", "(I)I"⟩
abbrev cX0_fewestOf : ByteArray := prog_2_method_6_code
def yX0_fewestOf : MethodName := ⟨RX0, "fewestOf", "(II)I"⟩
abbrev cX0_inOrder : ByteArray := prog_2_method_7_code
def yX0_inOrder : MethodName := ⟨RX0, "inOrder", "(LBowlShelf$Told;III)I"⟩
abbrev cX0_firstOn : ByteArray := prog_2_method_8_code
def yX0_firstOn : MethodName := ⟨RX0, "firstOn", "(LBowlShelf$Told;III)I"⟩
def RX1 : String := "BowlShelf$Nests"
def TX1 : u_T := fun k => match k with
  | 0 => ("BowlShelf$Nests", "size", "I", false)
  | 1 => ("BowlShelf$Nests", "nests", "I", false)
  | 2 => ("BowlShelf$Nests", "steps", "[I", true)
  | 3 => ("BowlShelf$Nests", "end", "[I", true)
  | _ => ("BowlShelf$Nests", "values", "[I", true)
def tyX1 : Nat → FieldType := fun k => match k with
  | 0 => .int
  | 1 => .int
  | 2 => .array .int
  | 3 => .array .int
  | _ => .array .int
abbrev wsX10 : List Cond := u_ws RX1 TX1 5
theorem nmX1 : ∀ a, a < 5 → ∀ b, b < 5 → a ≠ b → (TX1 a).2.1 ≠ (TX1 b).2.1 := by decide +kernel
theorem tyX1_ok : ∀ k, k < 5 → parseFieldDescriptor (TX1 k).2.2.1 = some (tyX1 k) := by decide +kernel
abbrev cX1_init : ByteArray := prog_3_method_1_code
def yX1_init : MethodName := ⟨RX1, "<init>", "()V"⟩
abbrev cX1_empty : ByteArray := prog_3_method_2_code
def yX1_empty : MethodName := ⟨RX1, "empty", "()V"⟩
abbrev cX1_add : ByteArray := prog_3_method_3_code
def yX1_add : MethodName := ⟨RX1, "add", "(I)V"⟩
abbrev cX1_close : ByteArray := prog_3_method_4_code
def yX1_close : MethodName := ⟨RX1, "close", "()V"⟩
abbrev cX1_allow : ByteArray := prog_3_method_5_code
def yX1_allow : MethodName := ⟨RX1, "allow", "(LBowlShelf$Told;II)Z"⟩
abbrev cX1_value : ByteArray := prog_3_method_6_code
def yX1_value : MethodName := ⟨RX1, "value", "(LBowlShelf$Told;IIII)I"⟩
abbrev cX1_fact : ByteArray := prog_3_method_7_code
def yX1_fact : MethodName := ⟨RX1, "fact", "(LBowlShelf$Told;III)I"⟩
abbrev cX1_join : ByteArray := prog_3_method_8_code
def yX1_join : MethodName := ⟨RX1, "join", "(III)I"⟩
def RX2 : String := "BowlShelf$Odds"
def TX2 : u_T := fun k => match k with
  | _ => ("BowlShelf$Odds", "digits", "[J", true)
def tyX2 : Nat → FieldType := fun k => match k with
  | _ => .array .long
abbrev wsX20 : List Cond := u_ws RX2 TX2 1
theorem nmX2 : ∀ a, a < 1 → ∀ b, b < 1 → a ≠ b → (TX2 a).2.1 ≠ (TX2 b).2.1 := by decide +kernel
theorem tyX2_ok : ∀ k, k < 1 → parseFieldDescriptor (TX2 k).2.2.1 = some (tyX2 k) := by decide +kernel
abbrev cX2_init : ByteArray := prog_4_method_1_code
def yX2_init : MethodName := ⟨RX2, "<init>", "()V"⟩
abbrev cX2_power : ByteArray := prog_4_method_2_code
def yX2_power : MethodName := ⟨RX2, "power", "(II)V"⟩
def RX3 : String := "BowlShelf$Order"
def TX3 : u_T := fun k => match k with
  | 0 => ("BowlShelf$Order", "wares", "I", false)
  | 1 => ("BowlShelf$Order", "above", "[I", true)
  | 2 => ("BowlShelf$Order", "kin", "[I", true)
  | 3 => ("BowlShelf$Order", "known", "Z", false)
  | 4 => ("BowlShelf$Order", "fewest", "I", false)
  | 5 => ("BowlShelf$Order", "apart", "I", false)
  | 6 => ("BowlShelf$Order", "row", "[I", true)
  | _ => ("BowlShelf$Order", "members", "[I", true)
def tyX3 : Nat → FieldType := fun k => match k with
  | 0 => .int
  | 1 => .array .int
  | 2 => .array .int
  | 3 => .boolean
  | 4 => .int
  | 5 => .int
  | 6 => .array .int
  | _ => .array .int
abbrev wsX30 : List Cond := u_ws RX3 TX3 8
theorem nmX3 : ∀ a, a < 8 → ∀ b, b < 8 → a ≠ b → (TX3 a).2.1 ≠ (TX3 b).2.1 := by decide +kernel
theorem tyX3_ok : ∀ k, k < 8 → parseFieldDescriptor (TX3 k).2.2.1 = some (tyX3 k) := by decide +kernel
abbrev cX3_init : ByteArray := prog_5_method_1_code
def yX3_init : MethodName := ⟨RX3, "<init>", "()V"⟩
abbrev cX3_chain : ByteArray := prog_5_method_2_code
def yX3_chain : MethodName := ⟨RX3, "chain", "(LBowlShelf$Told;)V"⟩
abbrev cX3_isRound : ByteArray := prog_5_method_3_code
def yX3_isRound : MethodName := ⟨RX3, "isRound", "()Z"⟩
abbrev cX3_settle : ByteArray := prog_5_method_4_code
def yX3_settle : MethodName := ⟨RX3, "settle", "()V"⟩
abbrev cX3_findKin : ByteArray := prog_5_method_5_code
def yX3_findKin : MethodName := ⟨RX3, "findKin", "()V"⟩
abbrev cX3_findApart : ByteArray := prog_5_method_6_code
def yX3_findApart : MethodName := ⟨RX3, "findApart", "()V"⟩
abbrev cX3_isApart : ByteArray := prog_5_method_7_code
def yX3_isApart : MethodName := ⟨RX3, "isApart", "(I)Z"⟩
abbrev cX3_give : ByteArray := prog_5_method_8_code
def yX3_give : MethodName := ⟨RX3, "give", "(II)Z"⟩
def RX4 : String := "BowlShelf$Pile"
def TX4 : u_T := fun k => match k with
  | 0 => ("BowlShelf$Pile", "ware", "[I", true)
  | _ => ("BowlShelf$Pile", "size", "I", false)
def tyX4 : Nat → FieldType := fun k => match k with
  | 0 => .array .int
  | _ => .int
abbrev wsX40 : List Cond := u_ws RX4 TX4 2
theorem nmX4 : ∀ a, a < 2 → ∀ b, b < 2 → a ≠ b → (TX4 a).2.1 ≠ (TX4 b).2.1 := by decide +kernel
theorem tyX4_ok : ∀ k, k < 2 → parseFieldDescriptor (TX4 k).2.2.1 = some (tyX4 k) := by decide +kernel
abbrev cX4_init : ByteArray := prog_6_method_1_code
def yX4_init : MethodName := ⟨RX4, "<init>", "()V"⟩
abbrev cX4_take : ByteArray := prog_6_method_2_code
def yX4_take : MethodName := ⟨RX4, "take", "(LBowlShelf$Standing;II)V"⟩
abbrev cX4_add : ByteArray := prog_6_method_3_code
def yX4_add : MethodName := ⟨RX4, "add", "(I)V"⟩
abbrev cX4_remove : ByteArray := prog_6_method_4_code
def yX4_remove : MethodName := ⟨RX4, "remove", "(I)V"⟩
abbrev cX4_weightFrom : ByteArray := prog_6_method_5_code
def yX4_weightFrom : MethodName := ⟨RX4, "weightFrom", "(LBowlShelf$Told;I)I"⟩
abbrev cX4_foot : ByteArray := prog_6_method_6_code
def yX4_foot : MethodName := ⟨RX4, "foot", "(LBowlShelf$Told;I)I"⟩
abbrev cX4_highestRim : ByteArray := prog_6_method_7_code
def yX4_highestRim : MethodName := ⟨RX4, "highestRim", "(LBowlShelf$Told;)I"⟩
abbrev cX4_price : ByteArray := prog_6_method_8_code
def yX4_price : MethodName := ⟨RX4, "price", "(LBowlShelf$Told;II)I"⟩
abbrev cX4_refusal : ByteArray := prog_6_method_9_code
def yX4_refusal : MethodName := ⟨RX4, "refusal", "(LBowlShelf$Told;I)I"⟩
def RX5 : String := "BowlShelf$Reader"
def TX5 : u_T := fun k => match k with
  | 0 => ("BowlShelf$Reader", "tape", "LBowlShelf$Tape;", true)
  | 1 => ("BowlShelf$Reader", "nests", "LBowlShelf$Nests;", true)
  | 2 => ("BowlShelf$Reader", "wareName", "[J", true)
  | 3 => ("BowlShelf$Reader", "shelfName", "[J", true)
  | 4 => ("BowlShelf$Reader", "told", "LBowlShelf$Told;", false)
  | 5 => ("BowlShelf$Reader", "habits", "I", false)
  | _ => ("BowlShelf$Reader", "fault", "I", false)
def tyX5 : Nat → FieldType := fun k => match k with
  | 0 => .object "BowlShelf$Tape"
  | 1 => .object "BowlShelf$Nests"
  | 2 => .array .long
  | 3 => .array .long
  | 4 => .object "BowlShelf$Told"
  | 5 => .int
  | _ => .int
abbrev wsX50 : List Cond := u_ws RX5 TX5 7
theorem nmX5 : ∀ a, a < 7 → ∀ b, b < 7 → a ≠ b → (TX5 a).2.1 ≠ (TX5 b).2.1 := by decide +kernel
theorem tyX5_ok : ∀ k, k < 7 → parseFieldDescriptor (TX5 k).2.2.1 = some (tyX5 k) := by decide +kernel
abbrev cX5_init : ByteArray := prog_7_method_1_code
def yX5_init : MethodName := ⟨RX5, "<init>", "()V"⟩
abbrev cX5_read : ByteArray := prog_7_method_2_code
def yX5_read : MethodName := ⟨RX5, "read", "()I"⟩
abbrev cX5_exchange : ByteArray := prog_7_method_3_code
def yX5_exchange : MethodName := ⟨RX5, "exchange", "(LBowlShelf$Told;)LBowlShelf$Told;"⟩
abbrev cX5_findMay : ByteArray := prog_7_method_4_code
def yX5_findMay : MethodName := ⟨RX5, "findMay", "()V"⟩
abbrev cX5_wrong : ByteArray := prog_7_method_5_code
def yX5_wrong : MethodName := ⟨RX5, "wrong", "(I)Z"⟩
abbrev cX5_readStatement : ByteArray := prog_7_method_6_code
def yX5_readStatement : MethodName := ⟨RX5, "readStatement", "()Z"⟩
abbrev cX5_readBowl : ByteArray := prog_7_method_7_code
def yX5_readBowl : MethodName := ⟨RX5, "readBowl", "()Z"⟩
abbrev cX5_readLid : ByteArray := prog_7_method_8_code
def yX5_readLid : MethodName := ⟨RX5, "readLid", "()Z"⟩
abbrev cX5_readShelf : ByteArray := prog_7_method_9_code
def yX5_readShelf : MethodName := ⟨RX5, "readShelf", "()Z"⟩
abbrev cX5_readTop : ByteArray := prog_7_method_10_code
def yX5_readTop : MethodName := ⟨RX5, "readTop", "()Z"⟩
abbrev cX5_readHabit : ByteArray := prog_7_method_11_code
def yX5_readHabit : MethodName := ⟨RX5, "readHabit", "()Z"⟩
abbrev cX5_readNest : ByteArray := prog_7_method_12_code
def yX5_readNest : MethodName := ⟨RX5, "readNest", "()Z"⟩
abbrev cX5_readNewName : ByteArray := prog_7_method_13_code
def yX5_readNewName : MethodName := ⟨RX5, "readNewName", "([JI)Z"⟩
abbrev cX5_indexOf : ByteArray := prog_7_method_14_code
def yX5_indexOf : MethodName := ⟨RX5, "indexOf", "([JIJ)I"⟩
abbrev cX5_readWare : ByteArray := prog_7_method_15_code
def yX5_readWare : MethodName := ⟨RX5, "readWare", "(I)I"⟩
abbrev cX5_readAmount : ByteArray := prog_7_method_16_code
def yX5_readAmount : MethodName := ⟨RX5, "readAmount", "(Ljava/lang/String;II[II)Z"⟩
abbrev cX5_readNumber : ByteArray := prog_7_method_17_code
def yX5_readNumber : MethodName := ⟨RX5, "readNumber", "(II[II)Z"⟩
abbrev cX5_readSign : ByteArray := prog_7_method_18_code
def yX5_readSign : MethodName := ⟨RX5, "readSign", "(C)Z"⟩
abbrev cX5_readChain : ByteArray := prog_7_method_19_code
def yX5_readChain : MethodName := ⟨RX5, "readChain", "(II)Z"⟩
abbrev cX5_joint : ByteArray := prog_7_method_20_code
def yX5_joint : MethodName := ⟨RX5, "joint", "(I)I"⟩
abbrev cX5_readPart : ByteArray := prog_7_method_21_code
def yX5_readPart : MethodName := ⟨RX5, "readPart", "(I)Z"⟩
abbrev cX5_fact : ByteArray := prog_7_method_22_code
def yX5_fact : MethodName := ⟨RX5, "fact", "()I"⟩
def RX6 : String := "BowlShelf$Search"
def TX6 : u_T := fun k => match k with
  | 0 => ("BowlShelf$Search", "order", "[I", true)
  | 1 => ("BowlShelf$Search", "cost", "I", false)
  | 2 => ("BowlShelf$Search", "found", "Z", false)
  | 3 => ("BowlShelf$Search", "size", "I", false)
  | 4 => ("BowlShelf$Search", "height", "I", false)
  | 5 => ("BowlShelf$Search", "reach", "I", false)
  | 6 => ("BowlShelf$Search", "trial", "[I", true)
  | _ => ("BowlShelf$Search", "times", "[I", true)
def tyX6 : Nat → FieldType := fun k => match k with
  | 0 => .array .int
  | 1 => .int
  | 2 => .boolean
  | 3 => .int
  | 4 => .int
  | 5 => .int
  | 6 => .array .int
  | _ => .array .int
abbrev wsX60 : List Cond := u_ws RX6 TX6 8
theorem nmX6 : ∀ a, a < 8 → ∀ b, b < 8 → a ≠ b → (TX6 a).2.1 ≠ (TX6 b).2.1 := by decide +kernel
theorem tyX6_ok : ∀ k, k < 8 → parseFieldDescriptor (TX6 k).2.2.1 = some (tyX6 k) := by decide +kernel
abbrev cX6_init : ByteArray := prog_8_method_1_code
def yX6_init : MethodName := ⟨RX6, "<init>", "()V"⟩
abbrev cX6_find : ByteArray := prog_8_method_2_code
def yX6_find : MethodName := ⟨RX6, "find", "(LBowlShelf$Told;LBowlShelf$Standing;LBowlShelf$Pile;I)Z"⟩
abbrev cX6_extend : ByteArray := prog_8_method_3_code
def yX6_extend : MethodName := ⟨RX6, "extend", "(LBowlShelf$Told;IIII)V"⟩
abbrev cX6_tryOn : ByteArray := prog_8_method_4_code
def yX6_tryOn : MethodName := ⟨RX6, "tryOn", "(LBowlShelf$Told;IIIII)V"⟩
def RX7 : String := "BowlShelf$Standing"
def TX7 : u_T := fun k => match k with
  | 0 => ("BowlShelf$Standing", "shelf", "[I", true)
  | 1 => ("BowlShelf$Standing", "stack", "[I", true)
  | 2 => ("BowlShelf$Standing", "level", "[I", true)
  | 3 => ("BowlShelf$Standing", "asking", "[I", true)
  | 4 => ("BowlShelf$Standing", "askings", "I", false)
  | 5 => ("BowlShelf$Standing", "cost", "I", false)
  | _ => ("BowlShelf$Standing", "laid", "Z", false)
def tyX7 : Nat → FieldType := fun k => match k with
  | 0 => .array .int
  | 1 => .array .int
  | 2 => .array .int
  | 3 => .array .int
  | 4 => .int
  | 5 => .int
  | _ => .boolean
abbrev wsX70 : List Cond := u_ws RX7 TX7 7
theorem nmX7 : ∀ a, a < 7 → ∀ b, b < 7 → a ≠ b → (TX7 a).2.1 ≠ (TX7 b).2.1 := by decide +kernel
theorem tyX7_ok : ∀ k, k < 7 → parseFieldDescriptor (TX7 k).2.2.1 = some (tyX7 k) := by decide +kernel
abbrev cX7_init : ByteArray := prog_9_method_1_code
def yX7_init : MethodName := ⟨RX7, "<init>", "()V"⟩
abbrev cX7_empty : ByteArray := prog_9_method_2_code
def yX7_empty : MethodName := ⟨RX7, "empty", "()V"⟩
abbrev cX7_copy : ByteArray := prog_9_method_3_code
def yX7_copy : MethodName := ⟨RX7, "copy", "(LBowlShelf$Standing;)V"⟩
abbrev cX7_isOut : ByteArray := prog_9_method_4_code
def yX7_isOut : MethodName := ⟨RX7, "isOut", "(I)Z"⟩
abbrev cX7_outOf : ByteArray := prog_9_method_5_code
def yX7_outOf : MethodName := ⟨RX7, "outOf", "(I)I"⟩
abbrev cX7_stacks : ByteArray := prog_9_method_6_code
def yX7_stacks : MethodName := ⟨RX7, "stacks", "(I)I"⟩
abbrev cX7_stands : ByteArray := prog_9_method_7_code
def yX7_stands : MethodName := ⟨RX7, "stands", "(III)Z"⟩
abbrev cX7_size : ByteArray := prog_9_method_8_code
def yX7_size : MethodName := ⟨RX7, "size", "(II)I"⟩
abbrev cX7_add : ByteArray := prog_9_method_9_code
def yX7_add : MethodName := ⟨RX7, "add", "(III)V"⟩
abbrev cX7_remove : ByteArray := prog_9_method_10_code
def yX7_remove : MethodName := ⟨RX7, "remove", "(I)V"⟩
abbrev cX7_sinkAbove : ByteArray := prog_9_method_11_code
def yX7_sinkAbove : MethodName := ⟨RX7, "sinkAbove", "(I)V"⟩
abbrev cX7_raise : ByteArray := prog_9_method_12_code
def yX7_raise : MethodName := ⟨RX7, "raise", "(I)V"⟩
abbrev cX7_move : ByteArray := prog_9_method_13_code
def yX7_move : MethodName := ⟨RX7, "move", "(III)V"⟩
abbrev cX7_closeGap : ByteArray := prog_9_method_14_code
def yX7_closeGap : MethodName := ⟨RX7, "closeGap", "(II)V"⟩
abbrev cX7_lifts : ByteArray := prog_9_method_15_code
def yX7_lifts : MethodName := ⟨RX7, "lifts", "(I)I"⟩
abbrev cX7_timesAsked : ByteArray := prog_9_method_16_code
def yX7_timesAsked : MethodName := ⟨RX7, "timesAsked", "(I)I"⟩
def RX8 : String := "BowlShelf$Tape"
def TX8 : u_T := fun k => match k with
  | 0 => ("BowlShelf$Tape", "text", "[C", true)
  | 1 => ("BowlShelf$Tape", "length", "I", false)
  | 2 => ("BowlShelf$Tape", "next", "I", false)
  | 3 => ("BowlShelf$Tape", "kind", "I", false)
  | 4 => ("BowlShelf$Tape", "place", "I", false)
  | _ => ("BowlShelf$Tape", "number", "I", false)
def tyX8 : Nat → FieldType := fun k => match k with
  | 0 => .array .char
  | 1 => .int
  | 2 => .int
  | 3 => .int
  | 4 => .int
  | _ => .int
abbrev wsX80 : List Cond := u_ws RX8 TX8 6
theorem nmX8 : ∀ a, a < 6 → ∀ b, b < 6 → a ≠ b → (TX8 a).2.1 ≠ (TX8 b).2.1 := by decide +kernel
theorem tyX8_ok : ∀ k, k < 6 → parseFieldDescriptor (TX8 k).2.2.1 = some (tyX8 k) := by decide +kernel
abbrev cX8_init : ByteArray := prog_10_method_1_code
def yX8_init : MethodName := ⟨RX8, "<init>", "()V"⟩
abbrev cX8_add : ByteArray := prog_10_method_2_code
def yX8_add : MethodName := ⟨RX8, "add", "(I)V"⟩
abbrev cX8_start : ByteArray := prog_10_method_3_code
def yX8_start : MethodName := ⟨RX8, "start", "()V"⟩
abbrev cX8_advance : ByteArray := prog_10_method_4_code
def yX8_advance : MethodName := ⟨RX8, "advance", "()V"⟩
abbrev cX8_pastBlanks : ByteArray := prog_10_method_5_code
def yX8_pastBlanks : MethodName := ⟨RX8, "pastBlanks", "(I)I"⟩
abbrev cX8_pastRun : ByteArray := prog_10_method_6_code
def yX8_pastRun : MethodName := ⟨RX8, "pastRun", "(ICC)I"⟩
abbrev cX8_valueOf : ByteArray := prog_10_method_7_code
def yX8_valueOf : MethodName := ⟨RX8, "valueOf", "(II)I"⟩
abbrev cX8_isSign : ByteArray := prog_10_method_8_code
def yX8_isSign : MethodName := ⟨RX8, "isSign", "(C)Z"⟩
abbrev cX8_isWord : ByteArray := prog_10_method_9_code
def yX8_isWord : MethodName := ⟨RX8, "isWord", "(Ljava/lang/String;)Z"⟩
abbrev cX8_code : ByteArray := prog_10_method_10_code
def yX8_code : MethodName := ⟨RX8, "code", "()J"⟩
abbrev cX8_isName : ByteArray := prog_10_method_11_code
def yX8_isName : MethodName := ⟨RX8, "isName", "()Z"⟩
def RX9 : String := "BowlShelf$Told"
def TX9 : u_T := fun k => match k with
  | 0 => ("BowlShelf$Told", "wares", "I", false)
  | 1 => ("BowlShelf$Told", "shelves", "I", false)
  | 2 => ("BowlShelf$Told", "nests", "I", false)
  | 3 => ("BowlShelf$Told", "wide", "[I", true)
  | 4 => ("BowlShelf$Told", "deep", "[I", true)
  | 5 => ("BowlShelf$Told", "weight", "[I", true)
  | 6 => ("BowlShelf$Told", "bears", "[I", true)
  | 7 => ("BowlShelf$Told", "breaks", "[I", true)
  | 8 => ("BowlShelf$Told", "habit", "[I", true)
  | 9 => ("BowlShelf$Told", "lids", "I", false)
  | 10 => ("BowlShelf$Told", "tops", "I", false)
  | 11 => ("BowlShelf$Told", "mayOn", "[I", true)
  | 12 => ("BowlShelf$Told", "height", "[I", true)
  | 13 => ("BowlShelf$Told", "reach", "[I", true)
  | _ => ("BowlShelf$Told", "room", "[I", true)
def tyX9 : Nat → FieldType := fun k => match k with
  | 0 => .int
  | 1 => .int
  | 2 => .int
  | 3 => .array .int
  | 4 => .array .int
  | 5 => .array .int
  | 6 => .array .int
  | 7 => .array .int
  | 8 => .array .int
  | 9 => .int
  | 10 => .int
  | 11 => .array .int
  | 12 => .array .int
  | 13 => .array .int
  | _ => .array .int
abbrev wsX90 : List Cond := u_ws RX9 TX9 15
theorem nmX9 : ∀ a, a < 15 → ∀ b, b < 15 → a ≠ b → (TX9 a).2.1 ≠ (TX9 b).2.1 := by decide +kernel
theorem tyX9_ok : ∀ k, k < 15 → parseFieldDescriptor (TX9 k).2.2.1 = some (tyX9 k) := by decide +kernel
abbrev cX9_init : ByteArray := prog_11_method_1_code
def yX9_init : MethodName := ⟨RX9, "<init>", "()V"⟩
abbrev cX9_empty : ByteArray := prog_11_method_2_code
def yX9_empty : MethodName := ⟨RX9, "empty", "()V"⟩
abbrev cX9_isWare : ByteArray := prog_11_method_3_code
def yX9_isWare : MethodName := ⟨RX9, "isWare", "(I)Z"⟩
abbrev cX9_isShelf : ByteArray := prog_11_method_4_code
def yX9_isShelf : MethodName := ⟨RX9, "isShelf", "(I)Z"⟩
abbrev cX9_rise : ByteArray := prog_11_method_5_code
def yX9_rise : MethodName := ⟨RX9, "rise", "(II)I"⟩
abbrev cX9_weightOf : ByteArray := prog_11_method_6_code
def yX9_weightOf : MethodName := ⟨RX9, "weightOf", "(I)I"⟩
def RX10 : String := "BowlShelf"
def TX10 : u_T := fun k => match k with
  | 0 => ("BowlShelf", "reader", "LBowlShelf$Reader;", true)
  | 1 => ("BowlShelf", "told", "LBowlShelf$Told;", false)
  | 2 => ("BowlShelf", "now", "LBowlShelf$Standing;", true)
  | 3 => ("BowlShelf", "trial", "LBowlShelf$Standing;", true)
  | 4 => ("BowlShelf", "marks", "[LBowlShelf$Standing;", true)
  | 5 => ("BowlShelf", "pile", "LBowlShelf$Pile;", true)
  | 6 => ("BowlShelf", "order", "LBowlShelf$Order;", true)
  | 7 => ("BowlShelf", "heights", "LBowlShelf$Heights;", true)
  | 8 => ("BowlShelf", "search", "LBowlShelf$Search;", true)
  | _ => ("BowlShelf", "odds", "LBowlShelf$Odds;", true)
def tyX10 : Nat → FieldType := fun k => match k with
  | 0 => .object "BowlShelf$Reader"
  | 1 => .object "BowlShelf$Told"
  | 2 => .object "BowlShelf$Standing"
  | 3 => .object "BowlShelf$Standing"
  | 4 => .array (.object "BowlShelf$Standing")
  | 5 => .object "BowlShelf$Pile"
  | 6 => .object "BowlShelf$Order"
  | 7 => .object "BowlShelf$Heights"
  | 8 => .object "BowlShelf$Search"
  | _ => .object "BowlShelf$Odds"
abbrev wsX100 : List Cond := u_ws RX10 TX10 10
theorem nmX10 : ∀ a, a < 10 → ∀ b, b < 10 → a ≠ b → (TX10 a).2.1 ≠ (TX10 b).2.1 := by decide +kernel
theorem tyX10_ok : ∀ k, k < 10 → parseFieldDescriptor (TX10 k).2.2.1 = some (tyX10 k) := by decide +kernel
abbrev cX10_init : ByteArray := prog_1_method_1_code
def yX10_init : MethodName := ⟨RX10, "<init>", "()V"⟩
abbrev cX10_feed : ByteArray := prog_1_method_2_code
def yX10_feed : MethodName := ⟨RX10, "feed", "(JJJ)I"⟩
abbrev cX10_feedBytes : ByteArray := prog_1_method_3_code
def yX10_feedBytes : MethodName := ⟨RX10, "feedBytes", "(J)V"⟩
abbrev cX10_cupboard : ByteArray := prog_1_method_4_code
def yX10_cupboard : MethodName := ⟨RX10, "cupboard", "()I"⟩
abbrev cX10_ware : ByteArray := prog_1_method_5_code
def yX10_ware : MethodName := ⟨RX10, "ware", "(II)I"⟩
abbrev cX10_shelf : ByteArray := prog_1_method_6_code
def yX10_shelf : MethodName := ⟨RX10, "shelf", "(II)I"⟩
abbrev cX10_may : ByteArray := prog_1_method_7_code
def yX10_may : MethodName := ⟨RX10, "may", "(II)I"⟩
abbrev cX10_put : ByteArray := prog_1_method_8_code
def yX10_put : MethodName := ⟨RX10, "put", "(III)I"⟩
abbrev cX10_refusal : ByteArray := prog_1_method_9_code
def yX10_refusal : MethodName := ⟨RX10, "refusal", "(LBowlShelf$Standing;III)I"⟩
abbrev cX10_draw : ByteArray := prog_1_method_10_code
def yX10_draw : MethodName := ⟨RX10, "draw", "(I)I"⟩
abbrev cX10_carry : ByteArray := prog_1_method_11_code
def yX10_carry : MethodName := ⟨RX10, "carry", "(III)I"⟩
abbrev cX10_isStack : ByteArray := prog_1_method_12_code
def yX10_isStack : MethodName := ⟨RX10, "isStack", "(II)Z"⟩
abbrev cX10_where : ByteArray := prog_1_method_13_code
def yX10_where : MethodName := ⟨RX10, "where", "(II)I"⟩
abbrev cX10_at : ByteArray := prog_1_method_14_code
def yX10_at : MethodName := ⟨RX10, "at", "(III)I"⟩
abbrev cX10_stack : ByteArray := prog_1_method_15_code
def yX10_stack : MethodName := ⟨RX10, "stack", "(III)I"⟩
abbrev cX10_lift : ByteArray := prog_1_method_16_code
def yX10_lift : MethodName := ⟨RX10, "lift", "(I)I"⟩
abbrev cX10_price : ByteArray := prog_1_method_17_code
def yX10_price : MethodName := ⟨RX10, "price", "(LBowlShelf$Standing;I)I"⟩
abbrev cX10_cost : ByteArray := prog_1_method_18_code
def yX10_cost : MethodName := ⟨RX10, "cost", "()I"⟩
abbrev cX10_through : ByteArray := prog_1_method_19_code
def yX10_through : MethodName := ⟨RX10, "through", "(II)I"⟩
abbrev cX10_rows : ByteArray := prog_1_method_20_code
def yX10_rows : MethodName := ⟨RX10, "rows", "(I)I"⟩
abbrev cX10_rowOf : ByteArray := prog_1_method_21_code
def yX10_rowOf : MethodName := ⟨RX10, "rowOf", "(I)I"⟩
abbrev cX10_isHeight : ByteArray := prog_1_method_22_code
def yX10_isHeight : MethodName := ⟨RX10, "isHeight", "(I)Z"⟩
abbrev cX10_needed : ByteArray := prog_1_method_23_code
def yX10_needed : MethodName := ⟨RX10, "needed", "(I)I"⟩
abbrev cX10_sorted : ByteArray := prog_1_method_24_code
def yX10_sorted : MethodName := ⟨RX10, "sorted", "(III)I"⟩
abbrev cX10_goes : ByteArray := prog_1_method_25_code
def yX10_goes : MethodName := ⟨RX10, "goes", "(II)I"⟩
abbrev cX10_bestPlace : ByteArray := prog_1_method_26_code
def yX10_bestPlace : MethodName := ⟨RX10, "bestPlace", "(I)I"⟩
abbrev cX10_stranded : ByteArray := prog_1_method_27_code
def yX10_stranded : MethodName := ⟨RX10, "stranded", "(LBowlShelf$Standing;)I"⟩
abbrev cX10_hasPlace : ByteArray := prog_1_method_28_code
def yX10_hasPlace : MethodName := ⟨RX10, "hasPlace", "(LBowlShelf$Standing;I)Z"⟩
abbrev cX10_ask : ByteArray := prog_1_method_29_code
def yX10_ask : MethodName := ⟨RX10, "ask", "(I)I"⟩
abbrev cX10_clear : ByteArray := prog_1_method_30_code
def yX10_clear : MethodName := ⟨RX10, "clear", "()Z"⟩
abbrev cX10_asked : ByteArray := prog_1_method_31_code
def yX10_asked : MethodName := ⟨RX10, "asked", "()I"⟩
abbrev cX10_best : ByteArray := prog_1_method_32_code
def yX10_best : MethodName := ⟨RX10, "best", "(III)I"⟩
abbrev cX10_onTop : ByteArray := prog_1_method_33_code
def yX10_onTop : MethodName := ⟨RX10, "onTop", "()I"⟩
abbrev cX10_raise : ByteArray := prog_1_method_34_code
def yX10_raise : MethodName := ⟨RX10, "raise", "(I)V"⟩
abbrev cX10_habit : ByteArray := prog_1_method_35_code
def yX10_habit : MethodName := ⟨RX10, "habit", "(I)I"⟩
abbrev cX10_divisor : ByteArray := prog_1_method_36_code
def yX10_divisor : MethodName := ⟨RX10, "divisor", "(II)I"⟩
abbrev cX10_whole : ByteArray := prog_1_method_37_code
def yX10_whole : MethodName := ⟨RX10, "whole", "(II)J"⟩
abbrev cX10_mark : ByteArray := prog_1_method_38_code
def yX10_mark : MethodName := ⟨RX10, "mark", "(IZ)Z"⟩
abbrev cX10_count : ByteArray := prog_1_method_39_code
def yX10_count : MethodName := ⟨RX10, "count", "(I)I"⟩
def RX11 : String := "BowlShelfModel"
def TX11 : u_T := fun k => match k with
  | 0 => ("BowlShelfModel", "thrown", "I", false)
  | 1 => ("BowlShelfModel", "tape", "[I", true)
  | 2 => ("BowlShelfModel", "taped", "I", false)
  | 3 => ("BowlShelfModel", "size", "I", false)
  | 4 => ("BowlShelfModel", "sort", "[I", true)
  | 5 => ("BowlShelfModel", "place", "[I", true)
  | 6 => ("BowlShelfModel", "value", "[J", true)
  | 7 => ("BowlShelfModel", "at", "I", false)
  | 8 => ("BowlShelfModel", "fault", "I", false)
  | 9 => ("BowlShelfModel", "words", "[J", true)
  | 10 => ("BowlShelfModel", "told", "[I", true)
  | 11 => ("BowlShelfModel", "op", "[I", true)
  | 12 => ("BowlShelfModel", "arg", "[I", true)
  | 13 => ("BowlShelfModel", "codes", "I", false)
  | 14 => ("BowlShelfModel", "names", "[J", true)
  | 15 => ("BowlShelfModel", "hasHabit", "[Z", true)
  | 16 => ("BowlShelfModel", "isNew", "Z", false)
  | 17 => ("BowlShelfModel", "factWords", "[I", true)
  | 18 => ("BowlShelfModel", "facts", "[I", true)
  | 19 => ("BowlShelfModel", "pile", "[I", true)
  | 20 => ("BowlShelfModel", "states", "[I", true)
  | 21 => ("BowlShelfModel", "isMarked", "[Z", true)
  | 22 => ("BowlShelfModel", "inShelf", "I", false)
  | 23 => ("BowlShelfModel", "inStack", "I", false)
  | 24 => ("BowlShelfModel", "inPlace", "I", false)
  | 25 => ("BowlShelfModel", "row", "[I", true)
  | 26 => ("BowlShelfModel", "rowMany", "I", false)
  | 27 => ("BowlShelfModel", "thr", "[Z", true)
  | 28 => ("BowlShelfModel", "mays", "[Z", true)
  | 29 => ("BowlShelfModel", "tall", "[I", true)
  | 30 => ("BowlShelfModel", "weights", "[I", true)
  | 31 => ("BowlShelfModel", "rowOfWare", "[I", true)
  | 32 => ("BowlShelfModel", "neededOf", "[I", true)
  | 33 => ("BowlShelfModel", "goShelf", "I", false)
  | 34 => ("BowlShelfModel", "goStack", "I", false)
  | 35 => ("BowlShelfModel", "goLeft", "I", false)
  | 36 => ("BowlShelfModel", "tried", "[I", true)
  | 37 => ("BowlShelfModel", "bestRow", "[I", true)
  | 38 => ("BowlShelfModel", "bestCost", "I", false)
  | 39 => ("BowlShelfModel", "bestMany", "I", false)
  | 40 => ("BowlShelfModel", "bestShelf", "I", false)
  | 41 => ("BowlShelfModel", "bestSet", "I", false)
  | _ => ("BowlShelfModel", "digits", "[J", true)
def tyX11 : Nat → FieldType := fun k => match k with
  | 0 => .int
  | 1 => .array .int
  | 2 => .int
  | 3 => .int
  | 4 => .array .int
  | 5 => .array .int
  | 6 => .array .long
  | 7 => .int
  | 8 => .int
  | 9 => .array .long
  | 10 => .array .int
  | 11 => .array .int
  | 12 => .array .int
  | 13 => .int
  | 14 => .array .long
  | 15 => .array .boolean
  | 16 => .boolean
  | 17 => .array .int
  | 18 => .array .int
  | 19 => .array .int
  | 20 => .array .int
  | 21 => .array .boolean
  | 22 => .int
  | 23 => .int
  | 24 => .int
  | 25 => .array .int
  | 26 => .int
  | 27 => .array .boolean
  | 28 => .array .boolean
  | 29 => .array .int
  | 30 => .array .int
  | 31 => .array .int
  | 32 => .array .int
  | 33 => .int
  | 34 => .int
  | 35 => .int
  | 36 => .array .int
  | 37 => .array .int
  | 38 => .int
  | 39 => .int
  | 40 => .int
  | 41 => .int
  | _ => .array .long
abbrev wsX110 : List Cond := u_ws RX11 TX11 43
theorem nmX11 : ∀ a, a < 43 → ∀ b, b < 43 → a ≠ b → (TX11 a).2.1 ≠ (TX11 b).2.1 := by decide +kernel
theorem tyX11_ok : ∀ k, k < 43 → parseFieldDescriptor (TX11 k).2.2.1 = some (tyX11 k) := by decide +kernel
abbrev cX11_feed : ByteArray := prog_13_method_2_code
def yX11_feed : MethodName := ⟨RX11, "feed", "(JJJ)I"⟩
abbrev cX11_lay : ByteArray := prog_13_method_3_code
def yX11_lay : MethodName := ⟨RX11, "lay", "(J)V"⟩
abbrev cX11_init : ByteArray := prog_13_method_4_code
def yX11_init : MethodName := ⟨RX11, "<init>", "()V"⟩
abbrev cX11_isLetter : ByteArray := prog_13_method_5_code
def yX11_isLetter : MethodName := ⟨RX11, "isLetter", "(I)Z"⟩
abbrev cX11_isDigit : ByteArray := prog_13_method_6_code
def yX11_isDigit : MethodName := ⟨RX11, "isDigit", "(I)Z"⟩
abbrev cX11_rank : ByteArray := prog_13_method_7_code
def yX11_rank : MethodName := ⟨RX11, "rank", "(I)I"⟩
abbrev cX11_isSignOf : ByteArray := prog_13_method_8_code
def yX11_isSignOf : MethodName := ⟨RX11, "isSignOf", "(I)Z"⟩
abbrev cX11_cutAll : ByteArray := prog_13_method_9_code
def yX11_cutAll : MethodName := ⟨RX11, "cutAll", "()V"⟩
abbrev cX11_wrong : ByteArray := prog_13_method_10_code
def yX11_wrong : MethodName := ⟨RX11, "wrong", "(I)V"⟩
abbrev cX11_isSign : ByteArray := prog_13_method_11_code
def yX11_isSign : MethodName := ⟨RX11, "isSign", "(I)Z"⟩
abbrev cX11_isWord : ByteArray := prog_13_method_12_code
def yX11_isWord : MethodName := ⟨RX11, "isWord", "(I)Z"⟩
abbrev cX11_takeSign : ByteArray := prog_13_method_13_code
def yX11_takeSign : MethodName := ⟨RX11, "takeSign", "(I)V"⟩
abbrev cX11_hasSign : ByteArray := prog_13_method_14_code
def yX11_hasSign : MethodName := ⟨RX11, "hasSign", "(I)Z"⟩
abbrev cX11_hasWord : ByteArray := prog_13_method_15_code
def yX11_hasWord : MethodName := ⟨RX11, "hasWord", "(I)Z"⟩
abbrev cX11_takeWord : ByteArray := prog_13_method_16_code
def yX11_takeWord : MethodName := ⟨RX11, "takeWord", "(I)V"⟩
abbrev cX11_within : ByteArray := prog_13_method_17_code
def yX11_within : MethodName := ⟨RX11, "within", "(III)Z"⟩
abbrev cX11_takeNumber : ByteArray := prog_13_method_18_code
def yX11_takeNumber : MethodName := ⟨RX11, "takeNumber", "(II)I"⟩
abbrev cX11_isName : ByteArray := prog_13_method_19_code
def yX11_isName : MethodName := ⟨RX11, "isName", "()Z"⟩
abbrev cX11_nameOf : ByteArray := prog_13_method_20_code
def yX11_nameOf : MethodName := ⟨RX11, "nameOf", "(J)I"⟩
abbrev cX11_cupboard : ByteArray := prog_13_method_21_code
def yX11_cupboard : MethodName := ⟨RX11, "cupboard", "()I"⟩
abbrev cX11_readLine : ByteArray := prog_13_method_22_code
def yX11_readLine : MethodName := ⟨RX11, "readLine", "()V"⟩
abbrev cX11_newName : ByteArray := prog_13_method_23_code
def yX11_newName : MethodName := ⟨RX11, "newName", "()J"⟩
abbrev cX11_takeAfter : ByteArray := prog_13_method_24_code
def yX11_takeAfter : MethodName := ⟨RX11, "takeAfter", "(III)I"⟩
abbrev cX11_readWare : ByteArray := prog_13_method_25_code
def yX11_readWare : MethodName := ⟨RX11, "readWare", "(Z)V"⟩
abbrev cX11_readShelf : ByteArray := prog_13_method_26_code
def yX11_readShelf : MethodName := ⟨RX11, "readShelf", "()V"⟩
abbrev cX11_readOf : ByteArray := prog_13_method_27_code
def yX11_readOf : MethodName := ⟨RX11, "readOf", "(I)V"⟩
abbrev cX11_readNest : ByteArray := prog_13_method_28_code
def yX11_readNest : MethodName := ⟨RX11, "readNest", "()V"⟩
abbrev cX11_emit : ByteArray := prog_13_method_29_code
def yX11_emit : MethodName := ⟨RX11, "emit", "(II)V"⟩
abbrev cX11_all : ByteArray := prog_13_method_30_code
def yX11_all : MethodName := ⟨RX11, "all", "(I)V"⟩
abbrev cX11_test : ByteArray := prog_13_method_31_code
def yX11_test : MethodName := ⟨RX11, "test", "(I)V"⟩
abbrev cX11_sums : ByteArray := prog_13_method_32_code
def yX11_sums : MethodName := ⟨RX11, "sums", "(I)V"⟩
abbrev cX11_products : ByteArray := prog_13_method_33_code
def yX11_products : MethodName := ⟨RX11, "products", "(I)V"⟩
abbrev cX11_takePart : ByteArray := prog_13_method_34_code
def yX11_takePart : MethodName := ⟨RX11, "takePart", "(I)V"⟩
abbrev cX11_worthAt : ByteArray := prog_13_method_35_code
def yX11_worthAt : MethodName := ⟨RX11, "worthAt", "(I)I"⟩
abbrev cX11_both : ByteArray := prog_13_method_36_code
def yX11_both : MethodName := ⟨RX11, "both", "(III)I"⟩
abbrev cX11_wares : ByteArray := prog_13_method_37_code
def yX11_wares : MethodName := ⟨RX11, "wares", "()I"⟩
abbrev cX11_shelves : ByteArray := prog_13_method_38_code
def yX11_shelves : MethodName := ⟨RX11, "shelves", "()I"⟩
abbrev cX11_wareOf : ByteArray := prog_13_method_39_code
def yX11_wareOf : MethodName := ⟨RX11, "wareOf", "(II)I"⟩
abbrev cX11_shelfOf : ByteArray := prog_13_method_40_code
def yX11_shelfOf : MethodName := ⟨RX11, "shelfOf", "(II)I"⟩
abbrev cX11_isWare : ByteArray := prog_13_method_41_code
def yX11_isWare : MethodName := ⟨RX11, "isWare", "(I)Z"⟩
abbrev cX11_isShelf : ByteArray := prog_13_method_42_code
def yX11_isShelf : MethodName := ⟨RX11, "isShelf", "(I)Z"⟩
abbrev cX11_mayOn : ByteArray := prog_13_method_43_code
def yX11_mayOn : MethodName := ⟨RX11, "mayOn", "(II)Z"⟩
abbrev cX11_rises : ByteArray := prog_13_method_44_code
def yX11_rises : MethodName := ⟨RX11, "rises", "(II)I"⟩
abbrev cX11_ware : ByteArray := prog_13_method_45_code
def yX11_ware : MethodName := ⟨RX11, "ware", "(II)I"⟩
abbrev cX11_may : ByteArray := prog_13_method_46_code
def yX11_may : MethodName := ⟨RX11, "may", "(II)I"⟩
abbrev cX11_copies : ByteArray := prog_13_method_47_code
def yX11_copies : MethodName := ⟨RX11, "copies", "(II)V"⟩
abbrev cX11_stacks : ByteArray := prog_13_method_48_code
def yX11_stacks : MethodName := ⟨RX11, "stacks", "(II)I"⟩
abbrev cX11_stackAt : ByteArray := prog_13_method_49_code
def yX11_stackAt : MethodName := ⟨RX11, "stackAt", "(III)I"⟩
abbrev cX11_isStack : ByteArray := prog_13_method_50_code
def yX11_isStack : MethodName := ⟨RX11, "isStack", "(III)Z"⟩
abbrev cX11_isIn : ByteArray := prog_13_method_51_code
def yX11_isIn : MethodName := ⟨RX11, "isIn", "(II)Z"⟩
abbrev cX11_takesRow : ByteArray := prog_13_method_52_code
def yX11_takesRow : MethodName := ⟨RX11, "takesRow", "(I)V"⟩
abbrev cX11_whyNot : ByteArray := prog_13_method_53_code
def yX11_whyNot : MethodName := ⟨RX11, "whyNot", "(I)I"⟩
abbrev cX11_footAt : ByteArray := prog_13_method_54_code
def yX11_footAt : MethodName := ⟨RX11, "footAt", "(I)I"⟩
abbrev cX11_highest : ByteArray := prog_13_method_55_code
def yX11_highest : MethodName := ⟨RX11, "highest", "()I"⟩
abbrev cX11_whyNotPut : ByteArray := prog_13_method_56_code
def yX11_whyNotPut : MethodName := ⟨RX11, "whyNotPut", "(IIII)I"⟩
abbrev cX11_costOf : ByteArray := prog_13_method_57_code
def yX11_costOf : MethodName := ⟨RX11, "costOf", "(II)I"⟩
abbrev cX11_puts : ByteArray := prog_13_method_58_code
def yX11_puts : MethodName := ⟨RX11, "puts", "(IIII)V"⟩
abbrev cX11_put : ByteArray := prog_13_method_59_code
def yX11_put : MethodName := ⟨RX11, "put", "(III)I"⟩
abbrev cX11_goesAway : ByteArray := prog_13_method_60_code
def yX11_goesAway : MethodName := ⟨RX11, "goesAway", "(III)V"⟩
abbrev cX11_liftCost : ByteArray := prog_13_method_61_code
def yX11_liftCost : MethodName := ⟨RX11, "liftCost", "(I)I"⟩
abbrev cX11_takesWithout : ByteArray := prog_13_method_62_code
def yX11_takesWithout : MethodName := ⟨RX11, "takesWithout", "(I)V"⟩
abbrev cX11_laysRow : ByteArray := prog_13_method_63_code
def yX11_laysRow : MethodName := ⟨RX11, "laysRow", "(I)V"⟩
abbrev cX11_draw : ByteArray := prog_13_method_64_code
def yX11_draw : MethodName := ⟨RX11, "draw", "(I)I"⟩
abbrev cX11_carry : ByteArray := prog_13_method_65_code
def yX11_carry : MethodName := ⟨RX11, "carry", "(III)I"⟩
abbrev cX11_shelf : ByteArray := prog_13_method_66_code
def yX11_shelf : MethodName := ⟨RX11, "shelf", "(II)I"⟩
abbrev cX11_where : ByteArray := prog_13_method_67_code
def yX11_where : MethodName := ⟨RX11, "where", "(II)I"⟩
abbrev cX11_at : ByteArray := prog_13_method_68_code
def yX11_at : MethodName := ⟨RX11, "at", "(III)I"⟩
abbrev cX11_stack : ByteArray := prog_13_method_69_code
def yX11_stack : MethodName := ⟨RX11, "stack", "(III)I"⟩
abbrev cX11_lift : ByteArray := prog_13_method_70_code
def yX11_lift : MethodName := ⟨RX11, "lift", "(I)I"⟩
abbrev cX11_cost : ByteArray := prog_13_method_71_code
def yX11_cost : MethodName := ⟨RX11, "cost", "()I"⟩
abbrev cX11_find : ByteArray := prog_13_method_72_code
def yX11_find : MethodName := ⟨RX11, "find", "()V"⟩
abbrev cX11_findTall : ByteArray := prog_13_method_73_code
def yX11_findTall : MethodName := ⟨RX11, "findTall", "(I)V"⟩
abbrev cX11_tallOn : ByteArray := prog_13_method_74_code
def yX11_tallOn : MethodName := ⟨RX11, "tallOn", "(II)I"⟩
abbrev cX11_through : ByteArray := prog_13_method_75_code
def yX11_through : MethodName := ⟨RX11, "through", "(II)I"⟩
abbrev cX11_isRound : ByteArray := prog_13_method_76_code
def yX11_isRound : MethodName := ⟨RX11, "isRound", "()Z"⟩
abbrev cX11_bits : ByteArray := prog_13_method_77_code
def yX11_bits : MethodName := ⟨RX11, "bits", "(I)I"⟩
abbrev cX11_areChained : ByteArray := prog_13_method_78_code
def yX11_areChained : MethodName := ⟨RX11, "areChained", "(II)Z"⟩
abbrev cX11_areApart : ByteArray := prog_13_method_79_code
def yX11_areApart : MethodName := ⟨RX11, "areApart", "(I)Z"⟩
abbrev cX11_findApart : ByteArray := prog_13_method_80_code
def yX11_findApart : MethodName := ⟨RX11, "findApart", "()I"⟩
abbrev cX11_rows : ByteArray := prog_13_method_81_code
def yX11_rows : MethodName := ⟨RX11, "rows", "(I)I"⟩
abbrev cX11_parts : ByteArray := prog_13_method_82_code
def yX11_parts : MethodName := ⟨RX11, "parts", "(III)Z"⟩
abbrev cX11_rowOf : ByteArray := prog_13_method_83_code
def yX11_rowOf : MethodName := ⟨RX11, "rowOf", "(I)I"⟩
abbrev cX11_canStand : ByteArray := prog_13_method_84_code
def yX11_canStand : MethodName := ⟨RX11, "canStand", "(II)Z"⟩
abbrev cX11_needed : ByteArray := prog_13_method_85_code
def yX11_needed : MethodName := ⟨RX11, "needed", "(I)I"⟩
abbrev cX11_sorted : ByteArray := prog_13_method_86_code
def yX11_sorted : MethodName := ⟨RX11, "sorted", "(III)I"⟩
abbrev cX11_mayFollow : ByteArray := prog_13_method_87_code
def yX11_mayFollow : MethodName := ⟨RX11, "mayFollow", "(IIIII)Z"⟩
abbrev cX11_couldGo : ByteArray := prog_13_method_88_code
def yX11_couldGo : MethodName := ⟨RX11, "couldGo", "(II)Z"⟩
abbrev cX11_findGoes : ByteArray := prog_13_method_89_code
def yX11_findGoes : MethodName := ⟨RX11, "findGoes", "(I)Z"⟩
abbrev cX11_goes : ByteArray := prog_13_method_90_code
def yX11_goes : MethodName := ⟨RX11, "goes", "(II)I"⟩
abbrev cX11_asks : ByteArray := prog_13_method_91_code
def yX11_asks : MethodName := ⟨RX11, "asks", "()I"⟩
abbrev cX11_ask : ByteArray := prog_13_method_92_code
def yX11_ask : MethodName := ⟨RX11, "ask", "(I)I"⟩
abbrev cX11_clear : ByteArray := prog_13_method_93_code
def yX11_clear : MethodName := ⟨RX11, "clear", "()Z"⟩
abbrev cX11_asked : ByteArray := prog_13_method_94_code
def yX11_asked : MethodName := ⟨RX11, "asked", "()I"⟩
abbrev cX11_triesOrders : ByteArray := prog_13_method_95_code
def yX11_triesOrders : MethodName := ⟨RX11, "triesOrders", "(II)V"⟩
abbrev cX11_takesOrder : ByteArray := prog_13_method_96_code
def yX11_takesOrder : MethodName := ⟨RX11, "takesOrder", "()V"⟩
abbrev cX11_best : ByteArray := prog_13_method_97_code
def yX11_best : MethodName := ⟨RX11, "best", "(III)I"⟩
abbrev cX11_onTop : ByteArray := prog_13_method_98_code
def yX11_onTop : MethodName := ⟨RX11, "onTop", "()I"⟩
abbrev cX11_habit : ByteArray := prog_13_method_99_code
def yX11_habit : MethodName := ⟨RX11, "habit", "(I)I"⟩
abbrev cX11_lifted : ByteArray := prog_13_method_100_code
def yX11_lifted : MethodName := ⟨RX11, "lifted", "(I)I"⟩
abbrev cX11_whole : ByteArray := prog_13_method_101_code
def yX11_whole : MethodName := ⟨RX11, "whole", "(II)J"⟩
abbrev cX11_mark : ByteArray := prog_13_method_102_code
def yX11_mark : MethodName := ⟨RX11, "mark", "(IZ)Z"⟩
abbrev cX11_count : ByteArray := prog_13_method_103_code
def yX11_count : MethodName := ⟨RX11, "count", "(I)I"⟩
def RJx145de : String := "java/io/Serializable"
def TJx145de : u_T := fun k => match k with
  | _ => ("", "", "", false)
def tyJx145de : Nat → FieldType := fun k => match k with
  | _ => .int
abbrev wsJx145de0 : List Cond := u_ws RJx145de TJx145de 0
theorem nmJx145de : ∀ a, a < 0 → ∀ b, b < 0 → a ≠ b → (TJx145de a).2.1 ≠ (TJx145de b).2.1 := by decide +kernel
theorem tyJx145de_ok : ∀ k, k < 0 → parseFieldDescriptor (TJx145de k).2.2.1 = some (tyJx145de k) := by decide +kernel
def RJx9f9b0 : String := "java/lang/CharSequence"
def TJx9f9b0 : u_T := fun k => match k with
  | _ => ("", "", "", false)
def tyJx9f9b0 : Nat → FieldType := fun k => match k with
  | _ => .int
abbrev wsJx9f9b00 : List Cond := u_ws RJx9f9b0 TJx9f9b0 0
theorem nmJx9f9b0 : ∀ a, a < 0 → ∀ b, b < 0 → a ≠ b → (TJx9f9b0 a).2.1 ≠ (TJx9f9b0 b).2.1 := by decide +kernel
theorem tyJx9f9b0_ok : ∀ k, k < 0 → parseFieldDescriptor (TJx9f9b0 k).2.2.1 = some (tyJx9f9b0 k) := by decide +kernel
def RJ11 : String := "java/lang/Character"
def TJ11 : u_T := fun k => match k with
  | _ => ("", "", "", false)
def tyJ11 : Nat → FieldType := fun k => match k with
  | _ => .int
abbrev wsJ110 : List Cond := u_ws RJ11 TJ11 0
theorem nmJ11 : ∀ a, a < 0 → ∀ b, b < 0 → a ≠ b → (TJ11 a).2.1 ≠ (TJ11 b).2.1 := by decide +kernel
theorem tyJ11_ok : ∀ k, k < 0 → parseFieldDescriptor (TJ11 k).2.2.1 = some (tyJ11 k) := by decide +kernel
abbrev cJ11_isValidCodePoint_9a6ad : ByteArray := prog_16_method_11_code
def yJ11_isValidCodePoint_9a6ad : MethodName := ⟨RJ11, "isValidCodePoint", "(I)Z"⟩
abbrev cJ11_highSurrogate_5068e : ByteArray := prog_16_method_28_code
def yJ11_highSurrogate_5068e : MethodName := ⟨RJ11, "highSurrogate", "(I)C"⟩
abbrev cJ11_lowSurrogate_5068e : ByteArray := prog_16_method_29_code
def yJ11_lowSurrogate_5068e : MethodName := ⟨RJ11, "lowSurrogate", "(I)C"⟩
def RJxb160c : String := "java/lang/Comparable"
def TJxb160c : u_T := fun k => match k with
  | _ => ("", "", "", false)
def tyJxb160c : Nat → FieldType := fun k => match k with
  | _ => .int
abbrev wsJxb160c0 : List Cond := u_ws RJxb160c TJxb160c 0
theorem nmJxb160c : ∀ a, a < 0 → ∀ b, b < 0 → a ≠ b → (TJxb160c a).2.1 ≠ (TJxb160c b).2.1 := by decide +kernel
theorem tyJxb160c_ok : ∀ k, k < 0 → parseFieldDescriptor (TJxb160c k).2.2.1 = some (tyJxb160c k) := by decide +kernel
def RJ6 : String := "java/lang/Integer"
def TJ6 : u_T := fun k => match k with
  | _ => ("", "", "", false)
def tyJ6 : Nat → FieldType := fun k => match k with
  | _ => .int
abbrev wsJ60 : List Cond := u_ws RJ6 TJ6 0
theorem nmJ6 : ∀ a, a < 0 → ∀ b, b < 0 → a ≠ b → (TJ6 a).2.1 ≠ (TJ6 b).2.1 := by decide +kernel
theorem tyJ6_ok : ∀ k, k < 0 → parseFieldDescriptor (TJ6 k).2.2.1 = some (tyJ6 k) := by decide +kernel
abbrev cJ6_lowestOneBit_0f7a4 : ByteArray := prog_19_method_46_code
def yJ6_lowestOneBit_0f7a4 : MethodName := ⟨RJ6, "lowestOneBit", "(I)I"⟩
abbrev cJ6_bitCount_0f7a4 : ByteArray := prog_19_method_49_code
def yJ6_bitCount_0f7a4 : MethodName := ⟨RJ6, "bitCount", "(I)I"⟩
def RJ9 : String := "java/lang/Math"
def TJ9 : u_T := fun k => match k with
  | _ => ("", "", "", false)
def tyJ9 : Nat → FieldType := fun k => match k with
  | _ => .int
abbrev wsJ90 : List Cond := u_ws RJ9 TJ9 0
theorem nmJ9 : ∀ a, a < 0 → ∀ b, b < 0 → a ≠ b → (TJ9 a).2.1 ≠ (TJ9 b).2.1 := by decide +kernel
theorem tyJ9_ok : ∀ k, k < 0 → parseFieldDescriptor (TJ9 k).2.2.1 = some (tyJ9 k) := by decide +kernel
abbrev cJ9_max_7cf53 : ByteArray := prog_20_method_65_code
def yJ9_max_7cf53 : MethodName := ⟨RJ9, "max", "(II)I"⟩
abbrev cJ9_min_7cf53 : ByteArray := prog_20_method_69_code
def yJ9_min_7cf53 : MethodName := ⟨RJ9, "min", "(II)I"⟩
def RJ0 : String := "java/lang/String"
def TJ0 : u_T := fun k => match k with
  | _ => ("", "", "", false)
def tyJ0 : Nat → FieldType := fun k => match k with
  | _ => .int
abbrev wsJ00 : List Cond := u_ws RJ0 TJ0 0
theorem nmJ0 : ∀ a, a < 0 → ∀ b, b < 0 → a ≠ b → (TJ0 a).2.1 ≠ (TJ0 b).2.1 := by decide +kernel
theorem tyJ0_ok : ∀ k, k < 0 → parseFieldDescriptor (TJ0 k).2.2.1 = some (tyJ0 k) := by decide +kernel
abbrev cJ0_length_8abf5 : ByteArray := prog_22_method_54_code
def yJ0_length_8abf5 : MethodName := ⟨RJ0, "length", "()I"⟩
abbrev cJ0_charAt_5068e : ByteArray := prog_22_method_56_code
def yJ0_charAt_5068e : MethodName := ⟨RJ0, "charAt", "(I)C"⟩
abbrev cJ0_indexOf_0f7a4 : ByteArray := prog_22_method_79_code
def yJ0_indexOf_0f7a4 : MethodName := ⟨RJ0, "indexOf", "(I)I"⟩
abbrev cJ0_indexOf_7cf53 : ByteArray := prog_22_method_80_code
def yJ0_indexOf_7cf53 : MethodName := ⟨RJ0, "indexOf", "(II)I"⟩
abbrev cJ0_coder_7d493 : ByteArray := prog_22_method_152_code
def yJ0_coder_7d493 : MethodName := ⟨RJ0, "coder", "()B"⟩
abbrev cJ0_isLatin1_aae02 : ByteArray := prog_22_method_154_code
def yJ0_isLatin1_aae02 : MethodName := ⟨RJ0, "isLatin1", "()Z"⟩
abbrev cJ0_checkIndex_df160 : ByteArray := prog_22_method_155_code
def yJ0_checkIndex_df160 : MethodName := ⟨RJ0, "checkIndex", "(II)V"⟩
abbrev cJ0_checkBoundsBeginEnd_23922 : ByteArray := prog_22_method_158_code
def yJ0_checkBoundsBeginEnd_23922 : MethodName := ⟨RJ0, "checkBoundsBeginEnd", "(III)V"⟩
def RJ1 : String := "java/lang/StringLatin1"
def TJ1 : u_T := fun k => match k with
  | _ => ("", "", "", false)
def tyJ1 : Nat → FieldType := fun k => match k with
  | _ => .int
abbrev wsJ10 : List Cond := u_ws RJ1 TJ1 0
theorem nmJ1 : ∀ a, a < 0 → ∀ b, b < 0 → a ≠ b → (TJ1 a).2.1 ≠ (TJ1 b).2.1 := by decide +kernel
theorem tyJ1_ok : ∀ k, k < 0 → parseFieldDescriptor (TJ1 k).2.2.1 = some (tyJ1 k) := by decide +kernel
abbrev cJ1_charAt_3b067 : ByteArray := prog_23_method_2_code
def yJ1_charAt_3b067 : MethodName := ⟨RJ1, "charAt", "([BI)C"⟩
abbrev cJ1_canEncode_9a6ad : ByteArray := prog_23_method_4_code
def yJ1_canEncode_9a6ad : MethodName := ⟨RJ1, "canEncode", "(I)Z"⟩
abbrev cJ1_indexOf_4cfef : ByteArray := prog_23_method_22_code
def yJ1_indexOf_4cfef : MethodName := ⟨RJ1, "indexOf", "([BIII)I"⟩
abbrev cJ1_indexOfChar_4cfef : ByteArray := prog_23_method_23_code
def yJ1_indexOfChar_4cfef : MethodName := ⟨RJ1, "indexOfChar", "([BIII)I"⟩
def RJ2 : String := "java/lang/StringUTF16"
def TJ2 : u_T := fun k => match k with
  | _ => ("", "", "", false)
def tyJ2 : Nat → FieldType := fun k => match k with
  | _ => .int
abbrev wsJ20 : List Cond := u_ws RJ2 TJ2 0
theorem nmJ2 : ∀ a, a < 0 → ∀ b, b < 0 → a ≠ b → (TJ2 a).2.1 ≠ (TJ2 b).2.1 := by decide +kernel
theorem tyJ2_ok : ∀ k, k < 0 → parseFieldDescriptor (TJ2 k).2.2.1 = some (tyJ2 k) := by decide +kernel
abbrev cJ2_getChar_3b067 : ByteArray := prog_24_method_5_code
def yJ2_getChar_3b067 : MethodName := ⟨RJ2, "getChar", "([BI)C"⟩
abbrev cJ2_length_9d52b : ByteArray := prog_24_method_6_code
def yJ2_length_9d52b : MethodName := ⟨RJ2, "length", "([B)I"⟩
abbrev cJ2_indexOf_4cfef : ByteArray := prog_24_method_40_code
def yJ2_indexOf_4cfef : MethodName := ⟨RJ2, "indexOf", "([BIII)I"⟩
abbrev cJ2_indexOfChar_4cfef : ByteArray := prog_24_method_47_code
def yJ2_indexOfChar_4cfef : MethodName := ⟨RJ2, "indexOfChar", "([BIII)I"⟩
abbrev cJ2_indexOfCharUnsafe_4cfef : ByteArray := prog_24_method_48_code
def yJ2_indexOfCharUnsafe_4cfef : MethodName := ⟨RJ2, "indexOfCharUnsafe", "([BIII)I"⟩
abbrev cJ2_indexOfSupplementary_4cfef : ByteArray := prog_24_method_49_code
def yJ2_indexOfSupplementary_4cfef : MethodName := ⟨RJ2, "indexOfSupplementary", "([BIII)I"⟩
abbrev cJ2_charAt_3b067 : ByteArray := prog_24_method_83_code
def yJ2_charAt_3b067 : MethodName := ⟨RJ2, "charAt", "([BI)C"⟩
abbrev cJ2_checkIndex_2214a : ByteArray := prog_24_method_91_code
def yJ2_checkIndex_2214a : MethodName := ⟨RJ2, "checkIndex", "(I[B)V"⟩
abbrev cJ2_checkBoundsBeginEnd_d044e : ByteArray := prog_24_method_93_code
def yJ2_checkBoundsBeginEnd_d044e : MethodName := ⟨RJ2, "checkBoundsBeginEnd", "(II[B)V"⟩
def RJ10 : String := "java/lang/System"
def TJ10 : u_T := fun k => match k with
  | _ => ("", "", "", false)
def tyJ10 : Nat → FieldType := fun k => match k with
  | _ => .int
abbrev wsJ100 : List Cond := u_ws RJ10 TJ10 0
theorem nmJ10 : ∀ a, a < 0 → ∀ b, b < 0 → a ≠ b → (TJ10 a).2.1 ≠ (TJ10 b).2.1 := by decide +kernel
theorem tyJ10_ok : ∀ k, k < 0 → parseFieldDescriptor (TJ10 k).2.2.1 = some (tyJ10 k) := by decide +kernel
def RJxfd54e : String := "java/lang/constant/Constable"
def TJxfd54e : u_T := fun k => match k with
  | _ => ("", "", "", false)
def tyJxfd54e : Nat → FieldType := fun k => match k with
  | _ => .int
abbrev wsJxfd54e0 : List Cond := u_ws RJxfd54e TJxfd54e 0
theorem nmJxfd54e : ∀ a, a < 0 → ∀ b, b < 0 → a ≠ b → (TJxfd54e a).2.1 ≠ (TJxfd54e b).2.1 := by decide +kernel
theorem tyJxfd54e_ok : ∀ k, k < 0 → parseFieldDescriptor (TJxfd54e k).2.2.1 = some (tyJxfd54e k) := by decide +kernel
def RJx3cf43 : String := "java/lang/constant/ConstantDesc"
def TJx3cf43 : u_T := fun k => match k with
  | _ => ("", "", "", false)
def tyJx3cf43 : Nat → FieldType := fun k => match k with
  | _ => .int
abbrev wsJx3cf430 : List Cond := u_ws RJx3cf43 TJx3cf43 0
theorem nmJx3cf43 : ∀ a, a < 0 → ∀ b, b < 0 → a ≠ b → (TJx3cf43 a).2.1 ≠ (TJx3cf43 b).2.1 := by decide +kernel
theorem tyJx3cf43_ok : ∀ k, k < 0 → parseFieldDescriptor (TJx3cf43 k).2.2.1 = some (tyJx3cf43 k) := by decide +kernel
def RJ7 : String := "java/util/Arrays"
def TJ7 : u_T := fun k => match k with
  | _ => ("", "", "", false)
def tyJ7 : Nat → FieldType := fun k => match k with
  | _ => .int
abbrev wsJ70 : List Cond := u_ws RJ7 TJ7 0
theorem nmJ7 : ∀ a, a < 0 → ∀ b, b < 0 → a ≠ b → (TJ7 a).2.1 ≠ (TJ7 b).2.1 := by decide +kernel
theorem tyJ7_ok : ∀ k, k < 0 → parseFieldDescriptor (TJ7 k).2.2.1 = some (tyJ7 k) := by decide +kernel
abbrev cJ7_fill_d0a16 : ByteArray := prog_29_method_101_code
def yJ7_fill_d0a16 : MethodName := ⟨RJ7, "fill", "([JJ)V"⟩
abbrev cJ7_fill_53178 : ByteArray := prog_29_method_103_code
def yJ7_fill_53178 : MethodName := ⟨RJ7, "fill", "([II)V"⟩
def RJ3 : String := "jdk/internal/util/Preconditions"
def TJ3 : u_T := fun k => match k with
  | _ => ("", "", "", false)
def tyJ3 : Nat → FieldType := fun k => match k with
  | _ => .int
abbrev wsJ30 : List Cond := u_ws RJ3 TJ3 0
theorem nmJ3 : ∀ a, a < 0 → ∀ b, b < 0 → a ≠ b → (TJ3 a).2.1 ≠ (TJ3 b).2.1 := by decide +kernel
theorem tyJ3_ok : ∀ k, k < 0 → parseFieldDescriptor (TJ3 k).2.2.1 = some (tyJ3 k) := by decide +kernel
abbrev cJ3_checkIndex_8e157 : ByteArray := prog_31_method_11_code
def yJ3_checkIndex_8e157 : MethodName := ⟨RJ3, "checkIndex", "(IILjava/util/function/BiFunction;)I"⟩
abbrev cJ3_checkFromToIndex_8c36e : ByteArray := prog_31_method_12_code
def yJ3_checkFromToIndex_8c36e : MethodName := ⟨RJ3, "checkFromToIndex", "(IIILjava/util/function/BiFunction;)I"⟩
def RL : String := "BowlShelfLaw"
abbrev cL_whole : ByteArray := method_3_code
def yL_whole : MethodName := ⟨RL, "whole", "(LBowlShelf;II[J)I"⟩
abbrev cL_law : ByteArray := code
def yL_law : MethodName := ⟨RL, "law", "([I)Z"⟩
abbrev vwCl : List vw_C := [(RX0, TX0, 5), (RX1, TX1, 5), (RX2, TX2, 1), (RX3, TX3, 8), (RX4, TX4, 2), (RX5, TX5, 7), (RX6, TX6, 8), (RX7, TX7, 7), (RX8, TX8, 6), (RX9, TX9, 15), (RX10, TX10, 10), (RX11, TX11, 43)]
