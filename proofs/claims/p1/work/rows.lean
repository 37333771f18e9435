section
-- ===== PART A: goes FIRST, ahead of the names: the tables' words, and 'selects' of the private methods out of them =====
/-- a private method of a class that the tables say can be made, by its rows of tables_1 -/
def lw_okq (q : MethodName × Nat) : Prop := (q.1.cls ≠ "java/lang/invoke/MethodHandle" ∧ q.1.cls ≠ "java/lang/invoke/VarHandle") ∧ Cond.instantiable q.1.cls q.2 ∈ tables_1 ∧ Cond.privateMethod q.1 ∈ tables_1 ∧ Cond.instanceMethod q.1 ∈ tables_1
theorem lw_p0 : lw_okq (⟨"BowlShelf", "feedBytes", "(J)V"⟩, 10) := ⟨⟨by decide +kernel, by decide +kernel⟩, List.mem_of_getElem? (i := 27) (by decide +kernel), List.mem_of_getElem? (i := 419) (by decide +kernel), List.mem_of_getElem? (i := 420) (by decide +kernel)⟩
theorem lw_p1 : lw_okq (⟨"BowlShelf$Tape", "pastBlanks", "(I)I"⟩, 6) := ⟨⟨by decide +kernel, by decide +kernel⟩, List.mem_of_getElem? (i := 41) (by decide +kernel), List.mem_of_getElem? (i := 452) (by decide +kernel), List.mem_of_getElem? (i := 453) (by decide +kernel)⟩
theorem lw_p2 : lw_okq (⟨"BowlShelf$Tape", "pastRun", "(ICC)I"⟩, 6) := ⟨⟨by decide +kernel, by decide +kernel⟩, List.mem_of_getElem? (i := 41) (by decide +kernel), List.mem_of_getElem? (i := 456) (by decide +kernel), List.mem_of_getElem? (i := 457) (by decide +kernel)⟩
theorem lw_p3 : lw_okq (⟨"BowlShelf$Tape", "valueOf", "(II)I"⟩, 6) := ⟨⟨by decide +kernel, by decide +kernel⟩, List.mem_of_getElem? (i := 41) (by decide +kernel), List.mem_of_getElem? (i := 460) (by decide +kernel), List.mem_of_getElem? (i := 461) (by decide +kernel)⟩
theorem lw_p4 : lw_okq (⟨"BowlShelf$Reader", "readStatement", "()Z"⟩, 7) := ⟨⟨by decide +kernel, by decide +kernel⟩, List.mem_of_getElem? (i := 35) (by decide +kernel), List.mem_of_getElem? (i := 551) (by decide +kernel), List.mem_of_getElem? (i := 552) (by decide +kernel)⟩
theorem lw_p5 : lw_okq (⟨"BowlShelf$Reader", "readBowl", "()Z"⟩, 7) := ⟨⟨by decide +kernel, by decide +kernel⟩, List.mem_of_getElem? (i := 35) (by decide +kernel), List.mem_of_getElem? (i := 581) (by decide +kernel), List.mem_of_getElem? (i := 582) (by decide +kernel)⟩
theorem lw_p6 : lw_okq (⟨"BowlShelf$Reader", "wrong", "(I)Z"⟩, 7) := ⟨⟨by decide +kernel, by decide +kernel⟩, List.mem_of_getElem? (i := 35) (by decide +kernel), List.mem_of_getElem? (i := 585) (by decide +kernel), List.mem_of_getElem? (i := 586) (by decide +kernel)⟩
theorem lw_p7 : lw_okq (⟨"BowlShelf$Reader", "readNewName", "([JI)Z"⟩, 7) := ⟨⟨by decide +kernel, by decide +kernel⟩, List.mem_of_getElem? (i := 35) (by decide +kernel), List.mem_of_getElem? (i := 589) (by decide +kernel), List.mem_of_getElem? (i := 590) (by decide +kernel)⟩
theorem lw_p8 : lw_okq (⟨"BowlShelf$Reader", "readAmount", "(Ljava/lang/String;II[II)Z"⟩, 7) := ⟨⟨by decide +kernel, by decide +kernel⟩, List.mem_of_getElem? (i := 35) (by decide +kernel), List.mem_of_getElem? (i := 626) (by decide +kernel), List.mem_of_getElem? (i := 627) (by decide +kernel)⟩
theorem lw_p9 : lw_okq (⟨"BowlShelf$Reader", "readNumber", "(II[II)Z"⟩, 7) := ⟨⟨by decide +kernel, by decide +kernel⟩, List.mem_of_getElem? (i := 35) (by decide +kernel), List.mem_of_getElem? (i := 630) (by decide +kernel), List.mem_of_getElem? (i := 631) (by decide +kernel)⟩
theorem lw_p10 : lw_okq (⟨"BowlShelf$Reader", "readSign", "(C)Z"⟩, 7) := ⟨⟨by decide +kernel, by decide +kernel⟩, List.mem_of_getElem? (i := 35) (by decide +kernel), List.mem_of_getElem? (i := 638) (by decide +kernel), List.mem_of_getElem? (i := 639) (by decide +kernel)⟩
theorem lw_p11 : lw_okq (⟨"BowlShelf$Reader", "readLid", "()Z"⟩, 7) := ⟨⟨by decide +kernel, by decide +kernel⟩, List.mem_of_getElem? (i := 35) (by decide +kernel), List.mem_of_getElem? (i := 647) (by decide +kernel), List.mem_of_getElem? (i := 648) (by decide +kernel)⟩
theorem lw_p12 : lw_okq (⟨"BowlShelf$Reader", "readShelf", "()Z"⟩, 7) := ⟨⟨by decide +kernel, by decide +kernel⟩, List.mem_of_getElem? (i := 35) (by decide +kernel), List.mem_of_getElem? (i := 652) (by decide +kernel), List.mem_of_getElem? (i := 653) (by decide +kernel)⟩
theorem lw_p13 : lw_okq (⟨"BowlShelf$Reader", "readTop", "()Z"⟩, 7) := ⟨⟨by decide +kernel, by decide +kernel⟩, List.mem_of_getElem? (i := 35) (by decide +kernel), List.mem_of_getElem? (i := 660) (by decide +kernel), List.mem_of_getElem? (i := 661) (by decide +kernel)⟩
theorem lw_p14 : lw_okq (⟨"BowlShelf$Reader", "readWare", "(I)I"⟩, 7) := ⟨⟨by decide +kernel, by decide +kernel⟩, List.mem_of_getElem? (i := 35) (by decide +kernel), List.mem_of_getElem? (i := 664) (by decide +kernel), List.mem_of_getElem? (i := 665) (by decide +kernel)⟩
theorem lw_p15 : lw_okq (⟨"BowlShelf$Reader", "readHabit", "()Z"⟩, 7) := ⟨⟨by decide +kernel, by decide +kernel⟩, List.mem_of_getElem? (i := 35) (by decide +kernel), List.mem_of_getElem? (i := 669) (by decide +kernel), List.mem_of_getElem? (i := 670) (by decide +kernel)⟩
def lw_privs_1 : List (MethodName × Nat) := [(⟨"BowlShelf", "feedBytes", "(J)V"⟩, 10), (⟨"BowlShelf$Tape", "pastBlanks", "(I)I"⟩, 6), (⟨"BowlShelf$Tape", "pastRun", "(ICC)I"⟩, 6), (⟨"BowlShelf$Tape", "valueOf", "(II)I"⟩, 6), (⟨"BowlShelf$Reader", "readStatement", "()Z"⟩, 7), (⟨"BowlShelf$Reader", "readBowl", "()Z"⟩, 7), (⟨"BowlShelf$Reader", "wrong", "(I)Z"⟩, 7), (⟨"BowlShelf$Reader", "readNewName", "([JI)Z"⟩, 7), (⟨"BowlShelf$Reader", "readAmount", "(Ljava/lang/String;II[II)Z"⟩, 7), (⟨"BowlShelf$Reader", "readNumber", "(II[II)Z"⟩, 7), (⟨"BowlShelf$Reader", "readSign", "(C)Z"⟩, 7), (⟨"BowlShelf$Reader", "readLid", "()Z"⟩, 7), (⟨"BowlShelf$Reader", "readShelf", "()Z"⟩, 7), (⟨"BowlShelf$Reader", "readTop", "()Z"⟩, 7), (⟨"BowlShelf$Reader", "readWare", "(I)I"⟩, 7), (⟨"BowlShelf$Reader", "readHabit", "()Z"⟩, 7)]
theorem lw_r1 : ∀ q ∈ lw_privs_1, lw_okq q := List.forall_mem_cons.mpr ⟨lw_p0, List.forall_mem_cons.mpr ⟨lw_p1, List.forall_mem_cons.mpr ⟨lw_p2, List.forall_mem_cons.mpr ⟨lw_p3, List.forall_mem_cons.mpr ⟨lw_p4, List.forall_mem_cons.mpr ⟨lw_p5, List.forall_mem_cons.mpr ⟨lw_p6, List.forall_mem_cons.mpr ⟨lw_p7, List.forall_mem_cons.mpr ⟨lw_p8, List.forall_mem_cons.mpr ⟨lw_p9, List.forall_mem_cons.mpr ⟨lw_p10, List.forall_mem_cons.mpr ⟨lw_p11, List.forall_mem_cons.mpr ⟨lw_p12, List.forall_mem_cons.mpr ⟨lw_p13, List.forall_mem_cons.mpr ⟨lw_p14, List.forall_mem_cons.mpr ⟨lw_p15, fun _ h => absurd h List.not_mem_nil⟩⟩⟩⟩⟩⟩⟩⟩⟩⟩⟩⟩⟩⟩⟩⟩
theorem lw_p16 : lw_okq (⟨"BowlShelf$Reader", "readNest", "()Z"⟩, 7) := ⟨⟨by decide +kernel, by decide +kernel⟩, List.mem_of_getElem? (i := 35) (by decide +kernel), List.mem_of_getElem? (i := 674) (by decide +kernel), List.mem_of_getElem? (i := 675) (by decide +kernel)⟩
theorem lw_p17 : lw_okq (⟨"BowlShelf$Reader", "readChain", "(II)Z"⟩, 7) := ⟨⟨by decide +kernel, by decide +kernel⟩, List.mem_of_getElem? (i := 35) (by decide +kernel), List.mem_of_getElem? (i := 678) (by decide +kernel), List.mem_of_getElem? (i := 679) (by decide +kernel)⟩
theorem lw_p18 : lw_okq (⟨"BowlShelf$Reader", "readPart", "(I)Z"⟩, 7) := ⟨⟨by decide +kernel, by decide +kernel⟩, List.mem_of_getElem? (i := 35) (by decide +kernel), List.mem_of_getElem? (i := 682) (by decide +kernel), List.mem_of_getElem? (i := 683) (by decide +kernel)⟩
theorem lw_p19 : lw_okq (⟨"BowlShelf$Reader", "fact", "()I"⟩, 7) := ⟨⟨by decide +kernel, by decide +kernel⟩, List.mem_of_getElem? (i := 35) (by decide +kernel), List.mem_of_getElem? (i := 687) (by decide +kernel), List.mem_of_getElem? (i := 688) (by decide +kernel)⟩
theorem lw_p20 : lw_okq (⟨"BowlShelf$Reader", "joint", "(I)I"⟩, 7) := ⟨⟨by decide +kernel, by decide +kernel⟩, List.mem_of_getElem? (i := 35) (by decide +kernel), List.mem_of_getElem? (i := 701) (by decide +kernel), List.mem_of_getElem? (i := 702) (by decide +kernel)⟩
theorem lw_p21 : lw_okq (⟨"BowlShelf$Reader", "findMay", "()V"⟩, 7) := ⟨⟨by decide +kernel, by decide +kernel⟩, List.mem_of_getElem? (i := 35) (by decide +kernel), List.mem_of_getElem? (i := 711) (by decide +kernel), List.mem_of_getElem? (i := 712) (by decide +kernel)⟩
theorem lw_p22 : lw_okq (⟨"BowlShelf$Nests", "value", "(LBowlShelf$Told;IIII)I"⟩, 5) := ⟨⟨by decide +kernel, by decide +kernel⟩, List.mem_of_getElem? (i := 72) (by decide +kernel), List.mem_of_getElem? (i := 720) (by decide +kernel), List.mem_of_getElem? (i := 721) (by decide +kernel)⟩
theorem lw_p23 : lw_okq (⟨"BowlShelf", "refusal", "(LBowlShelf$Standing;III)I"⟩, 10) := ⟨⟨by decide +kernel, by decide +kernel⟩, List.mem_of_getElem? (i := 27) (by decide +kernel), List.mem_of_getElem? (i := 779) (by decide +kernel), List.mem_of_getElem? (i := 780) (by decide +kernel)⟩
theorem lw_p24 : lw_okq (⟨"BowlShelf$Standing", "sinkAbove", "(I)V"⟩, 7) := ⟨⟨by decide +kernel, by decide +kernel⟩, List.mem_of_getElem? (i := 226) (by decide +kernel), List.mem_of_getElem? (i := 837) (by decide +kernel), List.mem_of_getElem? (i := 838) (by decide +kernel)⟩
theorem lw_p25 : lw_okq (⟨"BowlShelf$Standing", "closeGap", "(II)V"⟩, 7) := ⟨⟨by decide +kernel, by decide +kernel⟩, List.mem_of_getElem? (i := 226) (by decide +kernel), List.mem_of_getElem? (i := 841) (by decide +kernel), List.mem_of_getElem? (i := 842) (by decide +kernel)⟩
theorem lw_p26 : lw_okq (⟨"BowlShelf", "isStack", "(II)Z"⟩, 10) := ⟨⟨by decide +kernel, by decide +kernel⟩, List.mem_of_getElem? (i := 27) (by decide +kernel), List.mem_of_getElem? (i := 849) (by decide +kernel), List.mem_of_getElem? (i := 850) (by decide +kernel)⟩
theorem lw_p27 : lw_okq (⟨"BowlShelf", "price", "(LBowlShelf$Standing;I)I"⟩, 10) := ⟨⟨by decide +kernel, by decide +kernel⟩, List.mem_of_getElem? (i := 27) (by decide +kernel), List.mem_of_getElem? (i := 880) (by decide +kernel), List.mem_of_getElem? (i := 881) (by decide +kernel)⟩
theorem lw_p28 : lw_okq (⟨"BowlShelf$Order", "findKin", "()V"⟩, 8) := ⟨⟨by decide +kernel, by decide +kernel⟩, List.mem_of_getElem? (i := 282) (by decide +kernel), List.mem_of_getElem? (i := 904) (by decide +kernel), List.mem_of_getElem? (i := 905) (by decide +kernel)⟩
theorem lw_p29 : lw_okq (⟨"BowlShelf$Order", "findApart", "()V"⟩, 8) := ⟨⟨by decide +kernel, by decide +kernel⟩, List.mem_of_getElem? (i := 282) (by decide +kernel), List.mem_of_getElem? (i := 908) (by decide +kernel), List.mem_of_getElem? (i := 909) (by decide +kernel)⟩
theorem lw_p30 : lw_okq (⟨"BowlShelf$Order", "isApart", "(I)Z"⟩, 8) := ⟨⟨by decide +kernel, by decide +kernel⟩, List.mem_of_getElem? (i := 282) (by decide +kernel), List.mem_of_getElem? (i := 918) (by decide +kernel), List.mem_of_getElem? (i := 919) (by decide +kernel)⟩
theorem lw_p31 : lw_okq (⟨"BowlShelf$Order", "give", "(II)Z"⟩, 8) := ⟨⟨by decide +kernel, by decide +kernel⟩, List.mem_of_getElem? (i := 282) (by decide +kernel), List.mem_of_getElem? (i := 923) (by decide +kernel), List.mem_of_getElem? (i := 924) (by decide +kernel)⟩
def lw_privs_2 : List (MethodName × Nat) := [(⟨"BowlShelf$Reader", "readNest", "()Z"⟩, 7), (⟨"BowlShelf$Reader", "readChain", "(II)Z"⟩, 7), (⟨"BowlShelf$Reader", "readPart", "(I)Z"⟩, 7), (⟨"BowlShelf$Reader", "fact", "()I"⟩, 7), (⟨"BowlShelf$Reader", "joint", "(I)I"⟩, 7), (⟨"BowlShelf$Reader", "findMay", "()V"⟩, 7), (⟨"BowlShelf$Nests", "value", "(LBowlShelf$Told;IIII)I"⟩, 5), (⟨"BowlShelf", "refusal", "(LBowlShelf$Standing;III)I"⟩, 10), (⟨"BowlShelf$Standing", "sinkAbove", "(I)V"⟩, 7), (⟨"BowlShelf$Standing", "closeGap", "(II)V"⟩, 7), (⟨"BowlShelf", "isStack", "(II)Z"⟩, 10), (⟨"BowlShelf", "price", "(LBowlShelf$Standing;I)I"⟩, 10), (⟨"BowlShelf$Order", "findKin", "()V"⟩, 8), (⟨"BowlShelf$Order", "findApart", "()V"⟩, 8), (⟨"BowlShelf$Order", "isApart", "(I)Z"⟩, 8), (⟨"BowlShelf$Order", "give", "(II)Z"⟩, 8)]
theorem lw_r2 : ∀ q ∈ lw_privs_2, lw_okq q := List.forall_mem_cons.mpr ⟨lw_p16, List.forall_mem_cons.mpr ⟨lw_p17, List.forall_mem_cons.mpr ⟨lw_p18, List.forall_mem_cons.mpr ⟨lw_p19, List.forall_mem_cons.mpr ⟨lw_p20, List.forall_mem_cons.mpr ⟨lw_p21, List.forall_mem_cons.mpr ⟨lw_p22, List.forall_mem_cons.mpr ⟨lw_p23, List.forall_mem_cons.mpr ⟨lw_p24, List.forall_mem_cons.mpr ⟨lw_p25, List.forall_mem_cons.mpr ⟨lw_p26, List.forall_mem_cons.mpr ⟨lw_p27, List.forall_mem_cons.mpr ⟨lw_p28, List.forall_mem_cons.mpr ⟨lw_p29, List.forall_mem_cons.mpr ⟨lw_p30, List.forall_mem_cons.mpr ⟨lw_p31, fun _ h => absurd h List.not_mem_nil⟩⟩⟩⟩⟩⟩⟩⟩⟩⟩⟩⟩⟩⟩⟩⟩
theorem lw_p32 : lw_okq (⟨"BowlShelf$Heights", "settleSet", "(LBowlShelf$Told;I)V"⟩, 5) := ⟨⟨by decide +kernel, by decide +kernel⟩, List.mem_of_getElem? (i := 317) (by decide +kernel), List.mem_of_getElem? (i := 943) (by decide +kernel), List.mem_of_getElem? (i := 944) (by decide +kernel)⟩
theorem lw_p33 : lw_okq (⟨"BowlShelf$Heights", "rimOver", "(LBowlShelf$Told;II)I"⟩, 5) := ⟨⟨by decide +kernel, by decide +kernel⟩, List.mem_of_getElem? (i := 317) (by decide +kernel), List.mem_of_getElem? (i := 952) (by decide +kernel), List.mem_of_getElem? (i := 953) (by decide +kernel)⟩
theorem lw_p34 : lw_okq (⟨"BowlShelf$Heights", "fewestOf", "(II)I"⟩, 5) := ⟨⟨by decide +kernel, by decide +kernel⟩, List.mem_of_getElem? (i := 317) (by decide +kernel), List.mem_of_getElem? (i := 963) (by decide +kernel), List.mem_of_getElem? (i := 964) (by decide +kernel)⟩
theorem lw_p35 : lw_okq (⟨"BowlShelf$Heights", "firstOn", "(LBowlShelf$Told;III)I"⟩, 5) := ⟨⟨by decide +kernel, by decide +kernel⟩, List.mem_of_getElem? (i := 317) (by decide +kernel), List.mem_of_getElem? (i := 980) (by decide +kernel), List.mem_of_getElem? (i := 981) (by decide +kernel)⟩
theorem lw_p36 : lw_okq (⟨"BowlShelf", "bestPlace", "(I)I"⟩, 10) := ⟨⟨by decide +kernel, by decide +kernel⟩, List.mem_of_getElem? (i := 27) (by decide +kernel), List.mem_of_getElem? (i := 988) (by decide +kernel), List.mem_of_getElem? (i := 989) (by decide +kernel)⟩
theorem lw_p37 : lw_okq (⟨"BowlShelf", "stranded", "(LBowlShelf$Standing;)I"⟩, 10) := ⟨⟨by decide +kernel, by decide +kernel⟩, List.mem_of_getElem? (i := 27) (by decide +kernel), List.mem_of_getElem? (i := 997) (by decide +kernel), List.mem_of_getElem? (i := 998) (by decide +kernel)⟩
theorem lw_p38 : lw_okq (⟨"BowlShelf", "hasPlace", "(LBowlShelf$Standing;I)Z"⟩, 10) := ⟨⟨by decide +kernel, by decide +kernel⟩, List.mem_of_getElem? (i := 27) (by decide +kernel), List.mem_of_getElem? (i := 1001) (by decide +kernel), List.mem_of_getElem? (i := 1002) (by decide +kernel)⟩
theorem lw_p39 : lw_okq (⟨"BowlShelf$Search", "extend", "(LBowlShelf$Told;IIII)V"⟩, 8) := ⟨⟨by decide +kernel, by decide +kernel⟩, List.mem_of_getElem? (i := 340) (by decide +kernel), List.mem_of_getElem? (i := 1030) (by decide +kernel), List.mem_of_getElem? (i := 1031) (by decide +kernel)⟩
theorem lw_p40 : lw_okq (⟨"BowlShelf$Search", "tryOn", "(LBowlShelf$Told;IIIII)V"⟩, 8) := ⟨⟨by decide +kernel, by decide +kernel⟩, List.mem_of_getElem? (i := 340) (by decide +kernel), List.mem_of_getElem? (i := 1035) (by decide +kernel), List.mem_of_getElem? (i := 1036) (by decide +kernel)⟩
theorem lw_p41 : lw_okq (⟨"BowlShelf", "raise", "(I)V"⟩, 10) := ⟨⟨by decide +kernel, by decide +kernel⟩, List.mem_of_getElem? (i := 27) (by decide +kernel), List.mem_of_getElem? (i := 1045) (by decide +kernel), List.mem_of_getElem? (i := 1046) (by decide +kernel)⟩
theorem lw_p42 : lw_okq (⟨"java/lang/Throwable", "fillInStackTrace", "(I)Ljava/lang/Throwable;"⟩, 6) := ⟨⟨by decide +kernel, by decide +kernel⟩, List.mem_of_getElem? (i := 1117) (by decide +kernel), List.mem_of_getElem? (i := 1115) (by decide +kernel), List.mem_of_getElem? (i := 1116) (by decide +kernel)⟩
theorem lw_p43 : lw_okq (⟨"BowlShelfModel", "lay", "(J)V"⟩, 43) := ⟨⟨by decide +kernel, by decide +kernel⟩, List.mem_of_getElem? (i := 1169) (by decide +kernel), List.mem_of_getElem? (i := 1167) (by decide +kernel), List.mem_of_getElem? (i := 1168) (by decide +kernel)⟩
theorem lw_p44 : lw_okq (⟨"BowlShelfModel", "cutAll", "()V"⟩, 43) := ⟨⟨by decide +kernel, by decide +kernel⟩, List.mem_of_getElem? (i := 1169) (by decide +kernel), List.mem_of_getElem? (i := 1336) (by decide +kernel), List.mem_of_getElem? (i := 1337) (by decide +kernel)⟩
theorem lw_p45 : lw_okq (⟨"BowlShelfModel", "readLine", "()V"⟩, 43) := ⟨⟨by decide +kernel, by decide +kernel⟩, List.mem_of_getElem? (i := 1169) (by decide +kernel), List.mem_of_getElem? (i := 1355) (by decide +kernel), List.mem_of_getElem? (i := 1356) (by decide +kernel)⟩
theorem lw_p46 : lw_okq (⟨"BowlShelfModel", "isWord", "(I)Z"⟩, 43) := ⟨⟨by decide +kernel, by decide +kernel⟩, List.mem_of_getElem? (i := 1169) (by decide +kernel), List.mem_of_getElem? (i := 1359) (by decide +kernel), List.mem_of_getElem? (i := 1360) (by decide +kernel)⟩
theorem lw_p47 : lw_okq (⟨"BowlShelfModel", "wrong", "(I)V"⟩, 43) := ⟨⟨by decide +kernel, by decide +kernel⟩, List.mem_of_getElem? (i := 1169) (by decide +kernel), List.mem_of_getElem? (i := 1363) (by decide +kernel), List.mem_of_getElem? (i := 1364) (by decide +kernel)⟩
def lw_privs_3 : List (MethodName × Nat) := [(⟨"BowlShelf$Heights", "settleSet", "(LBowlShelf$Told;I)V"⟩, 5), (⟨"BowlShelf$Heights", "rimOver", "(LBowlShelf$Told;II)I"⟩, 5), (⟨"BowlShelf$Heights", "fewestOf", "(II)I"⟩, 5), (⟨"BowlShelf$Heights", "firstOn", "(LBowlShelf$Told;III)I"⟩, 5), (⟨"BowlShelf", "bestPlace", "(I)I"⟩, 10), (⟨"BowlShelf", "stranded", "(LBowlShelf$Standing;)I"⟩, 10), (⟨"BowlShelf", "hasPlace", "(LBowlShelf$Standing;I)Z"⟩, 10), (⟨"BowlShelf$Search", "extend", "(LBowlShelf$Told;IIII)V"⟩, 8), (⟨"BowlShelf$Search", "tryOn", "(LBowlShelf$Told;IIIII)V"⟩, 8), (⟨"BowlShelf", "raise", "(I)V"⟩, 10), (⟨"java/lang/Throwable", "fillInStackTrace", "(I)Ljava/lang/Throwable;"⟩, 6), (⟨"BowlShelfModel", "lay", "(J)V"⟩, 43), (⟨"BowlShelfModel", "cutAll", "()V"⟩, 43), (⟨"BowlShelfModel", "readLine", "()V"⟩, 43), (⟨"BowlShelfModel", "isWord", "(I)Z"⟩, 43), (⟨"BowlShelfModel", "wrong", "(I)V"⟩, 43)]
theorem lw_r3 : ∀ q ∈ lw_privs_3, lw_okq q := List.forall_mem_cons.mpr ⟨lw_p32, List.forall_mem_cons.mpr ⟨lw_p33, List.forall_mem_cons.mpr ⟨lw_p34, List.forall_mem_cons.mpr ⟨lw_p35, List.forall_mem_cons.mpr ⟨lw_p36, List.forall_mem_cons.mpr ⟨lw_p37, List.forall_mem_cons.mpr ⟨lw_p38, List.forall_mem_cons.mpr ⟨lw_p39, List.forall_mem_cons.mpr ⟨lw_p40, List.forall_mem_cons.mpr ⟨lw_p41, List.forall_mem_cons.mpr ⟨lw_p42, List.forall_mem_cons.mpr ⟨lw_p43, List.forall_mem_cons.mpr ⟨lw_p44, List.forall_mem_cons.mpr ⟨lw_p45, List.forall_mem_cons.mpr ⟨lw_p46, List.forall_mem_cons.mpr ⟨lw_p47, fun _ h => absurd h List.not_mem_nil⟩⟩⟩⟩⟩⟩⟩⟩⟩⟩⟩⟩⟩⟩⟩⟩
theorem lw_p48 : lw_okq (⟨"BowlShelfModel", "readWare", "(Z)V"⟩, 43) := ⟨⟨by decide +kernel, by decide +kernel⟩, List.mem_of_getElem? (i := 1169) (by decide +kernel), List.mem_of_getElem? (i := 1367) (by decide +kernel), List.mem_of_getElem? (i := 1368) (by decide +kernel)⟩
theorem lw_p49 : lw_okq (⟨"BowlShelfModel", "newName", "()J"⟩, 43) := ⟨⟨by decide +kernel, by decide +kernel⟩, List.mem_of_getElem? (i := 1169) (by decide +kernel), List.mem_of_getElem? (i := 1371) (by decide +kernel), List.mem_of_getElem? (i := 1372) (by decide +kernel)⟩
theorem lw_p50 : lw_okq (⟨"BowlShelfModel", "isName", "()Z"⟩, 43) := ⟨⟨by decide +kernel, by decide +kernel⟩, List.mem_of_getElem? (i := 1169) (by decide +kernel), List.mem_of_getElem? (i := 1375) (by decide +kernel), List.mem_of_getElem? (i := 1376) (by decide +kernel)⟩
theorem lw_p51 : lw_okq (⟨"BowlShelfModel", "nameOf", "(J)I"⟩, 43) := ⟨⟨by decide +kernel, by decide +kernel⟩, List.mem_of_getElem? (i := 1169) (by decide +kernel), List.mem_of_getElem? (i := 1379) (by decide +kernel), List.mem_of_getElem? (i := 1380) (by decide +kernel)⟩
theorem lw_p52 : lw_okq (⟨"BowlShelfModel", "takeAfter", "(III)I"⟩, 43) := ⟨⟨by decide +kernel, by decide +kernel⟩, List.mem_of_getElem? (i := 1169) (by decide +kernel), List.mem_of_getElem? (i := 1383) (by decide +kernel), List.mem_of_getElem? (i := 1384) (by decide +kernel)⟩
theorem lw_p53 : lw_okq (⟨"BowlShelfModel", "takeWord", "(I)V"⟩, 43) := ⟨⟨by decide +kernel, by decide +kernel⟩, List.mem_of_getElem? (i := 1169) (by decide +kernel), List.mem_of_getElem? (i := 1387) (by decide +kernel), List.mem_of_getElem? (i := 1388) (by decide +kernel)⟩
theorem lw_p54 : lw_okq (⟨"BowlShelfModel", "hasWord", "(I)Z"⟩, 43) := ⟨⟨by decide +kernel, by decide +kernel⟩, List.mem_of_getElem? (i := 1169) (by decide +kernel), List.mem_of_getElem? (i := 1391) (by decide +kernel), List.mem_of_getElem? (i := 1392) (by decide +kernel)⟩
theorem lw_p55 : lw_okq (⟨"BowlShelfModel", "takeNumber", "(II)I"⟩, 43) := ⟨⟨by decide +kernel, by decide +kernel⟩, List.mem_of_getElem? (i := 1169) (by decide +kernel), List.mem_of_getElem? (i := 1395) (by decide +kernel), List.mem_of_getElem? (i := 1396) (by decide +kernel)⟩
theorem lw_p56 : lw_okq (⟨"BowlShelfModel", "readShelf", "()V"⟩, 43) := ⟨⟨by decide +kernel, by decide +kernel⟩, List.mem_of_getElem? (i := 1169) (by decide +kernel), List.mem_of_getElem? (i := 1399) (by decide +kernel), List.mem_of_getElem? (i := 1400) (by decide +kernel)⟩
theorem lw_p57 : lw_okq (⟨"BowlShelfModel", "readNest", "()V"⟩, 43) := ⟨⟨by decide +kernel, by decide +kernel⟩, List.mem_of_getElem? (i := 1169) (by decide +kernel), List.mem_of_getElem? (i := 1403) (by decide +kernel), List.mem_of_getElem? (i := 1404) (by decide +kernel)⟩
theorem lw_p58 : lw_okq (⟨"BowlShelfModel", "all", "(I)V"⟩, 43) := ⟨⟨by decide +kernel, by decide +kernel⟩, List.mem_of_getElem? (i := 1169) (by decide +kernel), List.mem_of_getElem? (i := 1407) (by decide +kernel), List.mem_of_getElem? (i := 1408) (by decide +kernel)⟩
theorem lw_p59 : lw_okq (⟨"BowlShelfModel", "test", "(I)V"⟩, 43) := ⟨⟨by decide +kernel, by decide +kernel⟩, List.mem_of_getElem? (i := 1169) (by decide +kernel), List.mem_of_getElem? (i := 1411) (by decide +kernel), List.mem_of_getElem? (i := 1412) (by decide +kernel)⟩
theorem lw_p60 : lw_okq (⟨"BowlShelfModel", "sums", "(I)V"⟩, 43) := ⟨⟨by decide +kernel, by decide +kernel⟩, List.mem_of_getElem? (i := 1169) (by decide +kernel), List.mem_of_getElem? (i := 1415) (by decide +kernel), List.mem_of_getElem? (i := 1416) (by decide +kernel)⟩
theorem lw_p61 : lw_okq (⟨"BowlShelfModel", "products", "(I)V"⟩, 43) := ⟨⟨by decide +kernel, by decide +kernel⟩, List.mem_of_getElem? (i := 1169) (by decide +kernel), List.mem_of_getElem? (i := 1419) (by decide +kernel), List.mem_of_getElem? (i := 1420) (by decide +kernel)⟩
theorem lw_p62 : lw_okq (⟨"BowlShelfModel", "takePart", "(I)V"⟩, 43) := ⟨⟨by decide +kernel, by decide +kernel⟩, List.mem_of_getElem? (i := 1169) (by decide +kernel), List.mem_of_getElem? (i := 1423) (by decide +kernel), List.mem_of_getElem? (i := 1424) (by decide +kernel)⟩
theorem lw_p63 : lw_okq (⟨"BowlShelfModel", "isSign", "(I)Z"⟩, 43) := ⟨⟨by decide +kernel, by decide +kernel⟩, List.mem_of_getElem? (i := 1169) (by decide +kernel), List.mem_of_getElem? (i := 1427) (by decide +kernel), List.mem_of_getElem? (i := 1428) (by decide +kernel)⟩
def lw_privs_4 : List (MethodName × Nat) := [(⟨"BowlShelfModel", "readWare", "(Z)V"⟩, 43), (⟨"BowlShelfModel", "newName", "()J"⟩, 43), (⟨"BowlShelfModel", "isName", "()Z"⟩, 43), (⟨"BowlShelfModel", "nameOf", "(J)I"⟩, 43), (⟨"BowlShelfModel", "takeAfter", "(III)I"⟩, 43), (⟨"BowlShelfModel", "takeWord", "(I)V"⟩, 43), (⟨"BowlShelfModel", "hasWord", "(I)Z"⟩, 43), (⟨"BowlShelfModel", "takeNumber", "(II)I"⟩, 43), (⟨"BowlShelfModel", "readShelf", "()V"⟩, 43), (⟨"BowlShelfModel", "readNest", "()V"⟩, 43), (⟨"BowlShelfModel", "all", "(I)V"⟩, 43), (⟨"BowlShelfModel", "test", "(I)V"⟩, 43), (⟨"BowlShelfModel", "sums", "(I)V"⟩, 43), (⟨"BowlShelfModel", "products", "(I)V"⟩, 43), (⟨"BowlShelfModel", "takePart", "(I)V"⟩, 43), (⟨"BowlShelfModel", "isSign", "(I)Z"⟩, 43)]
theorem lw_r4 : ∀ q ∈ lw_privs_4, lw_okq q := List.forall_mem_cons.mpr ⟨lw_p48, List.forall_mem_cons.mpr ⟨lw_p49, List.forall_mem_cons.mpr ⟨lw_p50, List.forall_mem_cons.mpr ⟨lw_p51, List.forall_mem_cons.mpr ⟨lw_p52, List.forall_mem_cons.mpr ⟨lw_p53, List.forall_mem_cons.mpr ⟨lw_p54, List.forall_mem_cons.mpr ⟨lw_p55, List.forall_mem_cons.mpr ⟨lw_p56, List.forall_mem_cons.mpr ⟨lw_p57, List.forall_mem_cons.mpr ⟨lw_p58, List.forall_mem_cons.mpr ⟨lw_p59, List.forall_mem_cons.mpr ⟨lw_p60, List.forall_mem_cons.mpr ⟨lw_p61, List.forall_mem_cons.mpr ⟨lw_p62, List.forall_mem_cons.mpr ⟨lw_p63, fun _ h => absurd h List.not_mem_nil⟩⟩⟩⟩⟩⟩⟩⟩⟩⟩⟩⟩⟩⟩⟩⟩
theorem lw_p64 : lw_okq (⟨"BowlShelfModel", "emit", "(II)V"⟩, 43) := ⟨⟨by decide +kernel, by decide +kernel⟩, List.mem_of_getElem? (i := 1169) (by decide +kernel), List.mem_of_getElem? (i := 1431) (by decide +kernel), List.mem_of_getElem? (i := 1432) (by decide +kernel)⟩
theorem lw_p65 : lw_okq (⟨"BowlShelfModel", "hasSign", "(I)Z"⟩, 43) := ⟨⟨by decide +kernel, by decide +kernel⟩, List.mem_of_getElem? (i := 1169) (by decide +kernel), List.mem_of_getElem? (i := 1435) (by decide +kernel), List.mem_of_getElem? (i := 1436) (by decide +kernel)⟩
theorem lw_p66 : lw_okq (⟨"BowlShelfModel", "takeSign", "(I)V"⟩, 43) := ⟨⟨by decide +kernel, by decide +kernel⟩, List.mem_of_getElem? (i := 1169) (by decide +kernel), List.mem_of_getElem? (i := 1439) (by decide +kernel), List.mem_of_getElem? (i := 1440) (by decide +kernel)⟩
theorem lw_p67 : lw_okq (⟨"BowlShelfModel", "readOf", "(I)V"⟩, 43) := ⟨⟨by decide +kernel, by decide +kernel⟩, List.mem_of_getElem? (i := 1169) (by decide +kernel), List.mem_of_getElem? (i := 1443) (by decide +kernel), List.mem_of_getElem? (i := 1444) (by decide +kernel)⟩
theorem lw_p68 : lw_okq (⟨"BowlShelfModel", "isWare", "(I)Z"⟩, 43) := ⟨⟨by decide +kernel, by decide +kernel⟩, List.mem_of_getElem? (i := 1169) (by decide +kernel), List.mem_of_getElem? (i := 1451) (by decide +kernel), List.mem_of_getElem? (i := 1452) (by decide +kernel)⟩
theorem lw_p69 : lw_okq (⟨"BowlShelfModel", "wares", "()I"⟩, 43) := ⟨⟨by decide +kernel, by decide +kernel⟩, List.mem_of_getElem? (i := 1169) (by decide +kernel), List.mem_of_getElem? (i := 1455) (by decide +kernel), List.mem_of_getElem? (i := 1456) (by decide +kernel)⟩
theorem lw_p70 : lw_okq (⟨"BowlShelfModel", "wareOf", "(II)I"⟩, 43) := ⟨⟨by decide +kernel, by decide +kernel⟩, List.mem_of_getElem? (i := 1169) (by decide +kernel), List.mem_of_getElem? (i := 1462) (by decide +kernel), List.mem_of_getElem? (i := 1463) (by decide +kernel)⟩
theorem lw_p71 : lw_okq (⟨"BowlShelfModel", "mayOn", "(II)Z"⟩, 43) := ⟨⟨by decide +kernel, by decide +kernel⟩, List.mem_of_getElem? (i := 1169) (by decide +kernel), List.mem_of_getElem? (i := 1470) (by decide +kernel), List.mem_of_getElem? (i := 1471) (by decide +kernel)⟩
theorem lw_p72 : lw_okq (⟨"BowlShelfModel", "worthAt", "(I)I"⟩, 43) := ⟨⟨by decide +kernel, by decide +kernel⟩, List.mem_of_getElem? (i := 1169) (by decide +kernel), List.mem_of_getElem? (i := 1474) (by decide +kernel), List.mem_of_getElem? (i := 1475) (by decide +kernel)⟩
theorem lw_p73 : lw_okq (⟨"BowlShelfModel", "whyNotPut", "(IIII)I"⟩, 43) := ⟨⟨by decide +kernel, by decide +kernel⟩, List.mem_of_getElem? (i := 1169) (by decide +kernel), List.mem_of_getElem? (i := 1485) (by decide +kernel), List.mem_of_getElem? (i := 1486) (by decide +kernel)⟩
theorem lw_p74 : lw_okq (⟨"BowlShelfModel", "isShelf", "(I)Z"⟩, 43) := ⟨⟨by decide +kernel, by decide +kernel⟩, List.mem_of_getElem? (i := 1169) (by decide +kernel), List.mem_of_getElem? (i := 1489) (by decide +kernel), List.mem_of_getElem? (i := 1490) (by decide +kernel)⟩
theorem lw_p75 : lw_okq (⟨"BowlShelfModel", "shelves", "()I"⟩, 43) := ⟨⟨by decide +kernel, by decide +kernel⟩, List.mem_of_getElem? (i := 1169) (by decide +kernel), List.mem_of_getElem? (i := 1493) (by decide +kernel), List.mem_of_getElem? (i := 1494) (by decide +kernel)⟩
theorem lw_p76 : lw_okq (⟨"BowlShelfModel", "isStack", "(III)Z"⟩, 43) := ⟨⟨by decide +kernel, by decide +kernel⟩, List.mem_of_getElem? (i := 1169) (by decide +kernel), List.mem_of_getElem? (i := 1497) (by decide +kernel), List.mem_of_getElem? (i := 1498) (by decide +kernel)⟩
theorem lw_p77 : lw_okq (⟨"BowlShelfModel", "stacks", "(II)I"⟩, 43) := ⟨⟨by decide +kernel, by decide +kernel⟩, List.mem_of_getElem? (i := 1169) (by decide +kernel), List.mem_of_getElem? (i := 1501) (by decide +kernel), List.mem_of_getElem? (i := 1502) (by decide +kernel)⟩
theorem lw_p78 : lw_okq (⟨"BowlShelfModel", "isIn", "(II)Z"⟩, 43) := ⟨⟨by decide +kernel, by decide +kernel⟩, List.mem_of_getElem? (i := 1169) (by decide +kernel), List.mem_of_getElem? (i := 1505) (by decide +kernel), List.mem_of_getElem? (i := 1506) (by decide +kernel)⟩
theorem lw_p79 : lw_okq (⟨"BowlShelfModel", "shelfOf", "(II)I"⟩, 43) := ⟨⟨by decide +kernel, by decide +kernel⟩, List.mem_of_getElem? (i := 1169) (by decide +kernel), List.mem_of_getElem? (i := 1512) (by decide +kernel), List.mem_of_getElem? (i := 1513) (by decide +kernel)⟩
def lw_privs_5 : List (MethodName × Nat) := [(⟨"BowlShelfModel", "emit", "(II)V"⟩, 43), (⟨"BowlShelfModel", "hasSign", "(I)Z"⟩, 43), (⟨"BowlShelfModel", "takeSign", "(I)V"⟩, 43), (⟨"BowlShelfModel", "readOf", "(I)V"⟩, 43), (⟨"BowlShelfModel", "isWare", "(I)Z"⟩, 43), (⟨"BowlShelfModel", "wares", "()I"⟩, 43), (⟨"BowlShelfModel", "wareOf", "(II)I"⟩, 43), (⟨"BowlShelfModel", "mayOn", "(II)Z"⟩, 43), (⟨"BowlShelfModel", "worthAt", "(I)I"⟩, 43), (⟨"BowlShelfModel", "whyNotPut", "(IIII)I"⟩, 43), (⟨"BowlShelfModel", "isShelf", "(I)Z"⟩, 43), (⟨"BowlShelfModel", "shelves", "()I"⟩, 43), (⟨"BowlShelfModel", "isStack", "(III)Z"⟩, 43), (⟨"BowlShelfModel", "stacks", "(II)I"⟩, 43), (⟨"BowlShelfModel", "isIn", "(II)Z"⟩, 43), (⟨"BowlShelfModel", "shelfOf", "(II)I"⟩, 43)]
theorem lw_r5 : ∀ q ∈ lw_privs_5, lw_okq q := List.forall_mem_cons.mpr ⟨lw_p64, List.forall_mem_cons.mpr ⟨lw_p65, List.forall_mem_cons.mpr ⟨lw_p66, List.forall_mem_cons.mpr ⟨lw_p67, List.forall_mem_cons.mpr ⟨lw_p68, List.forall_mem_cons.mpr ⟨lw_p69, List.forall_mem_cons.mpr ⟨lw_p70, List.forall_mem_cons.mpr ⟨lw_p71, List.forall_mem_cons.mpr ⟨lw_p72, List.forall_mem_cons.mpr ⟨lw_p73, List.forall_mem_cons.mpr ⟨lw_p74, List.forall_mem_cons.mpr ⟨lw_p75, List.forall_mem_cons.mpr ⟨lw_p76, List.forall_mem_cons.mpr ⟨lw_p77, List.forall_mem_cons.mpr ⟨lw_p78, List.forall_mem_cons.mpr ⟨lw_p79, fun _ h => absurd h List.not_mem_nil⟩⟩⟩⟩⟩⟩⟩⟩⟩⟩⟩⟩⟩⟩⟩⟩
theorem lw_p80 : lw_okq (⟨"BowlShelfModel", "takesRow", "(I)V"⟩, 43) := ⟨⟨by decide +kernel, by decide +kernel⟩, List.mem_of_getElem? (i := 1169) (by decide +kernel), List.mem_of_getElem? (i := 1516) (by decide +kernel), List.mem_of_getElem? (i := 1517) (by decide +kernel)⟩
theorem lw_p81 : lw_okq (⟨"BowlShelfModel", "whyNot", "(I)I"⟩, 43) := ⟨⟨by decide +kernel, by decide +kernel⟩, List.mem_of_getElem? (i := 1169) (by decide +kernel), List.mem_of_getElem? (i := 1520) (by decide +kernel), List.mem_of_getElem? (i := 1521) (by decide +kernel)⟩
theorem lw_p82 : lw_okq (⟨"BowlShelfModel", "highest", "()I"⟩, 43) := ⟨⟨by decide +kernel, by decide +kernel⟩, List.mem_of_getElem? (i := 1169) (by decide +kernel), List.mem_of_getElem? (i := 1524) (by decide +kernel), List.mem_of_getElem? (i := 1525) (by decide +kernel)⟩
theorem lw_p83 : lw_okq (⟨"BowlShelfModel", "footAt", "(I)I"⟩, 43) := ⟨⟨by decide +kernel, by decide +kernel⟩, List.mem_of_getElem? (i := 1169) (by decide +kernel), List.mem_of_getElem? (i := 1528) (by decide +kernel), List.mem_of_getElem? (i := 1529) (by decide +kernel)⟩
theorem lw_p84 : lw_okq (⟨"BowlShelfModel", "rises", "(II)I"⟩, 43) := ⟨⟨by decide +kernel, by decide +kernel⟩, List.mem_of_getElem? (i := 1169) (by decide +kernel), List.mem_of_getElem? (i := 1532) (by decide +kernel), List.mem_of_getElem? (i := 1533) (by decide +kernel)⟩
theorem lw_p85 : lw_okq (⟨"BowlShelfModel", "puts", "(IIII)V"⟩, 43) := ⟨⟨by decide +kernel, by decide +kernel⟩, List.mem_of_getElem? (i := 1169) (by decide +kernel), List.mem_of_getElem? (i := 1536) (by decide +kernel), List.mem_of_getElem? (i := 1537) (by decide +kernel)⟩
theorem lw_p86 : lw_okq (⟨"BowlShelfModel", "costOf", "(II)I"⟩, 43) := ⟨⟨by decide +kernel, by decide +kernel⟩, List.mem_of_getElem? (i := 1169) (by decide +kernel), List.mem_of_getElem? (i := 1540) (by decide +kernel), List.mem_of_getElem? (i := 1541) (by decide +kernel)⟩
theorem lw_p87 : lw_okq (⟨"BowlShelfModel", "takesWithout", "(I)V"⟩, 43) := ⟨⟨by decide +kernel, by decide +kernel⟩, List.mem_of_getElem? (i := 1169) (by decide +kernel), List.mem_of_getElem? (i := 1548) (by decide +kernel), List.mem_of_getElem? (i := 1549) (by decide +kernel)⟩
theorem lw_p88 : lw_okq (⟨"BowlShelfModel", "liftCost", "(I)I"⟩, 43) := ⟨⟨by decide +kernel, by decide +kernel⟩, List.mem_of_getElem? (i := 1169) (by decide +kernel), List.mem_of_getElem? (i := 1552) (by decide +kernel), List.mem_of_getElem? (i := 1553) (by decide +kernel)⟩
theorem lw_p89 : lw_okq (⟨"BowlShelfModel", "laysRow", "(I)V"⟩, 43) := ⟨⟨by decide +kernel, by decide +kernel⟩, List.mem_of_getElem? (i := 1169) (by decide +kernel), List.mem_of_getElem? (i := 1556) (by decide +kernel), List.mem_of_getElem? (i := 1557) (by decide +kernel)⟩
theorem lw_p90 : lw_okq (⟨"BowlShelfModel", "goesAway", "(III)V"⟩, 43) := ⟨⟨by decide +kernel, by decide +kernel⟩, List.mem_of_getElem? (i := 1169) (by decide +kernel), List.mem_of_getElem? (i := 1560) (by decide +kernel), List.mem_of_getElem? (i := 1561) (by decide +kernel)⟩
theorem lw_p91 : lw_okq (⟨"BowlShelfModel", "find", "()V"⟩, 43) := ⟨⟨by decide +kernel, by decide +kernel⟩, List.mem_of_getElem? (i := 1169) (by decide +kernel), List.mem_of_getElem? (i := 1596) (by decide +kernel), List.mem_of_getElem? (i := 1597) (by decide +kernel)⟩
theorem lw_p92 : lw_okq (⟨"BowlShelfModel", "findTall", "(I)V"⟩, 43) := ⟨⟨by decide +kernel, by decide +kernel⟩, List.mem_of_getElem? (i := 1169) (by decide +kernel), List.mem_of_getElem? (i := 1600) (by decide +kernel), List.mem_of_getElem? (i := 1601) (by decide +kernel)⟩
theorem lw_p93 : lw_okq (⟨"BowlShelfModel", "tallOn", "(II)I"⟩, 43) := ⟨⟨by decide +kernel, by decide +kernel⟩, List.mem_of_getElem? (i := 1169) (by decide +kernel), List.mem_of_getElem? (i := 1604) (by decide +kernel), List.mem_of_getElem? (i := 1605) (by decide +kernel)⟩
theorem lw_p94 : lw_okq (⟨"BowlShelfModel", "isRound", "()Z"⟩, 43) := ⟨⟨by decide +kernel, by decide +kernel⟩, List.mem_of_getElem? (i := 1169) (by decide +kernel), List.mem_of_getElem? (i := 1613) (by decide +kernel), List.mem_of_getElem? (i := 1614) (by decide +kernel)⟩
theorem lw_p95 : lw_okq (⟨"BowlShelfModel", "findApart", "()I"⟩, 43) := ⟨⟨by decide +kernel, by decide +kernel⟩, List.mem_of_getElem? (i := 1169) (by decide +kernel), List.mem_of_getElem? (i := 1617) (by decide +kernel), List.mem_of_getElem? (i := 1618) (by decide +kernel)⟩
def lw_privs_6 : List (MethodName × Nat) := [(⟨"BowlShelfModel", "takesRow", "(I)V"⟩, 43), (⟨"BowlShelfModel", "whyNot", "(I)I"⟩, 43), (⟨"BowlShelfModel", "highest", "()I"⟩, 43), (⟨"BowlShelfModel", "footAt", "(I)I"⟩, 43), (⟨"BowlShelfModel", "rises", "(II)I"⟩, 43), (⟨"BowlShelfModel", "puts", "(IIII)V"⟩, 43), (⟨"BowlShelfModel", "costOf", "(II)I"⟩, 43), (⟨"BowlShelfModel", "takesWithout", "(I)V"⟩, 43), (⟨"BowlShelfModel", "liftCost", "(I)I"⟩, 43), (⟨"BowlShelfModel", "laysRow", "(I)V"⟩, 43), (⟨"BowlShelfModel", "goesAway", "(III)V"⟩, 43), (⟨"BowlShelfModel", "find", "()V"⟩, 43), (⟨"BowlShelfModel", "findTall", "(I)V"⟩, 43), (⟨"BowlShelfModel", "tallOn", "(II)I"⟩, 43), (⟨"BowlShelfModel", "isRound", "()Z"⟩, 43), (⟨"BowlShelfModel", "findApart", "()I"⟩, 43)]
theorem lw_r6 : ∀ q ∈ lw_privs_6, lw_okq q := List.forall_mem_cons.mpr ⟨lw_p80, List.forall_mem_cons.mpr ⟨lw_p81, List.forall_mem_cons.mpr ⟨lw_p82, List.forall_mem_cons.mpr ⟨lw_p83, List.forall_mem_cons.mpr ⟨lw_p84, List.forall_mem_cons.mpr ⟨lw_p85, List.forall_mem_cons.mpr ⟨lw_p86, List.forall_mem_cons.mpr ⟨lw_p87, List.forall_mem_cons.mpr ⟨lw_p88, List.forall_mem_cons.mpr ⟨lw_p89, List.forall_mem_cons.mpr ⟨lw_p90, List.forall_mem_cons.mpr ⟨lw_p91, List.forall_mem_cons.mpr ⟨lw_p92, List.forall_mem_cons.mpr ⟨lw_p93, List.forall_mem_cons.mpr ⟨lw_p94, List.forall_mem_cons.mpr ⟨lw_p95, fun _ h => absurd h List.not_mem_nil⟩⟩⟩⟩⟩⟩⟩⟩⟩⟩⟩⟩⟩⟩⟩⟩
theorem lw_p96 : lw_okq (⟨"BowlShelfModel", "areApart", "(I)Z"⟩, 43) := ⟨⟨by decide +kernel, by decide +kernel⟩, List.mem_of_getElem? (i := 1169) (by decide +kernel), List.mem_of_getElem? (i := 1624) (by decide +kernel), List.mem_of_getElem? (i := 1625) (by decide +kernel)⟩
theorem lw_p97 : lw_okq (⟨"BowlShelfModel", "areChained", "(II)Z"⟩, 43) := ⟨⟨by decide +kernel, by decide +kernel⟩, List.mem_of_getElem? (i := 1169) (by decide +kernel), List.mem_of_getElem? (i := 1628) (by decide +kernel), List.mem_of_getElem? (i := 1629) (by decide +kernel)⟩
theorem lw_p98 : lw_okq (⟨"BowlShelfModel", "parts", "(III)Z"⟩, 43) := ⟨⟨by decide +kernel, by decide +kernel⟩, List.mem_of_getElem? (i := 1169) (by decide +kernel), List.mem_of_getElem? (i := 1636) (by decide +kernel), List.mem_of_getElem? (i := 1637) (by decide +kernel)⟩
theorem lw_p99 : lw_okq (⟨"BowlShelfModel", "canStand", "(II)Z"⟩, 43) := ⟨⟨by decide +kernel, by decide +kernel⟩, List.mem_of_getElem? (i := 1169) (by decide +kernel), List.mem_of_getElem? (i := 1644) (by decide +kernel), List.mem_of_getElem? (i := 1645) (by decide +kernel)⟩
theorem lw_p100 : lw_okq (⟨"BowlShelfModel", "mayFollow", "(IIIII)Z"⟩, 43) := ⟨⟨by decide +kernel, by decide +kernel⟩, List.mem_of_getElem? (i := 1169) (by decide +kernel), List.mem_of_getElem? (i := 1652) (by decide +kernel), List.mem_of_getElem? (i := 1653) (by decide +kernel)⟩
theorem lw_p101 : lw_okq (⟨"BowlShelfModel", "findGoes", "(I)Z"⟩, 43) := ⟨⟨by decide +kernel, by decide +kernel⟩, List.mem_of_getElem? (i := 1169) (by decide +kernel), List.mem_of_getElem? (i := 1660) (by decide +kernel), List.mem_of_getElem? (i := 1661) (by decide +kernel)⟩
theorem lw_p102 : lw_okq (⟨"BowlShelfModel", "copies", "(II)V"⟩, 43) := ⟨⟨by decide +kernel, by decide +kernel⟩, List.mem_of_getElem? (i := 1169) (by decide +kernel), List.mem_of_getElem? (i := 1664) (by decide +kernel), List.mem_of_getElem? (i := 1665) (by decide +kernel)⟩
theorem lw_p103 : lw_okq (⟨"BowlShelfModel", "couldGo", "(II)Z"⟩, 43) := ⟨⟨by decide +kernel, by decide +kernel⟩, List.mem_of_getElem? (i := 1169) (by decide +kernel), List.mem_of_getElem? (i := 1668) (by decide +kernel), List.mem_of_getElem? (i := 1669) (by decide +kernel)⟩
theorem lw_p104 : lw_okq (⟨"BowlShelfModel", "asks", "()I"⟩, 43) := ⟨⟨by decide +kernel, by decide +kernel⟩, List.mem_of_getElem? (i := 1169) (by decide +kernel), List.mem_of_getElem? (i := 1676) (by decide +kernel), List.mem_of_getElem? (i := 1677) (by decide +kernel)⟩
theorem lw_p105 : lw_okq (⟨"BowlShelfModel", "triesOrders", "(II)V"⟩, 43) := ⟨⟨by decide +kernel, by decide +kernel⟩, List.mem_of_getElem? (i := 1169) (by decide +kernel), List.mem_of_getElem? (i := 1692) (by decide +kernel), List.mem_of_getElem? (i := 1693) (by decide +kernel)⟩
theorem lw_p106 : lw_okq (⟨"BowlShelfModel", "takesOrder", "()V"⟩, 43) := ⟨⟨by decide +kernel, by decide +kernel⟩, List.mem_of_getElem? (i := 1169) (by decide +kernel), List.mem_of_getElem? (i := 1696) (by decide +kernel), List.mem_of_getElem? (i := 1697) (by decide +kernel)⟩
theorem lw_p107 : lw_okq (⟨"BowlShelfModel", "lifted", "(I)I"⟩, 43) := ⟨⟨by decide +kernel, by decide +kernel⟩, List.mem_of_getElem? (i := 1169) (by decide +kernel), List.mem_of_getElem? (i := 1712) (by decide +kernel), List.mem_of_getElem? (i := 1713) (by decide +kernel)⟩
def lw_privs_7 : List (MethodName × Nat) := [(⟨"BowlShelfModel", "areApart", "(I)Z"⟩, 43), (⟨"BowlShelfModel", "areChained", "(II)Z"⟩, 43), (⟨"BowlShelfModel", "parts", "(III)Z"⟩, 43), (⟨"BowlShelfModel", "canStand", "(II)Z"⟩, 43), (⟨"BowlShelfModel", "mayFollow", "(IIIII)Z"⟩, 43), (⟨"BowlShelfModel", "findGoes", "(I)Z"⟩, 43), (⟨"BowlShelfModel", "copies", "(II)V"⟩, 43), (⟨"BowlShelfModel", "couldGo", "(II)Z"⟩, 43), (⟨"BowlShelfModel", "asks", "()I"⟩, 43), (⟨"BowlShelfModel", "triesOrders", "(II)V"⟩, 43), (⟨"BowlShelfModel", "takesOrder", "()V"⟩, 43), (⟨"BowlShelfModel", "lifted", "(I)I"⟩, 43)]
theorem lw_r7 : ∀ q ∈ lw_privs_7, lw_okq q := List.forall_mem_cons.mpr ⟨lw_p96, List.forall_mem_cons.mpr ⟨lw_p97, List.forall_mem_cons.mpr ⟨lw_p98, List.forall_mem_cons.mpr ⟨lw_p99, List.forall_mem_cons.mpr ⟨lw_p100, List.forall_mem_cons.mpr ⟨lw_p101, List.forall_mem_cons.mpr ⟨lw_p102, List.forall_mem_cons.mpr ⟨lw_p103, List.forall_mem_cons.mpr ⟨lw_p104, List.forall_mem_cons.mpr ⟨lw_p105, List.forall_mem_cons.mpr ⟨lw_p106, List.forall_mem_cons.mpr ⟨lw_p107, fun _ h => absurd h List.not_mem_nil⟩⟩⟩⟩⟩⟩⟩⟩⟩⟩⟩⟩
def lw_privs : List (MethodName × Nat) := lw_privs_1 ++ (lw_privs_2 ++ (lw_privs_3 ++ (lw_privs_4 ++ (lw_privs_5 ++ (lw_privs_6 ++ (lw_privs_7))))))
def lw_tbl : List Cond := k2_sels lw_privs ++ tables_1
theorem lw_privs_ok : ∀ q ∈ lw_privs, lw_okq q := by
  show ∀ q ∈ lw_privs_1 ++ (lw_privs_2 ++ (lw_privs_3 ++ (lw_privs_4 ++ (lw_privs_5 ++ (lw_privs_6 ++ (lw_privs_7)))))), lw_okq q
  exact List.forall_mem_append.mpr ⟨lw_r1, List.forall_mem_append.mpr ⟨lw_r2, List.forall_mem_append.mpr ⟨lw_r3, List.forall_mem_append.mpr ⟨lw_r4, List.forall_mem_append.mpr ⟨lw_r5, List.forall_mem_append.mpr ⟨lw_r6, lw_r7⟩⟩⟩⟩⟩⟩
/-! ===== BEGIN words of one list among another's, by their places ===== -/
theorem goodIn_r {big : List Cond} (ws : List Cond) (ps : List Nat) (hp : ws = ps.filterMap (fun i => big[i]?)) (h : ws.all goodWord = true) : GoodIn big ws := by
  intro w hw
  have h1 := List.all_eq_true.mp h w hw
  rw [hp] at hw
  obtain ⟨i, -, hi⟩ := List.mem_filterMap.mp hw
  have hm : w ∈ big := by first | exact List.mem_of_getElem? hi | exact List.getElem?_mem hi
  exact ⟨hm, good_of_word h1⟩
theorem goodIn_app {big a b : List Cond} (ha : GoodIn big a) (hb : GoodIn big b) : GoodIn big (a ++ b) := fun w h => (List.mem_append.mp h).elim (ha w) (hb w)
theorem goodIn_ca {big a b : List Cond} {c : Cond} (ha : GoodIn big (c :: a)) (hb : GoodIn big b) : GoodIn big (c :: (a ++ b)) := fun w h => (List.mem_cons.mp h).elim (fun e => ha w (List.mem_cons.mpr (Or.inl e))) (fun h => (List.mem_append.mp h).elim (fun h => ha w (List.mem_cons.mpr (Or.inr h))) (hb w))
theorem goodIn_sub {big ws : List Cond} (hm : ∀ w ∈ ws, w ∈ big) (h : ws.all goodWord = true) : GoodIn big ws := fun w hw => ⟨hm w hw, good_of_word (List.all_eq_true.mp h w hw)⟩
/-! ===== END ===== -/
def RX0 : String := "BowlShelf$Heights"
def TX0 : u_T := fun k => match k with
  | 0 => ("BowlShelf$Heights", "known", "Z", false)
  | 1 => ("BowlShelf$Heights", "wares", "I", false)
  | 2 => ("BowlShelf$Heights", "leastRim", "[I", false)
  | 3 => ("BowlShelf$Heights", "least", "[I", false)
  | _ => ("BowlShelf$Heights", "stacks", "[I", false)
def tyX0 : Nat → FieldType := fun k => match k with
  | 0 => .boolean
  | 1 => .int
  | 2 => .array .int
  | 3 => .array .int
  | _ => .array .int
abbrev wsX00 : List Cond := u_ws RX0 TX0 5
theorem nmX0 : ∀ a, a < 5 → ∀ b, b < 5 → a ≠ b → (TX0 a).2.1 ≠ (TX0 b).2.1 := by decide +kernel
theorem tyX0_ok : ∀ k, k < 5 → parseFieldDescriptor (TX0 k).2.2.1 = some (tyX0 k) := by decide +kernel
abbrev cX0_init : ByteArray := prog_2_method_1_code
def yX0_init : MethodName := ⟨RX0, "<init>", "()V"⟩
abbrev cX0_settle : ByteArray := prog_2_method_2_code
def yX0_settle : MethodName := ⟨RX0, "settle", "(LBowlShelf$Told;)V"⟩
abbrev cX0_settleSet : ByteArray := prog_2_method_3_code
def yX0_settleSet : MethodName := ⟨RX0, "settleSet", "(LBowlShelf$Told;I)V"⟩
abbrev cX0_rimOver : ByteArray := prog_2_method_4_code
def yX0_rimOver : MethodName := ⟨RX0, "rimOver", "(LBowlShelf$Told;II)I"⟩
abbrev cX0_fewestStacks : ByteArray := prog_2_method_5_code
def yX0_fewestStacks : MethodName := ⟨RX0, "fewestStacks", "(I)I"⟩
abbrev cX0_fewestOf : ByteArray := prog_2_method_6_code
def yX0_fewestOf : MethodName := ⟨RX0, "fewestOf", "(II)I"⟩
abbrev cX0_inOrder : ByteArray := prog_2_method_7_code
def yX0_inOrder : MethodName := ⟨RX0, "inOrder", "(LBowlShelf$Told;III)I"⟩
abbrev cX0_firstOn : ByteArray := prog_2_method_8_code
def yX0_firstOn : MethodName := ⟨RX0, "firstOn", "(LBowlShelf$Told;III)I"⟩
def RX1 : String := "BowlShelf$Nests"
def TX1 : u_T := fun k => match k with
  | 0 => ("BowlShelf$Nests", "size", "I", false)
  | 1 => ("BowlShelf$Nests", "nests", "I", false)
  | 2 => ("BowlShelf$Nests", "steps", "[I", true)
  | 3 => ("BowlShelf$Nests", "end", "[I", true)
  | _ => ("BowlShelf$Nests", "values", "[I", true)
def tyX1 : Nat → FieldType := fun k => match k with
  | 0 => .int
  | 1 => .int
  | 2 => .array .int
  | 3 => .array .int
  | _ => .array .int
abbrev wsX10 : List Cond := u_ws RX1 TX1 5
theorem nmX1 : ∀ a, a < 5 → ∀ b, b < 5 → a ≠ b → (TX1 a).2.1 ≠ (TX1 b).2.1 := by decide +kernel
theorem tyX1_ok : ∀ k, k < 5 → parseFieldDescriptor (TX1 k).2.2.1 = some (tyX1 k) := by decide +kernel
abbrev cX1_init : ByteArray := prog_3_method_1_code
def yX1_init : MethodName := ⟨RX1, "<init>", "()V"⟩
abbrev cX1_empty : ByteArray := prog_3_method_2_code
def yX1_empty : MethodName := ⟨RX1, "empty", "()V"⟩
abbrev cX1_add : ByteArray := prog_3_method_3_code
def yX1_add : MethodName := ⟨RX1, "add", "(I)V"⟩
abbrev cX1_close : ByteArray := prog_3_method_4_code
def yX1_close : MethodName := ⟨RX1, "close", "()V"⟩
abbrev cX1_allow : ByteArray := prog_3_method_5_code
def yX1_allow : MethodName := ⟨RX1, "allow", "(LBowlShelf$Told;II)Z"⟩
abbrev cX1_value : ByteArray := prog_3_method_6_code
def yX1_value : MethodName := ⟨RX1, "value", "(LBowlShelf$Told;IIII)I"⟩
abbrev cX1_fact : ByteArray := prog_3_method_7_code
def yX1_fact : MethodName := ⟨RX1, "fact", "(LBowlShelf$Told;III)I"⟩
abbrev cX1_join : ByteArray := prog_3_method_8_code
def yX1_join : MethodName := ⟨RX1, "join", "(III)I"⟩
def RX2 : String := "BowlShelf$Odds"
def TX2 : u_T := fun k => match k with
  | _ => ("BowlShelf$Odds", "digits", "[J", true)
def tyX2 : Nat → FieldType := fun k => match k with
  | _ => .array .long
abbrev wsX20 : List Cond := u_ws RX2 TX2 1
theorem nmX2 : ∀ a, a < 1 → ∀ b, b < 1 → a ≠ b → (TX2 a).2.1 ≠ (TX2 b).2.1 := by decide +kernel
theorem tyX2_ok : ∀ k, k < 1 → parseFieldDescriptor (TX2 k).2.2.1 = some (tyX2 k) := by decide +kernel
abbrev cX2_init : ByteArray := prog_4_method_1_code
def yX2_init : MethodName := ⟨RX2, "<init>", "()V"⟩
abbrev cX2_power : ByteArray := prog_4_method_2_code
def yX2_power : MethodName := ⟨RX2, "power", "(II)V"⟩
def RX3 : String := "BowlShelf$Order"
def TX3 : u_T := fun k => match k with
  | 0 => ("BowlShelf$Order", "wares", "I", false)
  | 1 => ("BowlShelf$Order", "above", "[I", true)
  | 2 => ("BowlShelf$Order", "kin", "[I", true)
  | 3 => ("BowlShelf$Order", "known", "Z", false)
  | 4 => ("BowlShelf$Order", "fewest", "I", false)
  | 5 => ("BowlShelf$Order", "apart", "I", false)
  | 6 => ("BowlShelf$Order", "row", "[I", true)
  | _ => ("BowlShelf$Order", "members", "[I", true)
def tyX3 : Nat → FieldType := fun k => match k with
  | 0 => .int
  | 1 => .array .int
  | 2 => .array .int
  | 3 => .boolean
  | 4 => .int
  | 5 => .int
  | 6 => .array .int
  | _ => .array .int
abbrev wsX30 : List Cond := u_ws RX3 TX3 8
theorem nmX3 : ∀ a, a < 8 → ∀ b, b < 8 → a ≠ b → (TX3 a).2.1 ≠ (TX3 b).2.1 := by decide +kernel
theorem tyX3_ok : ∀ k, k < 8 → parseFieldDescriptor (TX3 k).2.2.1 = some (tyX3 k) := by decide +kernel
abbrev cX3_init : ByteArray := prog_5_method_1_code
def yX3_init : MethodName := ⟨RX3, "<init>", "()V"⟩
abbrev cX3_chain : ByteArray := prog_5_method_2_code
def yX3_chain : MethodName := ⟨RX3, "chain", "(LBowlShelf$Told;)V"⟩
abbrev cX3_isRound : ByteArray := prog_5_method_3_code
def yX3_isRound : MethodName := ⟨RX3, "isRound", "()Z"⟩
abbrev cX3_settle : ByteArray := prog_5_method_4_code
def yX3_settle : MethodName := ⟨RX3, "settle", "()V"⟩
abbrev cX3_findKin : ByteArray := prog_5_method_5_code
def yX3_findKin : MethodName := ⟨RX3, "findKin", "()V"⟩
abbrev cX3_findApart : ByteArray := prog_5_method_6_code
def yX3_findApart : MethodName := ⟨RX3, "findApart", "()V"⟩
abbrev cX3_isApart : ByteArray := prog_5_method_7_code
def yX3_isApart : MethodName := ⟨RX3, "isApart", "(I)Z"⟩
abbrev cX3_give : ByteArray := prog_5_method_8_code
def yX3_give : MethodName := ⟨RX3, "give", "(II)Z"⟩
def RX4 : String := "BowlShelf$Pile"
def TX4 : u_T := fun k => match k with
  | 0 => ("BowlShelf$Pile", "ware", "[I", true)
  | _ => ("BowlShelf$Pile", "size", "I", false)
def tyX4 : Nat → FieldType := fun k => match k with
  | 0 => .array .int
  | _ => .int
abbrev wsX40 : List Cond := u_ws RX4 TX4 2
theorem nmX4 : ∀ a, a < 2 → ∀ b, b < 2 → a ≠ b → (TX4 a).2.1 ≠ (TX4 b).2.1 := by decide +kernel
theorem tyX4_ok : ∀ k, k < 2 → parseFieldDescriptor (TX4 k).2.2.1 = some (tyX4 k) := by decide +kernel
abbrev cX4_init : ByteArray := prog_6_method_1_code
def yX4_init : MethodName := ⟨RX4, "<init>", "()V"⟩
abbrev cX4_take : ByteArray := prog_6_method_2_code
def yX4_take : MethodName := ⟨RX4, "take", "(LBowlShelf$Standing;II)V"⟩
abbrev cX4_add : ByteArray := prog_6_method_3_code
def yX4_add : MethodName := ⟨RX4, "add", "(I)V"⟩
abbrev cX4_remove : ByteArray := prog_6_method_4_code
def yX4_remove : MethodName := ⟨RX4, "remove", "(I)V"⟩
abbrev cX4_weightFrom : ByteArray := prog_6_method_5_code
def yX4_weightFrom : MethodName := ⟨RX4, "weightFrom", "(LBowlShelf$Told;I)I"⟩
abbrev cX4_foot : ByteArray := prog_6_method_6_code
def yX4_foot : MethodName := ⟨RX4, "foot", "(LBowlShelf$Told;I)I"⟩
abbrev cX4_highestRim : ByteArray := prog_6_method_7_code
def yX4_highestRim : MethodName := ⟨RX4, "highestRim", "(LBowlShelf$Told;)I"⟩
abbrev cX4_price : ByteArray := prog_6_method_8_code
def yX4_price : MethodName := ⟨RX4, "price", "(LBowlShelf$Told;II)I"⟩
abbrev cX4_refusal : ByteArray := prog_6_method_9_code
def yX4_refusal : MethodName := ⟨RX4, "refusal", "(LBowlShelf$Told;I)I"⟩
def RX5 : String := "BowlShelf$Reader"
def TX5 : u_T := fun k => match k with
  | 0 => ("BowlShelf$Reader", "tape", "LBowlShelf$Tape;", true)
  | 1 => ("BowlShelf$Reader", "nests", "LBowlShelf$Nests;", true)
  | 2 => ("BowlShelf$Reader", "wareName", "[J", true)
  | 3 => ("BowlShelf$Reader", "shelfName", "[J", true)
  | 4 => ("BowlShelf$Reader", "told", "LBowlShelf$Told;", false)
  | 5 => ("BowlShelf$Reader", "habits", "I", false)
  | _ => ("BowlShelf$Reader", "fault", "I", false)
def tyX5 : Nat → FieldType := fun k => match k with
  | 0 => .object "BowlShelf$Tape"
  | 1 => .object "BowlShelf$Nests"
  | 2 => .array .long
  | 3 => .array .long
  | 4 => .object "BowlShelf$Told"
  | 5 => .int
  | _ => .int
abbrev wsX50 : List Cond := u_ws RX5 TX5 7
theorem nmX5 : ∀ a, a < 7 → ∀ b, b < 7 → a ≠ b → (TX5 a).2.1 ≠ (TX5 b).2.1 := by decide +kernel
theorem tyX5_ok : ∀ k, k < 7 → parseFieldDescriptor (TX5 k).2.2.1 = some (tyX5 k) := by decide +kernel
abbrev cX5_init : ByteArray := prog_7_method_1_code
def yX5_init : MethodName := ⟨RX5, "<init>", "()V"⟩
abbrev cX5_read : ByteArray := prog_7_method_2_code
def yX5_read : MethodName := ⟨RX5, "read", "()I"⟩
abbrev cX5_exchange : ByteArray := prog_7_method_3_code
def yX5_exchange : MethodName := ⟨RX5, "exchange", "(LBowlShelf$Told;)LBowlShelf$Told;"⟩
abbrev cX5_findMay : ByteArray := prog_7_method_4_code
def yX5_findMay : MethodName := ⟨RX5, "findMay", "()V"⟩
abbrev cX5_wrong : ByteArray := prog_7_method_5_code
def yX5_wrong : MethodName := ⟨RX5, "wrong", "(I)Z"⟩
abbrev cX5_readStatement : ByteArray := prog_7_method_6_code
def yX5_readStatement : MethodName := ⟨RX5, "readStatement", "()Z"⟩
abbrev cX5_readBowl : ByteArray := prog_7_method_7_code
def yX5_readBowl : MethodName := ⟨RX5, "readBowl", "()Z"⟩
abbrev cX5_readLid : ByteArray := prog_7_method_8_code
def yX5_readLid : MethodName := ⟨RX5, "readLid", "()Z"⟩
abbrev cX5_readShelf : ByteArray := prog_7_method_9_code
def yX5_readShelf : MethodName := ⟨RX5, "readShelf", "()Z"⟩
abbrev cX5_readTop : ByteArray := prog_7_method_10_code
def yX5_readTop : MethodName := ⟨RX5, "readTop", "()Z"⟩
abbrev cX5_readHabit : ByteArray := prog_7_method_11_code
def yX5_readHabit : MethodName := ⟨RX5, "readHabit", "()Z"⟩
abbrev cX5_readNest : ByteArray := prog_7_method_12_code
def yX5_readNest : MethodName := ⟨RX5, "readNest", "()Z"⟩
abbrev cX5_readNewName : ByteArray := prog_7_method_13_code
def yX5_readNewName : MethodName := ⟨RX5, "readNewName", "([JI)Z"⟩
abbrev cX5_indexOf : ByteArray := prog_7_method_14_code
def yX5_indexOf : MethodName := ⟨RX5, "indexOf", "([JIJ)I"⟩
abbrev cX5_readWare : ByteArray := prog_7_method_15_code
def yX5_readWare : MethodName := ⟨RX5, "readWare", "(I)I"⟩
abbrev cX5_readAmount : ByteArray := prog_7_method_16_code
def yX5_readAmount : MethodName := ⟨RX5, "readAmount", "(Ljava/lang/String;II[II)Z"⟩
abbrev cX5_readNumber : ByteArray := prog_7_method_17_code
def yX5_readNumber : MethodName := ⟨RX5, "readNumber", "(II[II)Z"⟩
abbrev cX5_readSign : ByteArray := prog_7_method_18_code
def yX5_readSign : MethodName := ⟨RX5, "readSign", "(C)Z"⟩
abbrev cX5_readChain : ByteArray := prog_7_method_19_code
def yX5_readChain : MethodName := ⟨RX5, "readChain", "(II)Z"⟩
abbrev cX5_joint : ByteArray := prog_7_method_20_code
def yX5_joint : MethodName := ⟨RX5, "joint", "(I)I"⟩
abbrev cX5_readPart : ByteArray := prog_7_method_21_code
def yX5_readPart : MethodName := ⟨RX5, "readPart", "(I)Z"⟩
abbrev cX5_fact : ByteArray := prog_7_method_22_code
def yX5_fact : MethodName := ⟨RX5, "fact", "()I"⟩
def RX6 : String := "BowlShelf$Search"
def TX6 : u_T := fun k => match k with
  | 0 => ("BowlShelf$Search", "order", "[I", true)
  | 1 => ("BowlShelf$Search", "cost", "I", false)
  | 2 => ("BowlShelf$Search", "found", "Z", false)
  | 3 => ("BowlShelf$Search", "size", "I", false)
  | 4 => ("BowlShelf$Search", "height", "I", false)
  | 5 => ("BowlShelf$Search", "reach", "I", false)
  | 6 => ("BowlShelf$Search", "trial", "[I", true)
  | _ => ("BowlShelf$Search", "times", "[I", true)
def tyX6 : Nat → FieldType := fun k => match k with
  | 0 => .array .int
  | 1 => .int
  | 2 => .boolean
  | 3 => .int
  | 4 => .int
  | 5 => .int
  | 6 => .array .int
  | _ => .array .int
abbrev wsX60 : List Cond := u_ws RX6 TX6 8
theorem nmX6 : ∀ a, a < 8 → ∀ b, b < 8 → a ≠ b → (TX6 a).2.1 ≠ (TX6 b).2.1 := by decide +kernel
theorem tyX6_ok : ∀ k, k < 8 → parseFieldDescriptor (TX6 k).2.2.1 = some (tyX6 k) := by decide +kernel
abbrev cX6_init : ByteArray := prog_8_method_1_code
def yX6_init : MethodName := ⟨RX6, "<init>", "()V"⟩
abbrev cX6_find : ByteArray := prog_8_method_2_code
def yX6_find : MethodName := ⟨RX6, "find", "(LBowlShelf$Told;LBowlShelf$Standing;LBowlShelf$Pile;I)Z"⟩
abbrev cX6_extend : ByteArray := prog_8_method_3_code
def yX6_extend : MethodName := ⟨RX6, "extend", "(LBowlShelf$Told;IIII)V"⟩
abbrev cX6_tryOn : ByteArray := prog_8_method_4_code
def yX6_tryOn : MethodName := ⟨RX6, "tryOn", "(LBowlShelf$Told;IIIII)V"⟩
def RX7 : String := "BowlShelf$Standing"
def TX7 : u_T := fun k => match k with
  | 0 => ("BowlShelf$Standing", "shelf", "[I", true)
  | 1 => ("BowlShelf$Standing", "stack", "[I", true)
  | 2 => ("BowlShelf$Standing", "level", "[I", true)
  | 3 => ("BowlShelf$Standing", "asking", "[I", true)
  | 4 => ("BowlShelf$Standing", "askings", "I", false)
  | 5 => ("BowlShelf$Standing", "cost", "I", false)
  | _ => ("BowlShelf$Standing", "laid", "Z", false)
def tyX7 : Nat → FieldType := fun k => match k with
  | 0 => .array .int
  | 1 => .array .int
  | 2 => .array .int
  | 3 => .array .int
  | 4 => .int
  | 5 => .int
  | _ => .boolean
abbrev wsX70 : List Cond := u_ws RX7 TX7 7
theorem nmX7 : ∀ a, a < 7 → ∀ b, b < 7 → a ≠ b → (TX7 a).2.1 ≠ (TX7 b).2.1 := by decide +kernel
theorem tyX7_ok : ∀ k, k < 7 → parseFieldDescriptor (TX7 k).2.2.1 = some (tyX7 k) := by decide +kernel
abbrev cX7_init : ByteArray := prog_9_method_1_code
def yX7_init : MethodName := ⟨RX7, "<init>", "()V"⟩
abbrev cX7_empty : ByteArray := prog_9_method_2_code
def yX7_empty : MethodName := ⟨RX7, "empty", "()V"⟩
abbrev cX7_copy : ByteArray := prog_9_method_3_code
def yX7_copy : MethodName := ⟨RX7, "copy", "(LBowlShelf$Standing;)V"⟩
abbrev cX7_isOut : ByteArray := prog_9_method_4_code
def yX7_isOut : MethodName := ⟨RX7, "isOut", "(I)Z"⟩
abbrev cX7_outOf : ByteArray := prog_9_method_5_code
def yX7_outOf : MethodName := ⟨RX7, "outOf", "(I)I"⟩
abbrev cX7_stacks : ByteArray := prog_9_method_6_code
def yX7_stacks : MethodName := ⟨RX7, "stacks", "(I)I"⟩
abbrev cX7_stands : ByteArray := prog_9_method_7_code
def yX7_stands : MethodName := ⟨RX7, "stands", "(III)Z"⟩
abbrev cX7_size : ByteArray := prog_9_method_8_code
def yX7_size : MethodName := ⟨RX7, "size", "(II)I"⟩
abbrev cX7_add : ByteArray := prog_9_method_9_code
def yX7_add : MethodName := ⟨RX7, "add", "(III)V"⟩
abbrev cX7_remove : ByteArray := prog_9_method_10_code
def yX7_remove : MethodName := ⟨RX7, "remove", "(I)V"⟩
abbrev cX7_sinkAbove : ByteArray := prog_9_method_11_code
def yX7_sinkAbove : MethodName := ⟨RX7, "sinkAbove", "(I)V"⟩
abbrev cX7_raise : ByteArray := prog_9_method_12_code
def yX7_raise : MethodName := ⟨RX7, "raise", "(I)V"⟩
abbrev cX7_move : ByteArray := prog_9_method_13_code
def yX7_move : MethodName := ⟨RX7, "move", "(III)V"⟩
abbrev cX7_closeGap : ByteArray := prog_9_method_14_code
def yX7_closeGap : MethodName := ⟨RX7, "closeGap", "(II)V"⟩
abbrev cX7_lifts : ByteArray := prog_9_method_15_code
def yX7_lifts : MethodName := ⟨RX7, "lifts", "(I)I"⟩
abbrev cX7_timesAsked : ByteArray := prog_9_method_16_code
def yX7_timesAsked : MethodName := ⟨RX7, "timesAsked", "(I)I"⟩
def RX8 : String := "BowlShelf$Tape"
def TX8 : u_T := fun k => match k with
  | 0 => ("BowlShelf$Tape", "text", "[C", true)
  | 1 => ("BowlShelf$Tape", "length", "I", false)
  | 2 => ("BowlShelf$Tape", "next", "I", false)
  | 3 => ("BowlShelf$Tape", "kind", "I", false)
  | 4 => ("BowlShelf$Tape", "place", "I", false)
  | _ => ("BowlShelf$Tape", "number", "I", false)
def tyX8 : Nat → FieldType := fun k => match k with
  | 0 => .array .char
  | 1 => .int
  | 2 => .int
  | 3 => .int
  | 4 => .int
  | _ => .int
abbrev wsX80 : List Cond := u_ws RX8 TX8 6
theorem nmX8 : ∀ a, a < 6 → ∀ b, b < 6 → a ≠ b → (TX8 a).2.1 ≠ (TX8 b).2.1 := by decide +kernel
theorem tyX8_ok : ∀ k, k < 6 → parseFieldDescriptor (TX8 k).2.2.1 = some (tyX8 k) := by decide +kernel
abbrev cX8_init : ByteArray := prog_10_method_1_code
def yX8_init : MethodName := ⟨RX8, "<init>", "()V"⟩
abbrev cX8_add : ByteArray := prog_10_method_2_code
def yX8_add : MethodName := ⟨RX8, "add", "(I)V"⟩
abbrev cX8_start : ByteArray := prog_10_method_3_code
def yX8_start : MethodName := ⟨RX8, "start", "()V"⟩
abbrev cX8_advance : ByteArray := prog_10_method_4_code
def yX8_advance : MethodName := ⟨RX8, "advance", "()V"⟩
abbrev cX8_pastBlanks : ByteArray := prog_10_method_5_code
def yX8_pastBlanks : MethodName := ⟨RX8, "pastBlanks", "(I)I"⟩
abbrev cX8_pastRun : ByteArray := prog_10_method_6_code
def yX8_pastRun : MethodName := ⟨RX8, "pastRun", "(ICC)I"⟩
abbrev cX8_valueOf : ByteArray := prog_10_method_7_code
def yX8_valueOf : MethodName := ⟨RX8, "valueOf", "(II)I"⟩
abbrev cX8_isSign : ByteArray := prog_10_method_8_code
def yX8_isSign : MethodName := ⟨RX8, "isSign", "(C)Z"⟩
abbrev cX8_isWord : ByteArray := prog_10_method_9_code
def yX8_isWord : MethodName := ⟨RX8, "isWord", "(Ljava/lang/String;)Z"⟩
abbrev cX8_code : ByteArray := prog_10_method_10_code
def yX8_code : MethodName := ⟨RX8, "code", "()J"⟩
abbrev cX8_isName : ByteArray := prog_10_method_11_code
def yX8_isName : MethodName := ⟨RX8, "isName", "()Z"⟩
def RX9 : String := "BowlShelf$Told"
def TX9 : u_T := fun k => match k with
  | 0 => ("BowlShelf$Told", "wares", "I", false)
  | 1 => ("BowlShelf$Told", "shelves", "I", false)
  | 2 => ("BowlShelf$Told", "nests", "I", false)
  | 3 => ("BowlShelf$Told", "wide", "[I", true)
  | 4 => ("BowlShelf$Told", "deep", "[I", true)
  | 5 => ("BowlShelf$Told", "weight", "[I", true)
  | 6 => ("BowlShelf$Told", "bears", "[I", true)
  | 7 => ("BowlShelf$Told", "breaks", "[I", true)
  | 8 => ("BowlShelf$Told", "habit", "[I", true)
  | 9 => ("BowlShelf$Told", "lids", "I", false)
  | 10 => ("BowlShelf$Told", "tops", "I", false)
  | 11 => ("BowlShelf$Told", "mayOn", "[I", true)
  | 12 => ("BowlShelf$Told", "height", "[I", true)
  | 13 => ("BowlShelf$Told", "reach", "[I", true)
  | _ => ("BowlShelf$Told", "room", "[I", true)
def tyX9 : Nat → FieldType := fun k => match k with
  | 0 => .int
  | 1 => .int
  | 2 => .int
  | 3 => .array .int
  | 4 => .array .int
  | 5 => .array .int
  | 6 => .array .int
  | 7 => .array .int
  | 8 => .array .int
  | 9 => .int
  | 10 => .int
  | 11 => .array .int
  | 12 => .array .int
  | 13 => .array .int
  | _ => .array .int
abbrev wsX90 : List Cond := u_ws RX9 TX9 15
theorem nmX9 : ∀ a, a < 15 → ∀ b, b < 15 → a ≠ b → (TX9 a).2.1 ≠ (TX9 b).2.1 := by decide +kernel
theorem tyX9_ok : ∀ k, k < 15 → parseFieldDescriptor (TX9 k).2.2.1 = some (tyX9 k) := by decide +kernel
abbrev cX9_init : ByteArray := prog_11_method_1_code
def yX9_init : MethodName := ⟨RX9, "<init>", "()V"⟩
abbrev cX9_empty : ByteArray := prog_11_method_2_code
def yX9_empty : MethodName := ⟨RX9, "empty", "()V"⟩
abbrev cX9_isWare : ByteArray := prog_11_method_3_code
def yX9_isWare : MethodName := ⟨RX9, "isWare", "(I)Z"⟩
abbrev cX9_isShelf : ByteArray := prog_11_method_4_code
def yX9_isShelf : MethodName := ⟨RX9, "isShelf", "(I)Z"⟩
abbrev cX9_rise : ByteArray := prog_11_method_5_code
def yX9_rise : MethodName := ⟨RX9, "rise", "(II)I"⟩
abbrev cX9_weightOf : ByteArray := prog_11_method_6_code
def yX9_weightOf : MethodName := ⟨RX9, "weightOf", "(I)I"⟩
def RX10 : String := "BowlShelf"
def TX10 : u_T := fun k => match k with
  | 0 => ("BowlShelf", "reader", "LBowlShelf$Reader;", true)
  | 1 => ("BowlShelf", "told", "LBowlShelf$Told;", false)
  | 2 => ("BowlShelf", "now", "LBowlShelf$Standing;", true)
  | 3 => ("BowlShelf", "trial", "LBowlShelf$Standing;", true)
  | 4 => ("BowlShelf", "marks", "[LBowlShelf$Standing;", true)
  | 5 => ("BowlShelf", "pile", "LBowlShelf$Pile;", true)
  | 6 => ("BowlShelf", "order", "LBowlShelf$Order;", true)
  | 7 => ("BowlShelf", "heights", "LBowlShelf$Heights;", true)
  | 8 => ("BowlShelf", "search", "LBowlShelf$Search;", true)
  | _ => ("BowlShelf", "odds", "LBowlShelf$Odds;", true)
def tyX10 : Nat → FieldType := fun k => match k with
  | 0 => .object "BowlShelf$Reader"
  | 1 => .object "BowlShelf$Told"
  | 2 => .object "BowlShelf$Standing"
  | 3 => .object "BowlShelf$Standing"
  | 4 => .array (.object "BowlShelf$Standing")
  | 5 => .object "BowlShelf$Pile"
  | 6 => .object "BowlShelf$Order"
  | 7 => .object "BowlShelf$Heights"
  | 8 => .object "BowlShelf$Search"
  | _ => .object "BowlShelf$Odds"
abbrev wsX100 : List Cond := u_ws RX10 TX10 10
theorem nmX10 : ∀ a, a < 10 → ∀ b, b < 10 → a ≠ b → (TX10 a).2.1 ≠ (TX10 b).2.1 := by decide +kernel
theorem tyX10_ok : ∀ k, k < 10 → parseFieldDescriptor (TX10 k).2.2.1 = some (tyX10 k) := by decide +kernel
abbrev cX10_init : ByteArray := prog_1_method_1_code
def yX10_init : MethodName := ⟨RX10, "<init>", "()V"⟩
abbrev cX10_feed : ByteArray := prog_1_method_2_code
def yX10_feed : MethodName := ⟨RX10, "feed", "(JJJ)I"⟩
abbrev cX10_feedBytes : ByteArray := prog_1_method_3_code
def yX10_feedBytes : MethodName := ⟨RX10, "feedBytes", "(J)V"⟩
abbrev cX10_cupboard : ByteArray := prog_1_method_4_code
def yX10_cupboard : MethodName := ⟨RX10, "cupboard", "()I"⟩
abbrev cX10_ware : ByteArray := prog_1_method_5_code
def yX10_ware : MethodName := ⟨RX10, "ware", "(II)I"⟩
abbrev cX10_shelf : ByteArray := prog_1_method_6_code
def yX10_shelf : MethodName := ⟨RX10, "shelf", "(II)I"⟩
abbrev cX10_may : ByteArray := prog_1_method_7_code
def yX10_may : MethodName := ⟨RX10, "may", "(II)I"⟩
abbrev cX10_put : ByteArray := prog_1_method_8_code
def yX10_put : MethodName := ⟨RX10, "put", "(III)I"⟩
abbrev cX10_refusal : ByteArray := prog_1_method_9_code
def yX10_refusal : MethodName := ⟨RX10, "refusal", "(LBowlShelf$Standing;III)I"⟩
abbrev cX10_draw : ByteArray := prog_1_method_10_code
def yX10_draw : MethodName := ⟨RX10, "draw", "(I)I"⟩
abbrev cX10_carry : ByteArray := prog_1_method_11_code
def yX10_carry : MethodName := ⟨RX10, "carry", "(III)I"⟩
abbrev cX10_isStack : ByteArray := prog_1_method_12_code
def yX10_isStack : MethodName := ⟨RX10, "isStack", "(II)Z"⟩
abbrev cX10_where : ByteArray := prog_1_method_13_code
def yX10_where : MethodName := ⟨RX10, "where", "(II)I"⟩
abbrev cX10_at : ByteArray := prog_1_method_14_code
def yX10_at : MethodName := ⟨RX10, "at", "(III)I"⟩
abbrev cX10_stack : ByteArray := prog_1_method_15_code
def yX10_stack : MethodName := ⟨RX10, "stack", "(III)I"⟩
abbrev cX10_lift : ByteArray := prog_1_method_16_code
def yX10_lift : MethodName := ⟨RX10, "lift", "(I)I"⟩
abbrev cX10_price : ByteArray := prog_1_method_17_code
def yX10_price : MethodName := ⟨RX10, "price", "(LBowlShelf$Standing;I)I"⟩
abbrev cX10_cost : ByteArray := prog_1_method_18_code
def yX10_cost : MethodName := ⟨RX10, "cost", "()I"⟩
abbrev cX10_through : ByteArray := prog_1_method_19_code
def yX10_through : MethodName := ⟨RX10, "through", "(II)I"⟩
abbrev cX10_rows : ByteArray := prog_1_method_20_code
def yX10_rows : MethodName := ⟨RX10, "rows", "(I)I"⟩
abbrev cX10_rowOf : ByteArray := prog_1_method_21_code
def yX10_rowOf : MethodName := ⟨RX10, "rowOf", "(I)I"⟩
abbrev cX10_isHeight : ByteArray := prog_1_method_22_code
def yX10_isHeight : MethodName := ⟨RX10, "isHeight", "(I)Z"⟩
abbrev cX10_needed : ByteArray := prog_1_method_23_code
def yX10_needed : MethodName := ⟨RX10, "needed", "(I)I"⟩
abbrev cX10_sorted : ByteArray := prog_1_method_24_code
def yX10_sorted : MethodName := ⟨RX10, "sorted", "(III)I"⟩
abbrev cX10_goes : ByteArray := prog_1_method_25_code
def yX10_goes : MethodName := ⟨RX10, "goes", "(II)I"⟩
abbrev cX10_bestPlace : ByteArray := prog_1_method_26_code
def yX10_bestPlace : MethodName := ⟨RX10, "bestPlace", "(I)I"⟩
abbrev cX10_stranded : ByteArray := prog_1_method_27_code
def yX10_stranded : MethodName := ⟨RX10, "stranded", "(LBowlShelf$Standing;)I"⟩
abbrev cX10_hasPlace : ByteArray := prog_1_method_28_code
def yX10_hasPlace : MethodName := ⟨RX10, "hasPlace", "(LBowlShelf$Standing;I)Z"⟩
abbrev cX10_ask : ByteArray := prog_1_method_29_code
def yX10_ask : MethodName := ⟨RX10, "ask", "(I)I"⟩
abbrev cX10_clear : ByteArray := prog_1_method_30_code
def yX10_clear : MethodName := ⟨RX10, "clear", "()Z"⟩
abbrev cX10_asked : ByteArray := prog_1_method_31_code
def yX10_asked : MethodName := ⟨RX10, "asked", "()I"⟩
abbrev cX10_best : ByteArray := prog_1_method_32_code
def yX10_best : MethodName := ⟨RX10, "best", "(III)I"⟩
abbrev cX10_onTop : ByteArray := prog_1_method_33_code
def yX10_onTop : MethodName := ⟨RX10, "onTop", "()I"⟩
abbrev cX10_raise : ByteArray := prog_1_method_34_code
def yX10_raise : MethodName := ⟨RX10, "raise", "(I)V"⟩
abbrev cX10_habit : ByteArray := prog_1_method_35_code
def yX10_habit : MethodName := ⟨RX10, "habit", "(I)I"⟩
abbrev cX10_divisor : ByteArray := prog_1_method_36_code
def yX10_divisor : MethodName := ⟨RX10, "divisor", "(II)I"⟩
abbrev cX10_whole : ByteArray := prog_1_method_37_code
def yX10_whole : MethodName := ⟨RX10, "whole", "(II)J"⟩
abbrev cX10_mark : ByteArray := prog_1_method_38_code
def yX10_mark : MethodName := ⟨RX10, "mark", "(IZ)Z"⟩
abbrev cX10_count : ByteArray := prog_1_method_39_code
def yX10_count : MethodName := ⟨RX10, "count", "(I)I"⟩
def RX11 : String := "BowlShelfModel"
def TX11 : u_T := fun k => match k with
  | 0 => ("BowlShelfModel", "thrown", "I", false)
  | 1 => ("BowlShelfModel", "tape", "[I", true)
  | 2 => ("BowlShelfModel", "taped", "I", false)
  | 3 => ("BowlShelfModel", "size", "I", false)
  | 4 => ("BowlShelfModel", "sort", "[I", true)
  | 5 => ("BowlShelfModel", "place", "[I", true)
  | 6 => ("BowlShelfModel", "value", "[J", true)
  | 7 => ("BowlShelfModel", "at", "I", false)
  | 8 => ("BowlShelfModel", "fault", "I", false)
  | 9 => ("BowlShelfModel", "words", "[J", true)
  | 10 => ("BowlShelfModel", "told", "[I", true)
  | 11 => ("BowlShelfModel", "op", "[I", true)
  | 12 => ("BowlShelfModel", "arg", "[I", true)
  | 13 => ("BowlShelfModel", "codes", "I", false)
  | 14 => ("BowlShelfModel", "names", "[J", true)
  | 15 => ("BowlShelfModel", "hasHabit", "[Z", true)
  | 16 => ("BowlShelfModel", "isNew", "Z", false)
  | 17 => ("BowlShelfModel", "factWords", "[I", true)
  | 18 => ("BowlShelfModel", "facts", "[I", true)
  | 19 => ("BowlShelfModel", "pile", "[I", true)
  | 20 => ("BowlShelfModel", "states", "[I", true)
  | 21 => ("BowlShelfModel", "isMarked", "[Z", true)
  | 22 => ("BowlShelfModel", "inShelf", "I", false)
  | 23 => ("BowlShelfModel", "inStack", "I", false)
  | 24 => ("BowlShelfModel", "inPlace", "I", false)
  | 25 => ("BowlShelfModel", "row", "[I", true)
  | 26 => ("BowlShelfModel", "rowMany", "I", false)
  | 27 => ("BowlShelfModel", "thr", "[Z", true)
  | 28 => ("BowlShelfModel", "mays", "[Z", true)
  | 29 => ("BowlShelfModel", "tall", "[I", true)
  | 30 => ("BowlShelfModel", "weights", "[I", true)
  | 31 => ("BowlShelfModel", "rowOfWare", "[I", true)
  | 32 => ("BowlShelfModel", "neededOf", "[I", true)
  | 33 => ("BowlShelfModel", "goShelf", "I", false)
  | 34 => ("BowlShelfModel", "goStack", "I", false)
  | 35 => ("BowlShelfModel", "goLeft", "I", false)
  | 36 => ("BowlShelfModel", "tried", "[I", true)
  | 37 => ("BowlShelfModel", "bestRow", "[I", true)
  | 38 => ("BowlShelfModel", "bestCost", "I", false)
  | 39 => ("BowlShelfModel", "bestMany", "I", false)
  | 40 => ("BowlShelfModel", "bestShelf", "I", false)
  | 41 => ("BowlShelfModel", "bestSet", "I", false)
  | _ => ("BowlShelfModel", "digits", "[J", true)
def tyX11 : Nat → FieldType := fun k => match k with
  | 0 => .int
  | 1 => .array .int
  | 2 => .int
  | 3 => .int
  | 4 => .array .int
  | 5 => .array .int
  | 6 => .array .long
  | 7 => .int
  | 8 => .int
  | 9 => .array .long
  | 10 => .array .int
  | 11 => .array .int
  | 12 => .array .int
  | 13 => .int
  | 14 => .array .long
  | 15 => .array .boolean
  | 16 => .boolean
  | 17 => .array .int
  | 18 => .array .int
  | 19 => .array .int
  | 20 => .array .int
  | 21 => .array .boolean
  | 22 => .int
  | 23 => .int
  | 24 => .int
  | 25 => .array .int
  | 26 => .int
  | 27 => .array .boolean
  | 28 => .array .boolean
  | 29 => .array .int
  | 30 => .array .int
  | 31 => .array .int
  | 32 => .array .int
  | 33 => .int
  | 34 => .int
  | 35 => .int
  | 36 => .array .int
  | 37 => .array .int
  | 38 => .int
  | 39 => .int
  | 40 => .int
  | 41 => .int
  | _ => .array .long
abbrev wsX110 : List Cond := u_ws RX11 TX11 43
theorem nmX11 : ∀ a, a < 43 → ∀ b, b < 43 → a ≠ b → (TX11 a).2.1 ≠ (TX11 b).2.1 := by decide +kernel
theorem tyX11_ok : ∀ k, k < 43 → parseFieldDescriptor (TX11 k).2.2.1 = some (tyX11 k) := by decide +kernel
abbrev cX11_thrown : ByteArray := prog_13_method_1_code
def yX11_thrown : MethodName := ⟨RX11, "thrown", "()I"⟩
abbrev cX11_feed : ByteArray := prog_13_method_2_code
def yX11_feed : MethodName := ⟨RX11, "feed", "(JJJ)I"⟩
abbrev cX11_lay : ByteArray := prog_13_method_3_code
def yX11_lay : MethodName := ⟨RX11, "lay", "(J)V"⟩
abbrev cX11_init : ByteArray := prog_13_method_4_code
def yX11_init : MethodName := ⟨RX11, "<init>", "()V"⟩
abbrev cX11_isLetter : ByteArray := prog_13_method_5_code
def yX11_isLetter : MethodName := ⟨RX11, "isLetter", "(I)Z"⟩
abbrev cX11_isDigit : ByteArray := prog_13_method_6_code
def yX11_isDigit : MethodName := ⟨RX11, "isDigit", "(I)Z"⟩
abbrev cX11_rank : ByteArray := prog_13_method_7_code
def yX11_rank : MethodName := ⟨RX11, "rank", "(I)I"⟩
abbrev cX11_isSignOf : ByteArray := prog_13_method_8_code
def yX11_isSignOf : MethodName := ⟨RX11, "isSignOf", "(I)Z"⟩
abbrev cX11_cutAll : ByteArray := prog_13_method_9_code
def yX11_cutAll : MethodName := ⟨RX11, "cutAll", "()V"⟩
abbrev cX11_wrong : ByteArray := prog_13_method_10_code
def yX11_wrong : MethodName := ⟨RX11, "wrong", "(I)V"⟩
abbrev cX11_isSign : ByteArray := prog_13_method_11_code
def yX11_isSign : MethodName := ⟨RX11, "isSign", "(I)Z"⟩
abbrev cX11_isWord : ByteArray := prog_13_method_12_code
def yX11_isWord : MethodName := ⟨RX11, "isWord", "(I)Z"⟩
abbrev cX11_takeSign : ByteArray := prog_13_method_13_code
def yX11_takeSign : MethodName := ⟨RX11, "takeSign", "(I)V"⟩
abbrev cX11_hasSign : ByteArray := prog_13_method_14_code
def yX11_hasSign : MethodName := ⟨RX11, "hasSign", "(I)Z"⟩
abbrev cX11_hasWord : ByteArray := prog_13_method_15_code
def yX11_hasWord : MethodName := ⟨RX11, "hasWord", "(I)Z"⟩
abbrev cX11_takeWord : ByteArray := prog_13_method_16_code
def yX11_takeWord : MethodName := ⟨RX11, "takeWord", "(I)V"⟩
abbrev cX11_within : ByteArray := prog_13_method_17_code
def yX11_within : MethodName := ⟨RX11, "within", "(III)Z"⟩
abbrev cX11_takeNumber : ByteArray := prog_13_method_18_code
def yX11_takeNumber : MethodName := ⟨RX11, "takeNumber", "(II)I"⟩
abbrev cX11_isName : ByteArray := prog_13_method_19_code
def yX11_isName : MethodName := ⟨RX11, "isName", "()Z"⟩
abbrev cX11_nameOf : ByteArray := prog_13_method_20_code
def yX11_nameOf : MethodName := ⟨RX11, "nameOf", "(J)I"⟩
abbrev cX11_cupboard : ByteArray := prog_13_method_21_code
def yX11_cupboard : MethodName := ⟨RX11, "cupboard", "()I"⟩
abbrev cX11_readLine : ByteArray := prog_13_method_22_code
def yX11_readLine : MethodName := ⟨RX11, "readLine", "()V"⟩
abbrev cX11_newName : ByteArray := prog_13_method_23_code
def yX11_newName : MethodName := ⟨RX11, "newName", "()J"⟩
abbrev cX11_takeAfter : ByteArray := prog_13_method_24_code
def yX11_takeAfter : MethodName := ⟨RX11, "takeAfter", "(III)I"⟩
abbrev cX11_readWare : ByteArray := prog_13_method_25_code
def yX11_readWare : MethodName := ⟨RX11, "readWare", "(Z)V"⟩
abbrev cX11_readShelf : ByteArray := prog_13_method_26_code
def yX11_readShelf : MethodName := ⟨RX11, "readShelf", "()V"⟩
abbrev cX11_readOf : ByteArray := prog_13_method_27_code
def yX11_readOf : MethodName := ⟨RX11, "readOf", "(I)V"⟩
abbrev cX11_readNest : ByteArray := prog_13_method_28_code
def yX11_readNest : MethodName := ⟨RX11, "readNest", "()V"⟩
abbrev cX11_emit : ByteArray := prog_13_method_29_code
def yX11_emit : MethodName := ⟨RX11, "emit", "(II)V"⟩
abbrev cX11_all : ByteArray := prog_13_method_30_code
def yX11_all : MethodName := ⟨RX11, "all", "(I)V"⟩
abbrev cX11_test : ByteArray := prog_13_method_31_code
def yX11_test : MethodName := ⟨RX11, "test", "(I)V"⟩
abbrev cX11_sums : ByteArray := prog_13_method_32_code
def yX11_sums : MethodName := ⟨RX11, "sums", "(I)V"⟩
abbrev cX11_products : ByteArray := prog_13_method_33_code
def yX11_products : MethodName := ⟨RX11, "products", "(I)V"⟩
abbrev cX11_takePart : ByteArray := prog_13_method_34_code
def yX11_takePart : MethodName := ⟨RX11, "takePart", "(I)V"⟩
abbrev cX11_worthAt : ByteArray := prog_13_method_35_code
def yX11_worthAt : MethodName := ⟨RX11, "worthAt", "(I)I"⟩
abbrev cX11_both : ByteArray := prog_13_method_36_code
def yX11_both : MethodName := ⟨RX11, "both", "(III)I"⟩
abbrev cX11_wares : ByteArray := prog_13_method_37_code
def yX11_wares : MethodName := ⟨RX11, "wares", "()I"⟩
abbrev cX11_shelves : ByteArray := prog_13_method_38_code
def yX11_shelves : MethodName := ⟨RX11, "shelves", "()I"⟩
abbrev cX11_wareOf : ByteArray := prog_13_method_39_code
def yX11_wareOf : MethodName := ⟨RX11, "wareOf", "(II)I"⟩
abbrev cX11_shelfOf : ByteArray := prog_13_method_40_code
def yX11_shelfOf : MethodName := ⟨RX11, "shelfOf", "(II)I"⟩
abbrev cX11_isWare : ByteArray := prog_13_method_41_code
def yX11_isWare : MethodName := ⟨RX11, "isWare", "(I)Z"⟩
abbrev cX11_isShelf : ByteArray := prog_13_method_42_code
def yX11_isShelf : MethodName := ⟨RX11, "isShelf", "(I)Z"⟩
abbrev cX11_mayOn : ByteArray := prog_13_method_43_code
def yX11_mayOn : MethodName := ⟨RX11, "mayOn", "(II)Z"⟩
abbrev cX11_rises : ByteArray := prog_13_method_44_code
def yX11_rises : MethodName := ⟨RX11, "rises", "(II)I"⟩
abbrev cX11_ware : ByteArray := prog_13_method_45_code
def yX11_ware : MethodName := ⟨RX11, "ware", "(II)I"⟩
abbrev cX11_may : ByteArray := prog_13_method_46_code
def yX11_may : MethodName := ⟨RX11, "may", "(II)I"⟩
abbrev cX11_copies : ByteArray := prog_13_method_47_code
def yX11_copies : MethodName := ⟨RX11, "copies", "(II)V"⟩
abbrev cX11_stacks : ByteArray := prog_13_method_48_code
def yX11_stacks : MethodName := ⟨RX11, "stacks", "(II)I"⟩
abbrev cX11_stackAt : ByteArray := prog_13_method_49_code
def yX11_stackAt : MethodName := ⟨RX11, "stackAt", "(III)I"⟩
abbrev cX11_isStack : ByteArray := prog_13_method_50_code
def yX11_isStack : MethodName := ⟨RX11, "isStack", "(III)Z"⟩
abbrev cX11_isIn : ByteArray := prog_13_method_51_code
def yX11_isIn : MethodName := ⟨RX11, "isIn", "(II)Z"⟩
abbrev cX11_takesRow : ByteArray := prog_13_method_52_code
def yX11_takesRow : MethodName := ⟨RX11, "takesRow", "(I)V"⟩
abbrev cX11_whyNot : ByteArray := prog_13_method_53_code
def yX11_whyNot : MethodName := ⟨RX11, "whyNot", "(I)I"⟩
abbrev cX11_footAt : ByteArray := prog_13_method_54_code
def yX11_footAt : MethodName := ⟨RX11, "footAt", "(I)I"⟩
abbrev cX11_highest : ByteArray := prog_13_method_55_code
def yX11_highest : MethodName := ⟨RX11, "highest", "()I"⟩
abbrev cX11_whyNotPut : ByteArray := prog_13_method_56_code
def yX11_whyNotPut : MethodName := ⟨RX11, "whyNotPut", "(IIII)I"⟩
abbrev cX11_costOf : ByteArray := prog_13_method_57_code
def yX11_costOf : MethodName := ⟨RX11, "costOf", "(II)I"⟩
abbrev cX11_puts : ByteArray := prog_13_method_58_code
def yX11_puts : MethodName := ⟨RX11, "puts", "(IIII)V"⟩
abbrev cX11_put : ByteArray := prog_13_method_59_code
def yX11_put : MethodName := ⟨RX11, "put", "(III)I"⟩
abbrev cX11_goesAway : ByteArray := prog_13_method_60_code
def yX11_goesAway : MethodName := ⟨RX11, "goesAway", "(III)V"⟩
abbrev cX11_liftCost : ByteArray := prog_13_method_61_code
def yX11_liftCost : MethodName := ⟨RX11, "liftCost", "(I)I"⟩
abbrev cX11_takesWithout : ByteArray := prog_13_method_62_code
def yX11_takesWithout : MethodName := ⟨RX11, "takesWithout", "(I)V"⟩
abbrev cX11_laysRow : ByteArray := prog_13_method_63_code
def yX11_laysRow : MethodName := ⟨RX11, "laysRow", "(I)V"⟩
abbrev cX11_draw : ByteArray := prog_13_method_64_code
def yX11_draw : MethodName := ⟨RX11, "draw", "(I)I"⟩
abbrev cX11_carry : ByteArray := prog_13_method_65_code
def yX11_carry : MethodName := ⟨RX11, "carry", "(III)I"⟩
abbrev cX11_shelf : ByteArray := prog_13_method_66_code
def yX11_shelf : MethodName := ⟨RX11, "shelf", "(II)I"⟩
abbrev cX11_where : ByteArray := prog_13_method_67_code
def yX11_where : MethodName := ⟨RX11, "where", "(II)I"⟩
abbrev cX11_at : ByteArray := prog_13_method_68_code
def yX11_at : MethodName := ⟨RX11, "at", "(III)I"⟩
abbrev cX11_stack : ByteArray := prog_13_method_69_code
def yX11_stack : MethodName := ⟨RX11, "stack", "(III)I"⟩
abbrev cX11_lift : ByteArray := prog_13_method_70_code
def yX11_lift : MethodName := ⟨RX11, "lift", "(I)I"⟩
abbrev cX11_cost : ByteArray := prog_13_method_71_code
def yX11_cost : MethodName := ⟨RX11, "cost", "()I"⟩
abbrev cX11_find : ByteArray := prog_13_method_72_code
def yX11_find : MethodName := ⟨RX11, "find", "()V"⟩
abbrev cX11_findTall : ByteArray := prog_13_method_73_code
def yX11_findTall : MethodName := ⟨RX11, "findTall", "(I)V"⟩
abbrev cX11_tallOn : ByteArray := prog_13_method_74_code
def yX11_tallOn : MethodName := ⟨RX11, "tallOn", "(II)I"⟩
abbrev cX11_through : ByteArray := prog_13_method_75_code
def yX11_through : MethodName := ⟨RX11, "through", "(II)I"⟩
abbrev cX11_isRound : ByteArray := prog_13_method_76_code
def yX11_isRound : MethodName := ⟨RX11, "isRound", "()Z"⟩
abbrev cX11_bits : ByteArray := prog_13_method_77_code
def yX11_bits : MethodName := ⟨RX11, "bits", "(I)I"⟩
abbrev cX11_areChained : ByteArray := prog_13_method_78_code
def yX11_areChained : MethodName := ⟨RX11, "areChained", "(II)Z"⟩
abbrev cX11_areApart : ByteArray := prog_13_method_79_code
def yX11_areApart : MethodName := ⟨RX11, "areApart", "(I)Z"⟩
abbrev cX11_findApart : ByteArray := prog_13_method_80_code
def yX11_findApart : MethodName := ⟨RX11, "findApart", "()I"⟩
abbrev cX11_rows : ByteArray := prog_13_method_81_code
def yX11_rows : MethodName := ⟨RX11, "rows", "(I)I"⟩
abbrev cX11_parts : ByteArray := prog_13_method_82_code
def yX11_parts : MethodName := ⟨RX11, "parts", "(III)Z"⟩
abbrev cX11_rowOf : ByteArray := prog_13_method_83_code
def yX11_rowOf : MethodName := ⟨RX11, "rowOf", "(I)I"⟩
abbrev cX11_canStand : ByteArray := prog_13_method_84_code
def yX11_canStand : MethodName := ⟨RX11, "canStand", "(II)Z"⟩
abbrev cX11_needed : ByteArray := prog_13_method_85_code
def yX11_needed : MethodName := ⟨RX11, "needed", "(I)I"⟩
abbrev cX11_sorted : ByteArray := prog_13_method_86_code
def yX11_sorted : MethodName := ⟨RX11, "sorted", "(III)I"⟩
abbrev cX11_mayFollow : ByteArray := prog_13_method_87_code
def yX11_mayFollow : MethodName := ⟨RX11, "mayFollow", "(IIIII)Z"⟩
abbrev cX11_couldGo : ByteArray := prog_13_method_88_code
def yX11_couldGo : MethodName := ⟨RX11, "couldGo", "(II)Z"⟩
abbrev cX11_findGoes : ByteArray := prog_13_method_89_code
def yX11_findGoes : MethodName := ⟨RX11, "findGoes", "(I)Z"⟩
abbrev cX11_goes : ByteArray := prog_13_method_90_code
def yX11_goes : MethodName := ⟨RX11, "goes", "(II)I"⟩
abbrev cX11_asks : ByteArray := prog_13_method_91_code
def yX11_asks : MethodName := ⟨RX11, "asks", "()I"⟩
abbrev cX11_ask : ByteArray := prog_13_method_92_code
def yX11_ask : MethodName := ⟨RX11, "ask", "(I)I"⟩
abbrev cX11_clear : ByteArray := prog_13_method_93_code
def yX11_clear : MethodName := ⟨RX11, "clear", "()Z"⟩
abbrev cX11_asked : ByteArray := prog_13_method_94_code
def yX11_asked : MethodName := ⟨RX11, "asked", "()I"⟩
abbrev cX11_triesOrders : ByteArray := prog_13_method_95_code
def yX11_triesOrders : MethodName := ⟨RX11, "triesOrders", "(II)V"⟩
abbrev cX11_takesOrder : ByteArray := prog_13_method_96_code
def yX11_takesOrder : MethodName := ⟨RX11, "takesOrder", "()V"⟩
abbrev cX11_best : ByteArray := prog_13_method_97_code
def yX11_best : MethodName := ⟨RX11, "best", "(III)I"⟩
abbrev cX11_onTop : ByteArray := prog_13_method_98_code
def yX11_onTop : MethodName := ⟨RX11, "onTop", "()I"⟩
abbrev cX11_habit : ByteArray := prog_13_method_99_code
def yX11_habit : MethodName := ⟨RX11, "habit", "(I)I"⟩
abbrev cX11_lifted : ByteArray := prog_13_method_100_code
def yX11_lifted : MethodName := ⟨RX11, "lifted", "(I)I"⟩
abbrev cX11_whole : ByteArray := prog_13_method_101_code
def yX11_whole : MethodName := ⟨RX11, "whole", "(II)J"⟩
abbrev cX11_mark : ByteArray := prog_13_method_102_code
def yX11_mark : MethodName := ⟨RX11, "mark", "(IZ)Z"⟩
abbrev cX11_count : ByteArray := prog_13_method_103_code
def yX11_count : MethodName := ⟨RX11, "count", "(I)I"⟩
def RJx145de : String := "java/io/Serializable"
def TJx145de : u_T := fun k => match k with
  | _ => ("", "", "", false)
def tyJx145de : Nat → FieldType := fun k => match k with
  | _ => .int
abbrev wsJx145de0 : List Cond := u_ws RJx145de TJx145de 0
theorem nmJx145de : ∀ a, a < 0 → ∀ b, b < 0 → a ≠ b → (TJx145de a).2.1 ≠ (TJx145de b).2.1 := by decide +kernel
theorem tyJx145de_ok : ∀ k, k < 0 → parseFieldDescriptor (TJx145de k).2.2.1 = some (tyJx145de k) := by decide +kernel
def RJx9f9b0 : String := "java/lang/CharSequence"
def TJx9f9b0 : u_T := fun k => match k with
  | _ => ("", "", "", false)
def tyJx9f9b0 : Nat → FieldType := fun k => match k with
  | _ => .int
abbrev wsJx9f9b00 : List Cond := u_ws RJx9f9b0 TJx9f9b0 0
theorem nmJx9f9b0 : ∀ a, a < 0 → ∀ b, b < 0 → a ≠ b → (TJx9f9b0 a).2.1 ≠ (TJx9f9b0 b).2.1 := by decide +kernel
theorem tyJx9f9b0_ok : ∀ k, k < 0 → parseFieldDescriptor (TJx9f9b0 k).2.2.1 = some (tyJx9f9b0 k) := by decide +kernel
def RJ11 : String := "java/lang/Character"
def TJ11 : u_T := fun k => match k with
  | _ => ("", "", "", false)
def tyJ11 : Nat → FieldType := fun k => match k with
  | _ => .int
abbrev wsJ110 : List Cond := u_ws RJ11 TJ11 0
theorem nmJ11 : ∀ a, a < 0 → ∀ b, b < 0 → a ≠ b → (TJ11 a).2.1 ≠ (TJ11 b).2.1 := by decide +kernel
theorem tyJ11_ok : ∀ k, k < 0 → parseFieldDescriptor (TJ11 k).2.2.1 = some (tyJ11 k) := by decide +kernel
abbrev cJ11_isValidCodePoint_9a6ad : ByteArray := prog_16_method_11_code
def yJ11_isValidCodePoint_9a6ad : MethodName := ⟨RJ11, "isValidCodePoint", "(I)Z"⟩
abbrev cJ11_highSurrogate_5068e : ByteArray := prog_16_method_28_code
def yJ11_highSurrogate_5068e : MethodName := ⟨RJ11, "highSurrogate", "(I)C"⟩
abbrev cJ11_lowSurrogate_5068e : ByteArray := prog_16_method_29_code
def yJ11_lowSurrogate_5068e : MethodName := ⟨RJ11, "lowSurrogate", "(I)C"⟩
def RJxb160c : String := "java/lang/Comparable"
def TJxb160c : u_T := fun k => match k with
  | _ => ("", "", "", false)
def tyJxb160c : Nat → FieldType := fun k => match k with
  | _ => .int
abbrev wsJxb160c0 : List Cond := u_ws RJxb160c TJxb160c 0
theorem nmJxb160c : ∀ a, a < 0 → ∀ b, b < 0 → a ≠ b → (TJxb160c a).2.1 ≠ (TJxb160c b).2.1 := by decide +kernel
theorem tyJxb160c_ok : ∀ k, k < 0 → parseFieldDescriptor (TJxb160c k).2.2.1 = some (tyJxb160c k) := by decide +kernel
def RJ6 : String := "java/lang/Integer"
def TJ6 : u_T := fun k => match k with
  | _ => ("", "", "", false)
def tyJ6 : Nat → FieldType := fun k => match k with
  | _ => .int
abbrev wsJ60 : List Cond := u_ws RJ6 TJ6 0
theorem nmJ6 : ∀ a, a < 0 → ∀ b, b < 0 → a ≠ b → (TJ6 a).2.1 ≠ (TJ6 b).2.1 := by decide +kernel
theorem tyJ6_ok : ∀ k, k < 0 → parseFieldDescriptor (TJ6 k).2.2.1 = some (tyJ6 k) := by decide +kernel
abbrev cJ6_lowestOneBit_0f7a4 : ByteArray := prog_19_method_46_code
def yJ6_lowestOneBit_0f7a4 : MethodName := ⟨RJ6, "lowestOneBit", "(I)I"⟩
abbrev cJ6_bitCount_0f7a4 : ByteArray := prog_19_method_49_code
def yJ6_bitCount_0f7a4 : MethodName := ⟨RJ6, "bitCount", "(I)I"⟩
def RJ9 : String := "java/lang/Math"
def TJ9 : u_T := fun k => match k with
  | _ => ("", "", "", false)
def tyJ9 : Nat → FieldType := fun k => match k with
  | _ => .int
abbrev wsJ90 : List Cond := u_ws RJ9 TJ9 0
theorem nmJ9 : ∀ a, a < 0 → ∀ b, b < 0 → a ≠ b → (TJ9 a).2.1 ≠ (TJ9 b).2.1 := by decide +kernel
theorem tyJ9_ok : ∀ k, k < 0 → parseFieldDescriptor (TJ9 k).2.2.1 = some (tyJ9 k) := by decide +kernel
abbrev cJ9_max_7cf53 : ByteArray := prog_20_method_65_code
def yJ9_max_7cf53 : MethodName := ⟨RJ9, "max", "(II)I"⟩
abbrev cJ9_min_7cf53 : ByteArray := prog_20_method_69_code
def yJ9_min_7cf53 : MethodName := ⟨RJ9, "min", "(II)I"⟩
def RJ0 : String := "java/lang/String"
def TJ0 : u_T := fun k => match k with
  | _ => ("", "", "", false)
def tyJ0 : Nat → FieldType := fun k => match k with
  | _ => .int
abbrev wsJ00 : List Cond := u_ws RJ0 TJ0 0
theorem nmJ0 : ∀ a, a < 0 → ∀ b, b < 0 → a ≠ b → (TJ0 a).2.1 ≠ (TJ0 b).2.1 := by decide +kernel
theorem tyJ0_ok : ∀ k, k < 0 → parseFieldDescriptor (TJ0 k).2.2.1 = some (tyJ0 k) := by decide +kernel
abbrev cJ0_length_8abf5 : ByteArray := prog_22_method_54_code
def yJ0_length_8abf5 : MethodName := ⟨RJ0, "length", "()I"⟩
abbrev cJ0_charAt_5068e : ByteArray := prog_22_method_56_code
def yJ0_charAt_5068e : MethodName := ⟨RJ0, "charAt", "(I)C"⟩
abbrev cJ0_indexOf_0f7a4 : ByteArray := prog_22_method_79_code
def yJ0_indexOf_0f7a4 : MethodName := ⟨RJ0, "indexOf", "(I)I"⟩
abbrev cJ0_indexOf_7cf53 : ByteArray := prog_22_method_80_code
def yJ0_indexOf_7cf53 : MethodName := ⟨RJ0, "indexOf", "(II)I"⟩
abbrev cJ0_coder_7d493 : ByteArray := prog_22_method_152_code
def yJ0_coder_7d493 : MethodName := ⟨RJ0, "coder", "()B"⟩
abbrev cJ0_isLatin1_aae02 : ByteArray := prog_22_method_154_code
def yJ0_isLatin1_aae02 : MethodName := ⟨RJ0, "isLatin1", "()Z"⟩
abbrev cJ0_checkIndex_df160 : ByteArray := prog_22_method_155_code
def yJ0_checkIndex_df160 : MethodName := ⟨RJ0, "checkIndex", "(II)V"⟩
abbrev cJ0_checkBoundsBeginEnd_23922 : ByteArray := prog_22_method_158_code
def yJ0_checkBoundsBeginEnd_23922 : MethodName := ⟨RJ0, "checkBoundsBeginEnd", "(III)V"⟩
def RJ1 : String := "java/lang/StringLatin1"
def TJ1 : u_T := fun k => match k with
  | _ => ("", "", "", false)
def tyJ1 : Nat → FieldType := fun k => match k with
  | _ => .int
abbrev wsJ10 : List Cond := u_ws RJ1 TJ1 0
theorem nmJ1 : ∀ a, a < 0 → ∀ b, b < 0 → a ≠ b → (TJ1 a).2.1 ≠ (TJ1 b).2.1 := by decide +kernel
theorem tyJ1_ok : ∀ k, k < 0 → parseFieldDescriptor (TJ1 k).2.2.1 = some (tyJ1 k) := by decide +kernel
abbrev cJ1_charAt_3b067 : ByteArray := prog_23_method_2_code
def yJ1_charAt_3b067 : MethodName := ⟨RJ1, "charAt", "([BI)C"⟩
abbrev cJ1_canEncode_9a6ad : ByteArray := prog_23_method_4_code
def yJ1_canEncode_9a6ad : MethodName := ⟨RJ1, "canEncode", "(I)Z"⟩
abbrev cJ1_indexOf_4cfef : ByteArray := prog_23_method_22_code
def yJ1_indexOf_4cfef : MethodName := ⟨RJ1, "indexOf", "([BIII)I"⟩
abbrev cJ1_indexOfChar_4cfef : ByteArray := prog_23_method_23_code
def yJ1_indexOfChar_4cfef : MethodName := ⟨RJ1, "indexOfChar", "([BIII)I"⟩
def RJ2 : String := "java/lang/StringUTF16"
def TJ2 : u_T := fun k => match k with
  | _ => ("", "", "", false)
def tyJ2 : Nat → FieldType := fun k => match k with
  | _ => .int
abbrev wsJ20 : List Cond := u_ws RJ2 TJ2 0
theorem nmJ2 : ∀ a, a < 0 → ∀ b, b < 0 → a ≠ b → (TJ2 a).2.1 ≠ (TJ2 b).2.1 := by decide +kernel
theorem tyJ2_ok : ∀ k, k < 0 → parseFieldDescriptor (TJ2 k).2.2.1 = some (tyJ2 k) := by decide +kernel
abbrev cJ2_getChar_3b067 : ByteArray := prog_24_method_5_code
def yJ2_getChar_3b067 : MethodName := ⟨RJ2, "getChar", "([BI)C"⟩
abbrev cJ2_length_9d52b : ByteArray := prog_24_method_6_code
def yJ2_length_9d52b : MethodName := ⟨RJ2, "length", "([B)I"⟩
abbrev cJ2_indexOf_4cfef : ByteArray := prog_24_method_40_code
def yJ2_indexOf_4cfef : MethodName := ⟨RJ2, "indexOf", "([BIII)I"⟩
abbrev cJ2_indexOfChar_4cfef : ByteArray := prog_24_method_47_code
def yJ2_indexOfChar_4cfef : MethodName := ⟨RJ2, "indexOfChar", "([BIII)I"⟩
abbrev cJ2_indexOfCharUnsafe_4cfef : ByteArray := prog_24_method_48_code
def yJ2_indexOfCharUnsafe_4cfef : MethodName := ⟨RJ2, "indexOfCharUnsafe", "([BIII)I"⟩
abbrev cJ2_indexOfSupplementary_4cfef : ByteArray := prog_24_method_49_code
def yJ2_indexOfSupplementary_4cfef : MethodName := ⟨RJ2, "indexOfSupplementary", "([BIII)I"⟩
abbrev cJ2_charAt_3b067 : ByteArray := prog_24_method_83_code
def yJ2_charAt_3b067 : MethodName := ⟨RJ2, "charAt", "([BI)C"⟩
abbrev cJ2_checkIndex_2214a : ByteArray := prog_24_method_91_code
def yJ2_checkIndex_2214a : MethodName := ⟨RJ2, "checkIndex", "(I[B)V"⟩
abbrev cJ2_checkBoundsBeginEnd_d044e : ByteArray := prog_24_method_93_code
def yJ2_checkBoundsBeginEnd_d044e : MethodName := ⟨RJ2, "checkBoundsBeginEnd", "(II[B)V"⟩
def RJ10 : String := "java/lang/System"
def TJ10 : u_T := fun k => match k with
  | _ => ("", "", "", false)
def tyJ10 : Nat → FieldType := fun k => match k with
  | _ => .int
abbrev wsJ100 : List Cond := u_ws RJ10 TJ10 0
theorem nmJ10 : ∀ a, a < 0 → ∀ b, b < 0 → a ≠ b → (TJ10 a).2.1 ≠ (TJ10 b).2.1 := by decide +kernel
theorem tyJ10_ok : ∀ k, k < 0 → parseFieldDescriptor (TJ10 k).2.2.1 = some (tyJ10 k) := by decide +kernel
def RJxfd54e : String := "java/lang/constant/Constable"
def TJxfd54e : u_T := fun k => match k with
  | _ => ("", "", "", false)
def tyJxfd54e : Nat → FieldType := fun k => match k with
  | _ => .int
abbrev wsJxfd54e0 : List Cond := u_ws RJxfd54e TJxfd54e 0
theorem nmJxfd54e : ∀ a, a < 0 → ∀ b, b < 0 → a ≠ b → (TJxfd54e a).2.1 ≠ (TJxfd54e b).2.1 := by decide +kernel
theorem tyJxfd54e_ok : ∀ k, k < 0 → parseFieldDescriptor (TJxfd54e k).2.2.1 = some (tyJxfd54e k) := by decide +kernel
def RJx3cf43 : String := "java/lang/constant/ConstantDesc"
def TJx3cf43 : u_T := fun k => match k with
  | _ => ("", "", "", false)
def tyJx3cf43 : Nat → FieldType := fun k => match k with
  | _ => .int
abbrev wsJx3cf430 : List Cond := u_ws RJx3cf43 TJx3cf43 0
theorem nmJx3cf43 : ∀ a, a < 0 → ∀ b, b < 0 → a ≠ b → (TJx3cf43 a).2.1 ≠ (TJx3cf43 b).2.1 := by decide +kernel
theorem tyJx3cf43_ok : ∀ k, k < 0 → parseFieldDescriptor (TJx3cf43 k).2.2.1 = some (tyJx3cf43 k) := by decide +kernel
def RJ7 : String := "java/util/Arrays"
def TJ7 : u_T := fun k => match k with
  | _ => ("", "", "", false)
def tyJ7 : Nat → FieldType := fun k => match k with
  | _ => .int
abbrev wsJ70 : List Cond := u_ws RJ7 TJ7 0
theorem nmJ7 : ∀ a, a < 0 → ∀ b, b < 0 → a ≠ b → (TJ7 a).2.1 ≠ (TJ7 b).2.1 := by decide +kernel
theorem tyJ7_ok : ∀ k, k < 0 → parseFieldDescriptor (TJ7 k).2.2.1 = some (tyJ7 k) := by decide +kernel
abbrev cJ7_fill_d0a16 : ByteArray := prog_29_method_101_code
def yJ7_fill_d0a16 : MethodName := ⟨RJ7, "fill", "([JJ)V"⟩
abbrev cJ7_fill_53178 : ByteArray := prog_29_method_103_code
def yJ7_fill_53178 : MethodName := ⟨RJ7, "fill", "([II)V"⟩
def RJ3 : String := "jdk/internal/util/Preconditions"
def TJ3 : u_T := fun k => match k with
  | _ => ("", "", "", false)
def tyJ3 : Nat → FieldType := fun k => match k with
  | _ => .int
abbrev wsJ30 : List Cond := u_ws RJ3 TJ3 0
theorem nmJ3 : ∀ a, a < 0 → ∀ b, b < 0 → a ≠ b → (TJ3 a).2.1 ≠ (TJ3 b).2.1 := by decide +kernel
theorem tyJ3_ok : ∀ k, k < 0 → parseFieldDescriptor (TJ3 k).2.2.1 = some (tyJ3 k) := by decide +kernel
abbrev cJ3_checkIndex_8e157 : ByteArray := prog_31_method_11_code
def yJ3_checkIndex_8e157 : MethodName := ⟨RJ3, "checkIndex", "(IILjava/util/function/BiFunction;)I"⟩
abbrev cJ3_checkFromToIndex_8c36e : ByteArray := prog_31_method_12_code
def yJ3_checkFromToIndex_8c36e : MethodName := ⟨RJ3, "checkFromToIndex", "(IIILjava/util/function/BiFunction;)I"⟩
def RL : String := "BowlShelfLaw"
abbrev cL_whole : ByteArray := method_3_code
def yL_whole : MethodName := ⟨RL, "whole", "(LBowlShelf;II[J)I"⟩
abbrev cL_law : ByteArray := code
def yL_law : MethodName := ⟨RL, "law", "([I)Z"⟩
abbrev vwCl : List vw_C := [(RX0, TX0, 5), (RX1, TX1, 5), (RX2, TX2, 1), (RX3, TX3, 8), (RX4, TX4, 2), (RX5, TX5, 7), (RX6, TX6, 8), (RX7, TX7, 7), (RX8, TX8, 6), (RX9, TX9, 15), (RX10, TX10, 10), (RX11, TX11, 43)]
end
section
def WALL : List Cond := lw_tbl.filter goodWord
theorem wl_in {w : Cond} (h : w ∈ lw_tbl) (hg : goodWord w = true) : w ∈ WALL := List.mem_filter.mpr ⟨h, hg⟩
theorem wl_tbl {w : Cond} (h : w ∈ WALL) : w ∈ lw_tbl := (List.mem_filter.mp h).1
theorem wl_good {w : Cond} (h : w ∈ WALL) : goodWord w = true := (List.mem_filter.mp h).2
theorem wq_G {w : Cond} (h : w ∈ WALL) : GoodIn WALL (w :: WALL) := fun v hv => (List.mem_cons.mp hv).elim (fun q => by rw [q]; exact ⟨h, good_of_word (wl_good h)⟩) (fun q => ⟨q, good_of_word (wl_good q)⟩)
theorem inw_0 : ∀ w ∈ u_ws RX0 TX0 5, w ∈ WALL := fun w h => wl_in ((by decide +kernel : ∀ w ∈ u_ws RX0 TX0 5, w ∈ lw_tbl) w h) ((by decide +kernel : ∀ w ∈ u_ws RX0 TX0 5, goodWord w = true) w h)
theorem inw_1 : ∀ w ∈ u_ws RX1 TX1 5, w ∈ WALL := fun w h => wl_in ((by decide +kernel : ∀ w ∈ u_ws RX1 TX1 5, w ∈ lw_tbl) w h) ((by decide +kernel : ∀ w ∈ u_ws RX1 TX1 5, goodWord w = true) w h)
theorem inw_2 : ∀ w ∈ u_ws RX2 TX2 1, w ∈ WALL := fun w h => wl_in ((by decide +kernel : ∀ w ∈ u_ws RX2 TX2 1, w ∈ lw_tbl) w h) ((by decide +kernel : ∀ w ∈ u_ws RX2 TX2 1, goodWord w = true) w h)
theorem inw_3 : ∀ w ∈ u_ws RX3 TX3 8, w ∈ WALL := fun w h => wl_in ((by decide +kernel : ∀ w ∈ u_ws RX3 TX3 8, w ∈ lw_tbl) w h) ((by decide +kernel : ∀ w ∈ u_ws RX3 TX3 8, goodWord w = true) w h)
theorem inw_4 : ∀ w ∈ u_ws RX4 TX4 2, w ∈ WALL := fun w h => wl_in ((by decide +kernel : ∀ w ∈ u_ws RX4 TX4 2, w ∈ lw_tbl) w h) ((by decide +kernel : ∀ w ∈ u_ws RX4 TX4 2, goodWord w = true) w h)
theorem inw_5 : ∀ w ∈ u_ws RX5 TX5 7, w ∈ WALL := fun w h => wl_in ((by decide +kernel : ∀ w ∈ u_ws RX5 TX5 7, w ∈ lw_tbl) w h) ((by decide +kernel : ∀ w ∈ u_ws RX5 TX5 7, goodWord w = true) w h)
theorem inw_6 : ∀ w ∈ u_ws RX6 TX6 8, w ∈ WALL := fun w h => wl_in ((by decide +kernel : ∀ w ∈ u_ws RX6 TX6 8, w ∈ lw_tbl) w h) ((by decide +kernel : ∀ w ∈ u_ws RX6 TX6 8, goodWord w = true) w h)
theorem inw_7 : ∀ w ∈ u_ws RX7 TX7 7, w ∈ WALL := fun w h => wl_in ((by decide +kernel : ∀ w ∈ u_ws RX7 TX7 7, w ∈ lw_tbl) w h) ((by decide +kernel : ∀ w ∈ u_ws RX7 TX7 7, goodWord w = true) w h)
theorem inw_8 : ∀ w ∈ u_ws RX8 TX8 6, w ∈ WALL := fun w h => wl_in ((by decide +kernel : ∀ w ∈ u_ws RX8 TX8 6, w ∈ lw_tbl) w h) ((by decide +kernel : ∀ w ∈ u_ws RX8 TX8 6, goodWord w = true) w h)
theorem inw_9 : ∀ w ∈ u_ws RX9 TX9 15, w ∈ WALL := fun w h => wl_in ((by decide +kernel : ∀ w ∈ u_ws RX9 TX9 15, w ∈ lw_tbl) w h) ((by decide +kernel : ∀ w ∈ u_ws RX9 TX9 15, goodWord w = true) w h)
theorem inw_10 : ∀ w ∈ u_ws RX10 TX10 10, w ∈ WALL := fun w h => wl_in ((by decide +kernel : ∀ w ∈ u_ws RX10 TX10 10, w ∈ lw_tbl) w h) ((by decide +kernel : ∀ w ∈ u_ws RX10 TX10 10, goodWord w = true) w h)
theorem inw_11 : ∀ w ∈ u_ws RX11 TX11 43, w ∈ WALL := fun w h => wl_in ((by decide +kernel : ∀ w ∈ u_ws RX11 TX11 43, w ∈ lw_tbl) w h) ((by decide +kernel : ∀ w ∈ u_ws RX11 TX11 43, goodWord w = true) w h)
def NX (U : State) : Prop := va_Nw (.methodLinkNest "BowlShelf" 9 ⟨"BowlShelf$Reader", "<init>", "()V"⟩ "BowlShelf") U ∧ va_Nw (.methodLinkNest "BowlShelf$Reader" 11 ⟨"BowlShelf$Tape", "<init>", "()V"⟩ "BowlShelf") U ∧ va_Nw (.methodLinkNest "BowlShelf$Reader" 20 ⟨"BowlShelf$Nests", "<init>", "()V"⟩ "BowlShelf") U ∧ va_Nw (.methodLinkNest "BowlShelf$Reader" 34 ⟨"BowlShelf$Told", "<init>", "()V"⟩ "BowlShelf") U ∧ va_Nw (.methodLinkNest "BowlShelf" 18 ⟨"BowlShelf$Told", "<init>", "()V"⟩ "BowlShelf") U ∧ va_Nw (.methodLinkNest "BowlShelf" 39 ⟨"BowlShelf$Pile", "<init>", "()V"⟩ "BowlShelf") U ∧ va_Nw (.methodLinkNest "BowlShelf" 46 ⟨"BowlShelf$Order", "<init>", "()V"⟩ "BowlShelf") U ∧ va_Nw (.methodLinkNest "BowlShelf" 53 ⟨"BowlShelf$Heights", "<init>", "()V"⟩ "BowlShelf") U ∧ va_Nw (.methodLinkNest "BowlShelf" 60 ⟨"BowlShelf$Search", "<init>", "()V"⟩ "BowlShelf") U ∧ va_Nw (.methodLinkNest "BowlShelf" 67 ⟨"BowlShelf$Odds", "<init>", "()V"⟩ "BowlShelf") U ∧ va_AO "BowlShelf$Standing" U
theorem NX.warm {s U : State} (hW : s.WarmedH U.vm) (h : NX s) : NX U := by
  obtain ⟨h0, h1, h2, h3, h4, h5, h6, h7, h8, h9, h10⟩ := h
  exact ⟨va_Nw.warmM hW h0, va_Nw.warmM hW h1, va_Nw.warmM hW h2, va_Nw.warmM hW h3, va_Nw.warmM hW h4, va_Nw.warmM hW h5, va_Nw.warmM hW h6, va_Nw.warmM hW h7, va_Nw.warmM hW h8, va_Nw.warmM hW h9, va_AO.moved hW.alike h10⟩
theorem NX.same {u U : State} (hv : u.vm = U.vm) (h : NX u) : NX U := by
  obtain ⟨h0, h1, h2, h3, h4, h5, h6, h7, h8, h9, h10⟩ := h
  exact ⟨va_Nw.same rfl hv h0, va_Nw.same rfl hv h1, va_Nw.same rfl hv h2, va_Nw.same rfl hv h3, va_Nw.same rfl hv h4, va_Nw.same rfl hv h5, va_Nw.same rfl hv h6, va_Nw.same rfl hv h7, va_Nw.same rfl hv h8, va_Nw.same rfl hv h9, va_AO.moved (by rw [hv]; exact Vm.Alike.refl _) h10⟩
def CX (p : Program) (R : Room) (s : State) (m : MethodId) (args : Array Value) (meth : Method) (c : Code) (cc : ByteArray) (own : String) (nL : Nat) (D : va_G) (tys : List (ClassId × FieldType)) (A : Nat → Prop) : Prop := p.tables.exec = Jvm.exec ∧ c.code = cc ∧ c.maxLocals = nL ∧ s.vm.findClass own = some m.cls ∧ (∀ w ∈ WALL, w.before args s = true) ∧ va_K D vwCl tys s ∧ NX s ∧ (∀ q : Nat, s.heap.size ≤ q → A q)
def J (p : Program) (l : Launch) (e : Env) (R : Room) (s : State) (m : MethodId) (args : Array Value) (below : List Frame) (meth : Method) (c : Code) (D : va_G) (A : Nat → Prop) (nL cells slots : Nat) (Q : State → Prop) (ws : va_W) (pc : Nat) (lv : List (Nat × Value)) (st : List Value) : Prop := ∀ (H : Heap) (locs : List Loc) (ls : Array Slot), va_P D vwCl ws H → va_D A ws → va_S A s.heap H locs → lv_has ls nL lv → W p l e R s m args below meth c H locs cells slots Q (F0 m pc ls st)
theorem vin {i : Int32} {k n : Nat} (h0 : ¬ i < 0) (hk : i.toNatClampNeg = k) (h : k < n) : vp_in i n := fun q => q.elim h0 (fun q => by rw [hk] at q; omega)
section JR
variable {p : Program} {l : Launch} {e : Env} {R : Room} {s : State} {m : MethodId} {args : Array Value} {below : List Frame} {meth : Method} {c : Code} {cc : ByteArray} {own : String} {nL : Nat} {D : va_G} {tys : List (ClassId × FieldType)} {A : Nat → Prop} {cells slots : Nat} {Q : State → Prop} {ws ws' : va_W} {pc : Nat} {lv lv' : List (Nat × Value)} {rest : List Value}
theorem j_iconst (C : CX p R s m args meth c cc own nL D tys A) {n : Int} {v : Int32} (hd : decode cc pc = .ok (.iconst n, 1)) (hv : Int32.ofInt n = v)
    (kk : J p l e R s m args below meth c D A nL cells slots Q ws (pc + 1) lv (.int v :: rest)) : J p l e R s m args below meth c D A nL cells slots Q ws pc lv rest := fun H locs ls hP hD hS hl => lv_iconst C.1 C.2.1 hd hv (kk H locs ls hP hD hS hl)
theorem j_bipush (C : CX p R s m args meth c cc own nL D tys A) {n : Int} {v : Int32} (hd : decode cc pc = .ok (.bipush n, 2)) (hv : (Int8.ofInt n).toInt32 = v)
    (kk : J p l e R s m args below meth c D A nL cells slots Q ws (pc + 2) lv (.int v :: rest)) : J p l e R s m args below meth c D A nL cells slots Q ws pc lv rest := fun H locs ls hP hD hS hl => lv_bipush C.1 C.2.1 hd hv (kk H locs ls hP hD hS hl)
theorem j_sipush (C : CX p R s m args meth c cc own nL D tys A) {n : Int} {v : Int32} (hd : decode cc pc = .ok (.sipush n, 3)) (hv : (Int16.ofInt n).toInt32 = v)
    (kk : J p l e R s m args below meth c D A nL cells slots Q ws (pc + 3) lv (.int v :: rest)) : J p l e R s m args below meth c D A nL cells slots Q ws pc lv rest := fun H locs ls hP hD hS hl => lv_sipush C.1 C.2.1 hd hv (kk H locs ls hP hD hS hl)
theorem j_lconst (C : CX p R s m args meth c cc own nL D tys A) {n : Fin 2} {v : Int64} (hd : decode cc pc = .ok (.lconst n, 1)) (hv : Int64.ofNat (n : Nat) = v)
    (kk : J p l e R s m args below meth c D A nL cells slots Q ws (pc + 1) lv (.long v :: rest)) : J p l e R s m args below meth c D A nL cells slots Q ws pc lv rest := fun H locs ls hP hD hS hl => lv_lconst C.1 C.2.1 hd hv (kk H locs ls hP hD hS hl)
theorem j_ldc (C : CX p R s m args meth c cc own nL D tys A) {i : Nat} {v : Int32} (hw : Cond.constant own i v ∈ WALL) (hd : decode cc pc = .ok (.ldc i, 2))
    (kk : J p l e R s m args below meth c D A nL cells slots Q ws (pc + 2) lv (.int v :: rest)) : J p l e R s m args below meth c D A nL cells slots Q ws pc lv rest := fun H locs ls hP hD hS hl => lv_ldc C.1 C.2.1 C.2.2.2.1 (C.2.2.2.2.1 _ hw) hd (kk H locs ls hP hD hS hl)
theorem j_ldcw (C : CX p R s m args meth c cc own nL D tys A) {i : Nat} {v : Int32} (hw : Cond.constant own i v ∈ WALL) (hd : decode cc pc = .ok (.ldc_w i, 3))
    (kk : J p l e R s m args below meth c D A nL cells slots Q ws (pc + 3) lv (.int v :: rest)) : J p l e R s m args below meth c D A nL cells slots Q ws pc lv rest := fun H locs ls hP hD hS hl => lv_ldcw C.1 C.2.1 C.2.2.2.1 (C.2.2.2.2.1 _ hw) hd (kk H locs ls hP hD hS hl)
theorem j_ldc2 (C : CX p R s m args meth c cc own nL D tys A) {i : Nat} {v : Int64} (hw : Cond.constantLong own i v ∈ WALL) (hd : decode cc pc = .ok (.ldc2_w i, 3))
    (kk : J p l e R s m args below meth c D A nL cells slots Q ws (pc + 3) lv (.long v :: rest)) : J p l e R s m args below meth c D A nL cells slots Q ws pc lv rest := fun H locs ls hP hD hS hl => lv_ldc2 C.1 C.2.1 C.2.2.2.1 (C.2.2.2.2.1 _ hw) hd (kk H locs ls hP hD hS hl)
theorem j_iload_n (C : CX p R s m args meth c cc own nL D tys A) {k : Fin 4} {i : Nat} {x : Int32} (hd : decode cc pc = .ok (.iload_n k, 1)) (hi : (k : Nat) = i) (j : Nat) (hj : lv[j]? = some (i, .int x))
    (kk : J p l e R s m args below meth c D A nL cells slots Q ws (pc + 1) lv (.int x :: rest)) : J p l e R s m args below meth c D A nL cells slots Q ws pc lv rest := fun H locs ls hP hD hS hl => lv_iload_n C.1 C.2.1 hd hi (lv_at hl j hj) (kk H locs ls hP hD hS hl)
theorem j_iload (C : CX p R s m args meth c cc own nL D tys A) {i : Nat} {x : Int32} (hd : decode cc pc = .ok (.iload i, 2)) (j : Nat) (hj : lv[j]? = some (i, .int x))
    (kk : J p l e R s m args below meth c D A nL cells slots Q ws (pc + 2) lv (.int x :: rest)) : J p l e R s m args below meth c D A nL cells slots Q ws pc lv rest := fun H locs ls hP hD hS hl => lv_iload C.1 C.2.1 hd (lv_at hl j hj) (kk H locs ls hP hD hS hl)
theorem j_lload_n (C : CX p R s m args meth c cc own nL D tys A) {k : Fin 4} {i : Nat} {x : Int64} (hd : decode cc pc = .ok (.lload_n k, 1)) (hi : (k : Nat) = i) (j : Nat) (hj : lv[j]? = some (i, .long x))
    (kk : J p l e R s m args below meth c D A nL cells slots Q ws (pc + 1) lv (.long x :: rest)) : J p l e R s m args below meth c D A nL cells slots Q ws pc lv rest := fun H locs ls hP hD hS hl => lv_lload_n C.1 C.2.1 hd hi (lv_at hl j hj) (kk H locs ls hP hD hS hl)
theorem j_lload (C : CX p R s m args meth c cc own nL D tys A) {i : Nat} {x : Int64} (hd : decode cc pc = .ok (.lload i, 2)) (j : Nat) (hj : lv[j]? = some (i, .long x))
    (kk : J p l e R s m args below meth c D A nL cells slots Q ws (pc + 2) lv (.long x :: rest)) : J p l e R s m args below meth c D A nL cells slots Q ws pc lv rest := fun H locs ls hP hD hS hl => lv_lload C.1 C.2.1 hd (lv_at hl j hj) (kk H locs ls hP hD hS hl)
theorem j_aload_n (C : CX p R s m args meth c cc own nL D tys A) {k : Fin 4} {i : Nat} {x : Nat} (hd : decode cc pc = .ok (.aload_n k, 1)) (hi : (k : Nat) = i) (j : Nat) (hj : lv[j]? = some (i, .ref x))
    (kk : J p l e R s m args below meth c D A nL cells slots Q ws (pc + 1) lv (.ref x :: rest)) : J p l e R s m args below meth c D A nL cells slots Q ws pc lv rest := fun H locs ls hP hD hS hl => lv_aload_n C.1 C.2.1 hd hi (lv_at hl j hj) (kk H locs ls hP hD hS hl)
theorem j_aload (C : CX p R s m args meth c cc own nL D tys A) {i : Nat} {x : Nat} (hd : decode cc pc = .ok (.aload i, 2)) (j : Nat) (hj : lv[j]? = some (i, .ref x))
    (kk : J p l e R s m args below meth c D A nL cells slots Q ws (pc + 2) lv (.ref x :: rest)) : J p l e R s m args below meth c D A nL cells slots Q ws pc lv rest := fun H locs ls hP hD hS hl => lv_aload C.1 C.2.1 hd (lv_at hl j hj) (kk H locs ls hP hD hS hl)
theorem j_istore_n (C : CX p R s m args meth c cc own nL D tys A) {k : Fin 4} {i : Nat} {x : Int32} (hd : decode cc pc = .ok (.istore_n k, 1)) (hi : (k : Nat) = i) (hn : i < nL) (hl' : (i, Value.int x) :: lv.filter (fun q => !(q.1 == i) && !(q.1 + 1 == i && q.2.category == 2)) = lv')
    (kk : J p l e R s m args below meth c D A nL cells slots Q ws (pc + 1) lv' rest) : J p l e R s m args below meth c D A nL cells slots Q ws pc lv (.int x :: rest) := fun H locs ls hP hD hS hl => lv_istore_n C.1 C.2.1 hd hi hl hn hl' (fun ls hl => kk H locs ls hP hD hS hl)
theorem j_istore (C : CX p R s m args meth c cc own nL D tys A) {i : Nat} {x : Int32} (hd : decode cc pc = .ok (.istore i, 2)) (hn : i < nL) (hl' : (i, Value.int x) :: lv.filter (fun q => !(q.1 == i) && !(q.1 + 1 == i && q.2.category == 2)) = lv')
    (kk : J p l e R s m args below meth c D A nL cells slots Q ws (pc + 2) lv' rest) : J p l e R s m args below meth c D A nL cells slots Q ws pc lv (.int x :: rest) := fun H locs ls hP hD hS hl => lv_istore C.1 C.2.1 hd hl hn hl' (fun ls hl => kk H locs ls hP hD hS hl)
theorem j_lstore_n (C : CX p R s m args meth c cc own nL D tys A) {k : Fin 4} {i : Nat} {x : Int64} (hd : decode cc pc = .ok (.lstore_n k, 1)) (hi : (k : Nat) = i) (hn : i + 1 < nL) (hl' : (i, Value.long x) :: lv.filter (fun q => !(q.1 == i) && (!(q.1 == i + 1) && !(q.1 + 1 == i && q.2.category == 2))) = lv')
    (kk : J p l e R s m args below meth c D A nL cells slots Q ws (pc + 1) lv' rest) : J p l e R s m args below meth c D A nL cells slots Q ws pc lv (.long x :: rest) := fun H locs ls hP hD hS hl => lv_lstore_n C.1 C.2.1 hd hi hl hn hl' (fun ls hl => kk H locs ls hP hD hS hl)
theorem j_lstore (C : CX p R s m args meth c cc own nL D tys A) {i : Nat} {x : Int64} (hd : decode cc pc = .ok (.lstore i, 2)) (hn : i + 1 < nL) (hl' : (i, Value.long x) :: lv.filter (fun q => !(q.1 == i) && (!(q.1 == i + 1) && !(q.1 + 1 == i && q.2.category == 2))) = lv')
    (kk : J p l e R s m args below meth c D A nL cells slots Q ws (pc + 2) lv' rest) : J p l e R s m args below meth c D A nL cells slots Q ws pc lv (.long x :: rest) := fun H locs ls hP hD hS hl => lv_lstore C.1 C.2.1 hd hl hn hl' (fun ls hl => kk H locs ls hP hD hS hl)
theorem j_astore_n (C : CX p R s m args meth c cc own nL D tys A) {k : Fin 4} {i : Nat} {x : Nat} (hd : decode cc pc = .ok (.astore_n k, 1)) (hi : (k : Nat) = i) (hn : i < nL) (hl' : (i, Value.ref x) :: lv.filter (fun q => !(q.1 == i) && !(q.1 + 1 == i && q.2.category == 2)) = lv')
    (kk : J p l e R s m args below meth c D A nL cells slots Q ws (pc + 1) lv' rest) : J p l e R s m args below meth c D A nL cells slots Q ws pc lv (.ref x :: rest) := fun H locs ls hP hD hS hl => lv_astore_n C.1 C.2.1 hd hi hl hn hl' (fun ls hl => kk H locs ls hP hD hS hl)
theorem j_astore (C : CX p R s m args meth c cc own nL D tys A) {i : Nat} {x : Nat} (hd : decode cc pc = .ok (.astore i, 2)) (hn : i < nL) (hl' : (i, Value.ref x) :: lv.filter (fun q => !(q.1 == i) && !(q.1 + 1 == i && q.2.category == 2)) = lv')
    (kk : J p l e R s m args below meth c D A nL cells slots Q ws (pc + 2) lv' rest) : J p l e R s m args below meth c D A nL cells slots Q ws pc lv (.ref x :: rest) := fun H locs ls hP hD hS hl => lv_astore C.1 C.2.1 hd hl hn hl' (fun ls hl => kk H locs ls hP hD hS hl)
theorem j_iinc (C : CX p R s m args meth c cc own nL D tys A) {i : Nat} {n : Int} {x v : Int32} (hd : decode cc pc = .ok (.iinc i n, 3)) (j : Nat) (hj : lv[j]? = some (i, .int x)) (hv : x + Int32.ofInt n = v) (hn : i < nL) (hl' : (i, Value.int v) :: lv.filter (fun q => !(q.1 == i) && !(q.1 + 1 == i && q.2.category == 2)) = lv')
    (kk : J p l e R s m args below meth c D A nL cells slots Q ws (pc + 3) lv' rest) : J p l e R s m args below meth c D A nL cells slots Q ws pc lv rest := fun H locs ls hP hD hS hl => lv_iinc C.1 C.2.1 hd hl hj hv hn hl' (fun ls hl => kk H locs ls hP hD hS hl)
theorem j_iadd (C : CX p R s m args meth c cc own nL D tys A) {x y v : Int32} (hd : decode cc pc = .ok (.iadd, 1)) (hv : x + y = v)
    (kk : J p l e R s m args below meth c D A nL cells slots Q ws (pc + 1) lv (.int v :: rest)) : J p l e R s m args below meth c D A nL cells slots Q ws pc lv (.int y :: .int x :: rest) := fun H locs ls hP hD hS hl => lv_iadd C.1 C.2.1 hd (hv ▸ (kk H locs ls hP hD hS hl))
theorem j_isub (C : CX p R s m args meth c cc own nL D tys A) {x y v : Int32} (hd : decode cc pc = .ok (.isub, 1)) (hv : x - y = v)
    (kk : J p l e R s m args below meth c D A nL cells slots Q ws (pc + 1) lv (.int v :: rest)) : J p l e R s m args below meth c D A nL cells slots Q ws pc lv (.int y :: .int x :: rest) := fun H locs ls hP hD hS hl => lv_isub C.1 C.2.1 hd (hv ▸ (kk H locs ls hP hD hS hl))
theorem j_imul (C : CX p R s m args meth c cc own nL D tys A) {x y v : Int32} (hd : decode cc pc = .ok (.imul, 1)) (hv : x * y = v)
    (kk : J p l e R s m args below meth c D A nL cells slots Q ws (pc + 1) lv (.int v :: rest)) : J p l e R s m args below meth c D A nL cells slots Q ws pc lv (.int y :: .int x :: rest) := fun H locs ls hP hD hS hl => lv_imul C.1 C.2.1 hd (hv ▸ (kk H locs ls hP hD hS hl))
theorem j_iand (C : CX p R s m args meth c cc own nL D tys A) {x y v : Int32} (hd : decode cc pc = .ok (.iand, 1)) (hv : x &&& y = v)
    (kk : J p l e R s m args below meth c D A nL cells slots Q ws (pc + 1) lv (.int v :: rest)) : J p l e R s m args below meth c D A nL cells slots Q ws pc lv (.int y :: .int x :: rest) := fun H locs ls hP hD hS hl => lv_iand C.1 C.2.1 hd (hv ▸ (kk H locs ls hP hD hS hl))
theorem j_ior (C : CX p R s m args meth c cc own nL D tys A) {x y v : Int32} (hd : decode cc pc = .ok (.ior, 1)) (hv : x ||| y = v)
    (kk : J p l e R s m args below meth c D A nL cells slots Q ws (pc + 1) lv (.int v :: rest)) : J p l e R s m args below meth c D A nL cells slots Q ws pc lv (.int y :: .int x :: rest) := fun H locs ls hP hD hS hl => lv_ior C.1 C.2.1 hd (hv ▸ (kk H locs ls hP hD hS hl))
theorem j_ixor (C : CX p R s m args meth c cc own nL D tys A) {x y v : Int32} (hd : decode cc pc = .ok (.ixor, 1)) (hv : x ^^^ y = v)
    (kk : J p l e R s m args below meth c D A nL cells slots Q ws (pc + 1) lv (.int v :: rest)) : J p l e R s m args below meth c D A nL cells slots Q ws pc lv (.int y :: .int x :: rest) := fun H locs ls hP hD hS hl => lv_ixor C.1 C.2.1 hd (hv ▸ (kk H locs ls hP hD hS hl))
theorem j_ishl (C : CX p R s m args meth c cc own nL D tys A) {x y v : Int32} (hd : decode cc pc = .ok (.ishl, 1)) (hv : x <<< (y &&& 31) = v)
    (kk : J p l e R s m args below meth c D A nL cells slots Q ws (pc + 1) lv (.int v :: rest)) : J p l e R s m args below meth c D A nL cells slots Q ws pc lv (.int y :: .int x :: rest) := fun H locs ls hP hD hS hl => lv_ishl C.1 C.2.1 hd (hv ▸ (kk H locs ls hP hD hS hl))
theorem j_ishr (C : CX p R s m args meth c cc own nL D tys A) {x y v : Int32} (hd : decode cc pc = .ok (.ishr, 1)) (hv : x >>> (y &&& 31) = v)
    (kk : J p l e R s m args below meth c D A nL cells slots Q ws (pc + 1) lv (.int v :: rest)) : J p l e R s m args below meth c D A nL cells slots Q ws pc lv (.int y :: .int x :: rest) := fun H locs ls hP hD hS hl => lv_ishr C.1 C.2.1 hd (hv ▸ (kk H locs ls hP hD hS hl))
theorem j_iushr (C : CX p R s m args meth c cc own nL D tys A) {x y v : Int32} (hd : decode cc pc = .ok (.iushr, 1)) (hv : (x.toUInt32 >>> (y.toUInt32 &&& Int32.toUInt32 31)).toInt32 = v)
    (kk : J p l e R s m args below meth c D A nL cells slots Q ws (pc + 1) lv (.int v :: rest)) : J p l e R s m args below meth c D A nL cells slots Q ws pc lv (.int y :: .int x :: rest) := fun H locs ls hP hD hS hl => lv_iushr C.1 C.2.1 hd hv (kk H locs ls hP hD hS hl)
theorem j_idiv (C : CX p R s m args meth c cc own nL D tys A) {x y v : Int32} (hd : decode cc pc = .ok (.idiv, 1)) (hne : ¬ y = 0) (hv : x / y = v)
    (kk : J p l e R s m args below meth c D A nL cells slots Q ws (pc + 1) lv (.int v :: rest)) : J p l e R s m args below meth c D A nL cells slots Q ws pc lv (.int y :: .int x :: rest) := fun H locs ls hP hD hS hl => lv_idiv C.1 C.2.1 hd hne (hv ▸ (kk H locs ls hP hD hS hl))
theorem j_ladd (C : CX p R s m args meth c cc own nL D tys A) {x y v : Int64} (hd : decode cc pc = .ok (.ladd, 1)) (hv : x + y = v)
    (kk : J p l e R s m args below meth c D A nL cells slots Q ws (pc + 1) lv (.long v :: rest)) : J p l e R s m args below meth c D A nL cells slots Q ws pc lv (.long y :: .long x :: rest) := fun H locs ls hP hD hS hl => lv_ladd C.1 C.2.1 hd (hv ▸ (kk H locs ls hP hD hS hl))
theorem j_lsub (C : CX p R s m args meth c cc own nL D tys A) {x y v : Int64} (hd : decode cc pc = .ok (.lsub, 1)) (hv : x - y = v)
    (kk : J p l e R s m args below meth c D A nL cells slots Q ws (pc + 1) lv (.long v :: rest)) : J p l e R s m args below meth c D A nL cells slots Q ws pc lv (.long y :: .long x :: rest) := fun H locs ls hP hD hS hl => lv_lsub C.1 C.2.1 hd (hv ▸ (kk H locs ls hP hD hS hl))
theorem j_lmul (C : CX p R s m args meth c cc own nL D tys A) {x y v : Int64} (hd : decode cc pc = .ok (.lmul, 1)) (hv : x * y = v)
    (kk : J p l e R s m args below meth c D A nL cells slots Q ws (pc + 1) lv (.long v :: rest)) : J p l e R s m args below meth c D A nL cells slots Q ws pc lv (.long y :: .long x :: rest) := fun H locs ls hP hD hS hl => lv_lmul C.1 C.2.1 hd (hv ▸ (kk H locs ls hP hD hS hl))
theorem j_land (C : CX p R s m args meth c cc own nL D tys A) {x y v : Int64} (hd : decode cc pc = .ok (.land, 1)) (hv : x &&& y = v)
    (kk : J p l e R s m args below meth c D A nL cells slots Q ws (pc + 1) lv (.long v :: rest)) : J p l e R s m args below meth c D A nL cells slots Q ws pc lv (.long y :: .long x :: rest) := fun H locs ls hP hD hS hl => lv_land C.1 C.2.1 hd (hv ▸ (kk H locs ls hP hD hS hl))
theorem j_lor (C : CX p R s m args meth c cc own nL D tys A) {x y v : Int64} (hd : decode cc pc = .ok (.lor, 1)) (hv : x ||| y = v)
    (kk : J p l e R s m args below meth c D A nL cells slots Q ws (pc + 1) lv (.long v :: rest)) : J p l e R s m args below meth c D A nL cells slots Q ws pc lv (.long y :: .long x :: rest) := fun H locs ls hP hD hS hl => lv_lor C.1 C.2.1 hd (hv ▸ (kk H locs ls hP hD hS hl))
theorem j_lushr (C : CX p R s m args meth c cc own nL D tys A) {x v : Int64} {y : Int32} (hd : decode cc pc = .ok (.lushr, 1)) (hv : (x.toUInt64 >>> (y.toInt64.toUInt64 &&& Int64.toUInt64 63)).toInt64 = v)
    (kk : J p l e R s m args below meth c D A nL cells slots Q ws (pc + 1) lv (.long v :: rest)) : J p l e R s m args below meth c D A nL cells slots Q ws pc lv (.int y :: .long x :: rest) := fun H locs ls hP hD hS hl => lv_lushr C.1 C.2.1 hd hv (kk H locs ls hP hD hS hl)
theorem j_lshr (C : CX p R s m args meth c cc own nL D tys A) {x v : Int64} {y : Int32} (hd : decode cc pc = .ok (.lshr, 1)) (hv : x >>> (y.toInt64 &&& 63) = v)
    (kk : J p l e R s m args below meth c D A nL cells slots Q ws (pc + 1) lv (.long v :: rest)) : J p l e R s m args below meth c D A nL cells slots Q ws pc lv (.int y :: .long x :: rest) := fun H locs ls hP hD hS hl => lv_lshr C.1 C.2.1 hd hv (kk H locs ls hP hD hS hl)
theorem j_lshl (C : CX p R s m args meth c cc own nL D tys A) {x v : Int64} {y : Int32} (hd : decode cc pc = .ok (.lshl, 1)) (hv : x <<< (y.toInt64 &&& 63) = v)
    (kk : J p l e R s m args below meth c D A nL cells slots Q ws (pc + 1) lv (.long v :: rest)) : J p l e R s m args below meth c D A nL cells slots Q ws pc lv (.int y :: .long x :: rest) := fun H locs ls hP hD hS hl => lv_lshl C.1 C.2.1 hd hv (kk H locs ls hP hD hS hl)
theorem j_i2l (C : CX p R s m args meth c cc own nL D tys A) {x : Int32} {v : Int64} (hd : decode cc pc = .ok (.i2l, 1)) (hv : x.toInt64 = v)
    (kk : J p l e R s m args below meth c D A nL cells slots Q ws (pc + 1) lv (.long v :: rest)) : J p l e R s m args below meth c D A nL cells slots Q ws pc lv (.int x :: rest) := fun H locs ls hP hD hS hl => lv_i2l C.1 C.2.1 hd hv (kk H locs ls hP hD hS hl)
theorem j_l2i (C : CX p R s m args meth c cc own nL D tys A) {x : Int64} {v : Int32} (hd : decode cc pc = .ok (.l2i, 1)) (hv : x.toInt32 = v)
    (kk : J p l e R s m args below meth c D A nL cells slots Q ws (pc + 1) lv (.int v :: rest)) : J p l e R s m args below meth c D A nL cells slots Q ws pc lv (.long x :: rest) := fun H locs ls hP hD hS hl => lv_l2i C.1 C.2.1 hd hv (kk H locs ls hP hD hS hl)
theorem j_i2c (C : CX p R s m args meth c cc own nL D tys A) {x v : Int32} (hd : decode cc pc = .ok (.i2c, 1)) (hv : (x.toUInt32 % 65536).toInt32 = v)
    (kk : J p l e R s m args below meth c D A nL cells slots Q ws (pc + 1) lv (.int v :: rest)) : J p l e R s m args below meth c D A nL cells slots Q ws pc lv (.int x :: rest) := fun H locs ls hP hD hS hl => lv_i2c C.1 C.2.1 hd hv (kk H locs ls hP hD hS hl)
theorem j_dup (C : CX p R s m args meth c cc own nL D tys A) {v : Value} (hd : decode cc pc = .ok (.dup, 1)) (hv : v.category = 1)
    (kk : J p l e R s m args below meth c D A nL cells slots Q ws (pc + 1) lv (v :: v :: rest)) : J p l e R s m args below meth c D A nL cells slots Q ws pc lv (v :: rest) := fun H locs ls hP hD hS hl => lv_dup C.1 C.2.1 hd hv (kk H locs ls hP hD hS hl)
theorem j_pop (C : CX p R s m args meth c cc own nL D tys A) {v : Value} (hd : decode cc pc = .ok (.pop, 1)) (hv : v.category = 1)
    (kk : J p l e R s m args below meth c D A nL cells slots Q ws (pc + 1) lv rest) : J p l e R s m args below meth c D A nL cells slots Q ws pc lv (v :: rest) := fun H locs ls hP hD hS hl => lv_pop C.1 C.2.1 hd hv (kk H locs ls hP hD hS hl)
theorem j_dup2 (C : CX p R s m args meth c cc own nL D tys A) {u v : Value} (hd : decode cc pc = .ok (.dup2, 1)) (hu : u.category = 1) (hv : v.category = 1)
    (kk : J p l e R s m args below meth c D A nL cells slots Q ws (pc + 1) lv (u :: v :: u :: v :: rest)) : J p l e R s m args below meth c D A nL cells slots Q ws pc lv (u :: v :: rest) := fun H locs ls hP hD hS hl => lv_dup2_11 C.1 C.2.1 hd hu hv (kk H locs ls hP hD hS hl)
theorem j_if_eq (C : CX p R s m args meth c cc own nL D tys A) {x : Int32} {off : Int} {tgt : Nat} (hd : decode cc pc = .ok (.ifCond .eq off, 3)) (ht : (pc : Int) + off = (tgt : Int))
    (kt : x = 0 → J p l e R s m args below meth c D A nL cells slots Q ws tgt lv rest) (kf : ¬ x = 0 → J p l e R s m args below meth c D A nL cells slots Q ws (pc + 3) lv rest) : J p l e R s m args below meth c D A nL cells slots Q ws pc lv (.int x :: rest) := fun H locs ls hP hD hS hl => lv_if_eq C.1 C.2.1 hd ht (fun hc => kt hc H locs ls hP hD hS hl) (fun hc => kf hc H locs ls hP hD hS hl)
theorem j_if_eq_t (C : CX p R s m args meth c cc own nL D tys A) {x : Int32} {off : Int} {tgt : Nat} (hd : decode cc pc = .ok (.ifCond .eq off, 3)) (ht : (pc : Int) + off = (tgt : Int)) (hc : x = 0)
    (kt : J p l e R s m args below meth c D A nL cells slots Q ws tgt lv rest) : J p l e R s m args below meth c D A nL cells slots Q ws pc lv (.int x :: rest) := j_if_eq C hd ht (fun _ => kt) (fun h => absurd hc h)
theorem j_if_eq_f (C : CX p R s m args meth c cc own nL D tys A) {x : Int32} {off : Int} (hd : decode cc pc = .ok (.ifCond .eq off, 3)) {tgt : Nat} (ht : (pc : Int) + off = (tgt : Int)) (hc : ¬ x = 0)
    (kf : J p l e R s m args below meth c D A nL cells slots Q ws (pc + 3) lv rest) : J p l e R s m args below meth c D A nL cells slots Q ws pc lv (.int x :: rest) := j_if_eq C hd ht (fun h => absurd h hc) (fun _ => kf)
theorem j_icmp_eq (C : CX p R s m args meth c cc own nL D tys A) {x y : Int32} {off : Int} {tgt : Nat} (hd : decode cc pc = .ok (.if_icmp .eq off, 3)) (ht : (pc : Int) + off = (tgt : Int))
    (kt : x = y → J p l e R s m args below meth c D A nL cells slots Q ws tgt lv rest) (kf : ¬ x = y → J p l e R s m args below meth c D A nL cells slots Q ws (pc + 3) lv rest) : J p l e R s m args below meth c D A nL cells slots Q ws pc lv (.int y :: .int x :: rest) := fun H locs ls hP hD hS hl => lv_icmp_eq C.1 C.2.1 hd ht (fun hc => kt hc H locs ls hP hD hS hl) (fun hc => kf hc H locs ls hP hD hS hl)
theorem j_icmp_eq_t (C : CX p R s m args meth c cc own nL D tys A) {x y : Int32} {off : Int} {tgt : Nat} (hd : decode cc pc = .ok (.if_icmp .eq off, 3)) (ht : (pc : Int) + off = (tgt : Int)) (hc : x = y)
    (kt : J p l e R s m args below meth c D A nL cells slots Q ws tgt lv rest) : J p l e R s m args below meth c D A nL cells slots Q ws pc lv (.int y :: .int x :: rest) := j_icmp_eq C hd ht (fun _ => kt) (fun h => absurd hc h)
theorem j_icmp_eq_f (C : CX p R s m args meth c cc own nL D tys A) {x y : Int32} {off : Int} (hd : decode cc pc = .ok (.if_icmp .eq off, 3)) {tgt : Nat} (ht : (pc : Int) + off = (tgt : Int)) (hc : ¬ x = y)
    (kf : J p l e R s m args below meth c D A nL cells slots Q ws (pc + 3) lv rest) : J p l e R s m args below meth c D A nL cells slots Q ws pc lv (.int y :: .int x :: rest) := j_icmp_eq C hd ht (fun h => absurd h hc) (fun _ => kf)
theorem j_if_ne (C : CX p R s m args meth c cc own nL D tys A) {x : Int32} {off : Int} {tgt : Nat} (hd : decode cc pc = .ok (.ifCond .ne off, 3)) (ht : (pc : Int) + off = (tgt : Int))
    (kt : ¬ x = 0 → J p l e R s m args below meth c D A nL cells slots Q ws tgt lv rest) (kf : x = 0 → J p l e R s m args below meth c D A nL cells slots Q ws (pc + 3) lv rest) : J p l e R s m args below meth c D A nL cells slots Q ws pc lv (.int x :: rest) := fun H locs ls hP hD hS hl => lv_if_ne C.1 C.2.1 hd ht (fun hc => kt hc H locs ls hP hD hS hl) (fun hc => kf hc H locs ls hP hD hS hl)
theorem j_if_ne_t (C : CX p R s m args meth c cc own nL D tys A) {x : Int32} {off : Int} {tgt : Nat} (hd : decode cc pc = .ok (.ifCond .ne off, 3)) (ht : (pc : Int) + off = (tgt : Int)) (hc : ¬ x = 0)
    (kt : J p l e R s m args below meth c D A nL cells slots Q ws tgt lv rest) : J p l e R s m args below meth c D A nL cells slots Q ws pc lv (.int x :: rest) := j_if_ne C hd ht (fun _ => kt) (fun h => absurd h hc)
theorem j_if_ne_f (C : CX p R s m args meth c cc own nL D tys A) {x : Int32} {off : Int} (hd : decode cc pc = .ok (.ifCond .ne off, 3)) {tgt : Nat} (ht : (pc : Int) + off = (tgt : Int)) (hc : x = 0)
    (kf : J p l e R s m args below meth c D A nL cells slots Q ws (pc + 3) lv rest) : J p l e R s m args below meth c D A nL cells slots Q ws pc lv (.int x :: rest) := j_if_ne C hd ht (fun h => absurd hc h) (fun _ => kf)
theorem j_icmp_ne (C : CX p R s m args meth c cc own nL D tys A) {x y : Int32} {off : Int} {tgt : Nat} (hd : decode cc pc = .ok (.if_icmp .ne off, 3)) (ht : (pc : Int) + off = (tgt : Int))
    (kt : ¬ x = y → J p l e R s m args below meth c D A nL cells slots Q ws tgt lv rest) (kf : x = y → J p l e R s m args below meth c D A nL cells slots Q ws (pc + 3) lv rest) : J p l e R s m args below meth c D A nL cells slots Q ws pc lv (.int y :: .int x :: rest) := fun H locs ls hP hD hS hl => lv_icmp_ne C.1 C.2.1 hd ht (fun hc => kt hc H locs ls hP hD hS hl) (fun hc => kf hc H locs ls hP hD hS hl)
theorem j_icmp_ne_t (C : CX p R s m args meth c cc own nL D tys A) {x y : Int32} {off : Int} {tgt : Nat} (hd : decode cc pc = .ok (.if_icmp .ne off, 3)) (ht : (pc : Int) + off = (tgt : Int)) (hc : ¬ x = y)
    (kt : J p l e R s m args below meth c D A nL cells slots Q ws tgt lv rest) : J p l e R s m args below meth c D A nL cells slots Q ws pc lv (.int y :: .int x :: rest) := j_icmp_ne C hd ht (fun _ => kt) (fun h => absurd h hc)
theorem j_icmp_ne_f (C : CX p R s m args meth c cc own nL D tys A) {x y : Int32} {off : Int} (hd : decode cc pc = .ok (.if_icmp .ne off, 3)) {tgt : Nat} (ht : (pc : Int) + off = (tgt : Int)) (hc : x = y)
    (kf : J p l e R s m args below meth c D A nL cells slots Q ws (pc + 3) lv rest) : J p l e R s m args below meth c D A nL cells slots Q ws pc lv (.int y :: .int x :: rest) := j_icmp_ne C hd ht (fun h => absurd hc h) (fun _ => kf)
theorem j_if_lt (C : CX p R s m args meth c cc own nL D tys A) {x : Int32} {off : Int} {tgt : Nat} (hd : decode cc pc = .ok (.ifCond .lt off, 3)) (ht : (pc : Int) + off = (tgt : Int))
    (kt : x < 0 → J p l e R s m args below meth c D A nL cells slots Q ws tgt lv rest) (kf : ¬ x < 0 → J p l e R s m args below meth c D A nL cells slots Q ws (pc + 3) lv rest) : J p l e R s m args below meth c D A nL cells slots Q ws pc lv (.int x :: rest) := fun H locs ls hP hD hS hl => lv_if_lt C.1 C.2.1 hd ht (fun hc => kt hc H locs ls hP hD hS hl) (fun hc => kf hc H locs ls hP hD hS hl)
theorem j_if_lt_t (C : CX p R s m args meth c cc own nL D tys A) {x : Int32} {off : Int} {tgt : Nat} (hd : decode cc pc = .ok (.ifCond .lt off, 3)) (ht : (pc : Int) + off = (tgt : Int)) (hc : x < 0)
    (kt : J p l e R s m args below meth c D A nL cells slots Q ws tgt lv rest) : J p l e R s m args below meth c D A nL cells slots Q ws pc lv (.int x :: rest) := j_if_lt C hd ht (fun _ => kt) (fun h => absurd hc h)
theorem j_if_lt_f (C : CX p R s m args meth c cc own nL D tys A) {x : Int32} {off : Int} (hd : decode cc pc = .ok (.ifCond .lt off, 3)) {tgt : Nat} (ht : (pc : Int) + off = (tgt : Int)) (hc : ¬ x < 0)
    (kf : J p l e R s m args below meth c D A nL cells slots Q ws (pc + 3) lv rest) : J p l e R s m args below meth c D A nL cells slots Q ws pc lv (.int x :: rest) := j_if_lt C hd ht (fun h => absurd h hc) (fun _ => kf)
theorem j_icmp_lt (C : CX p R s m args meth c cc own nL D tys A) {x y : Int32} {off : Int} {tgt : Nat} (hd : decode cc pc = .ok (.if_icmp .lt off, 3)) (ht : (pc : Int) + off = (tgt : Int))
    (kt : x < y → J p l e R s m args below meth c D A nL cells slots Q ws tgt lv rest) (kf : ¬ x < y → J p l e R s m args below meth c D A nL cells slots Q ws (pc + 3) lv rest) : J p l e R s m args below meth c D A nL cells slots Q ws pc lv (.int y :: .int x :: rest) := fun H locs ls hP hD hS hl => lv_icmp_lt C.1 C.2.1 hd ht (fun hc => kt hc H locs ls hP hD hS hl) (fun hc => kf hc H locs ls hP hD hS hl)
theorem j_icmp_lt_t (C : CX p R s m args meth c cc own nL D tys A) {x y : Int32} {off : Int} {tgt : Nat} (hd : decode cc pc = .ok (.if_icmp .lt off, 3)) (ht : (pc : Int) + off = (tgt : Int)) (hc : x < y)
    (kt : J p l e R s m args below meth c D A nL cells slots Q ws tgt lv rest) : J p l e R s m args below meth c D A nL cells slots Q ws pc lv (.int y :: .int x :: rest) := j_icmp_lt C hd ht (fun _ => kt) (fun h => absurd hc h)
theorem j_icmp_lt_f (C : CX p R s m args meth c cc own nL D tys A) {x y : Int32} {off : Int} (hd : decode cc pc = .ok (.if_icmp .lt off, 3)) {tgt : Nat} (ht : (pc : Int) + off = (tgt : Int)) (hc : ¬ x < y)
    (kf : J p l e R s m args below meth c D A nL cells slots Q ws (pc + 3) lv rest) : J p l e R s m args below meth c D A nL cells slots Q ws pc lv (.int y :: .int x :: rest) := j_icmp_lt C hd ht (fun h => absurd h hc) (fun _ => kf)
theorem j_if_ge (C : CX p R s m args meth c cc own nL D tys A) {x : Int32} {off : Int} {tgt : Nat} (hd : decode cc pc = .ok (.ifCond .ge off, 3)) (ht : (pc : Int) + off = (tgt : Int))
    (kt : 0 ≤ x → J p l e R s m args below meth c D A nL cells slots Q ws tgt lv rest) (kf : ¬ 0 ≤ x → J p l e R s m args below meth c D A nL cells slots Q ws (pc + 3) lv rest) : J p l e R s m args below meth c D A nL cells slots Q ws pc lv (.int x :: rest) := fun H locs ls hP hD hS hl => lv_if_ge C.1 C.2.1 hd ht (fun hc => kt hc H locs ls hP hD hS hl) (fun hc => kf hc H locs ls hP hD hS hl)
theorem j_if_ge_t (C : CX p R s m args meth c cc own nL D tys A) {x : Int32} {off : Int} {tgt : Nat} (hd : decode cc pc = .ok (.ifCond .ge off, 3)) (ht : (pc : Int) + off = (tgt : Int)) (hc : 0 ≤ x)
    (kt : J p l e R s m args below meth c D A nL cells slots Q ws tgt lv rest) : J p l e R s m args below meth c D A nL cells slots Q ws pc lv (.int x :: rest) := j_if_ge C hd ht (fun _ => kt) (fun h => absurd hc h)
theorem j_if_ge_f (C : CX p R s m args meth c cc own nL D tys A) {x : Int32} {off : Int} (hd : decode cc pc = .ok (.ifCond .ge off, 3)) {tgt : Nat} (ht : (pc : Int) + off = (tgt : Int)) (hc : ¬ 0 ≤ x)
    (kf : J p l e R s m args below meth c D A nL cells slots Q ws (pc + 3) lv rest) : J p l e R s m args below meth c D A nL cells slots Q ws pc lv (.int x :: rest) := j_if_ge C hd ht (fun h => absurd h hc) (fun _ => kf)
theorem j_icmp_ge (C : CX p R s m args meth c cc own nL D tys A) {x y : Int32} {off : Int} {tgt : Nat} (hd : decode cc pc = .ok (.if_icmp .ge off, 3)) (ht : (pc : Int) + off = (tgt : Int))
    (kt : y ≤ x → J p l e R s m args below meth c D A nL cells slots Q ws tgt lv rest) (kf : ¬ y ≤ x → J p l e R s m args below meth c D A nL cells slots Q ws (pc + 3) lv rest) : J p l e R s m args below meth c D A nL cells slots Q ws pc lv (.int y :: .int x :: rest) := fun H locs ls hP hD hS hl => lv_icmp_ge C.1 C.2.1 hd ht (fun hc => kt hc H locs ls hP hD hS hl) (fun hc => kf hc H locs ls hP hD hS hl)
theorem j_icmp_ge_t (C : CX p R s m args meth c cc own nL D tys A) {x y : Int32} {off : Int} {tgt : Nat} (hd : decode cc pc = .ok (.if_icmp .ge off, 3)) (ht : (pc : Int) + off = (tgt : Int)) (hc : y ≤ x)
    (kt : J p l e R s m args below meth c D A nL cells slots Q ws tgt lv rest) : J p l e R s m args below meth c D A nL cells slots Q ws pc lv (.int y :: .int x :: rest) := j_icmp_ge C hd ht (fun _ => kt) (fun h => absurd hc h)
theorem j_icmp_ge_f (C : CX p R s m args meth c cc own nL D tys A) {x y : Int32} {off : Int} (hd : decode cc pc = .ok (.if_icmp .ge off, 3)) {tgt : Nat} (ht : (pc : Int) + off = (tgt : Int)) (hc : ¬ y ≤ x)
    (kf : J p l e R s m args below meth c D A nL cells slots Q ws (pc + 3) lv rest) : J p l e R s m args below meth c D A nL cells slots Q ws pc lv (.int y :: .int x :: rest) := j_icmp_ge C hd ht (fun h => absurd h hc) (fun _ => kf)
theorem j_if_gt (C : CX p R s m args meth c cc own nL D tys A) {x : Int32} {off : Int} {tgt : Nat} (hd : decode cc pc = .ok (.ifCond .gt off, 3)) (ht : (pc : Int) + off = (tgt : Int))
    (kt : 0 < x → J p l e R s m args below meth c D A nL cells slots Q ws tgt lv rest) (kf : ¬ 0 < x → J p l e R s m args below meth c D A nL cells slots Q ws (pc + 3) lv rest) : J p l e R s m args below meth c D A nL cells slots Q ws pc lv (.int x :: rest) := fun H locs ls hP hD hS hl => lv_if_gt C.1 C.2.1 hd ht (fun hc => kt hc H locs ls hP hD hS hl) (fun hc => kf hc H locs ls hP hD hS hl)
theorem j_if_gt_t (C : CX p R s m args meth c cc own nL D tys A) {x : Int32} {off : Int} {tgt : Nat} (hd : decode cc pc = .ok (.ifCond .gt off, 3)) (ht : (pc : Int) + off = (tgt : Int)) (hc : 0 < x)
    (kt : J p l e R s m args below meth c D A nL cells slots Q ws tgt lv rest) : J p l e R s m args below meth c D A nL cells slots Q ws pc lv (.int x :: rest) := j_if_gt C hd ht (fun _ => kt) (fun h => absurd hc h)
theorem j_if_gt_f (C : CX p R s m args meth c cc own nL D tys A) {x : Int32} {off : Int} (hd : decode cc pc = .ok (.ifCond .gt off, 3)) {tgt : Nat} (ht : (pc : Int) + off = (tgt : Int)) (hc : ¬ 0 < x)
    (kf : J p l e R s m args below meth c D A nL cells slots Q ws (pc + 3) lv rest) : J p l e R s m args below meth c D A nL cells slots Q ws pc lv (.int x :: rest) := j_if_gt C hd ht (fun h => absurd h hc) (fun _ => kf)
theorem j_icmp_gt (C : CX p R s m args meth c cc own nL D tys A) {x y : Int32} {off : Int} {tgt : Nat} (hd : decode cc pc = .ok (.if_icmp .gt off, 3)) (ht : (pc : Int) + off = (tgt : Int))
    (kt : y < x → J p l e R s m args below meth c D A nL cells slots Q ws tgt lv rest) (kf : ¬ y < x → J p l e R s m args below meth c D A nL cells slots Q ws (pc + 3) lv rest) : J p l e R s m args below meth c D A nL cells slots Q ws pc lv (.int y :: .int x :: rest) := fun H locs ls hP hD hS hl => lv_icmp_gt C.1 C.2.1 hd ht (fun hc => kt hc H locs ls hP hD hS hl) (fun hc => kf hc H locs ls hP hD hS hl)
theorem j_icmp_gt_t (C : CX p R s m args meth c cc own nL D tys A) {x y : Int32} {off : Int} {tgt : Nat} (hd : decode cc pc = .ok (.if_icmp .gt off, 3)) (ht : (pc : Int) + off = (tgt : Int)) (hc : y < x)
    (kt : J p l e R s m args below meth c D A nL cells slots Q ws tgt lv rest) : J p l e R s m args below meth c D A nL cells slots Q ws pc lv (.int y :: .int x :: rest) := j_icmp_gt C hd ht (fun _ => kt) (fun h => absurd hc h)
theorem j_icmp_gt_f (C : CX p R s m args meth c cc own nL D tys A) {x y : Int32} {off : Int} (hd : decode cc pc = .ok (.if_icmp .gt off, 3)) {tgt : Nat} (ht : (pc : Int) + off = (tgt : Int)) (hc : ¬ y < x)
    (kf : J p l e R s m args below meth c D A nL cells slots Q ws (pc + 3) lv rest) : J p l e R s m args below meth c D A nL cells slots Q ws pc lv (.int y :: .int x :: rest) := j_icmp_gt C hd ht (fun h => absurd h hc) (fun _ => kf)
theorem j_if_le (C : CX p R s m args meth c cc own nL D tys A) {x : Int32} {off : Int} {tgt : Nat} (hd : decode cc pc = .ok (.ifCond .le off, 3)) (ht : (pc : Int) + off = (tgt : Int))
    (kt : x ≤ 0 → J p l e R s m args below meth c D A nL cells slots Q ws tgt lv rest) (kf : ¬ x ≤ 0 → J p l e R s m args below meth c D A nL cells slots Q ws (pc + 3) lv rest) : J p l e R s m args below meth c D A nL cells slots Q ws pc lv (.int x :: rest) := fun H locs ls hP hD hS hl => lv_if_le C.1 C.2.1 hd ht (fun hc => kt hc H locs ls hP hD hS hl) (fun hc => kf hc H locs ls hP hD hS hl)
theorem j_if_le_t (C : CX p R s m args meth c cc own nL D tys A) {x : Int32} {off : Int} {tgt : Nat} (hd : decode cc pc = .ok (.ifCond .le off, 3)) (ht : (pc : Int) + off = (tgt : Int)) (hc : x ≤ 0)
    (kt : J p l e R s m args below meth c D A nL cells slots Q ws tgt lv rest) : J p l e R s m args below meth c D A nL cells slots Q ws pc lv (.int x :: rest) := j_if_le C hd ht (fun _ => kt) (fun h => absurd hc h)
theorem j_if_le_f (C : CX p R s m args meth c cc own nL D tys A) {x : Int32} {off : Int} (hd : decode cc pc = .ok (.ifCond .le off, 3)) {tgt : Nat} (ht : (pc : Int) + off = (tgt : Int)) (hc : ¬ x ≤ 0)
    (kf : J p l e R s m args below meth c D A nL cells slots Q ws (pc + 3) lv rest) : J p l e R s m args below meth c D A nL cells slots Q ws pc lv (.int x :: rest) := j_if_le C hd ht (fun h => absurd h hc) (fun _ => kf)
theorem j_icmp_le (C : CX p R s m args meth c cc own nL D tys A) {x y : Int32} {off : Int} {tgt : Nat} (hd : decode cc pc = .ok (.if_icmp .le off, 3)) (ht : (pc : Int) + off = (tgt : Int))
    (kt : x ≤ y → J p l e R s m args below meth c D A nL cells slots Q ws tgt lv rest) (kf : ¬ x ≤ y → J p l e R s m args below meth c D A nL cells slots Q ws (pc + 3) lv rest) : J p l e R s m args below meth c D A nL cells slots Q ws pc lv (.int y :: .int x :: rest) := fun H locs ls hP hD hS hl => lv_icmp_le C.1 C.2.1 hd ht (fun hc => kt hc H locs ls hP hD hS hl) (fun hc => kf hc H locs ls hP hD hS hl)
theorem j_icmp_le_t (C : CX p R s m args meth c cc own nL D tys A) {x y : Int32} {off : Int} {tgt : Nat} (hd : decode cc pc = .ok (.if_icmp .le off, 3)) (ht : (pc : Int) + off = (tgt : Int)) (hc : x ≤ y)
    (kt : J p l e R s m args below meth c D A nL cells slots Q ws tgt lv rest) : J p l e R s m args below meth c D A nL cells slots Q ws pc lv (.int y :: .int x :: rest) := j_icmp_le C hd ht (fun _ => kt) (fun h => absurd hc h)
theorem j_icmp_le_f (C : CX p R s m args meth c cc own nL D tys A) {x y : Int32} {off : Int} (hd : decode cc pc = .ok (.if_icmp .le off, 3)) {tgt : Nat} (ht : (pc : Int) + off = (tgt : Int)) (hc : ¬ x ≤ y)
    (kf : J p l e R s m args below meth c D A nL cells slots Q ws (pc + 3) lv rest) : J p l e R s m args below meth c D A nL cells slots Q ws pc lv (.int y :: .int x :: rest) := j_icmp_le C hd ht (fun h => absurd h hc) (fun _ => kf)
theorem j_goto (C : CX p R s m args meth c cc own nL D tys A) {off : Int} {tgt : Nat} (hd : decode cc pc = .ok (.goto off, 3)) (ht : (pc : Int) + off = (tgt : Int))
    (kk : J p l e R s m args below meth c D A nL cells slots Q ws tgt lv rest) : J p l e R s m args below meth c D A nL cells slots Q ws pc lv rest := fun H locs ls hP hD hS hl => lv_goto C.1 C.2.1 hd ht (kk H locs ls hP hD hS hl)
theorem j_tin (C : CX p R s m args meth c cc own nL D tys A) {dflt lo hi : Int} {offs : Array Int} {len : Nat} {x : Int32} {off : Int} {tgt : Nat} (hd : decode cc pc = .ok (.tableswitch dflt lo hi offs, len)) (h1 : ¬ x.toInt < lo) (h2 : ¬ hi < x.toInt) (ho : offs[(x.toInt - lo).toNat]? = some off) (ht : (pc : Int) + off = (tgt : Int))
    (kk : J p l e R s m args below meth c D A nL cells slots Q ws tgt lv rest) : J p l e R s m args below meth c D A nL cells slots Q ws pc lv (.int x :: rest) := fun H locs ls hP hD hS hl => lv_tableIn C.1 C.2.1 hd h1 h2 ho ht (kk H locs ls hP hD hS hl)
theorem j_tout (C : CX p R s m args meth c cc own nL D tys A) {dflt lo hi : Int} {offs : Array Int} {len : Nat} {x : Int32} {tgt : Nat} (hd : decode cc pc = .ok (.tableswitch dflt lo hi offs, len)) (h : x.toInt < lo ∨ hi < x.toInt) (ht : (pc : Int) + dflt = (tgt : Int))
    (kk : J p l e R s m args below meth c D A nL cells slots Q ws tgt lv rest) : J p l e R s m args below meth c D A nL cells slots Q ws pc lv (.int x :: rest) := fun H locs ls hP hD hS hl => lv_tableOut C.1 C.2.1 hd h ht (kk H locs ls hP hD hS hl)
theorem j_lk (C : CX p R s m args meth c cc own nL D tys A) {dflt : Int} {ps : Array (Int × Int)} {len : Nat} {x : Int32} {off : Int} {tgt : Nat} (hd : decode cc pc = .ok (.lookupswitch dflt ps, len)) (hp : (ps.toList.zip (ps.toList.drop 1)).all (fun (a, next) => a.1 < next.1) = true) (ho : Op.lookupswitch.offset ps.toList dflt x.toInt = off) (ht : (pc : Int) + off = (tgt : Int))
    (kk : J p l e R s m args below meth c D A nL cells slots Q ws tgt lv rest) : J p l e R s m args below meth c D A nL cells slots Q ws pc lv (.int x :: rest) := fun H locs ls hP hD hS hl => lv_lookup C.1 C.2.1 hd hp ho ht (kk H locs ls hP hD hS hl)
theorem j_get (C : CX p R s m args meth c cc own nL D tys A) {ref Cn : String} {T : u_T} {N ci ix a : Nat} {fs : List Value} (hin : ∀ w ∈ u_ws Cn T N, w ∈ WALL) (q0 : Nat) (he : ws[q0]? = some (a, .inr (ci, fs))) (hc : vwCl[ci]? = some (Cn, T, N)) (k : Nat) (hk : k < N) (hw : Cond.fieldLink own ix ref (T k).2.1 (T k).2.2.1 ∈ WALL) (hsm : (T k).1 = ref) {v : Value} (hv : fs[k]? = some v) (hd : decode cc pc = .ok (.getfield ix, 3))
    (kk : J p l e R s m args below meth c D A nL cells slots Q ws (pc + 3) lv (v :: rest)) : J p l e R s m args below meth c D A nL cells slots Q ws pc lv (.ref a :: rest) := fun H locs ls hP hD hS hl => va_get C.1 C.2.1 C.2.2.2.2.1 hin C.2.2.2.1 C.2.2.2.2.2.1 hP q0 he hc k hk (C.2.2.2.2.1 _ hw) (fun x h => by rw [hsm] at h; exact h) hv hd (kk H locs ls hP hD hS hl)
theorem j_put (C : CX p R s m args meth c cc own nL D tys A) {ref Cn : String} {T : u_T} {N ci ix a : Nat} {fs : List Value} (hin : ∀ w ∈ u_ws Cn T N, w ∈ WALL) (q0 : Nat) (he : ws[q0]? = some (a, .inr (ci, fs))) (hc : vwCl[ci]? = some (Cn, T, N)) (k : Nat) (hk : k < N) (hw : Cond.fieldLink own ix ref (T k).2.1 (T k).2.2.1 ∈ WALL) (hsm : (T k).1 = ref) {ty0 : Nat → FieldType} (hty : ∀ k, k < N → parseFieldDescriptor (T k).2.2.1 = some (ty0 k)) (hnm : ∀ a, a < N → ∀ b, b < N → a ≠ b → (T a).2.1 ≠ (T b).2.1) (hfin : (T k).2.2.2 = false) {ty : FieldType} {v : Value} (hdd : parseFieldDescriptor (T k).2.2.1 = some ty) (hn : narrow ty v = v) (hfit : fits ty v = true) (hl9 : k < fs.length) (hd : decode cc pc = .ok (.putfield ix, 3)) (hws : ws.set q0 (a, .inr (ci, fs.set k v)) = ws')
    (kk : J p l e R s m args below meth c D A nL cells slots Q ws' (pc + 3) lv rest) : J p l e R s m args below meth c D A nL cells slots Q ws pc lv (v :: .ref a :: rest) := fun H locs ls hP hD hS hl => va_put C.1 C.2.1 C.2.2.2.2.1 hin ty0 hty hnm C.2.2.2.1 C.2.2.2.2.2.1 hP hD hS q0 he hc k hk (C.2.2.2.2.1 _ hw) (fun x h => by rw [hsm] at h; exact h) hfin hdd hn hfit hl9 hd (fun H locs hP hD hS => kk H locs ls (hws ▸ hP) (hws ▸ hD) hS hl)
theorem j_putF (C : CX p R s m args meth c cc own nL D tys A) {ref Cn : String} {T : u_T} {N ci ix a : Nat} {fs : List Value} (hin : ∀ w ∈ u_ws Cn T N, w ∈ WALL) (q0 : Nat) (he : ws[q0]? = some (a, .inr (ci, fs))) (hc : vwCl[ci]? = some (Cn, T, N)) (k : Nat) (hk : k < N) (hw : Cond.fieldLink own ix ref (T k).2.1 (T k).2.2.1 ∈ WALL) (hsm : (T k).1 = ref) {ty0 : Nat → FieldType} (hty : ∀ k, k < N → parseFieldDescriptor (T k).2.2.1 = some (ty0 k)) (hnm : ∀ a, a < N → ∀ b, b < N → a ≠ b → (T a).2.1 ≠ (T b).2.1) (hfin : (T k).2.2.2 = true) (hin2 : meth.name = "<init>") (hdecl : (T k).1 = own) {ty : FieldType} {v : Value} (hdd : parseFieldDescriptor (T k).2.2.1 = some ty) (hn : narrow ty v = v) (hfit : fits ty v = true) (hl9 : k < fs.length) (hd : decode cc pc = .ok (.putfield ix, 3)) (hws : ws.set q0 (a, .inr (ci, fs.set k v)) = ws')
    (kk : J p l e R s m args below meth c D A nL cells slots Q ws' (pc + 3) lv rest) : J p l e R s m args below meth c D A nL cells slots Q ws pc lv (v :: .ref a :: rest) := fun H locs ls hP hD hS hl => va_putF C.1 C.2.1 C.2.2.2.2.1 hin ty0 hty hnm C.2.2.2.1 C.2.2.2.2.2.1 hP hD hS q0 he hc k hk (C.2.2.2.2.1 _ hw) (fun x h => by rw [hsm] at h; exact h) hfin hin2 hdecl hdd hn hfit hl9 hd (fun H locs hP hD hS => kk H locs ls (hws ▸ hP) (hws ▸ hD) hS hl)
theorem j_iald (C : CX p R s m args meth c cc own nL D tys A) {a : Nat} (q0 t0 : Nat) {cA : ClassId} {n : Nat} {f : Nat → Int32} (ha : ws[q0]? = some (a, .inl (cA, n, .inl f))) (ht : tys[t0]? = some (cA, .int)) {i : Int32} {v : Int32} {k : Nat} (h0 : ¬ i < 0) (hk : i.toNatClampNeg = k) (hlt : k < n) (hv : f k = v) (hd : decode cc pc = .ok (.iaload, 1))
    (kk : J p l e R s m args below meth c D A nL cells slots Q ws (pc + 1) lv (.int v :: rest)) : J p l e R s m args below meth c D A nL cells slots Q ws pc lv (.int i :: .ref a :: rest) := fun H locs ls hP hD hS hl => va_iald C.1 C.2.1 C.2.2.2.2.2.1 hP q0 t0 ha ht (vin h0 hk hlt) hd (by rw [hk, hv]; exact (kk H locs ls hP hD hS hl))
theorem j_zald (C : CX p R s m args meth c cc own nL D tys A) {a : Nat} (q0 t0 : Nat) {cA : ClassId} {n : Nat} {f : Nat → Int32} (ha : ws[q0]? = some (a, .inl (cA, n, .inl f))) (ht : tys[t0]? = some (cA, .boolean)) {i : Int32} {v : Int32} {k : Nat} (h0 : ¬ i < 0) (hk : i.toNatClampNeg = k) (hlt : k < n) (hv : f k = v) (hd : decode cc pc = .ok (.baload, 1))
    (kk : J p l e R s m args below meth c D A nL cells slots Q ws (pc + 1) lv (.int v :: rest)) : J p l e R s m args below meth c D A nL cells slots Q ws pc lv (.int i :: .ref a :: rest) := fun H locs ls hP hD hS hl => va_zald C.1 C.2.1 C.2.2.2.2.2.1 hP q0 t0 ha ht (vin h0 hk hlt) hd (by rw [hk, hv]; exact (kk H locs ls hP hD hS hl))
theorem j_cald (C : CX p R s m args meth c cc own nL D tys A) {a : Nat} (q0 t0 : Nat) {cA : ClassId} {n : Nat} {f : Nat → Int32} (ha : ws[q0]? = some (a, .inl (cA, n, .inl f))) (ht : tys[t0]? = some (cA, .char)) {i : Int32} {v : Int32} {k : Nat} (h0 : ¬ i < 0) (hk : i.toNatClampNeg = k) (hlt : k < n) (hv : f k = v) (hd : decode cc pc = .ok (.caload, 1))
    (kk : J p l e R s m args below meth c D A nL cells slots Q ws (pc + 1) lv (.int v :: rest)) : J p l e R s m args below meth c D A nL cells slots Q ws pc lv (.int i :: .ref a :: rest) := fun H locs ls hP hD hS hl => va_cald C.1 C.2.1 C.2.2.2.2.2.1 hP q0 t0 ha ht (vin h0 hk hlt) hd (by rw [hk, hv]; exact (kk H locs ls hP hD hS hl))
theorem j_lald (C : CX p R s m args meth c cc own nL D tys A) {a : Nat} (q0 t0 : Nat) {cA : ClassId} {n : Nat} {f : Nat → Int64} (ha : ws[q0]? = some (a, .inl (cA, n, .inr (.inl f)))) (ht : tys[t0]? = some (cA, .long)) {i : Int32} {v : Int64} {k : Nat} (h0 : ¬ i < 0) (hk : i.toNatClampNeg = k) (hlt : k < n) (hv : f k = v) (hd : decode cc pc = .ok (.laload, 1))
    (kk : J p l e R s m args below meth c D A nL cells slots Q ws (pc + 1) lv (.long v :: rest)) : J p l e R s m args below meth c D A nL cells slots Q ws pc lv (.int i :: .ref a :: rest) := fun H locs ls hP hD hS hl => va_lald C.1 C.2.1 C.2.2.2.2.2.1 hP q0 t0 ha ht (vin h0 hk hlt) hd (by rw [hk, hv]; exact (kk H locs ls hP hD hS hl))
theorem j_aald (C : CX p R s m args meth c cc own nL D tys A) {a : Nat} (q0 t0 : Nat) {cA : ClassId} {Cn : String} {n : Nat} {f : Nat → Option Nat} (ha : ws[q0]? = some (a, .inl (cA, n, .inr (.inr (.inr (.inr f)))))) (ht : tys[t0]? = some (cA, .object Cn)) {i : Int32} {v : Value} {k : Nat} (h0 : ¬ i < 0) (hk : i.toNatClampNeg = k) (hlt : k < n) (hv : va_rf (f k) = v) (hd : decode cc pc = .ok (.aaload, 1))
    (kk : J p l e R s m args below meth c D A nL cells slots Q ws (pc + 1) lv (v :: rest)) : J p l e R s m args below meth c D A nL cells slots Q ws pc lv (.int i :: .ref a :: rest) := fun H locs ls hP hD hS hl => va_aldq C.1 C.2.1 C.2.2.2.2.2.1 hP q0 t0 ha ht (vin h0 hk hlt) hd (by rw [hk, hv]; exact (kk H locs ls hP hD hS hl))
theorem j_iast (C : CX p R s m args meth c cc own nL D tys A) {a : Nat} (q0 t0 : Nat) {cA : ClassId} {n : Nat} {f : Nat → Int32} (ha : ws[q0]? = some (a, .inl (cA, n, .inl f))) (ht : tys[t0]? = some (cA, .int)) {i x : Int32} {k : Nat} (h0 : ¬ i < 0) (hk : i.toNatClampNeg = k) (hlt : k < n) (hd : decode cc pc = .ok (.iastore, 1)) (hws : ws.set q0 (a, .inl (cA, n, .inl (upd f k x))) = ws')
    (kk : J p l e R s m args below meth c D A nL cells slots Q ws' (pc + 1) lv rest) : J p l e R s m args below meth c D A nL cells slots Q ws pc lv (.int x :: .int i :: .ref a :: rest) := fun H locs ls hP hD hS hl => va_iast C.1 C.2.1 C.2.2.2.2.2.1 hP hD hS q0 t0 ha ht (vin h0 hk hlt) hd (by rw [hk]; exact (fun H locs hP hD hS => kk H locs ls (hws ▸ hP) (hws ▸ hD) hS hl))
theorem j_zast (C : CX p R s m args meth c cc own nL D tys A) {a : Nat} (q0 t0 : Nat) {cA : ClassId} {n : Nat} {f : Nat → Int32} (ha : ws[q0]? = some (a, .inl (cA, n, .inl f))) (ht : tys[t0]? = some (cA, .boolean)) {i x : Int32} {k : Nat} (h0 : ¬ i < 0) (hk : i.toNatClampNeg = k) (hlt : k < n) (hd : decode cc pc = .ok (.bastore, 1)) (hws : ws.set q0 (a, .inl (cA, n, .inl (upd f k (vp_nar .boolean x)))) = ws')
    (kk : J p l e R s m args below meth c D A nL cells slots Q ws' (pc + 1) lv rest) : J p l e R s m args below meth c D A nL cells slots Q ws pc lv (.int x :: .int i :: .ref a :: rest) := fun H locs ls hP hD hS hl => va_zast C.1 C.2.1 C.2.2.2.2.2.1 hP hD hS q0 t0 ha ht (vin h0 hk hlt) hd (by rw [hk]; exact (fun H locs hP hD hS => kk H locs ls (hws ▸ hP) (hws ▸ hD) hS hl))
theorem j_cast (C : CX p R s m args meth c cc own nL D tys A) {a : Nat} (q0 t0 : Nat) {cA : ClassId} {n : Nat} {f : Nat → Int32} (ha : ws[q0]? = some (a, .inl (cA, n, .inl f))) (ht : tys[t0]? = some (cA, .char)) {i x : Int32} {k : Nat} (h0 : ¬ i < 0) (hk : i.toNatClampNeg = k) (hlt : k < n) (hd : decode cc pc = .ok (.castore, 1)) (hws : ws.set q0 (a, .inl (cA, n, .inl (upd f k (vp_nar .char x)))) = ws')
    (kk : J p l e R s m args below meth c D A nL cells slots Q ws' (pc + 1) lv rest) : J p l e R s m args below meth c D A nL cells slots Q ws pc lv (.int x :: .int i :: .ref a :: rest) := fun H locs ls hP hD hS hl => va_cast C.1 C.2.1 C.2.2.2.2.2.1 hP hD hS q0 t0 ha ht (vin h0 hk hlt) hd (by rw [hk]; exact (fun H locs hP hD hS => kk H locs ls (hws ▸ hP) (hws ▸ hD) hS hl))
theorem j_last (C : CX p R s m args meth c cc own nL D tys A) {a : Nat} (q0 t0 : Nat) {cA : ClassId} {n : Nat} {f : Nat → Int64} (ha : ws[q0]? = some (a, .inl (cA, n, .inr (.inl f)))) (ht : tys[t0]? = some (cA, .long)) {i : Int32} {x : Int64} {k : Nat} (h0 : ¬ i < 0) (hk : i.toNatClampNeg = k) (hlt : k < n) (hd : decode cc pc = .ok (.lastore, 1)) (hws : ws.set q0 (a, .inl (cA, n, .inr (.inl (vp_updL f k x)))) = ws')
    (kk : J p l e R s m args below meth c D A nL cells slots Q ws' (pc + 1) lv rest) : J p l e R s m args below meth c D A nL cells slots Q ws pc lv (.long x :: .int i :: .ref a :: rest) := fun H locs ls hP hD hS hl => va_last C.1 C.2.1 C.2.2.2.2.2.1 hP hD hS q0 t0 ha ht (vin h0 hk hlt) hd (by rw [hk]; exact (fun H locs hP hD hS => kk H locs ls (hws ▸ hP) (hws ▸ hD) hS hl))
theorem j_aast (C : CX p R s m args meth c cc own nL D tys A) {a : Nat} (q0 t0 qk ci : Nat) {cA : ClassId} {r : vw_C} {n v : Nat} {vs : List Value} {f : Nat → Option Nat} (ha : ws[q0]? = some (a, .inl (cA, n, .inr (.inr (.inr (.inr f)))))) (ht : tys[t0]? = some (cA, .object r.1)) (hv : ws[qk]? = some (v, .inr (ci, vs))) (hc : vwCl[ci]? = some r) {i : Int32} {k : Nat} (h0 : ¬ i < 0) (hk : i.toNatClampNeg = k) (hlt : k < n) (hd : decode cc pc = .ok (.aastore, 1)) (hws : ws.set q0 (a, .inl (cA, n, .inr (.inr (.inr (.inr (va_up f k (some v))))))) = ws')
    (kk : J p l e R s m args below meth c D A nL cells slots Q ws' (pc + 1) lv rest) : J p l e R s m args below meth c D A nL cells slots Q ws pc lv (.ref v :: .int i :: .ref a :: rest) := fun H locs ls hP hD hS hl => va_astq C.1 C.2.1 C.2.2.2.2.2.1 hP hD hS q0 t0 qk ci ha ht hv hc (vin h0 hk hlt) hd (by rw [hk]; exact (fun H locs hP hD hS => kk H locs ls (hws ▸ hP) (hws ▸ hD) hS hl))
theorem j_alen (C : CX p R s m args meth c cc own nL D tys A) {a : Nat} (q0 t0 : Nat) {cA : ClassId} {x : vp_A} (ha : ws[q0]? = some (a, .inl (cA, x))) {ty : FieldType} (ht : tys[t0]? = some (cA, ty)) {v : Int32} (hv : Int32.ofNat x.1 = v) (hd : decode cc pc = .ok (.arraylength, 1))
    (kk : J p l e R s m args below meth c D A nL cells slots Q ws (pc + 1) lv (.int v :: rest)) : J p l e R s m args below meth c D A nL cells slots Q ws pc lv (.ref a :: rest) := fun H locs ls hP hD hS hl => va_alen C.1 C.2.1 C.2.2.2.2.2.1 hP q0 t0 ha ht hv hd (kk H locs ls hP hD hS hl)
theorem j_acpy (C : CX p R s m args meth c cc own nL D tys A) {ix a a0 : Nat} (hw : Cond.methodLink own ix arraycopyName ∈ WALL) (hw1 : Cond.native arraycopyName ∈ WALL) (hw2 : Cond.static arraycopyName ∈ WALL) (hw3 : Cond.initialized "java/lang/System" ∈ WALL) (q0 q1 t0 : Nat) {c0 : ClassId} {n0 n1 : Nat} {f g : Nat → Int32} (ha0 : ws[q0]? = some (a0, .inl (c0, n0, .inl f))) (ha1 : ws[q1]? = some (a, .inl (c0, n1, .inl g))) (ht0 : tys[t0]? = some (c0, .int)) {sp dp n : Int32} (h1 : ¬ sp < 0) (h2 : ¬ dp < 0) (h3 : ¬ n < 0) {ks kd kn : Nat} (hks : sp.toNatClampNeg = ks) (hkd : dp.toNatClampNeg = kd) (hkn : n.toNatClampNeg = kn) (h4 : ks + kn ≤ n0) (h5 : kd + kn ≤ n1) (hfr : 1 ≤ R.frames) (hlo : (rest.map fun v => v.category).sum + (nativeFrameWords "java/lang/System" "arraycopy" 5 + 11) ≤ R.locals) (hd : decode cc pc = .ok (.invokestatic ix, 3)) (hws : ws.set q1 (a, .inl (c0, n1, .inl (va_cpy f g ks kd kn))) = ws')
    (kk : J p l e R s m args below meth c D A nL cells slots Q ws' (pc + 3) lv rest) : J p l e R s m args below meth c D A nL cells slots Q ws pc lv (.int n :: .int dp :: .ref a :: .int sp :: .ref a0 :: rest) := fun H locs ls hP hD hS hl => va_copyi C.1 C.2.1 (C.2.2.1.trans hl.1.symm) C.2.2.2.1 (C.2.2.2.2.1 _ hw) (C.2.2.2.2.1 _ hw1) (C.2.2.2.2.1 _ hw2) (C.2.2.2.2.1 _ hw3) C.2.2.2.2.2.1 hP hD hS q0 q1 t0 t0 ha0 ha1 ht0 ht0 rfl h1 h2 h3 (by rw [hks, hkn]; exact h4) (by rw [hkd, hkn]; exact h5) (fun _ _ => rfl) hfr hlo hd (by rw [hks, hkd, hkn]; exact (fun H locs hP hD hS => kk H locs ls (hws ▸ hP) (hws ▸ hD) hS hl))
theorem j_newa (C : CX p R s m args meth c cc own nL D tys A) {at1 : ArrayType} {ty : FieldType} (hw : Cond.arrayClass (newarray.typeOf at1) ∈ WALL) (hty : newarray.typeOf at1 = ty) (t0 : Nat) {cA : ClassId} (ht : tys[t0]? = some (cA, ty)) (hra : ∀ (U : State) (c : ClassId), va_RA U c ty → U.vm.findClass ("[" ++ ty.toString) = some c) {n : Int32} {N : Nat} {a0 : vp_A} (ha : ∀ cA : ClassId, vp_cell cA a0 = arrV cA N (fun _ => defaultValue ty)) (hn : ¬ n < 0) (hN : n.toNatClampNeg = N) (hb : N * componentBytes ty ≤ 536870912) (hcs : cells + 1 ≤ R.cells) (hss : slots + N ≤ R.slots) (hd : decode cc pc = .ok (.newarray at1, 2))
    (kk : ∀ q : Nat, J p l e R s m args below meth c D A nL (cells + 1) (slots + N) Q (ws ++ [(q, .inl (cA, a0))]) (pc + 2) lv (.ref q :: rest)) : J p l e R s m args below meth c D A nL cells slots Q ws pc lv (.int n :: rest) := fun H locs ls hP hD hS hl => by
  refine va_newa C.1 C.2.1 (C.2.2.2.2.1 _ hw) hty C.2.2.2.2.2.1 hP hD hS C.2.2.2.2.2.2.2 ha hn hN hb hcs hss hd (fun q cA1 H1 hK1 hP1 hD1 hS1 => ?_)
  have h1 := hra s cA (C.2.2.2.2.2.1.2 t0 _ ht).2
  have h2 := hra s cA1 (hK1.2 tys.length (cA1, ty) (by simp)).2
  have h3 : cA1 = cA := Option.some.inj (h2.symm.trans h1)
  subst h3
  exact kk q H1 locs ls hP1 hD1 hS1 hl
theorem j_newq (C : CX p R s m args meth c cc own nL D tys A) {ix : Nat} (hw : Cond.classLink own ix "BowlShelf$Standing" ∈ WALL) (t0 : Nat) {cA : ClassId} (ht : tys[t0]? = some (cA, .object "BowlShelf$Standing")) {n : Int32} {N : Nat} (hn : ¬ n < 0) (hN : n.toNatClampNeg = N) (hb : N * 4 ≤ 536870912) (hcs : cells + 1 ≤ R.cells) (hss : slots + N ≤ R.slots) (hd : decode cc pc = .ok (.anewarray ix, 3))
    (kk : ∀ q : Nat, J p l e R s m args below meth c D A nL (cells + 1) (slots + N) Q (ws ++ [(q, .inl (cA, N, .inr (.inr (.inr (.inr (fun _ => none))))))]) (pc + 3) lv (.ref q :: rest)) : J p l e R s m args below meth c D A nL cells slots Q ws pc lv (.int n :: rest) := fun H locs ls hP hD hS hl => by
  refine va_newq C.1 C.2.1 C.2.2.2.1 (C.2.2.2.2.1 _ hw) C.2.2.2.2.2.2.1.2.2.2.2.2.2.2.2.2.2 C.2.2.2.2.2.1 hP hD hS C.2.2.2.2.2.2.2 hn hN hb hcs hss hd (fun q cA1 H1 hK1 hP1 hD1 hS1 => ?_)
  obtain ⟨-, -, -, -, -, h1⟩ := (C.2.2.2.2.2.1.2 t0 _ ht).2
  obtain ⟨-, -, -, -, -, h2⟩ := (hK1.2 tys.length (cA1, .object "BowlShelf$Standing") (by simp)).2
  have h3 : cA1 = cA := Option.some.inj (h2.symm.trans h1)
  subst h3
  exact kk q H1 locs ls hP1 hD1 hS1 hl
theorem j_new (C : CX p R s m args meth c cc own nL D tys A) {Cn : String} {T : u_T} {N ci ix : Nat} (hin : ∀ w ∈ u_ws Cn T N, w ∈ WALL) {ty : Nat → FieldType} (hty : ∀ k, k < N → parseFieldDescriptor (T k).2.2.1 = some (ty k)) (hw1 : Cond.classLink own ix Cn ∈ WALL) (hw2 : Cond.instantiable Cn N ∈ WALL) (hw3 : Cond.initialized Cn ∈ WALL) (hc : vwCl[ci]? = some (Cn, T, N)) {fs : List Value} (hfs : ∀ j, j < N → defaultValue (ty j) = vp_V fs j) (hcs : cells + 1 ≤ R.cells) (hss : slots + N ≤ R.slots) (hd : decode cc pc = .ok (.new ix, 3))
    (kk : ∀ q : Nat, J p l e R s m args below meth c D A nL (cells + 1) (slots + N) Q (ws ++ [(q, .inr (ci, fs))]) (pc + 3) lv (.ref q :: rest)) : J p l e R s m args below meth c D A nL cells slots Q ws pc lv rest := fun H locs ls hP hD hS hl =>
  va_new C.1 C.2.1 C.2.2.2.2.1 hin ty hty C.2.2.2.1 (C.2.2.2.2.1 _ hw1) (C.2.2.2.2.1 _ hw2) (C.2.2.2.2.1 _ hw3) C.2.2.2.2.2.1 hP hD hS C.2.2.2.2.2.2.2 hc hfs hcs hss hd (fun q H1 hP1 hD1 hS1 => kk q H1 locs ls hP1 hD1 hS1 hl)
theorem j_oinit (C : CX p R s m args meth c cc own nL D tys A) {ix a : Nat} (hw1 : Cond.methodLink own ix objectInit ∈ WALL) (hw2 : Cond.instanceMethod objectInit ∈ WALL) (hw3 : Cond.code objectInit ⟨#[0xb1]⟩ 1 none ∈ WALL) (hd : decode cc pc = .ok (.invokespecial ix, 3)) (hfr : 1 ≤ R.frames) (hlo : 2 * 0 + (rest.map fun v => v.category).sum + 12 ≤ R.locals)
    (kk : J p l e R s m args below meth c D A nL cells slots Q ws (pc + 3) lv rest) : J p l e R s m args below meth c D A nL cells slots Q ws pc lv (.ref a :: rest) := fun H locs ls hP hD hS hl =>
  W.objInit C.1 C.2.1 C.2.2.2.1 (C.2.2.2.2.1 _ hw1) (C.2.2.2.2.1 _ hw2) (C.2.2.2.2.1 _ hw3) rfl (hl.1.trans C.2.2.1.symm) rfl hd hfr hlo (W.eq (g2 := F0 m (pc + 3) ls rest) rfl (kk H locs ls hP hD hS hl))
theorem j_widen {k n : Nat} (h1 : cells ≤ k) (h2 : slots ≤ n) (kk : J p l e R s m args below meth c D A nL k n Q ws pc lv rest) : J p l e R s m args below meth c D A nL cells slots Q ws pc lv rest := fun H locs ls hP hD hS hl => W.widen h1 h2 (kk H locs ls hP hD hS hl)
theorem j_lv (ks : List Nat) (h : lv_pick lv ks = lv') (kk : J p l e R s m args below meth c D A nL cells slots Q ws pc lv' rest) : J p l e R s m args below meth c D A nL cells slots Q ws pc lv rest := fun H locs ls hP hD hS hl => kk H locs ls hP hD hS (lv_sub hl ks h)
theorem j_eq {ws2 : va_W} {pc2 : Nat} {lv2 : List (Nat × Value)} {st2 : List Value} (h1 : ws = ws2) (h2 : pc = pc2) (h3 : lv = lv2) (h4 : rest = st2) (kk : J p l e R s m args below meth c D A nL cells slots Q ws2 pc2 lv2 st2) : J p l e R s m args below meth c D A nL cells slots Q ws pc lv rest := by subst h1 h2 h3 h4; exact kk
theorem arr_cong {D : va_G} {A : Nat → Prop} {ws ws' : va_W} {H : Heap} {a q0 n : Nat} {cA : ClassId} {f g : Nat → Int32} (ha : ws[q0]? = some (a, .inl (cA, n, .inl f))) (h : ∀ j, j < n → f j = g j) (hws : ws.set q0 (a, .inl (cA, n, .inl g)) = ws') (hP : va_P D vwCl ws H) (hD : va_D A ws) : va_P D vwCl ws' H ∧ va_D A ws' := by
  subst hws
  refine ⟨hP.set hD ha ?_ (fun _ _ => rfl), hD.set ha⟩
  have h1 : H[a]? = some (vp_cell cA (n, .inl f)) := hP q0 _ ha
  show H[a]? = some (vp_cell cA (n, .inl g))
  rw [h1, vp_cell_i, vp_cell_i]
  unfold arrV
  congr 2
  apply congrArg
  funext j
  show Value.int (f j.val) = Value.int (g j.val)
  rw [h j.val j.isLt]
theorem j_arrc {a q0 n : Nat} {cA : ClassId} {f g : Nat → Int32} (ha : ws[q0]? = some (a, .inl (cA, n, .inl f))) (h : ∀ j, j < n → f j = g j) (hws : ws.set q0 (a, .inl (cA, n, .inl g)) = ws') (kk : J p l e R s m args below meth c D A nL cells slots Q ws' pc lv rest) : J p l e R s m args below meth c D A nL cells slots Q ws pc lv rest := fun H locs ls hP hD hS hl => by
  obtain ⟨h1, h2⟩ := arr_cong ha h hws hP hD
  exact kk H locs ls h1 h2 hS hl
theorem upd_all {g : Nat → Int32} {P : Nat → Int32 → Prop} {i : Nat} {v : Int32} (hg : ∀ j, j < i → P j (g j)) (hv : P i v) : ∀ j, j < i + 1 → P j (upd g i v j) := fun j hj => by
  by_cases h : j = i
  · subst h; rw [pk_us]; exact hv
  · rw [pk_un h]; exact hg j (by omega)
theorem nI12 {i : Nat} (k : Nat) (h : i < k) (hk : k < 2 ^ 31) : ¬ nI k ≤ nI i := nI_ge h hk
end JR
end
section
abbrev SU : Type := (Nat → Nat) × (Nat → Int32) × (Nat → Nat → Int32)
abbrev TY (cyC cyI cyJ cyZ cyO : ClassId) : List (ClassId × FieldType) := [(cyC, .char), (cyI, .int), (cyJ, .long), (cyZ, .boolean), (cyO, .object "BowlShelf$Standing")]
def PreK (D : va_G) (tys : List (ClassId × FieldType)) (As : List Value) (wc : va_W) (sz : Nat) : Array Value → State → Prop := va_Pc As (fun U => U.heap.size = sz ∧ va_P D vwCl wc U.heap ∧ va_K D vwCl tys U ∧ va_D (fun _ => True) wc ∧ NX U)
def EndK (D : va_G) (tys : List (ClassId × FieldType)) (A : Nat → Prop) (w1 : va_W) (t : State) : Prop := va_P D vwCl w1 t.heap ∧ va_K D vwCl tys t ∧ va_D A w1
def Qx (ret : SU → Option Value) (post : SU → Prop) (B : SU → State → Prop) (A : Nat → Prop) : Array Value → State → Outcome → State → Prop := fun _ st oc t => (∃ u : SU, oc = .returned (ret u) ∧ post u ∧ B u t) ∧ va_F A st t
/-- a method's contract: with the arguments As over the cells wc it answers 'ret u', and the cells are 'w1 u' -/
def KK (l : Launch) (D : va_G) (tys : List (ClassId × FieldType)) (y : MethodName) (bytes : ByteArray) (maxL : Nat) (rt : Option FieldType) (rm : Room) (mc ms : Nat) (As : List Value) (wc : va_W) (ret : SU → Option Value) (post : SU → Prop) (w1 : SU → va_W) : Prop :=
  ∀ sz : Nat, Met l y (Cond.code y bytes maxL rt :: WALL) rm (PreK D tys As wc sz) (Qx ret post (fun u t => EndK D tys (va_A wc sz) (w1 u) t) (va_A wc sz)) mc ms (va_A wc sz)
def QX (below : List Frame) (D : va_G) (tys : List (ClassId × FieldType)) (A : Nat → Prop) (ret : SU → Option Value) (post : SU → Prop) (w1 : SU → va_W) (args : Array Value) (s : State) (mc ms : Nat) : State → Prop := MQ below (Qx ret post (fun u t => EndK D tys A (w1 u) t) A) args s mc ms A
theorem fm_of {α β : Type} {f : α → Option β} : ∀ {is : List α} {w : List β}, is.map f = w.map some → is.filterMap f = w
  | [], [], _ => rfl
  | [], _ :: _, h => by cases h
  | _ :: _, [], h => by cases h
  | i :: is, x :: w, h => by
    obtain ⟨h1, h2⟩ := List.cons.inj h
    rw [List.filterMap_cons, h1, fm_of h2]
theorem KK.of {l : Launch} {D : va_G} {tys : List (ClassId × FieldType)} {y : MethodName} {bytes : ByteArray} {maxL : Nat} {rt : Option FieldType} {rm : Room} {mc ms : Nat} {As : List Value} {wc : va_W} {ret : SU → Option Value} {post : SU → Prop} {w1 : SU → va_W} {lv0 : List (Nat × Value)}
    (hy : plainName y.cls = true) (hlv : lv_args 0 As = lv0) (hlen : (lg_sl As).length ≤ maxL)
    (body : ∀ (p : Program) (e : Env) (s : State) (m : MethodId) (args : Array Value) (below : List Frame) (meth : Method) (c : Code) (A : Nat → Prop), CX p rm s m args meth c bytes y.cls maxL D tys A → meth.sig.returnType = rt → meth.locks = false → meth.name = y.name → J p l e rm s m args below meth c D A maxL 0 0 (QX below D tys A ret post w1 args s mc ms) wc 0 lv0 []) : KK l D tys y bytes maxL rt rm mc ms As wc ret post w1 := by
  intro sz
  refine Met.ofW (cc := bytes) (maxL := maxL) (ret := rt) hy rfl ?_
  intro p e s m args below meth c s₁ B hml hv
  obtain ⟨rfl, hsz, hP, hK, hD0, hN⟩ := hv
  have hts := atoms_spec (ws := Cond.code y bytes maxL rt :: WALL) B.pre
  subst hsz
  subst hlv
  have hl := lv_entry As (n := maxL) hlen
  rw [lg_entry_eq]
  exact body p e s m _ below meth c (va_A wc s.heap.size) ⟨B.exec, B.bytes, hml, findClass_of_methodNamed B.named, fun w h => hts w (List.mem_cons_of_mem _ h), hK, hN, fun q h => Or.inr h⟩ B.returns B.notSynchronized (name_of_methodNamed B.named B.method).1 s.heap [] _ hP hD0.self va_S.rf hl
section KR
variable {p : Program} {l : Launch} {e : Env} {R : Room} {s : State} {m : MethodId} {args : Array Value} {below : List Frame} {meth : Method} {c : Code} {cc : ByteArray} {own : String} {nL : Nat} {D : va_G} {tys : List (ClassId × FieldType)} {A : Nat → Prop} {cells slots : Nat} {Q : State → Prop} {ws ws' : va_W} {pc : Nat} {lv lv' : List (Nat × Value)} {rest st0 : List Value}
theorem call_x {a : Array Value} {A1 : Nat → Prop} {H0 H : Heap} {ls : Array Slot} {locs : List Loc} {mc ms : Nat} {free : Addr → Prop} {ret : SU → Option Value} {post : SU → Prop} {B : SU → State → Prop} (hr : va_Run p l e R s m args below meth c H locs cells slots mc ms (F0 m pc ls st0) rest (Qx ret post B A1 a) free) (hS : va_S A H0 H locs) (hA : ∀ q, q < H.size → A1 q → A q) (hf : ∀ q, free q → A q)
    (kk : ∀ (u : SU) (t : State) (H1 : Heap) (locs1 : List Loc), t.heap = H1 → s.vm.Alike t.vm → post u → B u t → H.size ≤ H1.size → (∀ q : Nat, q < H.size → ¬ A1 q → H1[q]? = H[q]?) → va_S A H0 H1 locs1 → W p l e R s m args below meth c H1 locs1 (cells + mc) (slots + ms) Q (F0 m (pc + 3) ls ((ret u).toList ++ rest))) : W p l e R s m args below meth c H locs cells slots Q (F0 m pc ls st0) := by
  intro T hT X
  obtain ⟨v, st₀, t, T', L, h0, X', hL, e1, e2, ⟨⟨u, hv, hp, hb⟩, hz, hk⟩, st⟩ := hr T hT X
  cases hv
  rw [h0] at hz hk
  obtain ⟨t2, a1, b1⟩ := kk u t T'.heap (locs ++ L) e1.symm (by rw [← e2]; exact X'.warmed.alike) hp hb (by rw [e1]; exact hz) (fun q h1 h2 => by rw [e1]; exact hk q h1 h2)
    ⟨Nat.le_trans hS.1 (by rw [e1]; exact hz), fun q h1 h2 => by rw [e1, hk q (Nat.lt_of_lt_of_le h1 hS.1) (fun z => h2 (hA q (Nat.lt_of_lt_of_le h1 hS.1) z))]; exact hS.2.1 q h1 h2, fun q hq => by
      rcases List.mem_append.mp hq with h | h
      · exact hS.2.2 q h
      · exact hf _ (hL q h)⟩ T' rfl X'
  exact ⟨t2, st t2 a1, b1⟩
theorem preK_blind (As : List Value) (wc : va_W) (sz : Nat) : FrameBlind (PreK D tys As wc sz) := fun a U g mk q => by
  obtain ⟨q0, q1, qP, qK, qD, qN⟩ := q
  exact ⟨q0, q1, qP, va_K.moved (u := U) (U := U.calling g mk a) (Vm.Alike.refl U.vm) qK, qD, NX.same (u := U) (U := U.calling g mk a) rfl qN⟩
theorem j_callV (C : CX p R s m args meth c cc own nL D tys A) {y : MethodName} {bytes : ByteArray} {maxL ix b n mc ms : Nat} {rt : Option FieldType} {rm : Room} {As : List Value} {wc wr : va_W} {ret : SU → Option Value} {post : SU → Prop} {w1 : SU → va_W} {ci N : Nat} {Tt : u_T} {fsb : List Value}
    (K : KK l D tys y bytes maxL rt rm mc ms (.ref b :: As) wc ret post w1)
    (hcd : Cond.code y bytes maxL rt ∈ WALL) (hini : Cond.initialized y.cls ∈ WALL) (hlk : Cond.methodLink own ix y ∈ WALL) (him : Cond.instanceMethod y ∈ WALL) (hsl : Cond.selects y.cls y y ∈ WALL)
    (hy : y.cls ≠ "java/lang/invoke/MethodHandle" ∧ y.cls ≠ "java/lang/invoke/VarHandle" ∧ (parseMethodDescriptor y.desc).map (fun d => d.parameters.length) = some n) (hnA : As.length = n)
    (hR : rm.cells = mc ∧ rm.slots = ms ∧ rm.frames + 1 ≤ R.frames ∧ 8 + (maxL + 11) + rm.locals ≤ R.locals) (hf : cells + mc ≤ R.cells ∧ slots + ms ≤ R.slots)
    (isC isR : List Nat) (hC : isC.map (fun i => ws[i]?) = wc.map some) (hRr : isR.map (fun i => ws[i]?) = wr.map some) (hnd : va_nd isC = true ∧ va_nd isR = true ∧ ∀ i ∈ isR, i ∉ isC) (qb : Nat) (hrecv : ws[qb]? = some (b, .inr (ci, fsb))) (hcb : vwCl[ci]? = some (y.cls, Tt, N))
    (hst : st0 = As.reverse ++ .ref b :: rest) (hrs : (rest.map fun v => v.category).sum ≤ 8) (hd : decode cc pc = .ok (.invokevirtual ix, 3))
    (kk : ∀ u : SU, post u → J p l e R s m args below meth c D A nL (cells + mc) (slots + ms) Q (wr ++ w1 u) (pc + 3) lv ((ret u).toList ++ rest)) : J p l e R s m args below meth c D A nL cells slots Q ws pc lv st0 := fun H locs ls hP hD hS hl => by
  have hPc := hP.sub (ws' := wc) isC (fm_of hC)
  have hDc := hD.sub isC hnd.1 hC
  have hFc := va_free (wc := wc) hD hS C.2.2.2.2.2.2.2 isC hC
  have hts := C.2.2.2.2.1
  have hK := C.2.2.2.2.2.1
  have hG := wq_G hcd
  subst hst
  refine call_x (va_runV (As := As) (rest := rest) ⟨C.1, C.2.1, C.2.2.1, C.2.2.2.1, hts⟩ (K H.size) ⟨callB_of n hts hG rfl hR.1 hR.2.1 (hts _ hini) (hts _ hlk) hy ⟨hR.2.2.1, hR.2.2.2⟩, hts _ him, hts _ hsl⟩ ⟨preK_blind _ wc H.size, va_recv hK hP (ci := ci) (q0 := qb) hcb hrecv, fun U hU hW => ⟨rfl, by rw [hU], by rw [hU]; exact hPc, va_K.moved hW.alike hK, hDc.weaken (fun _ _ _ _ => trivial), NX.warm hW C.2.2.2.2.2.2.1⟩⟩ rfl hnA hl.1 rfl (lv_room hrs) hd hf) hS (fun q _ h => hFc q h) hFc (fun u t H1 locs1 ht hvm hw hB hz1 hk1 hS1 => ?_)
  obtain ⟨hP1, hK1, hD1⟩ := hB
  rw [ht] at hP1
  obtain ⟨hP2, hD2⟩ := va_join hP hD isC isR hC hRr hnd.2.1 hnd.2.2 hk1 hFc hP1 hD1
  exact kk u hw H1 locs1 ls hP2 hD2 hS1 hl
theorem j_callS (C : CX p R s m args meth c cc own nL D tys A) {y : MethodName} {bytes : ByteArray} {maxL ix n mc ms : Nat} {rt : Option FieldType} {rm : Room} {As : List Value} {wc wr : va_W} {ret : SU → Option Value} {post : SU → Prop} {w1 : SU → va_W}
    (K : KK l D tys y bytes maxL rt rm mc ms As wc ret post w1)
    (hcd : Cond.code y bytes maxL rt ∈ WALL) (hini : Cond.initialized y.cls ∈ WALL) (hlk : Cond.methodLink own ix y ∈ WALL) (hsc : Cond.static y ∈ WALL)
    (hy : y.cls ≠ "java/lang/invoke/MethodHandle" ∧ y.cls ≠ "java/lang/invoke/VarHandle" ∧ (parseMethodDescriptor y.desc).map (fun d => d.parameters.length) = some n) (hnA : As.length = n)
    (hR : rm.cells = mc ∧ rm.slots = ms ∧ rm.frames + 1 ≤ R.frames ∧ 8 + (maxL + 11) + rm.locals ≤ R.locals) (hf : cells + mc ≤ R.cells ∧ slots + ms ≤ R.slots)
    (isC isR : List Nat) (hC : isC.map (fun i => ws[i]?) = wc.map some) (hRr : isR.map (fun i => ws[i]?) = wr.map some) (hnd : va_nd isC = true ∧ va_nd isR = true ∧ ∀ i ∈ isR, i ∉ isC)
    (hst : st0 = As.reverse ++ rest) (hrs : (rest.map fun v => v.category).sum ≤ 8) (hd : decode cc pc = .ok (.invokestatic ix, 3))
    (kk : ∀ u : SU, post u → J p l e R s m args below meth c D A nL (cells + mc) (slots + ms) Q (wr ++ w1 u) (pc + 3) lv ((ret u).toList ++ rest)) : J p l e R s m args below meth c D A nL cells slots Q ws pc lv st0 := fun H locs ls hP hD hS hl => by
  have hPc := hP.sub (ws' := wc) isC (fm_of hC)
  have hDc := hD.sub isC hnd.1 hC
  have hFc := va_free (wc := wc) hD hS C.2.2.2.2.2.2.2 isC hC
  have hts := C.2.2.2.2.1
  have hK := C.2.2.2.2.2.1
  have hG := wq_G hcd
  subst hst
  refine call_x (va_runS (As := As) (rest := rest) ⟨C.1, C.2.1, C.2.2.1, C.2.2.2.1, hts⟩ (K H.size) ⟨callB_of n hts hG rfl hR.1 hR.2.1 (hts _ hini) (hts _ hlk) hy ⟨hR.2.2.1, hR.2.2.2⟩, hts _ hsc⟩ ⟨preK_blind _ wc H.size, fun U hU hW => ⟨rfl, by rw [hU], by rw [hU]; exact hPc, va_K.moved hW.alike hK, hDc.weaken (fun _ _ _ _ => trivial), NX.warm hW C.2.2.2.2.2.2.1⟩⟩ rfl hnA hl.1 rfl (lv_room hrs) hd hf) hS (fun q _ h => hFc q h) hFc (fun u t H1 locs1 ht hvm hw hB hz1 hk1 hS1 => ?_)
  obtain ⟨hP1, hK1, hD1⟩ := hB
  rw [ht] at hP1
  obtain ⟨hP2, hD2⟩ := va_join hP hD isC isR hC hRr hnd.2.1 hnd.2.2 hk1 hFc hP1 hD1
  exact kk u hw H1 locs1 ls hP2 hD2 hS1 hl
theorem j_callI (C : CX p R s m args meth c cc own nL D tys A) {y : MethodName} {bytes : ByteArray} {maxL ix b n mc ms : Nat} {rm : Room} {As : List Value} {wc wr : va_W} {ret : SU → Option Value} {post : SU → Prop} {w1 : SU → va_W}
    (K : KK l D tys y bytes maxL none rm mc ms (.ref b :: As) wc ret post w1)
    (hcd : Cond.code y bytes maxL none ∈ WALL) (hini : Cond.initialized y.cls ∈ WALL) (hlk : Cond.methodLink own ix y ∈ WALL) (him : Cond.instanceMethod y ∈ WALL) (hnm : y.name = "<init>")
    (hy : y.cls ≠ "java/lang/invoke/MethodHandle" ∧ y.cls ≠ "java/lang/invoke/VarHandle" ∧ (parseMethodDescriptor y.desc).map (fun d => d.parameters.length) = some n) (hnA : As.length = n)
    (hR : rm.cells = mc ∧ rm.slots = ms ∧ rm.frames + 1 ≤ R.frames ∧ 8 + (maxL + 11) + rm.locals ≤ R.locals) (hf : cells + mc ≤ R.cells ∧ slots + ms ≤ R.slots)
    (isC isR : List Nat) (hC : isC.map (fun i => ws[i]?) = wc.map some) (hRr : isR.map (fun i => ws[i]?) = wr.map some) (hnd : va_nd isC = true ∧ va_nd isR = true ∧ ∀ i ∈ isR, i ∉ isC)
    (hst : st0 = As.reverse ++ .ref b :: rest) (hrs : (rest.map fun v => v.category).sum ≤ 8) (hd : decode cc pc = .ok (.invokespecial ix, 3))
    (kk : ∀ u : SU, post u → J p l e R s m args below meth c D A nL (cells + mc) (slots + ms) Q (wr ++ w1 u) (pc + 3) lv ((ret u).toList ++ rest)) : J p l e R s m args below meth c D A nL cells slots Q ws pc lv st0 := fun H locs ls hP hD hS hl => by
  have hPc := hP.sub (ws' := wc) isC (fm_of hC)
  have hDc := hD.sub isC hnd.1 hC
  have hFc := va_free (wc := wc) hD hS C.2.2.2.2.2.2.2 isC hC
  have hts := C.2.2.2.2.1
  have hK := C.2.2.2.2.2.1
  have hG := wq_G hcd
  subst hst
  refine call_x (va_runI (As := As) (rest := rest) ⟨C.1, C.2.1, C.2.2.1, C.2.2.2.1, hts⟩ (K H.size) ⟨callB_of n hts hG rfl hR.1 hR.2.1 (hts _ hini) (hts _ hlk) hy ⟨hR.2.2.1, hR.2.2.2⟩, hnm, hts _ him⟩ ⟨preK_blind _ wc H.size, fun U hU hW => ⟨rfl, by rw [hU], by rw [hU]; exact hPc, va_K.moved hW.alike hK, hDc.weaken (fun _ _ _ _ => trivial), NX.warm hW C.2.2.2.2.2.2.1⟩⟩ rfl hnA hl.1 rfl (lv_room hrs) hd hf) hS (fun q _ h => hFc q h) hFc (fun u t H1 locs1 ht hvm hw hB hz1 hk1 hS1 => ?_)
  obtain ⟨hP1, hK1, hD1⟩ := hB
  rw [ht] at hP1
  obtain ⟨hP2, hD2⟩ := va_join hP hD isC isR hC hRr hnd.2.1 hnd.2.2 hk1 hFc hP1 hD1
  exact kk u hw H1 locs1 ls hP2 hD2 hS1 hl
theorem j_callN (C : CX p R s m args meth c cc own nL D tys A) {y : MethodName} {bytes : ByteArray} {maxL ix b n mc ms : Nat} {rm : Room} {As : List Value} {wc wr : va_W} {ret : SU → Option Value} {post : SU → Prop} {w1 : SU → va_W} {host : String}
    (K : KK l D tys y bytes maxL none rm mc ms (.ref b :: As) wc ret post w1)
    (hcd : Cond.code y bytes maxL none ∈ WALL) (hini : Cond.initialized y.cls ∈ WALL) (hlk : va_Nw (.methodLinkNest own ix y host) s) (him : Cond.instanceMethod y ∈ WALL) (hnm : y.name = "<init>")
    (hy : y.cls ≠ "java/lang/invoke/MethodHandle" ∧ y.cls ≠ "java/lang/invoke/VarHandle" ∧ (parseMethodDescriptor y.desc).map (fun d => d.parameters.length) = some n) (hnA : As.length = n)
    (hR : rm.cells = mc ∧ rm.slots = ms ∧ rm.frames + 1 ≤ R.frames ∧ 8 + (maxL + 11) + rm.locals ≤ R.locals) (hf : cells + mc ≤ R.cells ∧ slots + ms ≤ R.slots)
    (isC isR : List Nat) (hC : isC.map (fun i => ws[i]?) = wc.map some) (hRr : isR.map (fun i => ws[i]?) = wr.map some) (hnd : va_nd isC = true ∧ va_nd isR = true ∧ ∀ i ∈ isR, i ∉ isC)
    (hst : st0 = As.reverse ++ .ref b :: rest) (hrs : (rest.map fun v => v.category).sum ≤ 8) (hd : decode cc pc = .ok (.invokespecial ix, 3))
    (kk : ∀ u : SU, post u → J p l e R s m args below meth c D A nL (cells + mc) (slots + ms) Q (wr ++ w1 u) (pc + 3) lv ((ret u).toList ++ rest)) : J p l e R s m args below meth c D A nL cells slots Q ws pc lv st0 := fun H locs ls hP hD hS hl => by
  have hPc := hP.sub (ws' := wc) isC (fm_of hC)
  have hDc := hD.sub isC hnd.1 hC
  have hFc := va_free (wc := wc) hD hS C.2.2.2.2.2.2.2 isC hC
  have hts := C.2.2.2.2.1
  have hK := C.2.2.2.2.2.1
  have hG := wq_G hcd
  subst hst
  refine call_x (va_runIN (As := As) (rest := rest) ⟨C.1, C.2.1, C.2.2.1, C.2.2.2.1, hts⟩ (K H.size) ⟨va_cnB n hts hG rfl hR.1 hR.2.1 hlk (hts _ hini) hy ⟨hR.2.2.1, hR.2.2.2⟩, hnm, hts _ him⟩ ⟨preK_blind _ wc H.size, fun U hU hW => ⟨rfl, by rw [hU], by rw [hU]; exact hPc, va_K.moved hW.alike hK, hDc.weaken (fun _ _ _ _ => trivial), NX.warm hW C.2.2.2.2.2.2.1⟩⟩ rfl hnA hl.1 rfl (lv_room hrs) hd hf) hS (fun q _ h => hFc q h) hFc (fun u t H1 locs1 ht hvm hw hB hz1 hk1 hS1 => ?_)
  obtain ⟨hP1, hK1, hD1⟩ := hB
  rw [ht] at hP1
  obtain ⟨hP2, hD2⟩ := va_join hP hD isC isR hC hRr hnd.2.1 hnd.2.2 hk1 hFc hP1 hD1
  exact kk u hw H1 locs1 ls hP2 hD2 hS1 hl
theorem j_iret (C : CX p R s m args meth c cc own nL D tys A) {v : Int32} (hr : meth.sig.returnType = some .int) {ret : SU → Option Value} {post : SU → Prop} {w1 : SU → va_W} {mc ms : Nat} (hk : meth.locks = false) (u : SU) (hv : ret u = some (.int v)) (hp : post u) (is : List Nat) (hn : va_nd is = true) (hs : is.map (fun i => ws[i]?) = (w1 u).map some) (h1 : cells ≤ mc) (h2 : slots ≤ ms) (hd : decode cc pc = .ok (.ireturn, 1)) : J p l e R s m args below meth c D A nL cells slots (QX below D tys A ret post w1 args s mc ms) ws pc lv [.int v] := fun H locs ls hP hD hS hl => by
  have hP9 := hP.sub (ws' := w1 u) is (fm_of hs)
  have hD9 := hD.sub is hn hs
  exact W.widen h1 h2 (W.iret C.1 C.2.1 hr (fun t ht hW => ⟨⟨u, by rw [hv], hp, by rw [ht]; exact hP9, va_K.moved hW.alike C.2.2.2.2.2.1, hD9⟩, hS.F ht⟩) hS.2.2 hd hk)
theorem j_zret (C : CX p R s m args meth c cc own nL D tys A) {v : Int32} {ty : FieldType} (hr : meth.sig.returnType = some ty) (hnw : narrow ty (.int v) = .int v) {ret : SU → Option Value} {post : SU → Prop} {w1 : SU → va_W} {mc ms : Nat} (hk : meth.locks = false) (u : SU) (hv : ret u = some (.int v)) (hp : post u) (is : List Nat) (hn : va_nd is = true) (hs : is.map (fun i => ws[i]?) = (w1 u).map some) (h1 : cells ≤ mc) (h2 : slots ≤ ms) (hd : decode cc pc = .ok (.ireturn, 1)) : J p l e R s m args below meth c D A nL cells slots (QX below D tys A ret post w1 args s mc ms) ws pc lv [.int v] := fun H locs ls hP hD hS hl => by
  have hP9 := hP.sub (ws' := w1 u) is (fm_of hs)
  have hD9 := hD.sub is hn hs
  exact W.widen h1 h2 (W.zret C.1 C.2.1 hr hnw (fun t ht hW => ⟨⟨u, by rw [hv], hp, by rw [ht]; exact hP9, va_K.moved hW.alike C.2.2.2.2.2.1, hD9⟩, hS.F ht⟩) hS.2.2 hd hk)
theorem j_vret (C : CX p R s m args meth c cc own nL D tys A) (hr : meth.sig.returnType = none) {ret : SU → Option Value} {post : SU → Prop} {w1 : SU → va_W} {mc ms : Nat} (hk : meth.locks = false) (u : SU) (hv : ret u = none) (hp : post u) (is : List Nat) (hn : va_nd is = true) (hs : is.map (fun i => ws[i]?) = (w1 u).map some) (h1 : cells ≤ mc) (h2 : slots ≤ ms) (hd : decode cc pc = .ok (.return_, 1)) : J p l e R s m args below meth c D A nL cells slots (QX below D tys A ret post w1 args s mc ms) ws pc lv [] := fun H locs ls hP hD hS hl => by
  have hP9 := hP.sub (ws' := w1 u) is (fm_of hs)
  have hD9 := hD.sub is hn hs
  exact W.widen h1 h2 (W.vret C.1 C.2.1 hr (fun t ht hW => ⟨⟨u, by rw [hv], hp, by rw [ht]; exact hP9, va_K.moved hW.alike C.2.2.2.2.2.1, hD9⟩, hS.F ht⟩) hS.2.2 hd hk)
theorem j_lret (C : CX p R s m args meth c cc own nL D tys A) {v : Int64} (hr : meth.sig.returnType = some .long) {ret : SU → Option Value} {post : SU → Prop} {w1 : SU → va_W} {mc ms : Nat} (hk : meth.locks = false) (u : SU) (hv : ret u = some (.long v)) (hp : post u) (is : List Nat) (hn : va_nd is = true) (hs : is.map (fun i => ws[i]?) = (w1 u).map some) (h1 : cells ≤ mc) (h2 : slots ≤ ms) (hd : decode cc pc = .ok (.lreturn, 1)) : J p l e R s m args below meth c D A nL cells slots (QX below D tys A ret post w1 args s mc ms) ws pc lv [.long v] := fun H locs ls hP hD hS hl => by
  have hP9 := hP.sub (ws' := w1 u) is (fm_of hs)
  have hD9 := hD.sub is hn hs
  exact W.widen h1 h2 (W.lret C.1 C.2.1 hr (fun t ht hW => ⟨⟨u, by rw [hv], hp, by rw [ht]; exact hP9, va_K.moved hW.alike C.2.2.2.2.2.1, hD9⟩, hS.F ht⟩) hS.2.2 hd hk)
theorem j_aret (C : CX p R s m args meth c cc own nL D tys A) {v : Nat} {rf : FieldType} (hr : meth.sig.returnType = some rf) (hrt : (∃ n, rf = .object n) ∨ ∃ t, rf = .array t) {ret : SU → Option Value} {post : SU → Prop} {w1 : SU → va_W} {mc ms : Nat} (hk : meth.locks = false) (u : SU) (hv : ret u = some (.ref v)) (hp : post u) (is : List Nat) (hn : va_nd is = true) (hs : is.map (fun i => ws[i]?) = (w1 u).map some) (h1 : cells ≤ mc) (h2 : slots ≤ ms) (hd : decode cc pc = .ok (.areturn, 1)) : J p l e R s m args below meth c D A nL cells slots (QX below D tys A ret post w1 args s mc ms) ws pc lv [.ref v] := fun H locs ls hP hD hS hl => by
  have hP9 := hP.sub (ws' := w1 u) is (fm_of hs)
  have hD9 := hD.sub is hn hs
  exact W.widen h1 h2 (W.aret C.1 C.2.1 hr hrt (Or.inr ⟨v, rfl⟩) (fun t ht hW => ⟨⟨u, by rw [hv], hp, by rw [ht]; exact hP9, va_K.moved hW.alike C.2.2.2.2.2.1, hD9⟩, hS.F ht⟩) hS.2.2 hd hk)
end KR
end
section
theorem wd_0 : Cond.methodLink RX8 3 objectInit ∈ WALL := wl_in (by decide +kernel) (by decide +kernel)
theorem wd_1 : Cond.instanceMethod objectInit ∈ WALL := wl_in (by decide +kernel) (by decide +kernel)
theorem wd_2 : Cond.code objectInit ⟨#[0xb1]⟩ 1 none ∈ WALL := wl_in (by decide +kernel) (by decide +kernel)
theorem wd_3 : Cond.arrayClass .char ∈ WALL := wl_in (by decide +kernel) (by decide +kernel)
theorem wd_4 : Cond.fieldLink RX8 9 "BowlShelf$Tape" "text" "[C" ∈ WALL := wl_in (by decide +kernel) (by decide +kernel)
theorem wd_5 : Cond.methodLink RX1 3 objectInit ∈ WALL := wl_in (by decide +kernel) (by decide +kernel)
theorem wd_6 : Cond.arrayClass .int ∈ WALL := wl_in (by decide +kernel) (by decide +kernel)
theorem wd_7 : Cond.fieldLink RX1 9 "BowlShelf$Nests" "steps" "[I" ∈ WALL := wl_in (by decide +kernel) (by decide +kernel)
theorem wd_8 : Cond.fieldLink RX1 15 "BowlShelf$Nests" "end" "[I" ∈ WALL := wl_in (by decide +kernel) (by decide +kernel)
theorem wd_9 : Cond.fieldLink RX1 18 "BowlShelf$Nests" "values" "[I" ∈ WALL := wl_in (by decide +kernel) (by decide +kernel)
theorem wd_10 : Cond.methodLink RX9 3 objectInit ∈ WALL := wl_in (by decide +kernel) (by decide +kernel)
theorem wd_11 : Cond.fieldLink RX9 9 "BowlShelf$Told" "wide" "[I" ∈ WALL := wl_in (by decide +kernel) (by decide +kernel)
theorem wd_12 : Cond.fieldLink RX9 15 "BowlShelf$Told" "deep" "[I" ∈ WALL := wl_in (by decide +kernel) (by decide +kernel)
theorem wd_13 : Cond.fieldLink RX9 18 "BowlShelf$Told" "weight" "[I" ∈ WALL := wl_in (by decide +kernel) (by decide +kernel)
theorem wd_14 : Cond.fieldLink RX9 21 "BowlShelf$Told" "bears" "[I" ∈ WALL := wl_in (by decide +kernel) (by decide +kernel)
theorem wd_15 : Cond.fieldLink RX9 24 "BowlShelf$Told" "breaks" "[I" ∈ WALL := wl_in (by decide +kernel) (by decide +kernel)
theorem wd_16 : Cond.fieldLink RX9 27 "BowlShelf$Told" "habit" "[I" ∈ WALL := wl_in (by decide +kernel) (by decide +kernel)
theorem wd_17 : Cond.fieldLink RX9 30 "BowlShelf$Told" "mayOn" "[I" ∈ WALL := wl_in (by decide +kernel) (by decide +kernel)
theorem wd_18 : Cond.fieldLink RX9 33 "BowlShelf$Told" "height" "[I" ∈ WALL := wl_in (by decide +kernel) (by decide +kernel)
theorem wd_19 : Cond.fieldLink RX9 36 "BowlShelf$Told" "reach" "[I" ∈ WALL := wl_in (by decide +kernel) (by decide +kernel)
theorem wd_20 : Cond.fieldLink RX9 39 "BowlShelf$Told" "room" "[I" ∈ WALL := wl_in (by decide +kernel) (by decide +kernel)
theorem wd_21 : Cond.methodLink RX5 3 objectInit ∈ WALL := wl_in (by decide +kernel) (by decide +kernel)
theorem wd_22 : Cond.classLink RX5 9 RX8 ∈ WALL := wl_in (by decide +kernel) (by decide +kernel)
theorem wd_23 : Cond.instantiable RX8 6 ∈ WALL := wl_in (by decide +kernel) (by decide +kernel)
theorem wd_24 : Cond.initialized RX8 ∈ WALL := wl_in (by decide +kernel) (by decide +kernel)
theorem wd_25 : Cond.code yX8_init cX8_init 1 none ∈ WALL := wl_in (by decide +kernel) (by decide +kernel)
theorem wd_26 : Cond.instanceMethod yX8_init ∈ WALL := wl_in (by decide +kernel) (by decide +kernel)
theorem wd_27 : Cond.fieldLink RX5 12 "BowlShelf$Reader" "tape" "LBowlShelf$Tape;" ∈ WALL := wl_in (by decide +kernel) (by decide +kernel)
theorem wd_28 : Cond.classLink RX5 18 RX1 ∈ WALL := wl_in (by decide +kernel) (by decide +kernel)
theorem wd_29 : Cond.instantiable RX1 5 ∈ WALL := wl_in (by decide +kernel) (by decide +kernel)
theorem wd_30 : Cond.initialized RX1 ∈ WALL := wl_in (by decide +kernel) (by decide +kernel)
theorem wd_31 : Cond.code yX1_init cX1_init 1 none ∈ WALL := wl_in (by decide +kernel) (by decide +kernel)
theorem wd_32 : Cond.instanceMethod yX1_init ∈ WALL := wl_in (by decide +kernel) (by decide +kernel)
theorem wd_33 : Cond.fieldLink RX5 21 "BowlShelf$Reader" "nests" "LBowlShelf$Nests;" ∈ WALL := wl_in (by decide +kernel) (by decide +kernel)
theorem wd_34 : Cond.arrayClass .long ∈ WALL := wl_in (by decide +kernel) (by decide +kernel)
theorem wd_35 : Cond.fieldLink RX5 25 "BowlShelf$Reader" "wareName" "[J" ∈ WALL := wl_in (by decide +kernel) (by decide +kernel)
theorem wd_36 : Cond.fieldLink RX5 29 "BowlShelf$Reader" "shelfName" "[J" ∈ WALL := wl_in (by decide +kernel) (by decide +kernel)
theorem wd_37 : Cond.classLink RX5 32 RX9 ∈ WALL := wl_in (by decide +kernel) (by decide +kernel)
theorem wd_38 : Cond.instantiable RX9 15 ∈ WALL := wl_in (by decide +kernel) (by decide +kernel)
theorem wd_39 : Cond.initialized RX9 ∈ WALL := wl_in (by decide +kernel) (by decide +kernel)
theorem wd_40 : Cond.code yX9_init cX9_init 1 none ∈ WALL := wl_in (by decide +kernel) (by decide +kernel)
theorem wd_41 : Cond.instanceMethod yX9_init ∈ WALL := wl_in (by decide +kernel) (by decide +kernel)
theorem wd_42 : Cond.fieldLink RX5 35 "BowlShelf$Reader" "told" "LBowlShelf$Told;" ∈ WALL := wl_in (by decide +kernel) (by decide +kernel)
theorem wd_43 : Cond.methodLink RX7 3 objectInit ∈ WALL := wl_in (by decide +kernel) (by decide +kernel)
theorem wd_44 : Cond.fieldLink RX7 9 "BowlShelf$Standing" "shelf" "[I" ∈ WALL := wl_in (by decide +kernel) (by decide +kernel)
theorem wd_45 : Cond.fieldLink RX7 15 "BowlShelf$Standing" "stack" "[I" ∈ WALL := wl_in (by decide +kernel) (by decide +kernel)
theorem wd_46 : Cond.fieldLink RX7 18 "BowlShelf$Standing" "level" "[I" ∈ WALL := wl_in (by decide +kernel) (by decide +kernel)
theorem wd_47 : Cond.fieldLink RX7 21 "BowlShelf$Standing" "asking" "[I" ∈ WALL := wl_in (by decide +kernel) (by decide +kernel)
theorem wd_48 : Cond.code yJ7_fill_53178 cJ7_fill_53178 4 none ∈ WALL := wl_in (by decide +kernel) (by decide +kernel)
theorem wd_49 : Cond.initialized RJ7 ∈ WALL := wl_in (by decide +kernel) (by decide +kernel)
theorem wd_50 : Cond.methodLink RX7 24 yJ7_fill_53178 ∈ WALL := wl_in (by decide +kernel) (by decide +kernel)
theorem wd_51 : Cond.static yJ7_fill_53178 ∈ WALL := wl_in (by decide +kernel) (by decide +kernel)
theorem wd_52 : Cond.methodLink RX4 3 objectInit ∈ WALL := wl_in (by decide +kernel) (by decide +kernel)
theorem wd_53 : Cond.fieldLink RX4 9 "BowlShelf$Pile" "ware" "[I" ∈ WALL := wl_in (by decide +kernel) (by decide +kernel)
theorem wd_54 : Cond.methodLink RX3 3 objectInit ∈ WALL := wl_in (by decide +kernel) (by decide +kernel)
theorem wd_55 : Cond.fieldLink RX3 9 "BowlShelf$Order" "above" "[I" ∈ WALL := wl_in (by decide +kernel) (by decide +kernel)
theorem wd_56 : Cond.fieldLink RX3 15 "BowlShelf$Order" "kin" "[I" ∈ WALL := wl_in (by decide +kernel) (by decide +kernel)
theorem wd_57 : Cond.fieldLink RX3 18 "BowlShelf$Order" "row" "[I" ∈ WALL := wl_in (by decide +kernel) (by decide +kernel)
theorem wd_58 : Cond.fieldLink RX3 21 "BowlShelf$Order" "members" "[I" ∈ WALL := wl_in (by decide +kernel) (by decide +kernel)
theorem wd_59 : Cond.methodLink RX0 3 objectInit ∈ WALL := wl_in (by decide +kernel) (by decide +kernel)
theorem wd_60 : Cond.fieldLink RX0 9 "BowlShelf$Heights" "leastRim" "[I" ∈ WALL := wl_in (by decide +kernel) (by decide +kernel)
theorem wd_61 : Cond.fieldLink RX0 15 "BowlShelf$Heights" "least" "[I" ∈ WALL := wl_in (by decide +kernel) (by decide +kernel)
theorem wd_62 : Cond.fieldLink RX0 18 "BowlShelf$Heights" "stacks" "[I" ∈ WALL := wl_in (by decide +kernel) (by decide +kernel)
theorem wd_63 : Cond.methodLink RX6 3 objectInit ∈ WALL := wl_in (by decide +kernel) (by decide +kernel)
theorem wd_64 : Cond.fieldLink RX6 11 "BowlShelf$Search" "order" "[I" ∈ WALL := wl_in (by decide +kernel) (by decide +kernel)
theorem wd_65 : Cond.fieldLink RX6 15 "BowlShelf$Search" "trial" "[I" ∈ WALL := wl_in (by decide +kernel) (by decide +kernel)
theorem wd_66 : Cond.fieldLink RX6 18 "BowlShelf$Search" "times" "[I" ∈ WALL := wl_in (by decide +kernel) (by decide +kernel)
theorem wd_67 : Cond.methodLink RX2 1 objectInit ∈ WALL := wl_in (by decide +kernel) (by decide +kernel)
theorem wd_68 : Cond.fieldLink RX2 9 "BowlShelf$Odds" "digits" "[J" ∈ WALL := wl_in (by decide +kernel) (by decide +kernel)
theorem dX8_init_0 : decode cX8_init 0 = .ok (.aload_n 0, 1) := by decide +kernel
theorem dX8_init_1 : decode cX8_init 1 = .ok (.invokespecial 3, 3) := by decide +kernel
theorem dX8_init_4 : decode cX8_init 4 = .ok (.aload_n 0, 1) := by decide +kernel
theorem dX8_init_5 : decode cX8_init 5 = .ok (.sipush 1000, 3) := by decide +kernel
theorem dX8_init_8 : decode cX8_init 8 = .ok (.newarray .char, 2) := by decide +kernel
theorem dX8_init_10 : decode cX8_init 10 = .ok (.putfield 9, 3) := by decide +kernel
theorem dX8_init_13 : decode cX8_init 13 = .ok (.return_, 1) := by decide +kernel
theorem dX1_init_0 : decode cX1_init 0 = .ok (.aload_n 0, 1) := by decide +kernel
theorem dX1_init_1 : decode cX1_init 1 = .ok (.invokespecial 3, 3) := by decide +kernel
theorem dX1_init_4 : decode cX1_init 4 = .ok (.aload_n 0, 1) := by decide +kernel
theorem dX1_init_5 : decode cX1_init 5 = .ok (.sipush 1000, 3) := by decide +kernel
theorem dX1_init_8 : decode cX1_init 8 = .ok (.newarray .int, 2) := by decide +kernel
theorem dX1_init_10 : decode cX1_init 10 = .ok (.putfield 9, 3) := by decide +kernel
theorem dX1_init_13 : decode cX1_init 13 = .ok (.aload_n 0, 1) := by decide +kernel
theorem dX1_init_14 : decode cX1_init 14 = .ok (.iconst 4, 1) := by decide +kernel
theorem dX1_init_15 : decode cX1_init 15 = .ok (.newarray .int, 2) := by decide +kernel
theorem dX1_init_17 : decode cX1_init 17 = .ok (.putfield 15, 3) := by decide +kernel
theorem dX1_init_20 : decode cX1_init 20 = .ok (.aload_n 0, 1) := by decide +kernel
theorem dX1_init_21 : decode cX1_init 21 = .ok (.bipush 32, 2) := by decide +kernel
theorem dX1_init_23 : decode cX1_init 23 = .ok (.newarray .int, 2) := by decide +kernel
theorem dX1_init_25 : decode cX1_init 25 = .ok (.putfield 18, 3) := by decide +kernel
theorem dX1_init_28 : decode cX1_init 28 = .ok (.return_, 1) := by decide +kernel
theorem dX9_init_0 : decode cX9_init 0 = .ok (.aload_n 0, 1) := by decide +kernel
theorem dX9_init_1 : decode cX9_init 1 = .ok (.invokespecial 3, 3) := by decide +kernel
theorem dX9_init_4 : decode cX9_init 4 = .ok (.aload_n 0, 1) := by decide +kernel
theorem dX9_init_5 : decode cX9_init 5 = .ok (.bipush 12, 2) := by decide +kernel
theorem dX9_init_7 : decode cX9_init 7 = .ok (.newarray .int, 2) := by decide +kernel
theorem dX9_init_9 : decode cX9_init 9 = .ok (.putfield 9, 3) := by decide +kernel
theorem dX9_init_12 : decode cX9_init 12 = .ok (.aload_n 0, 1) := by decide +kernel
theorem dX9_init_13 : decode cX9_init 13 = .ok (.bipush 12, 2) := by decide +kernel
theorem dX9_init_15 : decode cX9_init 15 = .ok (.newarray .int, 2) := by decide +kernel
theorem dX9_init_17 : decode cX9_init 17 = .ok (.putfield 15, 3) := by decide +kernel
theorem dX9_init_20 : decode cX9_init 20 = .ok (.aload_n 0, 1) := by decide +kernel
theorem dX9_init_21 : decode cX9_init 21 = .ok (.bipush 12, 2) := by decide +kernel
theorem dX9_init_23 : decode cX9_init 23 = .ok (.newarray .int, 2) := by decide +kernel
theorem dX9_init_25 : decode cX9_init 25 = .ok (.putfield 18, 3) := by decide +kernel
theorem dX9_init_28 : decode cX9_init 28 = .ok (.aload_n 0, 1) := by decide +kernel
theorem dX9_init_29 : decode cX9_init 29 = .ok (.bipush 12, 2) := by decide +kernel
theorem dX9_init_31 : decode cX9_init 31 = .ok (.newarray .int, 2) := by decide +kernel
theorem dX9_init_33 : decode cX9_init 33 = .ok (.putfield 21, 3) := by decide +kernel
theorem dX9_init_36 : decode cX9_init 36 = .ok (.aload_n 0, 1) := by decide +kernel
theorem dX9_init_37 : decode cX9_init 37 = .ok (.bipush 12, 2) := by decide +kernel
theorem dX9_init_39 : decode cX9_init 39 = .ok (.newarray .int, 2) := by decide +kernel
theorem dX9_init_41 : decode cX9_init 41 = .ok (.putfield 24, 3) := by decide +kernel
theorem dX9_init_44 : decode cX9_init 44 = .ok (.aload_n 0, 1) := by decide +kernel
theorem dX9_init_45 : decode cX9_init 45 = .ok (.bipush 12, 2) := by decide +kernel
theorem dX9_init_47 : decode cX9_init 47 = .ok (.newarray .int, 2) := by decide +kernel
theorem dX9_init_49 : decode cX9_init 49 = .ok (.putfield 27, 3) := by decide +kernel
theorem dX9_init_52 : decode cX9_init 52 = .ok (.aload_n 0, 1) := by decide +kernel
theorem dX9_init_53 : decode cX9_init 53 = .ok (.bipush 12, 2) := by decide +kernel
theorem dX9_init_55 : decode cX9_init 55 = .ok (.newarray .int, 2) := by decide +kernel
theorem dX9_init_57 : decode cX9_init 57 = .ok (.putfield 30, 3) := by decide +kernel
theorem dX9_init_60 : decode cX9_init 60 = .ok (.aload_n 0, 1) := by decide +kernel
theorem dX9_init_61 : decode cX9_init 61 = .ok (.iconst 4, 1) := by decide +kernel
theorem dX9_init_62 : decode cX9_init 62 = .ok (.newarray .int, 2) := by decide +kernel
theorem dX9_init_64 : decode cX9_init 64 = .ok (.putfield 33, 3) := by decide +kernel
theorem dX9_init_67 : decode cX9_init 67 = .ok (.aload_n 0, 1) := by decide +kernel
theorem dX9_init_68 : decode cX9_init 68 = .ok (.iconst 4, 1) := by decide +kernel
theorem dX9_init_69 : decode cX9_init 69 = .ok (.newarray .int, 2) := by decide +kernel
theorem dX9_init_71 : decode cX9_init 71 = .ok (.putfield 36, 3) := by decide +kernel
theorem dX9_init_74 : decode cX9_init 74 = .ok (.aload_n 0, 1) := by decide +kernel
theorem dX9_init_75 : decode cX9_init 75 = .ok (.iconst 4, 1) := by decide +kernel
theorem dX9_init_76 : decode cX9_init 76 = .ok (.newarray .int, 2) := by decide +kernel
theorem dX9_init_78 : decode cX9_init 78 = .ok (.putfield 39, 3) := by decide +kernel
theorem dX9_init_81 : decode cX9_init 81 = .ok (.return_, 1) := by decide +kernel
theorem dX5_init_0 : decode cX5_init 0 = .ok (.aload_n 0, 1) := by decide +kernel
theorem dX5_init_1 : decode cX5_init 1 = .ok (.invokespecial 3, 3) := by decide +kernel
theorem dX5_init_4 : decode cX5_init 4 = .ok (.aload_n 0, 1) := by decide +kernel
theorem dX5_init_5 : decode cX5_init 5 = .ok (.new 9, 3) := by decide +kernel
theorem dX5_init_8 : decode cX5_init 8 = .ok (.dup, 1) := by decide +kernel
theorem dX5_init_9 : decode cX5_init 9 = .ok (.invokespecial 11, 3) := by decide +kernel
theorem dX5_init_12 : decode cX5_init 12 = .ok (.putfield 12, 3) := by decide +kernel
theorem dX5_init_15 : decode cX5_init 15 = .ok (.aload_n 0, 1) := by decide +kernel
theorem dX5_init_16 : decode cX5_init 16 = .ok (.new 18, 3) := by decide +kernel
theorem dX5_init_19 : decode cX5_init 19 = .ok (.dup, 1) := by decide +kernel
theorem dX5_init_20 : decode cX5_init 20 = .ok (.invokespecial 20, 3) := by decide +kernel
theorem dX5_init_23 : decode cX5_init 23 = .ok (.putfield 21, 3) := by decide +kernel
theorem dX5_init_26 : decode cX5_init 26 = .ok (.aload_n 0, 1) := by decide +kernel
theorem dX5_init_27 : decode cX5_init 27 = .ok (.bipush 12, 2) := by decide +kernel
theorem dX5_init_29 : decode cX5_init 29 = .ok (.newarray .long, 2) := by decide +kernel
theorem dX5_init_31 : decode cX5_init 31 = .ok (.putfield 25, 3) := by decide +kernel
theorem dX5_init_34 : decode cX5_init 34 = .ok (.aload_n 0, 1) := by decide +kernel
theorem dX5_init_35 : decode cX5_init 35 = .ok (.iconst 4, 1) := by decide +kernel
theorem dX5_init_36 : decode cX5_init 36 = .ok (.newarray .long, 2) := by decide +kernel
theorem dX5_init_38 : decode cX5_init 38 = .ok (.putfield 29, 3) := by decide +kernel
theorem dX5_init_41 : decode cX5_init 41 = .ok (.aload_n 0, 1) := by decide +kernel
theorem dX5_init_42 : decode cX5_init 42 = .ok (.new 32, 3) := by decide +kernel
theorem dX5_init_45 : decode cX5_init 45 = .ok (.dup, 1) := by decide +kernel
theorem dX5_init_46 : decode cX5_init 46 = .ok (.invokespecial 34, 3) := by decide +kernel
theorem dX5_init_49 : decode cX5_init 49 = .ok (.putfield 35, 3) := by decide +kernel
theorem dX5_init_52 : decode cX5_init 52 = .ok (.return_, 1) := by decide +kernel
theorem dJ7_fill_53178_0 : decode cJ7_fill_53178 0 = .ok (.iconst 0, 1) := by decide +kernel
theorem dJ7_fill_53178_1 : decode cJ7_fill_53178 1 = .ok (.istore_n 2, 1) := by decide +kernel
theorem dJ7_fill_53178_2 : decode cJ7_fill_53178 2 = .ok (.aload_n 0, 1) := by decide +kernel
theorem dJ7_fill_53178_3 : decode cJ7_fill_53178 3 = .ok (.arraylength, 1) := by decide +kernel
theorem dJ7_fill_53178_4 : decode cJ7_fill_53178 4 = .ok (.istore_n 3, 1) := by decide +kernel
theorem dJ7_fill_53178_5 : decode cJ7_fill_53178 5 = .ok (.iload_n 2, 1) := by decide +kernel
theorem dJ7_fill_53178_6 : decode cJ7_fill_53178 6 = .ok (.iload_n 3, 1) := by decide +kernel
theorem dJ7_fill_53178_7 : decode cJ7_fill_53178 7 = .ok (.if_icmp .ge 13, 3) := by decide +kernel
theorem dJ7_fill_53178_10 : decode cJ7_fill_53178 10 = .ok (.aload_n 0, 1) := by decide +kernel
theorem dJ7_fill_53178_11 : decode cJ7_fill_53178 11 = .ok (.iload_n 2, 1) := by decide +kernel
theorem dJ7_fill_53178_12 : decode cJ7_fill_53178 12 = .ok (.iload_n 1, 1) := by decide +kernel
theorem dJ7_fill_53178_13 : decode cJ7_fill_53178 13 = .ok (.iastore, 1) := by decide +kernel
theorem dJ7_fill_53178_14 : decode cJ7_fill_53178 14 = .ok (.iinc 2 1, 3) := by decide +kernel
theorem dJ7_fill_53178_17 : decode cJ7_fill_53178 17 = .ok (.goto (-12), 3) := by decide +kernel
theorem dJ7_fill_53178_20 : decode cJ7_fill_53178 20 = .ok (.return_, 1) := by decide +kernel
theorem dX7_init_0 : decode cX7_init 0 = .ok (.aload_n 0, 1) := by decide +kernel
theorem dX7_init_1 : decode cX7_init 1 = .ok (.invokespecial 3, 3) := by decide +kernel
theorem dX7_init_4 : decode cX7_init 4 = .ok (.aload_n 0, 1) := by decide +kernel
theorem dX7_init_5 : decode cX7_init 5 = .ok (.bipush 12, 2) := by decide +kernel
theorem dX7_init_7 : decode cX7_init 7 = .ok (.newarray .int, 2) := by decide +kernel
theorem dX7_init_9 : decode cX7_init 9 = .ok (.putfield 9, 3) := by decide +kernel
theorem dX7_init_12 : decode cX7_init 12 = .ok (.aload_n 0, 1) := by decide +kernel
theorem dX7_init_13 : decode cX7_init 13 = .ok (.bipush 12, 2) := by decide +kernel
theorem dX7_init_15 : decode cX7_init 15 = .ok (.newarray .int, 2) := by decide +kernel
theorem dX7_init_17 : decode cX7_init 17 = .ok (.putfield 15, 3) := by decide +kernel
theorem dX7_init_20 : decode cX7_init 20 = .ok (.aload_n 0, 1) := by decide +kernel
theorem dX7_init_21 : decode cX7_init 21 = .ok (.bipush 12, 2) := by decide +kernel
theorem dX7_init_23 : decode cX7_init 23 = .ok (.newarray .int, 2) := by decide +kernel
theorem dX7_init_25 : decode cX7_init 25 = .ok (.putfield 18, 3) := by decide +kernel
theorem dX7_init_28 : decode cX7_init 28 = .ok (.aload_n 0, 1) := by decide +kernel
theorem dX7_init_29 : decode cX7_init 29 = .ok (.bipush 30, 2) := by decide +kernel
theorem dX7_init_31 : decode cX7_init 31 = .ok (.newarray .int, 2) := by decide +kernel
theorem dX7_init_33 : decode cX7_init 33 = .ok (.putfield 21, 3) := by decide +kernel
theorem dX7_init_36 : decode cX7_init 36 = .ok (.aload_n 0, 1) := by decide +kernel
theorem dX7_init_37 : decode cX7_init 37 = .ok (.getfield 9, 3) := by decide +kernel
theorem dX7_init_40 : decode cX7_init 40 = .ok (.iconst (-1), 1) := by decide +kernel
theorem dX7_init_41 : decode cX7_init 41 = .ok (.invokestatic 24, 3) := by decide +kernel
theorem dX7_init_44 : decode cX7_init 44 = .ok (.return_, 1) := by decide +kernel
theorem dX4_init_0 : decode cX4_init 0 = .ok (.aload_n 0, 1) := by decide +kernel
theorem dX4_init_1 : decode cX4_init 1 = .ok (.invokespecial 3, 3) := by decide +kernel
theorem dX4_init_4 : decode cX4_init 4 = .ok (.aload_n 0, 1) := by decide +kernel
theorem dX4_init_5 : decode cX4_init 5 = .ok (.bipush 12, 2) := by decide +kernel
theorem dX4_init_7 : decode cX4_init 7 = .ok (.newarray .int, 2) := by decide +kernel
theorem dX4_init_9 : decode cX4_init 9 = .ok (.putfield 9, 3) := by decide +kernel
theorem dX4_init_12 : decode cX4_init 12 = .ok (.return_, 1) := by decide +kernel
theorem dX3_init_0 : decode cX3_init 0 = .ok (.aload_n 0, 1) := by decide +kernel
theorem dX3_init_1 : decode cX3_init 1 = .ok (.invokespecial 3, 3) := by decide +kernel
theorem dX3_init_4 : decode cX3_init 4 = .ok (.aload_n 0, 1) := by decide +kernel
theorem dX3_init_5 : decode cX3_init 5 = .ok (.bipush 12, 2) := by decide +kernel
theorem dX3_init_7 : decode cX3_init 7 = .ok (.newarray .int, 2) := by decide +kernel
theorem dX3_init_9 : decode cX3_init 9 = .ok (.putfield 9, 3) := by decide +kernel
theorem dX3_init_12 : decode cX3_init 12 = .ok (.aload_n 0, 1) := by decide +kernel
theorem dX3_init_13 : decode cX3_init 13 = .ok (.bipush 12, 2) := by decide +kernel
theorem dX3_init_15 : decode cX3_init 15 = .ok (.newarray .int, 2) := by decide +kernel
theorem dX3_init_17 : decode cX3_init 17 = .ok (.putfield 15, 3) := by decide +kernel
theorem dX3_init_20 : decode cX3_init 20 = .ok (.aload_n 0, 1) := by decide +kernel
theorem dX3_init_21 : decode cX3_init 21 = .ok (.bipush 12, 2) := by decide +kernel
theorem dX3_init_23 : decode cX3_init 23 = .ok (.newarray .int, 2) := by decide +kernel
theorem dX3_init_25 : decode cX3_init 25 = .ok (.putfield 18, 3) := by decide +kernel
theorem dX3_init_28 : decode cX3_init 28 = .ok (.aload_n 0, 1) := by decide +kernel
theorem dX3_init_29 : decode cX3_init 29 = .ok (.bipush 12, 2) := by decide +kernel
theorem dX3_init_31 : decode cX3_init 31 = .ok (.newarray .int, 2) := by decide +kernel
theorem dX3_init_33 : decode cX3_init 33 = .ok (.putfield 21, 3) := by decide +kernel
theorem dX3_init_36 : decode cX3_init 36 = .ok (.return_, 1) := by decide +kernel
theorem dX0_init_0 : decode cX0_init 0 = .ok (.aload_n 0, 1) := by decide +kernel
theorem dX0_init_1 : decode cX0_init 1 = .ok (.invokespecial 3, 3) := by decide +kernel
theorem dX0_init_4 : decode cX0_init 4 = .ok (.aload_n 0, 1) := by decide +kernel
theorem dX0_init_5 : decode cX0_init 5 = .ok (.iconst 0, 1) := by decide +kernel
theorem dX0_init_6 : decode cX0_init 6 = .ok (.newarray .int, 2) := by decide +kernel
theorem dX0_init_8 : decode cX0_init 8 = .ok (.putfield 9, 3) := by decide +kernel
theorem dX0_init_11 : decode cX0_init 11 = .ok (.aload_n 0, 1) := by decide +kernel
theorem dX0_init_12 : decode cX0_init 12 = .ok (.iconst 0, 1) := by decide +kernel
theorem dX0_init_13 : decode cX0_init 13 = .ok (.newarray .int, 2) := by decide +kernel
theorem dX0_init_15 : decode cX0_init 15 = .ok (.putfield 15, 3) := by decide +kernel
theorem dX0_init_18 : decode cX0_init 18 = .ok (.aload_n 0, 1) := by decide +kernel
theorem dX0_init_19 : decode cX0_init 19 = .ok (.iconst 0, 1) := by decide +kernel
theorem dX0_init_20 : decode cX0_init 20 = .ok (.newarray .int, 2) := by decide +kernel
theorem dX0_init_22 : decode cX0_init 22 = .ok (.putfield 18, 3) := by decide +kernel
theorem dX0_init_25 : decode cX0_init 25 = .ok (.return_, 1) := by decide +kernel
theorem dX6_init_0 : decode cX6_init 0 = .ok (.aload_n 0, 1) := by decide +kernel
theorem dX6_init_1 : decode cX6_init 1 = .ok (.invokespecial 3, 3) := by decide +kernel
theorem dX6_init_4 : decode cX6_init 4 = .ok (.aload_n 0, 1) := by decide +kernel
theorem dX6_init_5 : decode cX6_init 5 = .ok (.bipush 7, 2) := by decide +kernel
theorem dX6_init_7 : decode cX6_init 7 = .ok (.newarray .int, 2) := by decide +kernel
theorem dX6_init_9 : decode cX6_init 9 = .ok (.putfield 11, 3) := by decide +kernel
theorem dX6_init_12 : decode cX6_init 12 = .ok (.aload_n 0, 1) := by decide +kernel
theorem dX6_init_13 : decode cX6_init 13 = .ok (.bipush 7, 2) := by decide +kernel
theorem dX6_init_15 : decode cX6_init 15 = .ok (.newarray .int, 2) := by decide +kernel
theorem dX6_init_17 : decode cX6_init 17 = .ok (.putfield 15, 3) := by decide +kernel
theorem dX6_init_20 : decode cX6_init 20 = .ok (.aload_n 0, 1) := by decide +kernel
theorem dX6_init_21 : decode cX6_init 21 = .ok (.bipush 12, 2) := by decide +kernel
theorem dX6_init_23 : decode cX6_init 23 = .ok (.newarray .int, 2) := by decide +kernel
theorem dX6_init_25 : decode cX6_init 25 = .ok (.putfield 18, 3) := by decide +kernel
theorem dX6_init_28 : decode cX6_init 28 = .ok (.return_, 1) := by decide +kernel
theorem dX2_init_0 : decode cX2_init 0 = .ok (.aload_n 0, 1) := by decide +kernel
theorem dX2_init_1 : decode cX2_init 1 = .ok (.invokespecial 1, 3) := by decide +kernel
theorem dX2_init_4 : decode cX2_init 4 = .ok (.aload_n 0, 1) := by decide +kernel
theorem dX2_init_5 : decode cX2_init 5 = .ok (.iconst 4, 1) := by decide +kernel
theorem dX2_init_6 : decode cX2_init 6 = .ok (.newarray .long, 2) := by decide +kernel
theorem dX2_init_8 : decode cX2_init 8 = .ok (.putfield 9, 3) := by decide +kernel
theorem dX2_init_11 : decode cX2_init 11 = .ok (.return_, 1) := by decide +kernel
theorem ndX0 : ∀ j, j < 5 → defaultValue (tyX0 j) = vp_V [.int 0, .int 0, .null, .null, .null] j := by decide +kernel
theorem ndX1 : ∀ j, j < 5 → defaultValue (tyX1 j) = vp_V [.int 0, .int 0, .null, .null, .null] j := by decide +kernel
theorem ndX2 : ∀ j, j < 1 → defaultValue (tyX2 j) = vp_V [.null] j := by decide +kernel
theorem ndX3 : ∀ j, j < 8 → defaultValue (tyX3 j) = vp_V [.int 0, .null, .null, .int 0, .int 0, .int 0, .null, .null] j := by decide +kernel
theorem ndX4 : ∀ j, j < 2 → defaultValue (tyX4 j) = vp_V [.null, .int 0] j := by decide +kernel
theorem ndX5 : ∀ j, j < 7 → defaultValue (tyX5 j) = vp_V [.null, .null, .null, .null, .null, .int 0, .int 0] j := by decide +kernel
theorem ndX6 : ∀ j, j < 8 → defaultValue (tyX6 j) = vp_V [.null, .int 0, .int 0, .int 0, .int 0, .int 0, .null, .null] j := by decide +kernel
theorem ndX7 : ∀ j, j < 7 → defaultValue (tyX7 j) = vp_V [.null, .null, .null, .null, .int 0, .int 0, .int 0] j := by decide +kernel
theorem ndX8 : ∀ j, j < 6 → defaultValue (tyX8 j) = vp_V [.null, .int 0, .int 0, .int 0, .int 0, .int 0] j := by decide +kernel
theorem ndX9 : ∀ j, j < 15 → defaultValue (tyX9 j) = vp_V [.int 0, .int 0, .int 0, .null, .null, .null, .null, .null, .null, .int 0, .int 0, .null, .null, .null, .null] j := by decide +kernel
theorem ndX10 : ∀ j, j < 10 → defaultValue (tyX10 j) = vp_V [.null, .null, .null, .null, .null, .null, .null, .null, .null, .null] j := by decide +kernel
theorem ndX11 : ∀ j, j < 43 → defaultValue (tyX11 j) = vp_V [.int 0, .null, .int 0, .int 0, .null, .null, .null, .int 0, .int 0, .null, .null, .null, .null, .int 0, .null, .null, .int 0, .null, .null, .null, .null, .null, .int 0, .int 0, .int 0, .null, .int 0, .null, .null, .null, .null, .null, .null, .int 0, .int 0, .int 0, .null, .null, .int 0, .int 0, .int 0, .int 0, .null] j := by decide +kernel
set_option maxHeartbeats 4000000 in
set_option maxRecDepth 100000 in
theorem c_X8_init (l : Launch) (D : va_G) (cyC cyI cyJ cyZ cyO : ClassId) (h0 : Nat) : KK l D (TY cyC cyI cyJ cyZ cyO) yX8_init cX8_init 1 none ({ frames := 1, cells := 1, slots := 1000, locals := 12 } : Room) 1 1000 [.ref h0] [(h0, .inr (8, [.null, .int 0, .int 0, .int 0, .int 0, .int 0]))] (fun u => none) (fun u => True) (fun u => [(h0, .inr (8, [.ref (u.1 0), .int 0, .int 0, .int 0, .int 0, .int 0])), ((u.1 0), .inl (cyC, 1000, .inl (fun _ => 0)))]) := by
  refine KK.of (lv0 := [(0, .ref h0)]) (by decide) rfl (Nat.le_of_ble_eq_true rfl) ?_
  intro p e s m args below meth c A C hr hk hin
  refine j_aload_n (pc := 0) C dX8_init_0 rfl 0 rfl ?_
  refine j_oinit (pc := 1) C wd_0 wd_1 wd_2 dX8_init_1 (by decide) (Nat.le_of_ble_eq_true rfl) ?_
  refine j_aload_n (pc := 4) C dX8_init_4 rfl 0 rfl ?_
  refine j_sipush (pc := 5) (v := 1000) C dX8_init_5 (by decide) ?_
  refine j_newa (pc := 8) (at1 := .char) (ty := .char) (N := 1000) (a0 := (1000, .inl (fun _ => 0))) C wd_3 rfl 0 rfl (fun _ _ h => h) (fun _ => rfl) (by decide) (by decide) (by decide) (by decide) (by decide) dX8_init_8 (fun q_1 => ?_)
  refine j_widen (k := 1) (n := 1000) (by decide) (by decide) ?_
  refine j_putF (pc := 10) (ci := 8) (v := .ref q_1) (ws' := [(h0, .inr (8, [.ref q_1, .int 0, .int 0, .int 0, .int 0, .int 0])), (q_1, .inl (cyC, 1000, .inl (fun _ => 0)))]) C inw_8 0 rfl rfl 0 (by decide) wd_4 rfl tyX8_ok nmX8 rfl hin rfl (tyX8_ok 0 (by decide)) rfl rfl (Nat.le_of_ble_eq_true rfl) dX8_init_10 rfl ?_
  exact j_vret (pc := 13) C hr hk (fun i => [q_1].getD i 0, fun _ => 0, fun _ _ => 0) rfl trivial [0, 1] (by decide) rfl (by decide) (by decide) dX8_init_13
set_option maxHeartbeats 4000000 in
set_option maxRecDepth 100000 in
theorem c_X1_init (l : Launch) (D : va_G) (cyC cyI cyJ cyZ cyO : ClassId) (h0 : Nat) : KK l D (TY cyC cyI cyJ cyZ cyO) yX1_init cX1_init 1 none ({ frames := 1, cells := 3, slots := 1036, locals := 12 } : Room) 3 1036 [.ref h0] [(h0, .inr (1, [.int 0, .int 0, .null, .null, .null]))] (fun u => none) (fun u => True) (fun u => [(h0, .inr (1, [.int 0, .int 0, .ref (u.1 0), .ref (u.1 1), .ref (u.1 2)])), ((u.1 0), .inl (cyI, 1000, .inl (fun _ => 0))), ((u.1 1), .inl (cyI, 4, .inl (fun _ => 0))), ((u.1 2), .inl (cyI, 32, .inl (fun _ => 0)))]) := by
  refine KK.of (lv0 := [(0, .ref h0)]) (by decide) rfl (Nat.le_of_ble_eq_true rfl) ?_
  intro p e s m args below meth c A C hr hk hin
  refine j_aload_n (pc := 0) C dX1_init_0 rfl 0 rfl ?_
  refine j_oinit (pc := 1) C wd_5 wd_1 wd_2 dX1_init_1 (by decide) (Nat.le_of_ble_eq_true rfl) ?_
  refine j_aload_n (pc := 4) C dX1_init_4 rfl 0 rfl ?_
  refine j_sipush (pc := 5) (v := 1000) C dX1_init_5 (by decide) ?_
  refine j_newa (pc := 8) (at1 := .int) (ty := .int) (N := 1000) (a0 := (1000, .inl (fun _ => 0))) C wd_6 rfl 1 rfl (fun _ _ h => h) (fun _ => rfl) (by decide) (by decide) (by decide) (by decide) (by decide) dX1_init_8 (fun q_1 => ?_)
  refine j_widen (k := 1) (n := 1000) (by decide) (by decide) ?_
  refine j_putF (pc := 10) (ci := 1) (v := .ref q_1) (ws' := [(h0, .inr (1, [.int 0, .int 0, .ref q_1, .null, .null])), (q_1, .inl (cyI, 1000, .inl (fun _ => 0)))]) C inw_1 0 rfl rfl 2 (by decide) wd_7 rfl tyX1_ok nmX1 rfl hin rfl (tyX1_ok 2 (by decide)) rfl rfl (Nat.le_of_ble_eq_true rfl) dX1_init_10 rfl ?_
  refine j_aload_n (pc := 13) C dX1_init_13 rfl 0 rfl ?_
  refine j_iconst (pc := 14) (v := 4) C dX1_init_14 (by decide) ?_
  refine j_newa (pc := 15) (at1 := .int) (ty := .int) (N := 4) (a0 := (4, .inl (fun _ => 0))) C wd_6 rfl 1 rfl (fun _ _ h => h) (fun _ => rfl) (by decide) (by decide) (by decide) (by decide) (by decide) dX1_init_15 (fun q_2 => ?_)
  refine j_widen (k := 2) (n := 1004) (by decide) (by decide) ?_
  refine j_putF (pc := 17) (ci := 1) (v := .ref q_2) (ws' := [(h0, .inr (1, [.int 0, .int 0, .ref q_1, .ref q_2, .null])), (q_1, .inl (cyI, 1000, .inl (fun _ => 0))), (q_2, .inl (cyI, 4, .inl (fun _ => 0)))]) C inw_1 0 rfl rfl 3 (by decide) wd_8 rfl tyX1_ok nmX1 rfl hin rfl (tyX1_ok 3 (by decide)) rfl rfl (Nat.le_of_ble_eq_true rfl) dX1_init_17 rfl ?_
  refine j_aload_n (pc := 20) C dX1_init_20 rfl 0 rfl ?_
  refine j_bipush (pc := 21) (v := 32) C dX1_init_21 (by decide) ?_
  refine j_newa (pc := 23) (at1 := .int) (ty := .int) (N := 32) (a0 := (32, .inl (fun _ => 0))) C wd_6 rfl 1 rfl (fun _ _ h => h) (fun _ => rfl) (by decide) (by decide) (by decide) (by decide) (by decide) dX1_init_23 (fun q_3 => ?_)
  refine j_widen (k := 3) (n := 1036) (by decide) (by decide) ?_
  refine j_putF (pc := 25) (ci := 1) (v := .ref q_3) (ws' := [(h0, .inr (1, [.int 0, .int 0, .ref q_1, .ref q_2, .ref q_3])), (q_1, .inl (cyI, 1000, .inl (fun _ => 0))), (q_2, .inl (cyI, 4, .inl (fun _ => 0))), (q_3, .inl (cyI, 32, .inl (fun _ => 0)))]) C inw_1 0 rfl rfl 4 (by decide) wd_9 rfl tyX1_ok nmX1 rfl hin rfl (tyX1_ok 4 (by decide)) rfl rfl (Nat.le_of_ble_eq_true rfl) dX1_init_25 rfl ?_
  exact j_vret (pc := 28) C hr hk (fun i => [q_1, q_2, q_3].getD i 0, fun _ => 0, fun _ _ => 0) rfl trivial [0, 1, 2, 3] (by decide) rfl (by decide) (by decide) dX1_init_28
set_option maxHeartbeats 4000000 in
set_option maxRecDepth 100000 in
theorem c_X9_init (l : Launch) (D : va_G) (cyC cyI cyJ cyZ cyO : ClassId) (h0 : Nat) : KK l D (TY cyC cyI cyJ cyZ cyO) yX9_init cX9_init 1 none ({ frames := 1, cells := 10, slots := 96, locals := 12 } : Room) 10 96 [.ref h0] [(h0, .inr (9, [.int 0, .int 0, .int 0, .null, .null, .null, .null, .null, .null, .int 0, .int 0, .null, .null, .null, .null]))] (fun u => none) (fun u => True) (fun u => [(h0, .inr (9, [.int 0, .int 0, .int 0, .ref (u.1 0), .ref (u.1 1), .ref (u.1 2), .ref (u.1 3), .ref (u.1 4), .ref (u.1 5), .int 0, .int 0, .ref (u.1 6), .ref (u.1 7), .ref (u.1 8), .ref (u.1 9)])), ((u.1 0), .inl (cyI, 12, .inl (fun _ => 0))), ((u.1 1), .inl (cyI, 12, .inl (fun _ => 0))), ((u.1 2), .inl (cyI, 12, .inl (fun _ => 0))), ((u.1 3), .inl (cyI, 12, .inl (fun _ => 0))), ((u.1 4), .inl (cyI, 12, .inl (fun _ => 0))), ((u.1 5), .inl (cyI, 12, .inl (fun _ => 0))), ((u.1 6), .inl (cyI, 12, .inl (fun _ => 0))), ((u.1 7), .inl (cyI, 4, .inl (fun _ => 0))), ((u.1 8), .inl (cyI, 4, .inl (fun _ => 0))), ((u.1 9), .inl (cyI, 4, .inl (fun _ => 0)))]) := by
  refine KK.of (lv0 := [(0, .ref h0)]) (by decide) rfl (Nat.le_of_ble_eq_true rfl) ?_
  intro p e s m args below meth c A C hr hk hin
  refine j_aload_n (pc := 0) C dX9_init_0 rfl 0 rfl ?_
  refine j_oinit (pc := 1) C wd_10 wd_1 wd_2 dX9_init_1 (by decide) (Nat.le_of_ble_eq_true rfl) ?_
  refine j_aload_n (pc := 4) C dX9_init_4 rfl 0 rfl ?_
  refine j_bipush (pc := 5) (v := 12) C dX9_init_5 (by decide) ?_
  refine j_newa (pc := 7) (at1 := .int) (ty := .int) (N := 12) (a0 := (12, .inl (fun _ => 0))) C wd_6 rfl 1 rfl (fun _ _ h => h) (fun _ => rfl) (by decide) (by decide) (by decide) (by decide) (by decide) dX9_init_7 (fun q_1 => ?_)
  refine j_widen (k := 1) (n := 12) (by decide) (by decide) ?_
  refine j_putF (pc := 9) (ci := 9) (v := .ref q_1) (ws' := [(h0, .inr (9, [.int 0, .int 0, .int 0, .ref q_1, .null, .null, .null, .null, .null, .int 0, .int 0, .null, .null, .null, .null])), (q_1, .inl (cyI, 12, .inl (fun _ => 0)))]) C inw_9 0 rfl rfl 3 (by decide) wd_11 rfl tyX9_ok nmX9 rfl hin rfl (tyX9_ok 3 (by decide)) rfl rfl (Nat.le_of_ble_eq_true rfl) dX9_init_9 rfl ?_
  refine j_aload_n (pc := 12) C dX9_init_12 rfl 0 rfl ?_
  refine j_bipush (pc := 13) (v := 12) C dX9_init_13 (by decide) ?_
  refine j_newa (pc := 15) (at1 := .int) (ty := .int) (N := 12) (a0 := (12, .inl (fun _ => 0))) C wd_6 rfl 1 rfl (fun _ _ h => h) (fun _ => rfl) (by decide) (by decide) (by decide) (by decide) (by decide) dX9_init_15 (fun q_2 => ?_)
  refine j_widen (k := 2) (n := 24) (by decide) (by decide) ?_
  refine j_putF (pc := 17) (ci := 9) (v := .ref q_2) (ws' := [(h0, .inr (9, [.int 0, .int 0, .int 0, .ref q_1, .ref q_2, .null, .null, .null, .null, .int 0, .int 0, .null, .null, .null, .null])), (q_1, .inl (cyI, 12, .inl (fun _ => 0))), (q_2, .inl (cyI, 12, .inl (fun _ => 0)))]) C inw_9 0 rfl rfl 4 (by decide) wd_12 rfl tyX9_ok nmX9 rfl hin rfl (tyX9_ok 4 (by decide)) rfl rfl (Nat.le_of_ble_eq_true rfl) dX9_init_17 rfl ?_
  refine j_aload_n (pc := 20) C dX9_init_20 rfl 0 rfl ?_
  refine j_bipush (pc := 21) (v := 12) C dX9_init_21 (by decide) ?_
  refine j_newa (pc := 23) (at1 := .int) (ty := .int) (N := 12) (a0 := (12, .inl (fun _ => 0))) C wd_6 rfl 1 rfl (fun _ _ h => h) (fun _ => rfl) (by decide) (by decide) (by decide) (by decide) (by decide) dX9_init_23 (fun q_3 => ?_)
  refine j_widen (k := 3) (n := 36) (by decide) (by decide) ?_
  refine j_putF (pc := 25) (ci := 9) (v := .ref q_3) (ws' := [(h0, .inr (9, [.int 0, .int 0, .int 0, .ref q_1, .ref q_2, .ref q_3, .null, .null, .null, .int 0, .int 0, .null, .null, .null, .null])), (q_1, .inl (cyI, 12, .inl (fun _ => 0))), (q_2, .inl (cyI, 12, .inl (fun _ => 0))), (q_3, .inl (cyI, 12, .inl (fun _ => 0)))]) C inw_9 0 rfl rfl 5 (by decide) wd_13 rfl tyX9_ok nmX9 rfl hin rfl (tyX9_ok 5 (by decide)) rfl rfl (Nat.le_of_ble_eq_true rfl) dX9_init_25 rfl ?_
  refine j_aload_n (pc := 28) C dX9_init_28 rfl 0 rfl ?_
  refine j_bipush (pc := 29) (v := 12) C dX9_init_29 (by decide) ?_
  refine j_newa (pc := 31) (at1 := .int) (ty := .int) (N := 12) (a0 := (12, .inl (fun _ => 0))) C wd_6 rfl 1 rfl (fun _ _ h => h) (fun _ => rfl) (by decide) (by decide) (by decide) (by decide) (by decide) dX9_init_31 (fun q_4 => ?_)
  refine j_widen (k := 4) (n := 48) (by decide) (by decide) ?_
  refine j_putF (pc := 33) (ci := 9) (v := .ref q_4) (ws' := [(h0, .inr (9, [.int 0, .int 0, .int 0, .ref q_1, .ref q_2, .ref q_3, .ref q_4, .null, .null, .int 0, .int 0, .null, .null, .null, .null])), (q_1, .inl (cyI, 12, .inl (fun _ => 0))), (q_2, .inl (cyI, 12, .inl (fun _ => 0))), (q_3, .inl (cyI, 12, .inl (fun _ => 0))), (q_4, .inl (cyI, 12, .inl (fun _ => 0)))]) C inw_9 0 rfl rfl 6 (by decide) wd_14 rfl tyX9_ok nmX9 rfl hin rfl (tyX9_ok 6 (by decide)) rfl rfl (Nat.le_of_ble_eq_true rfl) dX9_init_33 rfl ?_
  refine j_aload_n (pc := 36) C dX9_init_36 rfl 0 rfl ?_
  refine j_bipush (pc := 37) (v := 12) C dX9_init_37 (by decide) ?_
  refine j_newa (pc := 39) (at1 := .int) (ty := .int) (N := 12) (a0 := (12, .inl (fun _ => 0))) C wd_6 rfl 1 rfl (fun _ _ h => h) (fun _ => rfl) (by decide) (by decide) (by decide) (by decide) (by decide) dX9_init_39 (fun q_5 => ?_)
  refine j_widen (k := 5) (n := 60) (by decide) (by decide) ?_
  refine j_putF (pc := 41) (ci := 9) (v := .ref q_5) (ws' := [(h0, .inr (9, [.int 0, .int 0, .int 0, .ref q_1, .ref q_2, .ref q_3, .ref q_4, .ref q_5, .null, .int 0, .int 0, .null, .null, .null, .null])), (q_1, .inl (cyI, 12, .inl (fun _ => 0))), (q_2, .inl (cyI, 12, .inl (fun _ => 0))), (q_3, .inl (cyI, 12, .inl (fun _ => 0))), (q_4, .inl (cyI, 12, .inl (fun _ => 0))), (q_5, .inl (cyI, 12, .inl (fun _ => 0)))]) C inw_9 0 rfl rfl 7 (by decide) wd_15 rfl tyX9_ok nmX9 rfl hin rfl (tyX9_ok 7 (by decide)) rfl rfl (Nat.le_of_ble_eq_true rfl) dX9_init_41 rfl ?_
  refine j_aload_n (pc := 44) C dX9_init_44 rfl 0 rfl ?_
  refine j_bipush (pc := 45) (v := 12) C dX9_init_45 (by decide) ?_
  refine j_newa (pc := 47) (at1 := .int) (ty := .int) (N := 12) (a0 := (12, .inl (fun _ => 0))) C wd_6 rfl 1 rfl (fun _ _ h => h) (fun _ => rfl) (by decide) (by decide) (by decide) (by decide) (by decide) dX9_init_47 (fun q_6 => ?_)
  refine j_widen (k := 6) (n := 72) (by decide) (by decide) ?_
  refine j_putF (pc := 49) (ci := 9) (v := .ref q_6) (ws' := [(h0, .inr (9, [.int 0, .int 0, .int 0, .ref q_1, .ref q_2, .ref q_3, .ref q_4, .ref q_5, .ref q_6, .int 0, .int 0, .null, .null, .null, .null])), (q_1, .inl (cyI, 12, .inl (fun _ => 0))), (q_2, .inl (cyI, 12, .inl (fun _ => 0))), (q_3, .inl (cyI, 12, .inl (fun _ => 0))), (q_4, .inl (cyI, 12, .inl (fun _ => 0))), (q_5, .inl (cyI, 12, .inl (fun _ => 0))), (q_6, .inl (cyI, 12, .inl (fun _ => 0)))]) C inw_9 0 rfl rfl 8 (by decide) wd_16 rfl tyX9_ok nmX9 rfl hin rfl (tyX9_ok 8 (by decide)) rfl rfl (Nat.le_of_ble_eq_true rfl) dX9_init_49 rfl ?_
  refine j_aload_n (pc := 52) C dX9_init_52 rfl 0 rfl ?_
  refine j_bipush (pc := 53) (v := 12) C dX9_init_53 (by decide) ?_
  refine j_newa (pc := 55) (at1 := .int) (ty := .int) (N := 12) (a0 := (12, .inl (fun _ => 0))) C wd_6 rfl 1 rfl (fun _ _ h => h) (fun _ => rfl) (by decide) (by decide) (by decide) (by decide) (by decide) dX9_init_55 (fun q_7 => ?_)
  refine j_widen (k := 7) (n := 84) (by decide) (by decide) ?_
  refine j_putF (pc := 57) (ci := 9) (v := .ref q_7) (ws' := [(h0, .inr (9, [.int 0, .int 0, .int 0, .ref q_1, .ref q_2, .ref q_3, .ref q_4, .ref q_5, .ref q_6, .int 0, .int 0, .ref q_7, .null, .null, .null])), (q_1, .inl (cyI, 12, .inl (fun _ => 0))), (q_2, .inl (cyI, 12, .inl (fun _ => 0))), (q_3, .inl (cyI, 12, .inl (fun _ => 0))), (q_4, .inl (cyI, 12, .inl (fun _ => 0))), (q_5, .inl (cyI, 12, .inl (fun _ => 0))), (q_6, .inl (cyI, 12, .inl (fun _ => 0))), (q_7, .inl (cyI, 12, .inl (fun _ => 0)))]) C inw_9 0 rfl rfl 11 (by decide) wd_17 rfl tyX9_ok nmX9 rfl hin rfl (tyX9_ok 11 (by decide)) rfl rfl (Nat.le_of_ble_eq_true rfl) dX9_init_57 rfl ?_
  refine j_aload_n (pc := 60) C dX9_init_60 rfl 0 rfl ?_
  refine j_iconst (pc := 61) (v := 4) C dX9_init_61 (by decide) ?_
  refine j_newa (pc := 62) (at1 := .int) (ty := .int) (N := 4) (a0 := (4, .inl (fun _ => 0))) C wd_6 rfl 1 rfl (fun _ _ h => h) (fun _ => rfl) (by decide) (by decide) (by decide) (by decide) (by decide) dX9_init_62 (fun q_8 => ?_)
  refine j_widen (k := 8) (n := 88) (by decide) (by decide) ?_
  refine j_putF (pc := 64) (ci := 9) (v := .ref q_8) (ws' := [(h0, .inr (9, [.int 0, .int 0, .int 0, .ref q_1, .ref q_2, .ref q_3, .ref q_4, .ref q_5, .ref q_6, .int 0, .int 0, .ref q_7, .ref q_8, .null, .null])), (q_1, .inl (cyI, 12, .inl (fun _ => 0))), (q_2, .inl (cyI, 12, .inl (fun _ => 0))), (q_3, .inl (cyI, 12, .inl (fun _ => 0))), (q_4, .inl (cyI, 12, .inl (fun _ => 0))), (q_5, .inl (cyI, 12, .inl (fun _ => 0))), (q_6, .inl (cyI, 12, .inl (fun _ => 0))), (q_7, .inl (cyI, 12, .inl (fun _ => 0))), (q_8, .inl (cyI, 4, .inl (fun _ => 0)))]) C inw_9 0 rfl rfl 12 (by decide) wd_18 rfl tyX9_ok nmX9 rfl hin rfl (tyX9_ok 12 (by decide)) rfl rfl (Nat.le_of_ble_eq_true rfl) dX9_init_64 rfl ?_
  refine j_aload_n (pc := 67) C dX9_init_67 rfl 0 rfl ?_
  refine j_iconst (pc := 68) (v := 4) C dX9_init_68 (by decide) ?_
  refine j_newa (pc := 69) (at1 := .int) (ty := .int) (N := 4) (a0 := (4, .inl (fun _ => 0))) C wd_6 rfl 1 rfl (fun _ _ h => h) (fun _ => rfl) (by decide) (by decide) (by decide) (by decide) (by decide) dX9_init_69 (fun q_9 => ?_)
  refine j_widen (k := 9) (n := 92) (by decide) (by decide) ?_
  refine j_putF (pc := 71) (ci := 9) (v := .ref q_9) (ws' := [(h0, .inr (9, [.int 0, .int 0, .int 0, .ref q_1, .ref q_2, .ref q_3, .ref q_4, .ref q_5, .ref q_6, .int 0, .int 0, .ref q_7, .ref q_8, .ref q_9, .null])), (q_1, .inl (cyI, 12, .inl (fun _ => 0))), (q_2, .inl (cyI, 12, .inl (fun _ => 0))), (q_3, .inl (cyI, 12, .inl (fun _ => 0))), (q_4, .inl (cyI, 12, .inl (fun _ => 0))), (q_5, .inl (cyI, 12, .inl (fun _ => 0))), (q_6, .inl (cyI, 12, .inl (fun _ => 0))), (q_7, .inl (cyI, 12, .inl (fun _ => 0))), (q_8, .inl (cyI, 4, .inl (fun _ => 0))), (q_9, .inl (cyI, 4, .inl (fun _ => 0)))]) C inw_9 0 rfl rfl 13 (by decide) wd_19 rfl tyX9_ok nmX9 rfl hin rfl (tyX9_ok 13 (by decide)) rfl rfl (Nat.le_of_ble_eq_true rfl) dX9_init_71 rfl ?_
  refine j_aload_n (pc := 74) C dX9_init_74 rfl 0 rfl ?_
  refine j_iconst (pc := 75) (v := 4) C dX9_init_75 (by decide) ?_
  refine j_newa (pc := 76) (at1 := .int) (ty := .int) (N := 4) (a0 := (4, .inl (fun _ => 0))) C wd_6 rfl 1 rfl (fun _ _ h => h) (fun _ => rfl) (by decide) (by decide) (by decide) (by decide) (by decide) dX9_init_76 (fun q_10 => ?_)
  refine j_widen (k := 10) (n := 96) (by decide) (by decide) ?_
  refine j_putF (pc := 78) (ci := 9) (v := .ref q_10) (ws' := [(h0, .inr (9, [.int 0, .int 0, .int 0, .ref q_1, .ref q_2, .ref q_3, .ref q_4, .ref q_5, .ref q_6, .int 0, .int 0, .ref q_7, .ref q_8, .ref q_9, .ref q_10])), (q_1, .inl (cyI, 12, .inl (fun _ => 0))), (q_2, .inl (cyI, 12, .inl (fun _ => 0))), (q_3, .inl (cyI, 12, .inl (fun _ => 0))), (q_4, .inl (cyI, 12, .inl (fun _ => 0))), (q_5, .inl (cyI, 12, .inl (fun _ => 0))), (q_6, .inl (cyI, 12, .inl (fun _ => 0))), (q_7, .inl (cyI, 12, .inl (fun _ => 0))), (q_8, .inl (cyI, 4, .inl (fun _ => 0))), (q_9, .inl (cyI, 4, .inl (fun _ => 0))), (q_10, .inl (cyI, 4, .inl (fun _ => 0)))]) C inw_9 0 rfl rfl 14 (by decide) wd_20 rfl tyX9_ok nmX9 rfl hin rfl (tyX9_ok 14 (by decide)) rfl rfl (Nat.le_of_ble_eq_true rfl) dX9_init_78 rfl ?_
  exact j_vret (pc := 81) C hr hk (fun i => [q_1, q_2, q_3, q_4, q_5, q_6, q_7, q_8, q_9, q_10].getD i 0, fun _ => 0, fun _ _ => 0) rfl trivial [0, 1, 2, 3, 4, 5, 6, 7, 8, 9, 10] (by decide) rfl (by decide) (by decide) dX9_init_81
set_option maxHeartbeats 4000000 in
set_option maxRecDepth 100000 in
theorem c_X5_init (l : Launch) (D : va_G) (cyC cyI cyJ cyZ cyO : ClassId) (h0 : Nat) : KK l D (TY cyC cyI cyJ cyZ cyO) yX5_init cX5_init 1 none ({ frames := 2, cells := 19, slots := 2174, locals := 32 } : Room) 19 2174 [.ref h0] [(h0, .inr (5, [.null, .null, .null, .null, .null, .int 0, .int 0]))] (fun u => none) (fun u => True) (fun u => [(h0, .inr (5, [.ref (u.1 0), .ref (u.1 2), .ref (u.1 6), .ref (u.1 7), .ref (u.1 8), .int 0, .int 0])), ((u.1 0), .inr (8, [.ref (u.1 1), .int 0, .int 0, .int 0, .int 0, .int 0])), ((u.1 1), .inl (cyC, 1000, .inl (fun _ => 0))), ((u.1 2), .inr (1, [.int 0, .int 0, .ref (u.1 3), .ref (u.1 4), .ref (u.1 5)])), ((u.1 3), .inl (cyI, 1000, .inl (fun _ => 0))), ((u.1 4), .inl (cyI, 4, .inl (fun _ => 0))), ((u.1 5), .inl (cyI, 32, .inl (fun _ => 0))), ((u.1 6), .inl (cyJ, 12, .inr (.inl (fun _ => 0)))), ((u.1 7), .inl (cyJ, 4, .inr (.inl (fun _ => 0)))), ((u.1 8), .inr (9, [.int 0, .int 0, .int 0, .ref (u.1 9), .ref (u.1 10), .ref (u.1 11), .ref (u.1 12), .ref (u.1 13), .ref (u.1 14), .int 0, .int 0, .ref (u.1 15), .ref (u.1 16), .ref (u.1 17), .ref (u.1 18)])), ((u.1 9), .inl (cyI, 12, .inl (fun _ => 0))), ((u.1 10), .inl (cyI, 12, .inl (fun _ => 0))), ((u.1 11), .inl (cyI, 12, .inl (fun _ => 0))), ((u.1 12), .inl (cyI, 12, .inl (fun _ => 0))), ((u.1 13), .inl (cyI, 12, .inl (fun _ => 0))), ((u.1 14), .inl (cyI, 12, .inl (fun _ => 0))), ((u.1 15), .inl (cyI, 12, .inl (fun _ => 0))), ((u.1 16), .inl (cyI, 4, .inl (fun _ => 0))), ((u.1 17), .inl (cyI, 4, .inl (fun _ => 0))), ((u.1 18), .inl (cyI, 4, .inl (fun _ => 0)))]) := by
  refine KK.of (lv0 := [(0, .ref h0)]) (by decide) rfl (Nat.le_of_ble_eq_true rfl) ?_
  intro p e s m args below meth c A C hr hk hin
  refine j_aload_n (pc := 0) C dX5_init_0 rfl 0 rfl ?_
  refine j_oinit (pc := 1) C wd_21 wd_1 wd_2 dX5_init_1 (by decide) (Nat.le_of_ble_eq_true rfl) ?_
  refine j_aload_n (pc := 4) C dX5_init_4 rfl 0 rfl ?_
  refine j_new (pc := 5) (ci := 8) (fs := [.null, .int 0, .int 0, .int 0, .int 0, .int 0]) C inw_8 tyX8_ok wd_22 wd_23 wd_24 rfl ndX8 (by decide) (by decide) dX5_init_5 (fun q_1 => ?_)
  refine j_widen (k := 1) (n := 6) (by decide) (by decide) ?_
  refine j_dup (pc := 8) C dX5_init_8 rfl ?_
  refine j_callN (pc := 9) (As := []) (rest := [.ref q_1, .ref h0]) (wr := [(h0, .inr (5, [.null, .null, .null, .null, .null, .int 0, .int 0]))]) C (c_X8_init l D cyC cyI cyJ cyZ cyO q_1) wd_25 wd_24 C.2.2.2.2.2.2.1.2.1 wd_26 rfl ⟨by decide, by decide, rfl⟩ rfl ⟨rfl, rfl, by decide, by decide⟩ ⟨by decide, by decide⟩ [1] [0] rfl rfl ⟨by decide, by decide, by decide⟩ rfl (Nat.le_of_ble_eq_true rfl) dX5_init_9 (fun u_2 hw_3 => ?_)
  refine j_eq (ws2 := [(h0, .inr (5, [.null, .null, .null, .null, .null, .int 0, .int 0])), (q_1, .inr (8, [.ref (u_2.1 0), .int 0, .int 0, .int 0, .int 0, .int 0])), ((u_2.1 0), .inl (cyC, 1000, .inl (fun _ => 0)))]) (pc2 := 12) (lv2 := [(0, .ref h0)]) (st2 := [.ref q_1, .ref h0]) rfl rfl rfl rfl ?_
  refine j_widen (k := 2) (n := 1006) (by decide) (by decide) ?_
  refine j_putF (pc := 12) (ci := 5) (v := .ref q_1) (ws' := [(h0, .inr (5, [.ref q_1, .null, .null, .null, .null, .int 0, .int 0])), (q_1, .inr (8, [.ref (u_2.1 0), .int 0, .int 0, .int 0, .int 0, .int 0])), ((u_2.1 0), .inl (cyC, 1000, .inl (fun _ => 0)))]) C inw_5 0 rfl rfl 0 (by decide) wd_27 rfl tyX5_ok nmX5 rfl hin rfl (tyX5_ok 0 (by decide)) rfl rfl (Nat.le_of_ble_eq_true rfl) dX5_init_12 rfl ?_
  refine j_aload_n (pc := 15) C dX5_init_15 rfl 0 rfl ?_
  refine j_new (pc := 16) (ci := 1) (fs := [.int 0, .int 0, .null, .null, .null]) C inw_1 tyX1_ok wd_28 wd_29 wd_30 rfl ndX1 (by decide) (by decide) dX5_init_16 (fun q_4 => ?_)
  refine j_widen (k := 3) (n := 1011) (by decide) (by decide) ?_
  refine j_dup (pc := 19) C dX5_init_19 rfl ?_
  refine j_callN (pc := 20) (As := []) (rest := [.ref q_4, .ref h0]) (wr := [(h0, .inr (5, [.ref q_1, .null, .null, .null, .null, .int 0, .int 0])), (q_1, .inr (8, [.ref (u_2.1 0), .int 0, .int 0, .int 0, .int 0, .int 0])), ((u_2.1 0), .inl (cyC, 1000, .inl (fun _ => 0)))]) C (c_X1_init l D cyC cyI cyJ cyZ cyO q_4) wd_31 wd_30 C.2.2.2.2.2.2.1.2.2.1 wd_32 rfl ⟨by decide, by decide, rfl⟩ rfl ⟨rfl, rfl, by decide, by decide⟩ ⟨by decide, by decide⟩ [3] [0, 1, 2] rfl rfl ⟨by decide, by decide, by decide⟩ rfl (Nat.le_of_ble_eq_true rfl) dX5_init_20 (fun u_5 hw_6 => ?_)
  refine j_eq (ws2 := [(h0, .inr (5, [.ref q_1, .null, .null, .null, .null, .int 0, .int 0])), (q_1, .inr (8, [.ref (u_2.1 0), .int 0, .int 0, .int 0, .int 0, .int 0])), ((u_2.1 0), .inl (cyC, 1000, .inl (fun _ => 0))), (q_4, .inr (1, [.int 0, .int 0, .ref (u_5.1 0), .ref (u_5.1 1), .ref (u_5.1 2)])), ((u_5.1 0), .inl (cyI, 1000, .inl (fun _ => 0))), ((u_5.1 1), .inl (cyI, 4, .inl (fun _ => 0))), ((u_5.1 2), .inl (cyI, 32, .inl (fun _ => 0)))]) (pc2 := 23) (lv2 := [(0, .ref h0)]) (st2 := [.ref q_4, .ref h0]) rfl rfl rfl rfl ?_
  refine j_widen (k := 6) (n := 2047) (by decide) (by decide) ?_
  refine j_putF (pc := 23) (ci := 5) (v := .ref q_4) (ws' := [(h0, .inr (5, [.ref q_1, .ref q_4, .null, .null, .null, .int 0, .int 0])), (q_1, .inr (8, [.ref (u_2.1 0), .int 0, .int 0, .int 0, .int 0, .int 0])), ((u_2.1 0), .inl (cyC, 1000, .inl (fun _ => 0))), (q_4, .inr (1, [.int 0, .int 0, .ref (u_5.1 0), .ref (u_5.1 1), .ref (u_5.1 2)])), ((u_5.1 0), .inl (cyI, 1000, .inl (fun _ => 0))), ((u_5.1 1), .inl (cyI, 4, .inl (fun _ => 0))), ((u_5.1 2), .inl (cyI, 32, .inl (fun _ => 0)))]) C inw_5 0 rfl rfl 1 (by decide) wd_33 rfl tyX5_ok nmX5 rfl hin rfl (tyX5_ok 1 (by decide)) rfl rfl (Nat.le_of_ble_eq_true rfl) dX5_init_23 rfl ?_
  refine j_aload_n (pc := 26) C dX5_init_26 rfl 0 rfl ?_
  refine j_bipush (pc := 27) (v := 12) C dX5_init_27 (by decide) ?_
  refine j_newa (pc := 29) (at1 := .long) (ty := .long) (N := 12) (a0 := (12, .inr (.inl (fun _ => 0)))) C wd_34 rfl 2 rfl (fun _ _ h => h) (fun _ => rfl) (by decide) (by decide) (by decide) (by decide) (by decide) dX5_init_29 (fun q_7 => ?_)
  refine j_widen (k := 7) (n := 2059) (by decide) (by decide) ?_
  refine j_putF (pc := 31) (ci := 5) (v := .ref q_7) (ws' := [(h0, .inr (5, [.ref q_1, .ref q_4, .ref q_7, .null, .null, .int 0, .int 0])), (q_1, .inr (8, [.ref (u_2.1 0), .int 0, .int 0, .int 0, .int 0, .int 0])), ((u_2.1 0), .inl (cyC, 1000, .inl (fun _ => 0))), (q_4, .inr (1, [.int 0, .int 0, .ref (u_5.1 0), .ref (u_5.1 1), .ref (u_5.1 2)])), ((u_5.1 0), .inl (cyI, 1000, .inl (fun _ => 0))), ((u_5.1 1), .inl (cyI, 4, .inl (fun _ => 0))), ((u_5.1 2), .inl (cyI, 32, .inl (fun _ => 0))), (q_7, .inl (cyJ, 12, .inr (.inl (fun _ => 0))))]) C inw_5 0 rfl rfl 2 (by decide) wd_35 rfl tyX5_ok nmX5 rfl hin rfl (tyX5_ok 2 (by decide)) rfl rfl (Nat.le_of_ble_eq_true rfl) dX5_init_31 rfl ?_
  refine j_aload_n (pc := 34) C dX5_init_34 rfl 0 rfl ?_
  refine j_iconst (pc := 35) (v := 4) C dX5_init_35 (by decide) ?_
  refine j_newa (pc := 36) (at1 := .long) (ty := .long) (N := 4) (a0 := (4, .inr (.inl (fun _ => 0)))) C wd_34 rfl 2 rfl (fun _ _ h => h) (fun _ => rfl) (by decide) (by decide) (by decide) (by decide) (by decide) dX5_init_36 (fun q_8 => ?_)
  refine j_widen (k := 8) (n := 2063) (by decide) (by decide) ?_
  refine j_putF (pc := 38) (ci := 5) (v := .ref q_8) (ws' := [(h0, .inr (5, [.ref q_1, .ref q_4, .ref q_7, .ref q_8, .null, .int 0, .int 0])), (q_1, .inr (8, [.ref (u_2.1 0), .int 0, .int 0, .int 0, .int 0, .int 0])), ((u_2.1 0), .inl (cyC, 1000, .inl (fun _ => 0))), (q_4, .inr (1, [.int 0, .int 0, .ref (u_5.1 0), .ref (u_5.1 1), .ref (u_5.1 2)])), ((u_5.1 0), .inl (cyI, 1000, .inl (fun _ => 0))), ((u_5.1 1), .inl (cyI, 4, .inl (fun _ => 0))), ((u_5.1 2), .inl (cyI, 32, .inl (fun _ => 0))), (q_7, .inl (cyJ, 12, .inr (.inl (fun _ => 0)))), (q_8, .inl (cyJ, 4, .inr (.inl (fun _ => 0))))]) C inw_5 0 rfl rfl 3 (by decide) wd_36 rfl tyX5_ok nmX5 rfl hin rfl (tyX5_ok 3 (by decide)) rfl rfl (Nat.le_of_ble_eq_true rfl) dX5_init_38 rfl ?_
  refine j_aload_n (pc := 41) C dX5_init_41 rfl 0 rfl ?_
  refine j_new (pc := 42) (ci := 9) (fs := [.int 0, .int 0, .int 0, .null, .null, .null, .null, .null, .null, .int 0, .int 0, .null, .null, .null, .null]) C inw_9 tyX9_ok wd_37 wd_38 wd_39 rfl ndX9 (by decide) (by decide) dX5_init_42 (fun q_9 => ?_)
  refine j_widen (k := 9) (n := 2078) (by decide) (by decide) ?_
  refine j_dup (pc := 45) C dX5_init_45 rfl ?_
  refine j_callN (pc := 46) (As := []) (rest := [.ref q_9, .ref h0]) (wr := [(h0, .inr (5, [.ref q_1, .ref q_4, .ref q_7, .ref q_8, .null, .int 0, .int 0])), (q_1, .inr (8, [.ref (u_2.1 0), .int 0, .int 0, .int 0, .int 0, .int 0])), ((u_2.1 0), .inl (cyC, 1000, .inl (fun _ => 0))), (q_4, .inr (1, [.int 0, .int 0, .ref (u_5.1 0), .ref (u_5.1 1), .ref (u_5.1 2)])), ((u_5.1 0), .inl (cyI, 1000, .inl (fun _ => 0))), ((u_5.1 1), .inl (cyI, 4, .inl (fun _ => 0))), ((u_5.1 2), .inl (cyI, 32, .inl (fun _ => 0))), (q_7, .inl (cyJ, 12, .inr (.inl (fun _ => 0)))), (q_8, .inl (cyJ, 4, .inr (.inl (fun _ => 0))))]) C (c_X9_init l D cyC cyI cyJ cyZ cyO q_9) wd_40 wd_39 C.2.2.2.2.2.2.1.2.2.2.1 wd_41 rfl ⟨by decide, by decide, rfl⟩ rfl ⟨rfl, rfl, by decide, by decide⟩ ⟨by decide, by decide⟩ [9] [0, 1, 2, 3, 4, 5, 6, 7, 8] rfl rfl ⟨by decide, by decide, by decide⟩ rfl (Nat.le_of_ble_eq_true rfl) dX5_init_46 (fun u_10 hw_11 => ?_)
  refine j_eq (ws2 := [(h0, .inr (5, [.ref q_1, .ref q_4, .ref q_7, .ref q_8, .null, .int 0, .int 0])), (q_1, .inr (8, [.ref (u_2.1 0), .int 0, .int 0, .int 0, .int 0, .int 0])), ((u_2.1 0), .inl (cyC, 1000, .inl (fun _ => 0))), (q_4, .inr (1, [.int 0, .int 0, .ref (u_5.1 0), .ref (u_5.1 1), .ref (u_5.1 2)])), ((u_5.1 0), .inl (cyI, 1000, .inl (fun _ => 0))), ((u_5.1 1), .inl (cyI, 4, .inl (fun _ => 0))), ((u_5.1 2), .inl (cyI, 32, .inl (fun _ => 0))), (q_7, .inl (cyJ, 12, .inr (.inl (fun _ => 0)))), (q_8, .inl (cyJ, 4, .inr (.inl (fun _ => 0)))), (q_9, .inr (9, [.int 0, .int 0, .int 0, .ref (u_10.1 0), .ref (u_10.1 1), .ref (u_10.1 2), .ref (u_10.1 3), .ref (u_10.1 4), .ref (u_10.1 5), .int 0, .int 0, .ref (u_10.1 6), .ref (u_10.1 7), .ref (u_10.1 8), .ref (u_10.1 9)])), ((u_10.1 0), .inl (cyI, 12, .inl (fun _ => 0))), ((u_10.1 1), .inl (cyI, 12, .inl (fun _ => 0))), ((u_10.1 2), .inl (cyI, 12, .inl (fun _ => 0))), ((u_10.1 3), .inl (cyI, 12, .inl (fun _ => 0))), ((u_10.1 4), .inl (cyI, 12, .inl (fun _ => 0))), ((u_10.1 5), .inl (cyI, 12, .inl (fun _ => 0))), ((u_10.1 6), .inl (cyI, 12, .inl (fun _ => 0))), ((u_10.1 7), .inl (cyI, 4, .inl (fun _ => 0))), ((u_10.1 8), .inl (cyI, 4, .inl (fun _ => 0))), ((u_10.1 9), .inl (cyI, 4, .inl (fun _ => 0)))]) (pc2 := 49) (lv2 := [(0, .ref h0)]) (st2 := [.ref q_9, .ref h0]) rfl rfl rfl rfl ?_
  refine j_widen (k := 19) (n := 2174) (by decide) (by decide) ?_
  refine j_put (pc := 49) (ci := 5) (v := .ref q_9) (ws' := [(h0, .inr (5, [.ref q_1, .ref q_4, .ref q_7, .ref q_8, .ref q_9, .int 0, .int 0])), (q_1, .inr (8, [.ref (u_2.1 0), .int 0, .int 0, .int 0, .int 0, .int 0])), ((u_2.1 0), .inl (cyC, 1000, .inl (fun _ => 0))), (q_4, .inr (1, [.int 0, .int 0, .ref (u_5.1 0), .ref (u_5.1 1), .ref (u_5.1 2)])), ((u_5.1 0), .inl (cyI, 1000, .inl (fun _ => 0))), ((u_5.1 1), .inl (cyI, 4, .inl (fun _ => 0))), ((u_5.1 2), .inl (cyI, 32, .inl (fun _ => 0))), (q_7, .inl (cyJ, 12, .inr (.inl (fun _ => 0)))), (q_8, .inl (cyJ, 4, .inr (.inl (fun _ => 0)))), (q_9, .inr (9, [.int 0, .int 0, .int 0, .ref (u_10.1 0), .ref (u_10.1 1), .ref (u_10.1 2), .ref (u_10.1 3), .ref (u_10.1 4), .ref (u_10.1 5), .int 0, .int 0, .ref (u_10.1 6), .ref (u_10.1 7), .ref (u_10.1 8), .ref (u_10.1 9)])), ((u_10.1 0), .inl (cyI, 12, .inl (fun _ => 0))), ((u_10.1 1), .inl (cyI, 12, .inl (fun _ => 0))), ((u_10.1 2), .inl (cyI, 12, .inl (fun _ => 0))), ((u_10.1 3), .inl (cyI, 12, .inl (fun _ => 0))), ((u_10.1 4), .inl (cyI, 12, .inl (fun _ => 0))), ((u_10.1 5), .inl (cyI, 12, .inl (fun _ => 0))), ((u_10.1 6), .inl (cyI, 12, .inl (fun _ => 0))), ((u_10.1 7), .inl (cyI, 4, .inl (fun _ => 0))), ((u_10.1 8), .inl (cyI, 4, .inl (fun _ => 0))), ((u_10.1 9), .inl (cyI, 4, .inl (fun _ => 0)))]) C inw_5 0 rfl rfl 4 (by decide) wd_42 rfl tyX5_ok nmX5 rfl (tyX5_ok 4 (by decide)) rfl rfl (Nat.le_of_ble_eq_true rfl) dX5_init_49 rfl ?_
  exact j_vret (pc := 52) C hr hk (fun i => [q_1, (u_2.1 0), q_4, (u_5.1 0), (u_5.1 1), (u_5.1 2), q_7, q_8, q_9, (u_10.1 0), (u_10.1 1), (u_10.1 2), (u_10.1 3), (u_10.1 4), (u_10.1 5), (u_10.1 6), (u_10.1 7), (u_10.1 8), (u_10.1 9)].getD i 0, fun _ => 0, fun _ _ => 0) rfl trivial [0, 1, 2, 3, 4, 5, 6, 7, 8, 9, 10, 11, 12, 13, 14, 15, 16, 17, 18, 19] (by decide) rfl (by decide) (by decide) dX5_init_52
set_option maxHeartbeats 4000000 in
set_option maxRecDepth 100000 in
theorem c_fill (l : Launch) (D : va_G) (cyC cyI cyJ cyZ cyO : ClassId) (a : Nat) (v : Int32) (f : Nat → Int32) : KK l D (TY cyC cyI cyJ cyZ cyO) yJ7_fill_53178 cJ7_fill_53178 4 none ({ frames := 0, cells := 0, slots := 0, locals := 0 } : Room) 0 0 [.ref a, .int v] [(a, .inl (cyI, 12, .inl f))] (fun u => none) (fun u => True) (fun u => [(a, .inl (cyI, 12, .inl (fun _ => v)))]) := by
  refine KK.of (lv0 := [(0, .ref a), (1, .int v)]) (by decide) rfl (Nat.le_of_ble_eq_true rfl) ?_
  intro p e s m args below meth c A C hr hk hin
  refine j_iconst (pc := 0) (v := 0) C dJ7_fill_53178_0 (by decide) ?_
  refine j_istore_n (pc := 1) (lv' := [(2, .int 0), (0, .ref a), (1, .int v)]) C dJ7_fill_53178_1 rfl (by decide) rfl ?_
  refine j_aload_n (pc := 2) C dJ7_fill_53178_2 rfl 1 rfl ?_
  refine j_alen (pc := 3) (v := 12) C 0 1 rfl rfl rfl dJ7_fill_53178_3 ?_
  refine j_istore_n (pc := 4) (lv' := [(3, .int 12), (2, .int 0), (0, .ref a), (1, .int v)]) C dJ7_fill_53178_4 rfl (by decide) rfl ?_
  have loop : ∀ (k i : Nat) (g : Nat → Int32), i + k = 12 → (∀ j, j < i → g j = v) → J p l e ({ frames := 0, cells := 0, slots := 0, locals := 0 } : Room) s m args below meth c D A 4 0 0 (QX below D (TY cyC cyI cyJ cyZ cyO) A (fun u => none) (fun u => True) (fun u => [(a, .inl (cyI, 12, .inl (fun _ => v)))]) args s 0 0) [(a, .inl (cyI, 12, .inl g))] 5 [(2, .int (nI i)), (3, .int 12), (0, .ref a), (1, .int v)] [] := by
    intro k
    induction k with
    | zero =>
      intro i g hi hg
      obtain rfl : i = 12 := by omega
      refine j_iload_n (pc := 5) C dJ7_fill_53178_5 rfl 0 rfl ?_
      refine j_iload_n (pc := 6) C dJ7_fill_53178_6 rfl 1 rfl ?_
      refine j_icmp_ge_t (pc := 7) (tgt := 20) C dJ7_fill_53178_7 (by decide) (by decide) ?_
      refine j_arrc (q0 := 0) (g := fun _ => v) (ws' := [(a, .inl (cyI, 12, .inl (fun _ => v)))]) rfl hg rfl ?_
      exact j_vret (pc := 20) C hr hk (fun i => [].getD i 0, fun _ => 0, fun _ _ => 0) rfl trivial [0] (by decide) rfl (by decide) (by decide) dJ7_fill_53178_20
    | succ k ih =>
      intro i g hi hg
      refine j_iload_n (pc := 5) C dJ7_fill_53178_5 rfl 0 rfl ?_
      refine j_iload_n (pc := 6) C dJ7_fill_53178_6 rfl 1 rfl ?_
      refine j_icmp_ge_f (pc := 7) (tgt := 20) C dJ7_fill_53178_7 (by decide) (nI12 12 (by omega) (by decide)) ?_
      refine j_aload_n (pc := 10) C dJ7_fill_53178_10 rfl 2 rfl ?_
      refine j_iload_n (pc := 11) C dJ7_fill_53178_11 rfl 0 rfl ?_
      refine j_iload_n (pc := 12) C dJ7_fill_53178_12 rfl 3 rfl ?_
      refine j_iast (pc := 13) (k := i) (ws' := [(a, .inl (cyI, 12, .inl (upd g i v)))]) C 0 1 rfl rfl (nI_pos (by omega)) (nI_clamp (by omega)) (by omega) dJ7_fill_53178_13 rfl ?_
      refine j_iinc (pc := 14) (v := (nI (i + 1))) (lv' := [(2, .int (nI (i + 1))), (3, .int 12), (0, .ref a), (1, .int v)]) C dJ7_fill_53178_14 0 rfl (nI_1 i) (by decide) rfl ?_
      refine j_goto (pc := 17) (tgt := 5) C dJ7_fill_53178_17 (by decide) ?_
      exact j_lv [0, 1, 2, 3] rfl (ih (i + 1) _ (by omega) (upd_all (P := fun _ x => x = v) hg rfl))
  exact j_lv [1, 0, 2, 3] rfl (loop 12 0 f rfl (fun j hj => absurd hj (Nat.not_lt_zero j)))
set_option maxHeartbeats 4000000 in
set_option maxRecDepth 100000 in
theorem c_X7_init (l : Launch) (D : va_G) (cyC cyI cyJ cyZ cyO : ClassId) (h0 : Nat) : KK l D (TY cyC cyI cyJ cyZ cyO) yX7_init cX7_init 1 none ({ frames := 1, cells := 4, slots := 66, locals := 23 } : Room) 4 66 [.ref h0] [(h0, .inr (7, [.null, .null, .null, .null, .int 0, .int 0, .int 0]))] (fun u => none) (fun u => True) (fun u => [(h0, .inr (7, [.ref (u.1 0), .ref (u.1 1), .ref (u.1 2), .ref (u.1 3), .int 0, .int 0, .int 0])), ((u.1 0), .inl (cyI, 12, .inl (fun _ => (-1)))), ((u.1 1), .inl (cyI, 12, .inl (fun _ => 0))), ((u.1 2), .inl (cyI, 12, .inl (fun _ => 0))), ((u.1 3), .inl (cyI, 30, .inl (fun _ => 0)))]) := by
  refine KK.of (lv0 := [(0, .ref h0)]) (by decide) rfl (Nat.le_of_ble_eq_true rfl) ?_
  intro p e s m args below meth c A C hr hk hin
  refine j_aload_n (pc := 0) C dX7_init_0 rfl 0 rfl ?_
  refine j_oinit (pc := 1) C wd_43 wd_1 wd_2 dX7_init_1 (by decide) (Nat.le_of_ble_eq_true rfl) ?_
  refine j_aload_n (pc := 4) C dX7_init_4 rfl 0 rfl ?_
  refine j_bipush (pc := 5) (v := 12) C dX7_init_5 (by decide) ?_
  refine j_newa (pc := 7) (at1 := .int) (ty := .int) (N := 12) (a0 := (12, .inl (fun _ => 0))) C wd_6 rfl 1 rfl (fun _ _ h => h) (fun _ => rfl) (by decide) (by decide) (by decide) (by decide) (by decide) dX7_init_7 (fun q_1 => ?_)
  refine j_widen (k := 1) (n := 12) (by decide) (by decide) ?_
  refine j_putF (pc := 9) (ci := 7) (v := .ref q_1) (ws' := [(h0, .inr (7, [.ref q_1, .null, .null, .null, .int 0, .int 0, .int 0])), (q_1, .inl (cyI, 12, .inl (fun _ => 0)))]) C inw_7 0 rfl rfl 0 (by decide) wd_44 rfl tyX7_ok nmX7 rfl hin rfl (tyX7_ok 0 (by decide)) rfl rfl (Nat.le_of_ble_eq_true rfl) dX7_init_9 rfl ?_
  refine j_aload_n (pc := 12) C dX7_init_12 rfl 0 rfl ?_
  refine j_bipush (pc := 13) (v := 12) C dX7_init_13 (by decide) ?_
  refine j_newa (pc := 15) (at1 := .int) (ty := .int) (N := 12) (a0 := (12, .inl (fun _ => 0))) C wd_6 rfl 1 rfl (fun _ _ h => h) (fun _ => rfl) (by decide) (by decide) (by decide) (by decide) (by decide) dX7_init_15 (fun q_2 => ?_)
  refine j_widen (k := 2) (n := 24) (by decide) (by decide) ?_
  refine j_putF (pc := 17) (ci := 7) (v := .ref q_2) (ws' := [(h0, .inr (7, [.ref q_1, .ref q_2, .null, .null, .int 0, .int 0, .int 0])), (q_1, .inl (cyI, 12, .inl (fun _ => 0))), (q_2, .inl (cyI, 12, .inl (fun _ => 0)))]) C inw_7 0 rfl rfl 1 (by decide) wd_45 rfl tyX7_ok nmX7 rfl hin rfl (tyX7_ok 1 (by decide)) rfl rfl (Nat.le_of_ble_eq_true rfl) dX7_init_17 rfl ?_
  refine j_aload_n (pc := 20) C dX7_init_20 rfl 0 rfl ?_
  refine j_bipush (pc := 21) (v := 12) C dX7_init_21 (by decide) ?_
  refine j_newa (pc := 23) (at1 := .int) (ty := .int) (N := 12) (a0 := (12, .inl (fun _ => 0))) C wd_6 rfl 1 rfl (fun _ _ h => h) (fun _ => rfl) (by decide) (by decide) (by decide) (by decide) (by decide) dX7_init_23 (fun q_3 => ?_)
  refine j_widen (k := 3) (n := 36) (by decide) (by decide) ?_
  refine j_putF (pc := 25) (ci := 7) (v := .ref q_3) (ws' := [(h0, .inr (7, [.ref q_1, .ref q_2, .ref q_3, .null, .int 0, .int 0, .int 0])), (q_1, .inl (cyI, 12, .inl (fun _ => 0))), (q_2, .inl (cyI, 12, .inl (fun _ => 0))), (q_3, .inl (cyI, 12, .inl (fun _ => 0)))]) C inw_7 0 rfl rfl 2 (by decide) wd_46 rfl tyX7_ok nmX7 rfl hin rfl (tyX7_ok 2 (by decide)) rfl rfl (Nat.le_of_ble_eq_true rfl) dX7_init_25 rfl ?_
  refine j_aload_n (pc := 28) C dX7_init_28 rfl 0 rfl ?_
  refine j_bipush (pc := 29) (v := 30) C dX7_init_29 (by decide) ?_
  refine j_newa (pc := 31) (at1 := .int) (ty := .int) (N := 30) (a0 := (30, .inl (fun _ => 0))) C wd_6 rfl 1 rfl (fun _ _ h => h) (fun _ => rfl) (by decide) (by decide) (by decide) (by decide) (by decide) dX7_init_31 (fun q_4 => ?_)
  refine j_widen (k := 4) (n := 66) (by decide) (by decide) ?_
  refine j_putF (pc := 33) (ci := 7) (v := .ref q_4) (ws' := [(h0, .inr (7, [.ref q_1, .ref q_2, .ref q_3, .ref q_4, .int 0, .int 0, .int 0])), (q_1, .inl (cyI, 12, .inl (fun _ => 0))), (q_2, .inl (cyI, 12, .inl (fun _ => 0))), (q_3, .inl (cyI, 12, .inl (fun _ => 0))), (q_4, .inl (cyI, 30, .inl (fun _ => 0)))]) C inw_7 0 rfl rfl 3 (by decide) wd_47 rfl tyX7_ok nmX7 rfl hin rfl (tyX7_ok 3 (by decide)) rfl rfl (Nat.le_of_ble_eq_true rfl) dX7_init_33 rfl ?_
  refine j_aload_n (pc := 36) C dX7_init_36 rfl 0 rfl ?_
  refine j_get (pc := 37) (ci := 7) (v := .ref q_1) C inw_7 0 rfl rfl 0 (by decide) wd_44 rfl rfl dX7_init_37 ?_
  refine j_iconst (pc := 40) (v := (-1)) C dX7_init_40 (by decide) ?_
  refine j_callS (pc := 41) (As := [.ref q_1, .int (-1)]) (rest := []) (wr := [(h0, .inr (7, [.ref q_1, .ref q_2, .ref q_3, .ref q_4, .int 0, .int 0, .int 0])), (q_2, .inl (cyI, 12, .inl (fun _ => 0))), (q_3, .inl (cyI, 12, .inl (fun _ => 0))), (q_4, .inl (cyI, 30, .inl (fun _ => 0)))]) C (c_fill l D cyC cyI cyJ cyZ cyO q_1 (-1) (fun _ => 0)) wd_48 wd_49 wd_50 wd_51 ⟨by decide, by decide, rfl⟩ rfl ⟨rfl, rfl, by decide, by decide⟩ ⟨by decide, by decide⟩ [1] [0, 2, 3, 4] rfl rfl ⟨by decide, by decide, by decide⟩ rfl (Nat.le_of_ble_eq_true rfl) dX7_init_41 (fun u_5 hw_6 => ?_)
  refine j_eq (ws2 := [(h0, .inr (7, [.ref q_1, .ref q_2, .ref q_3, .ref q_4, .int 0, .int 0, .int 0])), (q_2, .inl (cyI, 12, .inl (fun _ => 0))), (q_3, .inl (cyI, 12, .inl (fun _ => 0))), (q_4, .inl (cyI, 30, .inl (fun _ => 0))), (q_1, .inl (cyI, 12, .inl (fun _ => (-1))))]) (pc2 := 44) (lv2 := [(0, .ref h0)]) (st2 := []) rfl rfl rfl rfl ?_
  exact j_vret (pc := 44) C hr hk (fun i => [q_1, q_2, q_3, q_4].getD i 0, fun _ => 0, fun _ _ => 0) rfl trivial [0, 4, 1, 2, 3] (by decide) rfl (by decide) (by decide) dX7_init_44
set_option maxHeartbeats 4000000 in
set_option maxRecDepth 100000 in
theorem c_X4_init (l : Launch) (D : va_G) (cyC cyI cyJ cyZ cyO : ClassId) (h0 : Nat) : KK l D (TY cyC cyI cyJ cyZ cyO) yX4_init cX4_init 1 none ({ frames := 1, cells := 1, slots := 12, locals := 12 } : Room) 1 12 [.ref h0] [(h0, .inr (4, [.null, .int 0]))] (fun u => none) (fun u => True) (fun u => [(h0, .inr (4, [.ref (u.1 0), .int 0])), ((u.1 0), .inl (cyI, 12, .inl (fun _ => 0)))]) := by
  refine KK.of (lv0 := [(0, .ref h0)]) (by decide) rfl (Nat.le_of_ble_eq_true rfl) ?_
  intro p e s m args below meth c A C hr hk hin
  refine j_aload_n (pc := 0) C dX4_init_0 rfl 0 rfl ?_
  refine j_oinit (pc := 1) C wd_52 wd_1 wd_2 dX4_init_1 (by decide) (Nat.le_of_ble_eq_true rfl) ?_
  refine j_aload_n (pc := 4) C dX4_init_4 rfl 0 rfl ?_
  refine j_bipush (pc := 5) (v := 12) C dX4_init_5 (by decide) ?_
  refine j_newa (pc := 7) (at1 := .int) (ty := .int) (N := 12) (a0 := (12, .inl (fun _ => 0))) C wd_6 rfl 1 rfl (fun _ _ h => h) (fun _ => rfl) (by decide) (by decide) (by decide) (by decide) (by decide) dX4_init_7 (fun q_1 => ?_)
  refine j_widen (k := 1) (n := 12) (by decide) (by decide) ?_
  refine j_putF (pc := 9) (ci := 4) (v := .ref q_1) (ws' := [(h0, .inr (4, [.ref q_1, .int 0])), (q_1, .inl (cyI, 12, .inl (fun _ => 0)))]) C inw_4 0 rfl rfl 0 (by decide) wd_53 rfl tyX4_ok nmX4 rfl hin rfl (tyX4_ok 0 (by decide)) rfl rfl (Nat.le_of_ble_eq_true rfl) dX4_init_9 rfl ?_
  exact j_vret (pc := 12) C hr hk (fun i => [q_1].getD i 0, fun _ => 0, fun _ _ => 0) rfl trivial [0, 1] (by decide) rfl (by decide) (by decide) dX4_init_12
set_option maxHeartbeats 4000000 in
set_option maxRecDepth 100000 in
theorem c_X3_init (l : Launch) (D : va_G) (cyC cyI cyJ cyZ cyO : ClassId) (h0 : Nat) : KK l D (TY cyC cyI cyJ cyZ cyO) yX3_init cX3_init 1 none ({ frames := 1, cells := 4, slots := 48, locals := 12 } : Room) 4 48 [.ref h0] [(h0, .inr (3, [.int 0, .null, .null, .int 0, .int 0, .int 0, .null, .null]))] (fun u => none) (fun u => True) (fun u => [(h0, .inr (3, [.int 0, .ref (u.1 0), .ref (u.1 1), .int 0, .int 0, .int 0, .ref (u.1 2), .ref (u.1 3)])), ((u.1 0), .inl (cyI, 12, .inl (fun _ => 0))), ((u.1 1), .inl (cyI, 12, .inl (fun _ => 0))), ((u.1 2), .inl (cyI, 12, .inl (fun _ => 0))), ((u.1 3), .inl (cyI, 12, .inl (fun _ => 0)))]) := by
  refine KK.of (lv0 := [(0, .ref h0)]) (by decide) rfl (Nat.le_of_ble_eq_true rfl) ?_
  intro p e s m args below meth c A C hr hk hin
  refine j_aload_n (pc := 0) C dX3_init_0 rfl 0 rfl ?_
  refine j_oinit (pc := 1) C wd_54 wd_1 wd_2 dX3_init_1 (by decide) (Nat.le_of_ble_eq_true rfl) ?_
  refine j_aload_n (pc := 4) C dX3_init_4 rfl 0 rfl ?_
  refine j_bipush (pc := 5) (v := 12) C dX3_init_5 (by decide) ?_
  refine j_newa (pc := 7) (at1 := .int) (ty := .int) (N := 12) (a0 := (12, .inl (fun _ => 0))) C wd_6 rfl 1 rfl (fun _ _ h => h) (fun _ => rfl) (by decide) (by decide) (by decide) (by decide) (by decide) dX3_init_7 (fun q_1 => ?_)
  refine j_widen (k := 1) (n := 12) (by decide) (by decide) ?_
  refine j_putF (pc := 9) (ci := 3) (v := .ref q_1) (ws' := [(h0, .inr (3, [.int 0, .ref q_1, .null, .int 0, .int 0, .int 0, .null, .null])), (q_1, .inl (cyI, 12, .inl (fun _ => 0)))]) C inw_3 0 rfl rfl 1 (by decide) wd_55 rfl tyX3_ok nmX3 rfl hin rfl (tyX3_ok 1 (by decide)) rfl rfl (Nat.le_of_ble_eq_true rfl) dX3_init_9 rfl ?_
  refine j_aload_n (pc := 12) C dX3_init_12 rfl 0 rfl ?_
  refine j_bipush (pc := 13) (v := 12) C dX3_init_13 (by decide) ?_
  refine j_newa (pc := 15) (at1 := .int) (ty := .int) (N := 12) (a0 := (12, .inl (fun _ => 0))) C wd_6 rfl 1 rfl (fun _ _ h => h) (fun _ => rfl) (by decide) (by decide) (by decide) (by decide) (by decide) dX3_init_15 (fun q_2 => ?_)
  refine j_widen (k := 2) (n := 24) (by decide) (by decide) ?_
  refine j_putF (pc := 17) (ci := 3) (v := .ref q_2) (ws' := [(h0, .inr (3, [.int 0, .ref q_1, .ref q_2, .int 0, .int 0, .int 0, .null, .null])), (q_1, .inl (cyI, 12, .inl (fun _ => 0))), (q_2, .inl (cyI, 12, .inl (fun _ => 0)))]) C inw_3 0 rfl rfl 2 (by decide) wd_56 rfl tyX3_ok nmX3 rfl hin rfl (tyX3_ok 2 (by decide)) rfl rfl (Nat.le_of_ble_eq_true rfl) dX3_init_17 rfl ?_
  refine j_aload_n (pc := 20) C dX3_init_20 rfl 0 rfl ?_
  refine j_bipush (pc := 21) (v := 12) C dX3_init_21 (by decide) ?_
  refine j_newa (pc := 23) (at1 := .int) (ty := .int) (N := 12) (a0 := (12, .inl (fun _ => 0))) C wd_6 rfl 1 rfl (fun _ _ h => h) (fun _ => rfl) (by decide) (by decide) (by decide) (by decide) (by decide) dX3_init_23 (fun q_3 => ?_)
  refine j_widen (k := 3) (n := 36) (by decide) (by decide) ?_
  refine j_putF (pc := 25) (ci := 3) (v := .ref q_3) (ws' := [(h0, .inr (3, [.int 0, .ref q_1, .ref q_2, .int 0, .int 0, .int 0, .ref q_3, .null])), (q_1, .inl (cyI, 12, .inl (fun _ => 0))), (q_2, .inl (cyI, 12, .inl (fun _ => 0))), (q_3, .inl (cyI, 12, .inl (fun _ => 0)))]) C inw_3 0 rfl rfl 6 (by decide) wd_57 rfl tyX3_ok nmX3 rfl hin rfl (tyX3_ok 6 (by decide)) rfl rfl (Nat.le_of_ble_eq_true rfl) dX3_init_25 rfl ?_
  refine j_aload_n (pc := 28) C dX3_init_28 rfl 0 rfl ?_
  refine j_bipush (pc := 29) (v := 12) C dX3_init_29 (by decide) ?_
  refine j_newa (pc := 31) (at1 := .int) (ty := .int) (N := 12) (a0 := (12, .inl (fun _ => 0))) C wd_6 rfl 1 rfl (fun _ _ h => h) (fun _ => rfl) (by decide) (by decide) (by decide) (by decide) (by decide) dX3_init_31 (fun q_4 => ?_)
  refine j_widen (k := 4) (n := 48) (by decide) (by decide) ?_
  refine j_putF (pc := 33) (ci := 3) (v := .ref q_4) (ws' := [(h0, .inr (3, [.int 0, .ref q_1, .ref q_2, .int 0, .int 0, .int 0, .ref q_3, .ref q_4])), (q_1, .inl (cyI, 12, .inl (fun _ => 0))), (q_2, .inl (cyI, 12, .inl (fun _ => 0))), (q_3, .inl (cyI, 12, .inl (fun _ => 0))), (q_4, .inl (cyI, 12, .inl (fun _ => 0)))]) C inw_3 0 rfl rfl 7 (by decide) wd_58 rfl tyX3_ok nmX3 rfl hin rfl (tyX3_ok 7 (by decide)) rfl rfl (Nat.le_of_ble_eq_true rfl) dX3_init_33 rfl ?_
  exact j_vret (pc := 36) C hr hk (fun i => [q_1, q_2, q_3, q_4].getD i 0, fun _ => 0, fun _ _ => 0) rfl trivial [0, 1, 2, 3, 4] (by decide) rfl (by decide) (by decide) dX3_init_36
set_option maxHeartbeats 4000000 in
set_option maxRecDepth 100000 in
theorem c_X0_init (l : Launch) (D : va_G) (cyC cyI cyJ cyZ cyO : ClassId) (h0 : Nat) : KK l D (TY cyC cyI cyJ cyZ cyO) yX0_init cX0_init 1 none ({ frames := 1, cells := 3, slots := 0, locals := 12 } : Room) 3 0 [.ref h0] [(h0, .inr (0, [.int 0, .int 0, .null, .null, .null]))] (fun u => none) (fun u => True) (fun u => [(h0, .inr (0, [.int 0, .int 0, .ref (u.1 0), .ref (u.1 1), .ref (u.1 2)])), ((u.1 0), .inl (cyI, 0, .inl (fun _ => 0))), ((u.1 1), .inl (cyI, 0, .inl (fun _ => 0))), ((u.1 2), .inl (cyI, 0, .inl (fun _ => 0)))]) := by
  refine KK.of (lv0 := [(0, .ref h0)]) (by decide) rfl (Nat.le_of_ble_eq_true rfl) ?_
  intro p e s m args below meth c A C hr hk hin
  refine j_aload_n (pc := 0) C dX0_init_0 rfl 0 rfl ?_
  refine j_oinit (pc := 1) C wd_59 wd_1 wd_2 dX0_init_1 (by decide) (Nat.le_of_ble_eq_true rfl) ?_
  refine j_aload_n (pc := 4) C dX0_init_4 rfl 0 rfl ?_
  refine j_iconst (pc := 5) (v := 0) C dX0_init_5 (by decide) ?_
  refine j_newa (pc := 6) (at1 := .int) (ty := .int) (N := 0) (a0 := (0, .inl (fun _ => 0))) C wd_6 rfl 1 rfl (fun _ _ h => h) (fun _ => rfl) (by decide) (by decide) (by decide) (by decide) (by decide) dX0_init_6 (fun q_1 => ?_)
  refine j_widen (k := 1) (n := 0) (by decide) (by decide) ?_
  refine j_put (pc := 8) (ci := 0) (v := .ref q_1) (ws' := [(h0, .inr (0, [.int 0, .int 0, .ref q_1, .null, .null])), (q_1, .inl (cyI, 0, .inl (fun _ => 0)))]) C inw_0 0 rfl rfl 2 (by decide) wd_60 rfl tyX0_ok nmX0 rfl (tyX0_ok 2 (by decide)) rfl rfl (Nat.le_of_ble_eq_true rfl) dX0_init_8 rfl ?_
  refine j_aload_n (pc := 11) C dX0_init_11 rfl 0 rfl ?_
  refine j_iconst (pc := 12) (v := 0) C dX0_init_12 (by decide) ?_
  refine j_newa (pc := 13) (at1 := .int) (ty := .int) (N := 0) (a0 := (0, .inl (fun _ => 0))) C wd_6 rfl 1 rfl (fun _ _ h => h) (fun _ => rfl) (by decide) (by decide) (by decide) (by decide) (by decide) dX0_init_13 (fun q_2 => ?_)
  refine j_widen (k := 2) (n := 0) (by decide) (by decide) ?_
  refine j_put (pc := 15) (ci := 0) (v := .ref q_2) (ws' := [(h0, .inr (0, [.int 0, .int 0, .ref q_1, .ref q_2, .null])), (q_1, .inl (cyI, 0, .inl (fun _ => 0))), (q_2, .inl (cyI, 0, .inl (fun _ => 0)))]) C inw_0 0 rfl rfl 3 (by decide) wd_61 rfl tyX0_ok nmX0 rfl (tyX0_ok 3 (by decide)) rfl rfl (Nat.le_of_ble_eq_true rfl) dX0_init_15 rfl ?_
  refine j_aload_n (pc := 18) C dX0_init_18 rfl 0 rfl ?_
  refine j_iconst (pc := 19) (v := 0) C dX0_init_19 (by decide) ?_
  refine j_newa (pc := 20) (at1 := .int) (ty := .int) (N := 0) (a0 := (0, .inl (fun _ => 0))) C wd_6 rfl 1 rfl (fun _ _ h => h) (fun _ => rfl) (by decide) (by decide) (by decide) (by decide) (by decide) dX0_init_20 (fun q_3 => ?_)
  refine j_widen (k := 3) (n := 0) (by decide) (by decide) ?_
  refine j_put (pc := 22) (ci := 0) (v := .ref q_3) (ws' := [(h0, .inr (0, [.int 0, .int 0, .ref q_1, .ref q_2, .ref q_3])), (q_1, .inl (cyI, 0, .inl (fun _ => 0))), (q_2, .inl (cyI, 0, .inl (fun _ => 0))), (q_3, .inl (cyI, 0, .inl (fun _ => 0)))]) C inw_0 0 rfl rfl 4 (by decide) wd_62 rfl tyX0_ok nmX0 rfl (tyX0_ok 4 (by decide)) rfl rfl (Nat.le_of_ble_eq_true rfl) dX0_init_22 rfl ?_
  exact j_vret (pc := 25) C hr hk (fun i => [q_1, q_2, q_3].getD i 0, fun _ => 0, fun _ _ => 0) rfl trivial [0, 1, 2, 3] (by decide) rfl (by decide) (by decide) dX0_init_25
set_option maxHeartbeats 4000000 in
set_option maxRecDepth 100000 in
theorem c_X6_init (l : Launch) (D : va_G) (cyC cyI cyJ cyZ cyO : ClassId) (h0 : Nat) : KK l D (TY cyC cyI cyJ cyZ cyO) yX6_init cX6_init 1 none ({ frames := 1, cells := 3, slots := 26, locals := 12 } : Room) 3 26 [.ref h0] [(h0, .inr (6, [.null, .int 0, .int 0, .int 0, .int 0, .int 0, .null, .null]))] (fun u => none) (fun u => True) (fun u => [(h0, .inr (6, [.ref (u.1 0), .int 0, .int 0, .int 0, .int 0, .int 0, .ref (u.1 1), .ref (u.1 2)])), ((u.1 0), .inl (cyI, 7, .inl (fun _ => 0))), ((u.1 1), .inl (cyI, 7, .inl (fun _ => 0))), ((u.1 2), .inl (cyI, 12, .inl (fun _ => 0)))]) := by
  refine KK.of (lv0 := [(0, .ref h0)]) (by decide) rfl (Nat.le_of_ble_eq_true rfl) ?_
  intro p e s m args below meth c A C hr hk hin
  refine j_aload_n (pc := 0) C dX6_init_0 rfl 0 rfl ?_
  refine j_oinit (pc := 1) C wd_63 wd_1 wd_2 dX6_init_1 (by decide) (Nat.le_of_ble_eq_true rfl) ?_
  refine j_aload_n (pc := 4) C dX6_init_4 rfl 0 rfl ?_
  refine j_bipush (pc := 5) (v := 7) C dX6_init_5 (by decide) ?_
  refine j_newa (pc := 7) (at1 := .int) (ty := .int) (N := 7) (a0 := (7, .inl (fun _ => 0))) C wd_6 rfl 1 rfl (fun _ _ h => h) (fun _ => rfl) (by decide) (by decide) (by decide) (by decide) (by decide) dX6_init_7 (fun q_1 => ?_)
  refine j_widen (k := 1) (n := 7) (by decide) (by decide) ?_
  refine j_putF (pc := 9) (ci := 6) (v := .ref q_1) (ws' := [(h0, .inr (6, [.ref q_1, .int 0, .int 0, .int 0, .int 0, .int 0, .null, .null])), (q_1, .inl (cyI, 7, .inl (fun _ => 0)))]) C inw_6 0 rfl rfl 0 (by decide) wd_64 rfl tyX6_ok nmX6 rfl hin rfl (tyX6_ok 0 (by decide)) rfl rfl (Nat.le_of_ble_eq_true rfl) dX6_init_9 rfl ?_
  refine j_aload_n (pc := 12) C dX6_init_12 rfl 0 rfl ?_
  refine j_bipush (pc := 13) (v := 7) C dX6_init_13 (by decide) ?_
  refine j_newa (pc := 15) (at1 := .int) (ty := .int) (N := 7) (a0 := (7, .inl (fun _ => 0))) C wd_6 rfl 1 rfl (fun _ _ h => h) (fun _ => rfl) (by decide) (by decide) (by decide) (by decide) (by decide) dX6_init_15 (fun q_2 => ?_)
  refine j_widen (k := 2) (n := 14) (by decide) (by decide) ?_
  refine j_putF (pc := 17) (ci := 6) (v := .ref q_2) (ws' := [(h0, .inr (6, [.ref q_1, .int 0, .int 0, .int 0, .int 0, .int 0, .ref q_2, .null])), (q_1, .inl (cyI, 7, .inl (fun _ => 0))), (q_2, .inl (cyI, 7, .inl (fun _ => 0)))]) C inw_6 0 rfl rfl 6 (by decide) wd_65 rfl tyX6_ok nmX6 rfl hin rfl (tyX6_ok 6 (by decide)) rfl rfl (Nat.le_of_ble_eq_true rfl) dX6_init_17 rfl ?_
  refine j_aload_n (pc := 20) C dX6_init_20 rfl 0 rfl ?_
  refine j_bipush (pc := 21) (v := 12) C dX6_init_21 (by decide) ?_
  refine j_newa (pc := 23) (at1 := .int) (ty := .int) (N := 12) (a0 := (12, .inl (fun _ => 0))) C wd_6 rfl 1 rfl (fun _ _ h => h) (fun _ => rfl) (by decide) (by decide) (by decide) (by decide) (by decide) dX6_init_23 (fun q_3 => ?_)
  refine j_widen (k := 3) (n := 26) (by decide) (by decide) ?_
  refine j_putF (pc := 25) (ci := 6) (v := .ref q_3) (ws' := [(h0, .inr (6, [.ref q_1, .int 0, .int 0, .int 0, .int 0, .int 0, .ref q_2, .ref q_3])), (q_1, .inl (cyI, 7, .inl (fun _ => 0))), (q_2, .inl (cyI, 7, .inl (fun _ => 0))), (q_3, .inl (cyI, 12, .inl (fun _ => 0)))]) C inw_6 0 rfl rfl 7 (by decide) wd_66 rfl tyX6_ok nmX6 rfl hin rfl (tyX6_ok 7 (by decide)) rfl rfl (Nat.le_of_ble_eq_true rfl) dX6_init_25 rfl ?_
  exact j_vret (pc := 28) C hr hk (fun i => [q_1, q_2, q_3].getD i 0, fun _ => 0, fun _ _ => 0) rfl trivial [0, 1, 2, 3] (by decide) rfl (by decide) (by decide) dX6_init_28
set_option maxHeartbeats 4000000 in
set_option maxRecDepth 100000 in
theorem c_X2_init (l : Launch) (D : va_G) (cyC cyI cyJ cyZ cyO : ClassId) (h0 : Nat) : KK l D (TY cyC cyI cyJ cyZ cyO) yX2_init cX2_init 1 none ({ frames := 1, cells := 1, slots := 4, locals := 12 } : Room) 1 4 [.ref h0] [(h0, .inr (2, [.null]))] (fun u => none) (fun u => True) (fun u => [(h0, .inr (2, [.ref (u.1 0)])), ((u.1 0), .inl (cyJ, 4, .inr (.inl (fun _ => 0))))]) := by
  refine KK.of (lv0 := [(0, .ref h0)]) (by decide) rfl (Nat.le_of_ble_eq_true rfl) ?_
  intro p e s m args below meth c A C hr hk hin
  refine j_aload_n (pc := 0) C dX2_init_0 rfl 0 rfl ?_
  refine j_oinit (pc := 1) C wd_67 wd_1 wd_2 dX2_init_1 (by decide) (Nat.le_of_ble_eq_true rfl) ?_
  refine j_aload_n (pc := 4) C dX2_init_4 rfl 0 rfl ?_
  refine j_iconst (pc := 5) (v := 4) C dX2_init_5 (by decide) ?_
  refine j_newa (pc := 6) (at1 := .long) (ty := .long) (N := 4) (a0 := (4, .inr (.inl (fun _ => 0)))) C wd_34 rfl 2 rfl (fun _ _ h => h) (fun _ => rfl) (by decide) (by decide) (by decide) (by decide) (by decide) dX2_init_6 (fun q_1 => ?_)
  refine j_widen (k := 1) (n := 4) (by decide) (by decide) ?_
  refine j_putF (pc := 8) (ci := 2) (v := .ref q_1) (ws' := [(h0, .inr (2, [.ref q_1])), (q_1, .inl (cyJ, 4, .inr (.inl (fun _ => 0))))]) C inw_2 0 rfl rfl 0 (by decide) wd_68 rfl tyX2_ok nmX2 rfl hin rfl (tyX2_ok 0 (by decide)) rfl rfl (Nat.le_of_ble_eq_true rfl) dX2_init_8 rfl ?_
  exact j_vret (pc := 11) C hr hk (fun i => [q_1].getD i 0, fun _ => 0, fun _ _ => 0) rfl trivial [0, 1] (by decide) rfl (by decide) (by decide) dX2_init_11
end
section
theorem wd_69 : Cond.methodLink RX10 1 objectInit ∈ WALL := wl_in (by decide +kernel) (by decide +kernel)
theorem wd_70 : Cond.classLink RX10 7 RX5 ∈ WALL := wl_in (by decide +kernel) (by decide +kernel)
theorem wd_71 : Cond.instantiable RX5 7 ∈ WALL := wl_in (by decide +kernel) (by decide +kernel)
theorem wd_72 : Cond.initialized RX5 ∈ WALL := wl_in (by decide +kernel) (by decide +kernel)
theorem wd_73 : Cond.code yX5_init cX5_init 1 none ∈ WALL := wl_in (by decide +kernel) (by decide +kernel)
theorem wd_74 : Cond.instanceMethod yX5_init ∈ WALL := wl_in (by decide +kernel) (by decide +kernel)
theorem wd_75 : Cond.fieldLink RX10 10 "BowlShelf" "reader" "LBowlShelf$Reader;" ∈ WALL := wl_in (by decide +kernel) (by decide +kernel)
theorem wd_76 : Cond.classLink RX10 16 RX9 ∈ WALL := wl_in (by decide +kernel) (by decide +kernel)
theorem wd_77 : Cond.fieldLink RX10 19 "BowlShelf" "told" "LBowlShelf$Told;" ∈ WALL := wl_in (by decide +kernel) (by decide +kernel)
theorem wd_78 : Cond.classLink RX10 23 RX7 ∈ WALL := wl_in (by decide +kernel) (by decide +kernel)
theorem wd_79 : Cond.instantiable RX7 7 ∈ WALL := wl_in (by decide +kernel) (by decide +kernel)
theorem wd_80 : Cond.initialized RX7 ∈ WALL := wl_in (by decide +kernel) (by decide +kernel)
theorem wd_81 : Cond.code yX7_init cX7_init 1 none ∈ WALL := wl_in (by decide +kernel) (by decide +kernel)
theorem wd_82 : Cond.methodLink RX10 25 yX7_init ∈ WALL := wl_in (by decide +kernel) (by decide +kernel)
theorem wd_83 : Cond.instanceMethod yX7_init ∈ WALL := wl_in (by decide +kernel) (by decide +kernel)
theorem wd_84 : Cond.fieldLink RX10 26 "BowlShelf" "now" "LBowlShelf$Standing;" ∈ WALL := wl_in (by decide +kernel) (by decide +kernel)
theorem wd_85 : Cond.fieldLink RX10 30 "BowlShelf" "trial" "LBowlShelf$Standing;" ∈ WALL := wl_in (by decide +kernel) (by decide +kernel)
theorem wd_86 : Cond.fieldLink RX10 33 "BowlShelf" "marks" "[LBowlShelf$Standing;" ∈ WALL := wl_in (by decide +kernel) (by decide +kernel)
theorem wd_87 : Cond.classLink RX10 37 RX4 ∈ WALL := wl_in (by decide +kernel) (by decide +kernel)
theorem wd_88 : Cond.instantiable RX4 2 ∈ WALL := wl_in (by decide +kernel) (by decide +kernel)
theorem wd_89 : Cond.initialized RX4 ∈ WALL := wl_in (by decide +kernel) (by decide +kernel)
theorem wd_90 : Cond.code yX4_init cX4_init 1 none ∈ WALL := wl_in (by decide +kernel) (by decide +kernel)
theorem wd_91 : Cond.instanceMethod yX4_init ∈ WALL := wl_in (by decide +kernel) (by decide +kernel)
theorem wd_92 : Cond.fieldLink RX10 40 "BowlShelf" "pile" "LBowlShelf$Pile;" ∈ WALL := wl_in (by decide +kernel) (by decide +kernel)
theorem wd_93 : Cond.classLink RX10 44 RX3 ∈ WALL := wl_in (by decide +kernel) (by decide +kernel)
theorem wd_94 : Cond.instantiable RX3 8 ∈ WALL := wl_in (by decide +kernel) (by decide +kernel)
theorem wd_95 : Cond.initialized RX3 ∈ WALL := wl_in (by decide +kernel) (by decide +kernel)
theorem wd_96 : Cond.code yX3_init cX3_init 1 none ∈ WALL := wl_in (by decide +kernel) (by decide +kernel)
theorem wd_97 : Cond.instanceMethod yX3_init ∈ WALL := wl_in (by decide +kernel) (by decide +kernel)
theorem wd_98 : Cond.fieldLink RX10 47 "BowlShelf" "order" "LBowlShelf$Order;" ∈ WALL := wl_in (by decide +kernel) (by decide +kernel)
theorem wd_99 : Cond.classLink RX10 51 RX0 ∈ WALL := wl_in (by decide +kernel) (by decide +kernel)
theorem wd_100 : Cond.instantiable RX0 5 ∈ WALL := wl_in (by decide +kernel) (by decide +kernel)
theorem wd_101 : Cond.initialized RX0 ∈ WALL := wl_in (by decide +kernel) (by decide +kernel)
theorem wd_102 : Cond.code yX0_init cX0_init 1 none ∈ WALL := wl_in (by decide +kernel) (by decide +kernel)
theorem wd_103 : Cond.instanceMethod yX0_init ∈ WALL := wl_in (by decide +kernel) (by decide +kernel)
theorem wd_104 : Cond.fieldLink RX10 54 "BowlShelf" "heights" "LBowlShelf$Heights;" ∈ WALL := wl_in (by decide +kernel) (by decide +kernel)
theorem wd_105 : Cond.classLink RX10 58 RX6 ∈ WALL := wl_in (by decide +kernel) (by decide +kernel)
theorem wd_106 : Cond.instantiable RX6 8 ∈ WALL := wl_in (by decide +kernel) (by decide +kernel)
theorem wd_107 : Cond.initialized RX6 ∈ WALL := wl_in (by decide +kernel) (by decide +kernel)
theorem wd_108 : Cond.code yX6_init cX6_init 1 none ∈ WALL := wl_in (by decide +kernel) (by decide +kernel)
theorem wd_109 : Cond.instanceMethod yX6_init ∈ WALL := wl_in (by decide +kernel) (by decide +kernel)
theorem wd_110 : Cond.fieldLink RX10 61 "BowlShelf" "search" "LBowlShelf$Search;" ∈ WALL := wl_in (by decide +kernel) (by decide +kernel)
theorem wd_111 : Cond.classLink RX10 65 RX2 ∈ WALL := wl_in (by decide +kernel) (by decide +kernel)
theorem wd_112 : Cond.instantiable RX2 1 ∈ WALL := wl_in (by decide +kernel) (by decide +kernel)
theorem wd_113 : Cond.initialized RX2 ∈ WALL := wl_in (by decide +kernel) (by decide +kernel)
theorem wd_114 : Cond.code yX2_init cX2_init 1 none ∈ WALL := wl_in (by decide +kernel) (by decide +kernel)
theorem wd_115 : Cond.instanceMethod yX2_init ∈ WALL := wl_in (by decide +kernel) (by decide +kernel)
theorem wd_116 : Cond.fieldLink RX10 68 "BowlShelf" "odds" "LBowlShelf$Odds;" ∈ WALL := wl_in (by decide +kernel) (by decide +kernel)
theorem dX10_init_0 : decode cX10_init 0 = .ok (.aload_n 0, 1) := by decide +kernel
theorem dX10_init_1 : decode cX10_init 1 = .ok (.invokespecial 1, 3) := by decide +kernel
theorem dX10_init_4 : decode cX10_init 4 = .ok (.aload_n 0, 1) := by decide +kernel
theorem dX10_init_5 : decode cX10_init 5 = .ok (.new 7, 3) := by decide +kernel
theorem dX10_init_8 : decode cX10_init 8 = .ok (.dup, 1) := by decide +kernel
theorem dX10_init_9 : decode cX10_init 9 = .ok (.invokespecial 9, 3) := by decide +kernel
theorem dX10_init_12 : decode cX10_init 12 = .ok (.putfield 10, 3) := by decide +kernel
theorem dX10_init_15 : decode cX10_init 15 = .ok (.aload_n 0, 1) := by decide +kernel
theorem dX10_init_16 : decode cX10_init 16 = .ok (.new 16, 3) := by decide +kernel
theorem dX10_init_19 : decode cX10_init 19 = .ok (.dup, 1) := by decide +kernel
theorem dX10_init_20 : decode cX10_init 20 = .ok (.invokespecial 18, 3) := by decide +kernel
theorem dX10_init_23 : decode cX10_init 23 = .ok (.putfield 19, 3) := by decide +kernel
theorem dX10_init_26 : decode cX10_init 26 = .ok (.aload_n 0, 1) := by decide +kernel
theorem dX10_init_27 : decode cX10_init 27 = .ok (.new 23, 3) := by decide +kernel
theorem dX10_init_30 : decode cX10_init 30 = .ok (.dup, 1) := by decide +kernel
theorem dX10_init_31 : decode cX10_init 31 = .ok (.invokespecial 25, 3) := by decide +kernel
theorem dX10_init_34 : decode cX10_init 34 = .ok (.putfield 26, 3) := by decide +kernel
theorem dX10_init_37 : decode cX10_init 37 = .ok (.aload_n 0, 1) := by decide +kernel
theorem dX10_init_38 : decode cX10_init 38 = .ok (.new 23, 3) := by decide +kernel
theorem dX10_init_41 : decode cX10_init 41 = .ok (.dup, 1) := by decide +kernel
theorem dX10_init_42 : decode cX10_init 42 = .ok (.invokespecial 25, 3) := by decide +kernel
theorem dX10_init_45 : decode cX10_init 45 = .ok (.putfield 30, 3) := by decide +kernel
theorem dX10_init_48 : decode cX10_init 48 = .ok (.aload_n 0, 1) := by decide +kernel
theorem dX10_init_49 : decode cX10_init 49 = .ok (.iconst 4, 1) := by decide +kernel
theorem dX10_init_50 : decode cX10_init 50 = .ok (.anewarray 23, 3) := by decide +kernel
theorem dX10_init_53 : decode cX10_init 53 = .ok (.putfield 33, 3) := by decide +kernel
theorem dX10_init_56 : decode cX10_init 56 = .ok (.aload_n 0, 1) := by decide +kernel
theorem dX10_init_57 : decode cX10_init 57 = .ok (.new 37, 3) := by decide +kernel
theorem dX10_init_60 : decode cX10_init 60 = .ok (.dup, 1) := by decide +kernel
theorem dX10_init_61 : decode cX10_init 61 = .ok (.invokespecial 39, 3) := by decide +kernel
theorem dX10_init_64 : decode cX10_init 64 = .ok (.putfield 40, 3) := by decide +kernel
theorem dX10_init_67 : decode cX10_init 67 = .ok (.aload_n 0, 1) := by decide +kernel
theorem dX10_init_68 : decode cX10_init 68 = .ok (.new 44, 3) := by decide +kernel
theorem dX10_init_71 : decode cX10_init 71 = .ok (.dup, 1) := by decide +kernel
theorem dX10_init_72 : decode cX10_init 72 = .ok (.invokespecial 46, 3) := by decide +kernel
theorem dX10_init_75 : decode cX10_init 75 = .ok (.putfield 47, 3) := by decide +kernel
theorem dX10_init_78 : decode cX10_init 78 = .ok (.aload_n 0, 1) := by decide +kernel
theorem dX10_init_79 : decode cX10_init 79 = .ok (.new 51, 3) := by decide +kernel
theorem dX10_init_82 : decode cX10_init 82 = .ok (.dup, 1) := by decide +kernel
theorem dX10_init_83 : decode cX10_init 83 = .ok (.invokespecial 53, 3) := by decide +kernel
theorem dX10_init_86 : decode cX10_init 86 = .ok (.putfield 54, 3) := by decide +kernel
theorem dX10_init_89 : decode cX10_init 89 = .ok (.aload_n 0, 1) := by decide +kernel
theorem dX10_init_90 : decode cX10_init 90 = .ok (.new 58, 3) := by decide +kernel
theorem dX10_init_93 : decode cX10_init 93 = .ok (.dup, 1) := by decide +kernel
theorem dX10_init_94 : decode cX10_init 94 = .ok (.invokespecial 60, 3) := by decide +kernel
theorem dX10_init_97 : decode cX10_init 97 = .ok (.putfield 61, 3) := by decide +kernel
theorem dX10_init_100 : decode cX10_init 100 = .ok (.aload_n 0, 1) := by decide +kernel
theorem dX10_init_101 : decode cX10_init 101 = .ok (.new 65, 3) := by decide +kernel
theorem dX10_init_104 : decode cX10_init 104 = .ok (.dup, 1) := by decide +kernel
theorem dX10_init_105 : decode cX10_init 105 = .ok (.invokespecial 67, 3) := by decide +kernel
theorem dX10_init_108 : decode cX10_init 108 = .ok (.putfield 68, 3) := by decide +kernel
theorem dX10_init_111 : decode cX10_init 111 = .ok (.iconst 0, 1) := by decide +kernel
theorem dX10_init_112 : decode cX10_init 112 = .ok (.istore_n 1, 1) := by decide +kernel
theorem dX10_init_113 : decode cX10_init 113 = .ok (.iload_n 1, 1) := by decide +kernel
theorem dX10_init_114 : decode cX10_init 114 = .ok (.iconst 4, 1) := by decide +kernel
theorem dX10_init_115 : decode cX10_init 115 = .ok (.if_icmp .ge 22, 3) := by decide +kernel
theorem dX10_init_118 : decode cX10_init 118 = .ok (.aload_n 0, 1) := by decide +kernel
theorem dX10_init_119 : decode cX10_init 119 = .ok (.getfield 33, 3) := by decide +kernel
theorem dX10_init_122 : decode cX10_init 122 = .ok (.iload_n 1, 1) := by decide +kernel
theorem dX10_init_123 : decode cX10_init 123 = .ok (.new 23, 3) := by decide +kernel
theorem dX10_init_126 : decode cX10_init 126 = .ok (.dup, 1) := by decide +kernel
theorem dX10_init_127 : decode cX10_init 127 = .ok (.invokespecial 25, 3) := by decide +kernel
theorem dX10_init_130 : decode cX10_init 130 = .ok (.aastore, 1) := by decide +kernel
theorem dX10_init_131 : decode cX10_init 131 = .ok (.iinc 1 1, 3) := by decide +kernel
theorem dX10_init_134 : decode cX10_init 134 = .ok (.goto (-21), 3) := by decide +kernel
theorem dX10_init_137 : decode cX10_init 137 = .ok (.return_, 1) := by decide +kernel
set_option maxHeartbeats 4000000 in
set_option maxRecDepth 100000 in
theorem c_X10_init (l : Launch) (D : va_G) (cyC cyI cyJ cyZ cyO : ClassId) (h0 : Nat) : KK l D (TY cyC cyI cyJ cyZ cyO) yX10_init cX10_init 2 none ({ frames := 3, cells := 79, slots := 2848, locals := 52 } : Room) 79 2848 [.ref h0] [(h0, .inr (10, [.null, .null, .null, .null, .null, .null, .null, .null, .null, .null]))] (fun u => none) (fun u => True) (fun u => [(h0, .inr (10, [.ref (u.1 0), .ref (u.1 20), .ref (u.1 31), .ref (u.1 36), .ref (u.1 41), .ref (u.1 42), .ref (u.1 44), .ref (u.1 49), .ref (u.1 53), .ref (u.1 57)])), ((u.1 0), .inr (5, [.ref (u.1 1), .ref (u.1 3), .ref (u.1 7), .ref (u.1 8), .ref (u.1 9), .int 0, .int 0])), ((u.1 1), .inr (8, [.ref (u.1 2), .int 0, .int 0, .int 0, .int 0, .int 0])), ((u.1 2), .inl (cyC, 1000, .inl (fun _ => 0))), ((u.1 3), .inr (1, [.int 0, .int 0, .ref (u.1 4), .ref (u.1 5), .ref (u.1 6)])), ((u.1 4), .inl (cyI, 1000, .inl (fun _ => 0))), ((u.1 5), .inl (cyI, 4, .inl (fun _ => 0))), ((u.1 6), .inl (cyI, 32, .inl (fun _ => 0))), ((u.1 7), .inl (cyJ, 12, .inr (.inl (fun _ => 0)))), ((u.1 8), .inl (cyJ, 4, .inr (.inl (fun _ => 0)))), ((u.1 9), .inr (9, [.int 0, .int 0, .int 0, .ref (u.1 10), .ref (u.1 11), .ref (u.1 12), .ref (u.1 13), .ref (u.1 14), .ref (u.1 15), .int 0, .int 0, .ref (u.1 16), .ref (u.1 17), .ref (u.1 18), .ref (u.1 19)])), ((u.1 10), .inl (cyI, 12, .inl (fun _ => 0))), ((u.1 11), .inl (cyI, 12, .inl (fun _ => 0))), ((u.1 12), .inl (cyI, 12, .inl (fun _ => 0))), ((u.1 13), .inl (cyI, 12, .inl (fun _ => 0))), ((u.1 14), .inl (cyI, 12, .inl (fun _ => 0))), ((u.1 15), .inl (cyI, 12, .inl (fun _ => 0))), ((u.1 16), .inl (cyI, 12, .inl (fun _ => 0))), ((u.1 17), .inl (cyI, 4, .inl (fun _ => 0))), ((u.1 18), .inl (cyI, 4, .inl (fun _ => 0))), ((u.1 19), .inl (cyI, 4, .inl (fun _ => 0))), ((u.1 20), .inr (9, [.int 0, .int 0, .int 0, .ref (u.1 21), .ref (u.1 22), .ref (u.1 23), .ref (u.1 24), .ref (u.1 25), .ref (u.1 26), .int 0, .int 0, .ref (u.1 27), .ref (u.1 28), .ref (u.1 29), .ref (u.1 30)])), ((u.1 21), .inl (cyI, 12, .inl (fun _ => 0))), ((u.1 22), .inl (cyI, 12, .inl (fun _ => 0))), ((u.1 23), .inl (cyI, 12, .inl (fun _ => 0))), ((u.1 24), .inl (cyI, 12, .inl (fun _ => 0))), ((u.1 25), .inl (cyI, 12, .inl (fun _ => 0))), ((u.1 26), .inl (cyI, 12, .inl (fun _ => 0))), ((u.1 27), .inl (cyI, 12, .inl (fun _ => 0))), ((u.1 28), .inl (cyI, 4, .inl (fun _ => 0))), ((u.1 29), .inl (cyI, 4, .inl (fun _ => 0))), ((u.1 30), .inl (cyI, 4, .inl (fun _ => 0))), ((u.1 31), .inr (7, [.ref (u.1 32), .ref (u.1 33), .ref (u.1 34), .ref (u.1 35), .int 0, .int 0, .int 0])), ((u.1 32), .inl (cyI, 12, .inl (fun _ => (-1)))), ((u.1 33), .inl (cyI, 12, .inl (fun _ => 0))), ((u.1 34), .inl (cyI, 12, .inl (fun _ => 0))), ((u.1 35), .inl (cyI, 30, .inl (fun _ => 0))), ((u.1 36), .inr (7, [.ref (u.1 37), .ref (u.1 38), .ref (u.1 39), .ref (u.1 40), .int 0, .int 0, .int 0])), ((u.1 37), .inl (cyI, 12, .inl (fun _ => (-1)))), ((u.1 38), .inl (cyI, 12, .inl (fun _ => 0))), ((u.1 39), .inl (cyI, 12, .inl (fun _ => 0))), ((u.1 40), .inl (cyI, 30, .inl (fun _ => 0))), ((u.1 41), .inl (cyO, 4, .inr (.inr (.inr (.inr (va_up (va_up (va_up (va_up (fun _ => none) 0 (some (u.1 59))) 1 (some (u.1 64))) 2 (some (u.1 69))) 3 (some (u.1 74)))))))), ((u.1 42), .inr (4, [.ref (u.1 43), .int 0])), ((u.1 43), .inl (cyI, 12, .inl (fun _ => 0))), ((u.1 44), .inr (3, [.int 0, .ref (u.1 45), .ref (u.1 46), .int 0, .int 0, .int 0, .ref (u.1 47), .ref (u.1 48)])), ((u.1 45), .inl (cyI, 12, .inl (fun _ => 0))), ((u.1 46), .inl (cyI, 12, .inl (fun _ => 0))), ((u.1 47), .inl (cyI, 12, .inl (fun _ => 0))), ((u.1 48), .inl (cyI, 12, .inl (fun _ => 0))), ((u.1 49), .inr (0, [.int 0, .int 0, .ref (u.1 50), .ref (u.1 51), .ref (u.1 52)])), ((u.1 50), .inl (cyI, 0, .inl (fun _ => 0))), ((u.1 51), .inl (cyI, 0, .inl (fun _ => 0))), ((u.1 52), .inl (cyI, 0, .inl (fun _ => 0))), ((u.1 53), .inr (6, [.ref (u.1 54), .int 0, .int 0, .int 0, .int 0, .int 0, .ref (u.1 55), .ref (u.1 56)])), ((u.1 54), .inl (cyI, 7, .inl (fun _ => 0))), ((u.1 55), .inl (cyI, 7, .inl (fun _ => 0))), ((u.1 56), .inl (cyI, 12, .inl (fun _ => 0))), ((u.1 57), .inr (2, [.ref (u.1 58)])), ((u.1 58), .inl (cyJ, 4, .inr (.inl (fun _ => 0)))), ((u.1 59), .inr (7, [.ref (u.1 60), .ref (u.1 61), .ref (u.1 62), .ref (u.1 63), .int 0, .int 0, .int 0])), ((u.1 60), .inl (cyI, 12, .inl (fun _ => (-1)))), ((u.1 61), .inl (cyI, 12, .inl (fun _ => 0))), ((u.1 62), .inl (cyI, 12, .inl (fun _ => 0))), ((u.1 63), .inl (cyI, 30, .inl (fun _ => 0))), ((u.1 64), .inr (7, [.ref (u.1 65), .ref (u.1 66), .ref (u.1 67), .ref (u.1 68), .int 0, .int 0, .int 0])), ((u.1 65), .inl (cyI, 12, .inl (fun _ => (-1)))), ((u.1 66), .inl (cyI, 12, .inl (fun _ => 0))), ((u.1 67), .inl (cyI, 12, .inl (fun _ => 0))), ((u.1 68), .inl (cyI, 30, .inl (fun _ => 0))), ((u.1 69), .inr (7, [.ref (u.1 70), .ref (u.1 71), .ref (u.1 72), .ref (u.1 73), .int 0, .int 0, .int 0])), ((u.1 70), .inl (cyI, 12, .inl (fun _ => (-1)))), ((u.1 71), .inl (cyI, 12, .inl (fun _ => 0))), ((u.1 72), .inl (cyI, 12, .inl (fun _ => 0))), ((u.1 73), .inl (cyI, 30, .inl (fun _ => 0))), ((u.1 74), .inr (7, [.ref (u.1 75), .ref (u.1 76), .ref (u.1 77), .ref (u.1 78), .int 0, .int 0, .int 0])), ((u.1 75), .inl (cyI, 12, .inl (fun _ => (-1)))), ((u.1 76), .inl (cyI, 12, .inl (fun _ => 0))), ((u.1 77), .inl (cyI, 12, .inl (fun _ => 0))), ((u.1 78), .inl (cyI, 30, .inl (fun _ => 0)))]) := by
  refine KK.of (lv0 := [(0, .ref h0)]) (by decide) rfl (Nat.le_of_ble_eq_true rfl) ?_
  intro p e s m args below meth c A C hr hk hin
  refine j_aload_n (pc := 0) C dX10_init_0 rfl 0 rfl ?_
  refine j_oinit (pc := 1) C wd_69 wd_1 wd_2 dX10_init_1 (by decide) (Nat.le_of_ble_eq_true rfl) ?_
  refine j_aload_n (pc := 4) C dX10_init_4 rfl 0 rfl ?_
  refine j_new (pc := 5) (ci := 5) (fs := [.null, .null, .null, .null, .null, .int 0, .int 0]) C inw_5 tyX5_ok wd_70 wd_71 wd_72 rfl ndX5 (by decide) (by decide) dX10_init_5 (fun q_1 => ?_)
  refine j_widen (k := 1) (n := 7) (by decide) (by decide) ?_
  refine j_dup (pc := 8) C dX10_init_8 rfl ?_
  refine j_callN (pc := 9) (As := []) (rest := [.ref q_1, .ref h0]) (wr := [(h0, .inr (10, [.null, .null, .null, .null, .null, .null, .null, .null, .null, .null]))]) C (c_X5_init l D cyC cyI cyJ cyZ cyO q_1) wd_73 wd_72 C.2.2.2.2.2.2.1.1 wd_74 rfl ⟨by decide, by decide, rfl⟩ rfl ⟨rfl, rfl, by decide, by decide⟩ ⟨by decide, by decide⟩ [1] [0] rfl rfl ⟨by decide, by decide, by decide⟩ rfl (Nat.le_of_ble_eq_true rfl) dX10_init_9 (fun u_2 hw_3 => ?_)
  refine j_eq (ws2 := [(h0, .inr (10, [.null, .null, .null, .null, .null, .null, .null, .null, .null, .null])), (q_1, .inr (5, [.ref (u_2.1 0), .ref (u_2.1 2), .ref (u_2.1 6), .ref (u_2.1 7), .ref (u_2.1 8), .int 0, .int 0])), ((u_2.1 0), .inr (8, [.ref (u_2.1 1), .int 0, .int 0, .int 0, .int 0, .int 0])), ((u_2.1 1), .inl (cyC, 1000, .inl (fun _ => 0))), ((u_2.1 2), .inr (1, [.int 0, .int 0, .ref (u_2.1 3), .ref (u_2.1 4), .ref (u_2.1 5)])), ((u_2.1 3), .inl (cyI, 1000, .inl (fun _ => 0))), ((u_2.1 4), .inl (cyI, 4, .inl (fun _ => 0))), ((u_2.1 5), .inl (cyI, 32, .inl (fun _ => 0))), ((u_2.1 6), .inl (cyJ, 12, .inr (.inl (fun _ => 0)))), ((u_2.1 7), .inl (cyJ, 4, .inr (.inl (fun _ => 0)))), ((u_2.1 8), .inr (9, [.int 0, .int 0, .int 0, .ref (u_2.1 9), .ref (u_2.1 10), .ref (u_2.1 11), .ref (u_2.1 12), .ref (u_2.1 13), .ref (u_2.1 14), .int 0, .int 0, .ref (u_2.1 15), .ref (u_2.1 16), .ref (u_2.1 17), .ref (u_2.1 18)])), ((u_2.1 9), .inl (cyI, 12, .inl (fun _ => 0))), ((u_2.1 10), .inl (cyI, 12, .inl (fun _ => 0))), ((u_2.1 11), .inl (cyI, 12, .inl (fun _ => 0))), ((u_2.1 12), .inl (cyI, 12, .inl (fun _ => 0))), ((u_2.1 13), .inl (cyI, 12, .inl (fun _ => 0))), ((u_2.1 14), .inl (cyI, 12, .inl (fun _ => 0))), ((u_2.1 15), .inl (cyI, 12, .inl (fun _ => 0))), ((u_2.1 16), .inl (cyI, 4, .inl (fun _ => 0))), ((u_2.1 17), .inl (cyI, 4, .inl (fun _ => 0))), ((u_2.1 18), .inl (cyI, 4, .inl (fun _ => 0)))]) (pc2 := 12) (lv2 := [(0, .ref h0)]) (st2 := [.ref q_1, .ref h0]) rfl rfl rfl rfl ?_
  refine j_widen (k := 20) (n := 2181) (by decide) (by decide) ?_
  refine j_putF (pc := 12) (ci := 10) (v := .ref q_1) (ws' := [(h0, .inr (10, [.ref q_1, .null, .null, .null, .null, .null, .null, .null, .null, .null])), (q_1, .inr (5, [.ref (u_2.1 0), .ref (u_2.1 2), .ref (u_2.1 6), .ref (u_2.1 7), .ref (u_2.1 8), .int 0, .int 0])), ((u_2.1 0), .inr (8, [.ref (u_2.1 1), .int 0, .int 0, .int 0, .int 0, .int 0])), ((u_2.1 1), .inl (cyC, 1000, .inl (fun _ => 0))), ((u_2.1 2), .inr (1, [.int 0, .int 0, .ref (u_2.1 3), .ref (u_2.1 4), .ref (u_2.1 5)])), ((u_2.1 3), .inl (cyI, 1000, .inl (fun _ => 0))), ((u_2.1 4), .inl (cyI, 4, .inl (fun _ => 0))), ((u_2.1 5), .inl (cyI, 32, .inl (fun _ => 0))), ((u_2.1 6), .inl (cyJ, 12, .inr (.inl (fun _ => 0)))), ((u_2.1 7), .inl (cyJ, 4, .inr (.inl (fun _ => 0)))), ((u_2.1 8), .inr (9, [.int 0, .int 0, .int 0, .ref (u_2.1 9), .ref (u_2.1 10), .ref (u_2.1 11), .ref (u_2.1 12), .ref (u_2.1 13), .ref (u_2.1 14), .int 0, .int 0, .ref (u_2.1 15), .ref (u_2.1 16), .ref (u_2.1 17), .ref (u_2.1 18)])), ((u_2.1 9), .inl (cyI, 12, .inl (fun _ => 0))), ((u_2.1 10), .inl (cyI, 12, .inl (fun _ => 0))), ((u_2.1 11), .inl (cyI, 12, .inl (fun _ => 0))), ((u_2.1 12), .inl (cyI, 12, .inl (fun _ => 0))), ((u_2.1 13), .inl (cyI, 12, .inl (fun _ => 0))), ((u_2.1 14), .inl (cyI, 12, .inl (fun _ => 0))), ((u_2.1 15), .inl (cyI, 12, .inl (fun _ => 0))), ((u_2.1 16), .inl (cyI, 4, .inl (fun _ => 0))), ((u_2.1 17), .inl (cyI, 4, .inl (fun _ => 0))), ((u_2.1 18), .inl (cyI, 4, .inl (fun _ => 0)))]) C inw_10 0 rfl rfl 0 (by decide) wd_75 rfl tyX10_ok nmX10 rfl hin rfl (tyX10_ok 0 (by decide)) rfl rfl (Nat.le_of_ble_eq_true rfl) dX10_init_12 rfl ?_
  refine j_aload_n (pc := 15) C dX10_init_15 rfl 0 rfl ?_
  refine j_new (pc := 16) (ci := 9) (fs := [.int 0, .int 0, .int 0, .null, .null, .null, .null, .null, .null, .int 0, .int 0, .null, .null, .null, .null]) C inw_9 tyX9_ok wd_76 wd_38 wd_39 rfl ndX9 (by decide) (by decide) dX10_init_16 (fun q_4 => ?_)
  refine j_widen (k := 21) (n := 2196) (by decide) (by decide) ?_
  refine j_dup (pc := 19) C dX10_init_19 rfl ?_
  refine j_callN (pc := 20) (As := []) (rest := [.ref q_4, .ref h0]) (wr := [(h0, .inr (10, [.ref q_1, .null, .null, .null, .null, .null, .null, .null, .null, .null])), (q_1, .inr (5, [.ref (u_2.1 0), .ref (u_2.1 2), .ref (u_2.1 6), .ref (u_2.1 7), .ref (u_2.1 8), .int 0, .int 0])), ((u_2.1 0), .inr (8, [.ref (u_2.1 1), .int 0, .int 0, .int 0, .int 0, .int 0])), ((u_2.1 1), .inl (cyC, 1000, .inl (fun _ => 0))), ((u_2.1 2), .inr (1, [.int 0, .int 0, .ref (u_2.1 3), .ref (u_2.1 4), .ref (u_2.1 5)])), ((u_2.1 3), .inl (cyI, 1000, .inl (fun _ => 0))), ((u_2.1 4), .inl (cyI, 4, .inl (fun _ => 0))), ((u_2.1 5), .inl (cyI, 32, .inl (fun _ => 0))), ((u_2.1 6), .inl (cyJ, 12, .inr (.inl (fun _ => 0)))), ((u_2.1 7), .inl (cyJ, 4, .inr (.inl (fun _ => 0)))), ((u_2.1 8), .inr (9, [.int 0, .int 0, .int 0, .ref (u_2.1 9), .ref (u_2.1 10), .ref (u_2.1 11), .ref (u_2.1 12), .ref (u_2.1 13), .ref (u_2.1 14), .int 0, .int 0, .ref (u_2.1 15), .ref (u_2.1 16), .ref (u_2.1 17), .ref (u_2.1 18)])), ((u_2.1 9), .inl (cyI, 12, .inl (fun _ => 0))), ((u_2.1 10), .inl (cyI, 12, .inl (fun _ => 0))), ((u_2.1 11), .inl (cyI, 12, .inl (fun _ => 0))), ((u_2.1 12), .inl (cyI, 12, .inl (fun _ => 0))), ((u_2.1 13), .inl (cyI, 12, .inl (fun _ => 0))), ((u_2.1 14), .inl (cyI, 12, .inl (fun _ => 0))), ((u_2.1 15), .inl (cyI, 12, .inl (fun _ => 0))), ((u_2.1 16), .inl (cyI, 4, .inl (fun _ => 0))), ((u_2.1 17), .inl (cyI, 4, .inl (fun _ => 0))), ((u_2.1 18), .inl (cyI, 4, .inl (fun _ => 0)))]) C (c_X9_init l D cyC cyI cyJ cyZ cyO q_4) wd_40 wd_39 C.2.2.2.2.2.2.1.2.2.2.2.1 wd_41 rfl ⟨by decide, by decide, rfl⟩ rfl ⟨rfl, rfl, by decide, by decide⟩ ⟨by decide, by decide⟩ [21] [0, 1, 2, 3, 4, 5, 6, 7, 8, 9, 10, 11, 12, 13, 14, 15, 16, 17, 18, 19, 20] rfl rfl ⟨by decide, by decide, by decide⟩ rfl (Nat.le_of_ble_eq_true rfl) dX10_init_20 (fun u_5 hw_6 => ?_)
  refine j_eq (ws2 := [(h0, .inr (10, [.ref q_1, .null, .null, .null, .null, .null, .null, .null, .null, .null])), (q_1, .inr (5, [.ref (u_2.1 0), .ref (u_2.1 2), .ref (u_2.1 6), .ref (u_2.1 7), .ref (u_2.1 8), .int 0, .int 0])), ((u_2.1 0), .inr (8, [.ref (u_2.1 1), .int 0, .int 0, .int 0, .int 0, .int 0])), ((u_2.1 1), .inl (cyC, 1000, .inl (fun _ => 0))), ((u_2.1 2), .inr (1, [.int 0, .int 0, .ref (u_2.1 3), .ref (u_2.1 4), .ref (u_2.1 5)])), ((u_2.1 3), .inl (cyI, 1000, .inl (fun _ => 0))), ((u_2.1 4), .inl (cyI, 4, .inl (fun _ => 0))), ((u_2.1 5), .inl (cyI, 32, .inl (fun _ => 0))), ((u_2.1 6), .inl (cyJ, 12, .inr (.inl (fun _ => 0)))), ((u_2.1 7), .inl (cyJ, 4, .inr (.inl (fun _ => 0)))), ((u_2.1 8), .inr (9, [.int 0, .int 0, .int 0, .ref (u_2.1 9), .ref (u_2.1 10), .ref (u_2.1 11), .ref (u_2.1 12), .ref (u_2.1 13), .ref (u_2.1 14), .int 0, .int 0, .ref (u_2.1 15), .ref (u_2.1 16), .ref (u_2.1 17), .ref (u_2.1 18)])), ((u_2.1 9), .inl (cyI, 12, .inl (fun _ => 0))), ((u_2.1 10), .inl (cyI, 12, .inl (fun _ => 0))), ((u_2.1 11), .inl (cyI, 12, .inl (fun _ => 0))), ((u_2.1 12), .inl (cyI, 12, .inl (fun _ => 0))), ((u_2.1 13), .inl (cyI, 12, .inl (fun _ => 0))), ((u_2.1 14), .inl (cyI, 12, .inl (fun _ => 0))), ((u_2.1 15), .inl (cyI, 12, .inl (fun _ => 0))), ((u_2.1 16), .inl (cyI, 4, .inl (fun _ => 0))), ((u_2.1 17), .inl (cyI, 4, .inl (fun _ => 0))), ((u_2.1 18), .inl (cyI, 4, .inl (fun _ => 0))), (q_4, .inr (9, [.int 0, .int 0, .int 0, .ref (u_5.1 0), .ref (u_5.1 1), .ref (u_5.1 2), .ref (u_5.1 3), .ref (u_5.1 4), .ref (u_5.1 5), .int 0, .int 0, .ref (u_5.1 6), .ref (u_5.1 7), .ref (u_5.1 8), .ref (u_5.1 9)])), ((u_5.1 0), .inl (cyI, 12, .inl (fun _ => 0))), ((u_5.1 1), .inl (cyI, 12, .inl (fun _ => 0))), ((u_5.1 2), .inl (cyI, 12, .inl (fun _ => 0))), ((u_5.1 3), .inl (cyI, 12, .inl (fun _ => 0))), ((u_5.1 4), .inl (cyI, 12, .inl (fun _ => 0))), ((u_5.1 5), .inl (cyI, 12, .inl (fun _ => 0))), ((u_5.1 6), .inl (cyI, 12, .inl (fun _ => 0))), ((u_5.1 7), .inl (cyI, 4, .inl (fun _ => 0))), ((u_5.1 8), .inl (cyI, 4, .inl (fun _ => 0))), ((u_5.1 9), .inl (cyI, 4, .inl (fun _ => 0)))]) (pc2 := 23) (lv2 := [(0, .ref h0)]) (st2 := [.ref q_4, .ref h0]) rfl rfl rfl rfl ?_
  refine j_widen (k := 31) (n := 2292) (by decide) (by decide) ?_
  refine j_put (pc := 23) (ci := 10) (v := .ref q_4) (ws' := [(h0, .inr (10, [.ref q_1, .ref q_4, .null, .null, .null, .null, .null, .null, .null, .null])), (q_1, .inr (5, [.ref (u_2.1 0), .ref (u_2.1 2), .ref (u_2.1 6), .ref (u_2.1 7), .ref (u_2.1 8), .int 0, .int 0])), ((u_2.1 0), .inr (8, [.ref (u_2.1 1), .int 0, .int 0, .int 0, .int 0, .int 0])), ((u_2.1 1), .inl (cyC, 1000, .inl (fun _ => 0))), ((u_2.1 2), .inr (1, [.int 0, .int 0, .ref (u_2.1 3), .ref (u_2.1 4), .ref (u_2.1 5)])), ((u_2.1 3), .inl (cyI, 1000, .inl (fun _ => 0))), ((u_2.1 4), .inl (cyI, 4, .inl (fun _ => 0))), ((u_2.1 5), .inl (cyI, 32, .inl (fun _ => 0))), ((u_2.1 6), .inl (cyJ, 12, .inr (.inl (fun _ => 0)))), ((u_2.1 7), .inl (cyJ, 4, .inr (.inl (fun _ => 0)))), ((u_2.1 8), .inr (9, [.int 0, .int 0, .int 0, .ref (u_2.1 9), .ref (u_2.1 10), .ref (u_2.1 11), .ref (u_2.1 12), .ref (u_2.1 13), .ref (u_2.1 14), .int 0, .int 0, .ref (u_2.1 15), .ref (u_2.1 16), .ref (u_2.1 17), .ref (u_2.1 18)])), ((u_2.1 9), .inl (cyI, 12, .inl (fun _ => 0))), ((u_2.1 10), .inl (cyI, 12, .inl (fun _ => 0))), ((u_2.1 11), .inl (cyI, 12, .inl (fun _ => 0))), ((u_2.1 12), .inl (cyI, 12, .inl (fun _ => 0))), ((u_2.1 13), .inl (cyI, 12, .inl (fun _ => 0))), ((u_2.1 14), .inl (cyI, 12, .inl (fun _ => 0))), ((u_2.1 15), .inl (cyI, 12, .inl (fun _ => 0))), ((u_2.1 16), .inl (cyI, 4, .inl (fun _ => 0))), ((u_2.1 17), .inl (cyI, 4, .inl (fun _ => 0))), ((u_2.1 18), .inl (cyI, 4, .inl (fun _ => 0))), (q_4, .inr (9, [.int 0, .int 0, .int 0, .ref (u_5.1 0), .ref (u_5.1 1), .ref (u_5.1 2), .ref (u_5.1 3), .ref (u_5.1 4), .ref (u_5.1 5), .int 0, .int 0, .ref (u_5.1 6), .ref (u_5.1 7), .ref (u_5.1 8), .ref (u_5.1 9)])), ((u_5.1 0), .inl (cyI, 12, .inl (fun _ => 0))), ((u_5.1 1), .inl (cyI, 12, .inl (fun _ => 0))), ((u_5.1 2), .inl (cyI, 12, .inl (fun _ => 0))), ((u_5.1 3), .inl (cyI, 12, .inl (fun _ => 0))), ((u_5.1 4), .inl (cyI, 12, .inl (fun _ => 0))), ((u_5.1 5), .inl (cyI, 12, .inl (fun _ => 0))), ((u_5.1 6), .inl (cyI, 12, .inl (fun _ => 0))), ((u_5.1 7), .inl (cyI, 4, .inl (fun _ => 0))), ((u_5.1 8), .inl (cyI, 4, .inl (fun _ => 0))), ((u_5.1 9), .inl (cyI, 4, .inl (fun _ => 0)))]) C inw_10 0 rfl rfl 1 (by decide) wd_77 rfl tyX10_ok nmX10 rfl (tyX10_ok 1 (by decide)) rfl rfl (Nat.le_of_ble_eq_true rfl) dX10_init_23 rfl ?_
  refine j_aload_n (pc := 26) C dX10_init_26 rfl 0 rfl ?_
  refine j_new (pc := 27) (ci := 7) (fs := [.null, .null, .null, .null, .int 0, .int 0, .int 0]) C inw_7 tyX7_ok wd_78 wd_79 wd_80 rfl ndX7 (by decide) (by decide) dX10_init_27 (fun q_7 => ?_)
  refine j_widen (k := 32) (n := 2299) (by decide) (by decide) ?_
  refine j_dup (pc := 30) C dX10_init_30 rfl ?_
  refine j_callI (pc := 31) (As := []) (rest := [.ref q_7, .ref h0]) (wr := [(h0, .inr (10, [.ref q_1, .ref q_4, .null, .null, .null, .null, .null, .null, .null, .null])), (q_1, .inr (5, [.ref (u_2.1 0), .ref (u_2.1 2), .ref (u_2.1 6), .ref (u_2.1 7), .ref (u_2.1 8), .int 0, .int 0])), ((u_2.1 0), .inr (8, [.ref (u_2.1 1), .int 0, .int 0, .int 0, .int 0, .int 0])), ((u_2.1 1), .inl (cyC, 1000, .inl (fun _ => 0))), ((u_2.1 2), .inr (1, [.int 0, .int 0, .ref (u_2.1 3), .ref (u_2.1 4), .ref (u_2.1 5)])), ((u_2.1 3), .inl (cyI, 1000, .inl (fun _ => 0))), ((u_2.1 4), .inl (cyI, 4, .inl (fun _ => 0))), ((u_2.1 5), .inl (cyI, 32, .inl (fun _ => 0))), ((u_2.1 6), .inl (cyJ, 12, .inr (.inl (fun _ => 0)))), ((u_2.1 7), .inl (cyJ, 4, .inr (.inl (fun _ => 0)))), ((u_2.1 8), .inr (9, [.int 0, .int 0, .int 0, .ref (u_2.1 9), .ref (u_2.1 10), .ref (u_2.1 11), .ref (u_2.1 12), .ref (u_2.1 13), .ref (u_2.1 14), .int 0, .int 0, .ref (u_2.1 15), .ref (u_2.1 16), .ref (u_2.1 17), .ref (u_2.1 18)])), ((u_2.1 9), .inl (cyI, 12, .inl (fun _ => 0))), ((u_2.1 10), .inl (cyI, 12, .inl (fun _ => 0))), ((u_2.1 11), .inl (cyI, 12, .inl (fun _ => 0))), ((u_2.1 12), .inl (cyI, 12, .inl (fun _ => 0))), ((u_2.1 13), .inl (cyI, 12, .inl (fun _ => 0))), ((u_2.1 14), .inl (cyI, 12, .inl (fun _ => 0))), ((u_2.1 15), .inl (cyI, 12, .inl (fun _ => 0))), ((u_2.1 16), .inl (cyI, 4, .inl (fun _ => 0))), ((u_2.1 17), .inl (cyI, 4, .inl (fun _ => 0))), ((u_2.1 18), .inl (cyI, 4, .inl (fun _ => 0))), (q_4, .inr (9, [.int 0, .int 0, .int 0, .ref (u_5.1 0), .ref (u_5.1 1), .ref (u_5.1 2), .ref (u_5.1 3), .ref (u_5.1 4), .ref (u_5.1 5), .int 0, .int 0, .ref (u_5.1 6), .ref (u_5.1 7), .ref (u_5.1 8), .ref (u_5.1 9)])), ((u_5.1 0), .inl (cyI, 12, .inl (fun _ => 0))), ((u_5.1 1), .inl (cyI, 12, .inl (fun _ => 0))), ((u_5.1 2), .inl (cyI, 12, .inl (fun _ => 0))), ((u_5.1 3), .inl (cyI, 12, .inl (fun _ => 0))), ((u_5.1 4), .inl (cyI, 12, .inl (fun _ => 0))), ((u_5.1 5), .inl (cyI, 12, .inl (fun _ => 0))), ((u_5.1 6), .inl (cyI, 12, .inl (fun _ => 0))), ((u_5.1 7), .inl (cyI, 4, .inl (fun _ => 0))), ((u_5.1 8), .inl (cyI, 4, .inl (fun _ => 0))), ((u_5.1 9), .inl (cyI, 4, .inl (fun _ => 0)))]) C (c_X7_init l D cyC cyI cyJ cyZ cyO q_7) wd_81 wd_80 wd_82 wd_83 rfl ⟨by decide, by decide, rfl⟩ rfl ⟨rfl, rfl, by decide, by decide⟩ ⟨by decide, by decide⟩ [32] [0, 1, 2, 3, 4, 5, 6, 7, 8, 9, 10, 11, 12, 13, 14, 15, 16, 17, 18, 19, 20, 21, 22, 23, 24, 25, 26, 27, 28, 29, 30, 31] rfl rfl ⟨by decide, by decide, by decide⟩ rfl (Nat.le_of_ble_eq_true rfl) dX10_init_31 (fun u_8 hw_9 => ?_)
  refine j_eq (ws2 := [(h0, .inr (10, [.ref q_1, .ref q_4, .null, .null, .null, .null, .null, .null, .null, .null])), (q_1, .inr (5, [.ref (u_2.1 0), .ref (u_2.1 2), .ref (u_2.1 6), .ref (u_2.1 7), .ref (u_2.1 8), .int 0, .int 0])), ((u_2.1 0), .inr (8, [.ref (u_2.1 1), .int 0, .int 0, .int 0, .int 0, .int 0])), ((u_2.1 1), .inl (cyC, 1000, .inl (fun _ => 0))), ((u_2.1 2), .inr (1, [.int 0, .int 0, .ref (u_2.1 3), .ref (u_2.1 4), .ref (u_2.1 5)])), ((u_2.1 3), .inl (cyI, 1000, .inl (fun _ => 0))), ((u_2.1 4), .inl (cyI, 4, .inl (fun _ => 0))), ((u_2.1 5), .inl (cyI, 32, .inl (fun _ => 0))), ((u_2.1 6), .inl (cyJ, 12, .inr (.inl (fun _ => 0)))), ((u_2.1 7), .inl (cyJ, 4, .inr (.inl (fun _ => 0)))), ((u_2.1 8), .inr (9, [.int 0, .int 0, .int 0, .ref (u_2.1 9), .ref (u_2.1 10), .ref (u_2.1 11), .ref (u_2.1 12), .ref (u_2.1 13), .ref (u_2.1 14), .int 0, .int 0, .ref (u_2.1 15), .ref (u_2.1 16), .ref (u_2.1 17), .ref (u_2.1 18)])), ((u_2.1 9), .inl (cyI, 12, .inl (fun _ => 0))), ((u_2.1 10), .inl (cyI, 12, .inl (fun _ => 0))), ((u_2.1 11), .inl (cyI, 12, .inl (fun _ => 0))), ((u_2.1 12), .inl (cyI, 12, .inl (fun _ => 0))), ((u_2.1 13), .inl (cyI, 12, .inl (fun _ => 0))), ((u_2.1 14), .inl (cyI, 12, .inl (fun _ => 0))), ((u_2.1 15), .inl (cyI, 12, .inl (fun _ => 0))), ((u_2.1 16), .inl (cyI, 4, .inl (fun _ => 0))), ((u_2.1 17), .inl (cyI, 4, .inl (fun _ => 0))), ((u_2.1 18), .inl (cyI, 4, .inl (fun _ => 0))), (q_4, .inr (9, [.int 0, .int 0, .int 0, .ref (u_5.1 0), .ref (u_5.1 1), .ref (u_5.1 2), .ref (u_5.1 3), .ref (u_5.1 4), .ref (u_5.1 5), .int 0, .int 0, .ref (u_5.1 6), .ref (u_5.1 7), .ref (u_5.1 8), .ref (u_5.1 9)])), ((u_5.1 0), .inl (cyI, 12, .inl (fun _ => 0))), ((u_5.1 1), .inl (cyI, 12, .inl (fun _ => 0))), ((u_5.1 2), .inl (cyI, 12, .inl (fun _ => 0))), ((u_5.1 3), .inl (cyI, 12, .inl (fun _ => 0))), ((u_5.1 4), .inl (cyI, 12, .inl (fun _ => 0))), ((u_5.1 5), .inl (cyI, 12, .inl (fun _ => 0))), ((u_5.1 6), .inl (cyI, 12, .inl (fun _ => 0))), ((u_5.1 7), .inl (cyI, 4, .inl (fun _ => 0))), ((u_5.1 8), .inl (cyI, 4, .inl (fun _ => 0))), ((u_5.1 9), .inl (cyI, 4, .inl (fun _ => 0))), (q_7, .inr (7, [.ref (u_8.1 0), .ref (u_8.1 1), .ref (u_8.1 2), .ref (u_8.1 3), .int 0, .int 0, .int 0])), ((u_8.1 0), .inl (cyI, 12, .inl (fun _ => (-1)))), ((u_8.1 1), .inl (cyI, 12, .inl (fun _ => 0))), ((u_8.1 2), .inl (cyI, 12, .inl (fun _ => 0))), ((u_8.1 3), .inl (cyI, 30, .inl (fun _ => 0)))]) (pc2 := 34) (lv2 := [(0, .ref h0)]) (st2 := [.ref q_7, .ref h0]) rfl rfl rfl rfl ?_
  refine j_widen (k := 36) (n := 2365) (by decide) (by decide) ?_
  refine j_putF (pc := 34) (ci := 10) (v := .ref q_7) (ws' := [(h0, .inr (10, [.ref q_1, .ref q_4, .ref q_7, .null, .null, .null, .null, .null, .null, .null])), (q_1, .inr (5, [.ref (u_2.1 0), .ref (u_2.1 2), .ref (u_2.1 6), .ref (u_2.1 7), .ref (u_2.1 8), .int 0, .int 0])), ((u_2.1 0), .inr (8, [.ref (u_2.1 1), .int 0, .int 0, .int 0, .int 0, .int 0])), ((u_2.1 1), .inl (cyC, 1000, .inl (fun _ => 0))), ((u_2.1 2), .inr (1, [.int 0, .int 0, .ref (u_2.1 3), .ref (u_2.1 4), .ref (u_2.1 5)])), ((u_2.1 3), .inl (cyI, 1000, .inl (fun _ => 0))), ((u_2.1 4), .inl (cyI, 4, .inl (fun _ => 0))), ((u_2.1 5), .inl (cyI, 32, .inl (fun _ => 0))), ((u_2.1 6), .inl (cyJ, 12, .inr (.inl (fun _ => 0)))), ((u_2.1 7), .inl (cyJ, 4, .inr (.inl (fun _ => 0)))), ((u_2.1 8), .inr (9, [.int 0, .int 0, .int 0, .ref (u_2.1 9), .ref (u_2.1 10), .ref (u_2.1 11), .ref (u_2.1 12), .ref (u_2.1 13), .ref (u_2.1 14), .int 0, .int 0, .ref (u_2.1 15), .ref (u_2.1 16), .ref (u_2.1 17), .ref (u_2.1 18)])), ((u_2.1 9), .inl (cyI, 12, .inl (fun _ => 0))), ((u_2.1 10), .inl (cyI, 12, .inl (fun _ => 0))), ((u_2.1 11), .inl (cyI, 12, .inl (fun _ => 0))), ((u_2.1 12), .inl (cyI, 12, .inl (fun _ => 0))), ((u_2.1 13), .inl (cyI, 12, .inl (fun _ => 0))), ((u_2.1 14), .inl (cyI, 12, .inl (fun _ => 0))), ((u_2.1 15), .inl (cyI, 12, .inl (fun _ => 0))), ((u_2.1 16), .inl (cyI, 4, .inl (fun _ => 0))), ((u_2.1 17), .inl (cyI, 4, .inl (fun _ => 0))), ((u_2.1 18), .inl (cyI, 4, .inl (fun _ => 0))), (q_4, .inr (9, [.int 0, .int 0, .int 0, .ref (u_5.1 0), .ref (u_5.1 1), .ref (u_5.1 2), .ref (u_5.1 3), .ref (u_5.1 4), .ref (u_5.1 5), .int 0, .int 0, .ref (u_5.1 6), .ref (u_5.1 7), .ref (u_5.1 8), .ref (u_5.1 9)])), ((u_5.1 0), .inl (cyI, 12, .inl (fun _ => 0))), ((u_5.1 1), .inl (cyI, 12, .inl (fun _ => 0))), ((u_5.1 2), .inl (cyI, 12, .inl (fun _ => 0))), ((u_5.1 3), .inl (cyI, 12, .inl (fun _ => 0))), ((u_5.1 4), .inl (cyI, 12, .inl (fun _ => 0))), ((u_5.1 5), .inl (cyI, 12, .inl (fun _ => 0))), ((u_5.1 6), .inl (cyI, 12, .inl (fun _ => 0))), ((u_5.1 7), .inl (cyI, 4, .inl (fun _ => 0))), ((u_5.1 8), .inl (cyI, 4, .inl (fun _ => 0))), ((u_5.1 9), .inl (cyI, 4, .inl (fun _ => 0))), (q_7, .inr (7, [.ref (u_8.1 0), .ref (u_8.1 1), .ref (u_8.1 2), .ref (u_8.1 3), .int 0, .int 0, .int 0])), ((u_8.1 0), .inl (cyI, 12, .inl (fun _ => (-1)))), ((u_8.1 1), .inl (cyI, 12, .inl (fun _ => 0))), ((u_8.1 2), .inl (cyI, 12, .inl (fun _ => 0))), ((u_8.1 3), .inl (cyI, 30, .inl (fun _ => 0)))]) C inw_10 0 rfl rfl 2 (by decide) wd_84 rfl tyX10_ok nmX10 rfl hin rfl (tyX10_ok 2 (by decide)) rfl rfl (Nat.le_of_ble_eq_true rfl) dX10_init_34 rfl ?_
  refine j_aload_n (pc := 37) C dX10_init_37 rfl 0 rfl ?_
  refine j_new (pc := 38) (ci := 7) (fs := [.null, .null, .null, .null, .int 0, .int 0, .int 0]) C inw_7 tyX7_ok wd_78 wd_79 wd_80 rfl ndX7 (by decide) (by decide) dX10_init_38 (fun q_10 => ?_)
  refine j_widen (k := 37) (n := 2372) (by decide) (by decide) ?_
  refine j_dup (pc := 41) C dX10_init_41 rfl ?_
  refine j_callI (pc := 42) (As := []) (rest := [.ref q_10, .ref h0]) (wr := [(h0, .inr (10, [.ref q_1, .ref q_4, .ref q_7, .null, .null, .null, .null, .null, .null, .null])), (q_1, .inr (5, [.ref (u_2.1 0), .ref (u_2.1 2), .ref (u_2.1 6), .ref (u_2.1 7), .ref (u_2.1 8), .int 0, .int 0])), ((u_2.1 0), .inr (8, [.ref (u_2.1 1), .int 0, .int 0, .int 0, .int 0, .int 0])), ((u_2.1 1), .inl (cyC, 1000, .inl (fun _ => 0))), ((u_2.1 2), .inr (1, [.int 0, .int 0, .ref (u_2.1 3), .ref (u_2.1 4), .ref (u_2.1 5)])), ((u_2.1 3), .inl (cyI, 1000, .inl (fun _ => 0))), ((u_2.1 4), .inl (cyI, 4, .inl (fun _ => 0))), ((u_2.1 5), .inl (cyI, 32, .inl (fun _ => 0))), ((u_2.1 6), .inl (cyJ, 12, .inr (.inl (fun _ => 0)))), ((u_2.1 7), .inl (cyJ, 4, .inr (.inl (fun _ => 0)))), ((u_2.1 8), .inr (9, [.int 0, .int 0, .int 0, .ref (u_2.1 9), .ref (u_2.1 10), .ref (u_2.1 11), .ref (u_2.1 12), .ref (u_2.1 13), .ref (u_2.1 14), .int 0, .int 0, .ref (u_2.1 15), .ref (u_2.1 16), .ref (u_2.1 17), .ref (u_2.1 18)])), ((u_2.1 9), .inl (cyI, 12, .inl (fun _ => 0))), ((u_2.1 10), .inl (cyI, 12, .inl (fun _ => 0))), ((u_2.1 11), .inl (cyI, 12, .inl (fun _ => 0))), ((u_2.1 12), .inl (cyI, 12, .inl (fun _ => 0))), ((u_2.1 13), .inl (cyI, 12, .inl (fun _ => 0))), ((u_2.1 14), .inl (cyI, 12, .inl (fun _ => 0))), ((u_2.1 15), .inl (cyI, 12, .inl (fun _ => 0))), ((u_2.1 16), .inl (cyI, 4, .inl (fun _ => 0))), ((u_2.1 17), .inl (cyI, 4, .inl (fun _ => 0))), ((u_2.1 18), .inl (cyI, 4, .inl (fun _ => 0))), (q_4, .inr (9, [.int 0, .int 0, .int 0, .ref (u_5.1 0), .ref (u_5.1 1), .ref (u_5.1 2), .ref (u_5.1 3), .ref (u_5.1 4), .ref (u_5.1 5), .int 0, .int 0, .ref (u_5.1 6), .ref (u_5.1 7), .ref (u_5.1 8), .ref (u_5.1 9)])), ((u_5.1 0), .inl (cyI, 12, .inl (fun _ => 0))), ((u_5.1 1), .inl (cyI, 12, .inl (fun _ => 0))), ((u_5.1 2), .inl (cyI, 12, .inl (fun _ => 0))), ((u_5.1 3), .inl (cyI, 12, .inl (fun _ => 0))), ((u_5.1 4), .inl (cyI, 12, .inl (fun _ => 0))), ((u_5.1 5), .inl (cyI, 12, .inl (fun _ => 0))), ((u_5.1 6), .inl (cyI, 12, .inl (fun _ => 0))), ((u_5.1 7), .inl (cyI, 4, .inl (fun _ => 0))), ((u_5.1 8), .inl (cyI, 4, .inl (fun _ => 0))), ((u_5.1 9), .inl (cyI, 4, .inl (fun _ => 0))), (q_7, .inr (7, [.ref (u_8.1 0), .ref (u_8.1 1), .ref (u_8.1 2), .ref (u_8.1 3), .int 0, .int 0, .int 0])), ((u_8.1 0), .inl (cyI, 12, .inl (fun _ => (-1)))), ((u_8.1 1), .inl (cyI, 12, .inl (fun _ => 0))), ((u_8.1 2), .inl (cyI, 12, .inl (fun _ => 0))), ((u_8.1 3), .inl (cyI, 30, .inl (fun _ => 0)))]) C (c_X7_init l D cyC cyI cyJ cyZ cyO q_10) wd_81 wd_80 wd_82 wd_83 rfl ⟨by decide, by decide, rfl⟩ rfl ⟨rfl, rfl, by decide, by decide⟩ ⟨by decide, by decide⟩ [37] [0, 1, 2, 3, 4, 5, 6, 7, 8, 9, 10, 11, 12, 13, 14, 15, 16, 17, 18, 19, 20, 21, 22, 23, 24, 25, 26, 27, 28, 29, 30, 31, 32, 33, 34, 35, 36] rfl rfl ⟨by decide, by decide, by decide⟩ rfl (Nat.le_of_ble_eq_true rfl) dX10_init_42 (fun u_11 hw_12 => ?_)
  refine j_eq (ws2 := [(h0, .inr (10, [.ref q_1, .ref q_4, .ref q_7, .null, .null, .null, .null, .null, .null, .null])), (q_1, .inr (5, [.ref (u_2.1 0), .ref (u_2.1 2), .ref (u_2.1 6), .ref (u_2.1 7), .ref (u_2.1 8), .int 0, .int 0])), ((u_2.1 0), .inr (8, [.ref (u_2.1 1), .int 0, .int 0, .int 0, .int 0, .int 0])), ((u_2.1 1), .inl (cyC, 1000, .inl (fun _ => 0))), ((u_2.1 2), .inr (1, [.int 0, .int 0, .ref (u_2.1 3), .ref (u_2.1 4), .ref (u_2.1 5)])), ((u_2.1 3), .inl (cyI, 1000, .inl (fun _ => 0))), ((u_2.1 4), .inl (cyI, 4, .inl (fun _ => 0))), ((u_2.1 5), .inl (cyI, 32, .inl (fun _ => 0))), ((u_2.1 6), .inl (cyJ, 12, .inr (.inl (fun _ => 0)))), ((u_2.1 7), .inl (cyJ, 4, .inr (.inl (fun _ => 0)))), ((u_2.1 8), .inr (9, [.int 0, .int 0, .int 0, .ref (u_2.1 9), .ref (u_2.1 10), .ref (u_2.1 11), .ref (u_2.1 12), .ref (u_2.1 13), .ref (u_2.1 14), .int 0, .int 0, .ref (u_2.1 15), .ref (u_2.1 16), .ref (u_2.1 17), .ref (u_2.1 18)])), ((u_2.1 9), .inl (cyI, 12, .inl (fun _ => 0))), ((u_2.1 10), .inl (cyI, 12, .inl (fun _ => 0))), ((u_2.1 11), .inl (cyI, 12, .inl (fun _ => 0))), ((u_2.1 12), .inl (cyI, 12, .inl (fun _ => 0))), ((u_2.1 13), .inl (cyI, 12, .inl (fun _ => 0))), ((u_2.1 14), .inl (cyI, 12, .inl (fun _ => 0))), ((u_2.1 15), .inl (cyI, 12, .inl (fun _ => 0))), ((u_2.1 16), .inl (cyI, 4, .inl (fun _ => 0))), ((u_2.1 17), .inl (cyI, 4, .inl (fun _ => 0))), ((u_2.1 18), .inl (cyI, 4, .inl (fun _ => 0))), (q_4, .inr (9, [.int 0, .int 0, .int 0, .ref (u_5.1 0), .ref (u_5.1 1), .ref (u_5.1 2), .ref (u_5.1 3), .ref (u_5.1 4), .ref (u_5.1 5), .int 0, .int 0, .ref (u_5.1 6), .ref (u_5.1 7), .ref (u_5.1 8), .ref (u_5.1 9)])), ((u_5.1 0), .inl (cyI, 12, .inl (fun _ => 0))), ((u_5.1 1), .inl (cyI, 12, .inl (fun _ => 0))), ((u_5.1 2), .inl (cyI, 12, .inl (fun _ => 0))), ((u_5.1 3), .inl (cyI, 12, .inl (fun _ => 0))), ((u_5.1 4), .inl (cyI, 12, .inl (fun _ => 0))), ((u_5.1 5), .inl (cyI, 12, .inl (fun _ => 0))), ((u_5.1 6), .inl (cyI, 12, .inl (fun _ => 0))), ((u_5.1 7), .inl (cyI, 4, .inl (fun _ => 0))), ((u_5.1 8), .inl (cyI, 4, .inl (fun _ => 0))), ((u_5.1 9), .inl (cyI, 4, .inl (fun _ => 0))), (q_7, .inr (7, [.ref (u_8.1 0), .ref (u_8.1 1), .ref (u_8.1 2), .ref (u_8.1 3), .int 0, .int 0, .int 0])), ((u_8.1 0), .inl (cyI, 12, .inl (fun _ => (-1)))), ((u_8.1 1), .inl (cyI, 12, .inl (fun _ => 0))), ((u_8.1 2), .inl (cyI, 12, .inl (fun _ => 0))), ((u_8.1 3), .inl (cyI, 30, .inl (fun _ => 0))), (q_10, .inr (7, [.ref (u_11.1 0), .ref (u_11.1 1), .ref (u_11.1 2), .ref (u_11.1 3), .int 0, .int 0, .int 0])), ((u_11.1 0), .inl (cyI, 12, .inl (fun _ => (-1)))), ((u_11.1 1), .inl (cyI, 12, .inl (fun _ => 0))), ((u_11.1 2), .inl (cyI, 12, .inl (fun _ => 0))), ((u_11.1 3), .inl (cyI, 30, .inl (fun _ => 0)))]) (pc2 := 45) (lv2 := [(0, .ref h0)]) (st2 := [.ref q_10, .ref h0]) rfl rfl rfl rfl ?_
  refine j_widen (k := 41) (n := 2438) (by decide) (by decide) ?_
  refine j_putF (pc := 45) (ci := 10) (v := .ref q_10) (ws' := [(h0, .inr (10, [.ref q_1, .ref q_4, .ref q_7, .ref q_10, .null, .null, .null, .null, .null, .null])), (q_1, .inr (5, [.ref (u_2.1 0), .ref (u_2.1 2), .ref (u_2.1 6), .ref (u_2.1 7), .ref (u_2.1 8), .int 0, .int 0])), ((u_2.1 0), .inr (8, [.ref (u_2.1 1), .int 0, .int 0, .int 0, .int 0, .int 0])), ((u_2.1 1), .inl (cyC, 1000, .inl (fun _ => 0))), ((u_2.1 2), .inr (1, [.int 0, .int 0, .ref (u_2.1 3), .ref (u_2.1 4), .ref (u_2.1 5)])), ((u_2.1 3), .inl (cyI, 1000, .inl (fun _ => 0))), ((u_2.1 4), .inl (cyI, 4, .inl (fun _ => 0))), ((u_2.1 5), .inl (cyI, 32, .inl (fun _ => 0))), ((u_2.1 6), .inl (cyJ, 12, .inr (.inl (fun _ => 0)))), ((u_2.1 7), .inl (cyJ, 4, .inr (.inl (fun _ => 0)))), ((u_2.1 8), .inr (9, [.int 0, .int 0, .int 0, .ref (u_2.1 9), .ref (u_2.1 10), .ref (u_2.1 11), .ref (u_2.1 12), .ref (u_2.1 13), .ref (u_2.1 14), .int 0, .int 0, .ref (u_2.1 15), .ref (u_2.1 16), .ref (u_2.1 17), .ref (u_2.1 18)])), ((u_2.1 9), .inl (cyI, 12, .inl (fun _ => 0))), ((u_2.1 10), .inl (cyI, 12, .inl (fun _ => 0))), ((u_2.1 11), .inl (cyI, 12, .inl (fun _ => 0))), ((u_2.1 12), .inl (cyI, 12, .inl (fun _ => 0))), ((u_2.1 13), .inl (cyI, 12, .inl (fun _ => 0))), ((u_2.1 14), .inl (cyI, 12, .inl (fun _ => 0))), ((u_2.1 15), .inl (cyI, 12, .inl (fun _ => 0))), ((u_2.1 16), .inl (cyI, 4, .inl (fun _ => 0))), ((u_2.1 17), .inl (cyI, 4, .inl (fun _ => 0))), ((u_2.1 18), .inl (cyI, 4, .inl (fun _ => 0))), (q_4, .inr (9, [.int 0, .int 0, .int 0, .ref (u_5.1 0), .ref (u_5.1 1), .ref (u_5.1 2), .ref (u_5.1 3), .ref (u_5.1 4), .ref (u_5.1 5), .int 0, .int 0, .ref (u_5.1 6), .ref (u_5.1 7), .ref (u_5.1 8), .ref (u_5.1 9)])), ((u_5.1 0), .inl (cyI, 12, .inl (fun _ => 0))), ((u_5.1 1), .inl (cyI, 12, .inl (fun _ => 0))), ((u_5.1 2), .inl (cyI, 12, .inl (fun _ => 0))), ((u_5.1 3), .inl (cyI, 12, .inl (fun _ => 0))), ((u_5.1 4), .inl (cyI, 12, .inl (fun _ => 0))), ((u_5.1 5), .inl (cyI, 12, .inl (fun _ => 0))), ((u_5.1 6), .inl (cyI, 12, .inl (fun _ => 0))), ((u_5.1 7), .inl (cyI, 4, .inl (fun _ => 0))), ((u_5.1 8), .inl (cyI, 4, .inl (fun _ => 0))), ((u_5.1 9), .inl (cyI, 4, .inl (fun _ => 0))), (q_7, .inr (7, [.ref (u_8.1 0), .ref (u_8.1 1), .ref (u_8.1 2), .ref (u_8.1 3), .int 0, .int 0, .int 0])), ((u_8.1 0), .inl (cyI, 12, .inl (fun _ => (-1)))), ((u_8.1 1), .inl (cyI, 12, .inl (fun _ => 0))), ((u_8.1 2), .inl (cyI, 12, .inl (fun _ => 0))), ((u_8.1 3), .inl (cyI, 30, .inl (fun _ => 0))), (q_10, .inr (7, [.ref (u_11.1 0), .ref (u_11.1 1), .ref (u_11.1 2), .ref (u_11.1 3), .int 0, .int 0, .int 0])), ((u_11.1 0), .inl (cyI, 12, .inl (fun _ => (-1)))), ((u_11.1 1), .inl (cyI, 12, .inl (fun _ => 0))), ((u_11.1 2), .inl (cyI, 12, .inl (fun _ => 0))), ((u_11.1 3), .inl (cyI, 30, .inl (fun _ => 0)))]) C inw_10 0 rfl rfl 3 (by decide) wd_85 rfl tyX10_ok nmX10 rfl hin rfl (tyX10_ok 3 (by decide)) rfl rfl (Nat.le_of_ble_eq_true rfl) dX10_init_45 rfl ?_
  refine j_aload_n (pc := 48) C dX10_init_48 rfl 0 rfl ?_
  refine j_iconst (pc := 49) (v := 4) C dX10_init_49 (by decide) ?_
  refine j_newq (pc := 50) (N := 4) C wd_78 4 rfl (by decide) (by decide) (by decide) (by decide) (by decide) dX10_init_50 (fun q_13 => ?_)
  refine j_widen (k := 42) (n := 2442) (by decide) (by decide) ?_
  refine j_putF (pc := 53) (ci := 10) (v := .ref q_13) (ws' := [(h0, .inr (10, [.ref q_1, .ref q_4, .ref q_7, .ref q_10, .ref q_13, .null, .null, .null, .null, .null])), (q_1, .inr (5, [.ref (u_2.1 0), .ref (u_2.1 2), .ref (u_2.1 6), .ref (u_2.1 7), .ref (u_2.1 8), .int 0, .int 0])), ((u_2.1 0), .inr (8, [.ref (u_2.1 1), .int 0, .int 0, .int 0, .int 0, .int 0])), ((u_2.1 1), .inl (cyC, 1000, .inl (fun _ => 0))), ((u_2.1 2), .inr (1, [.int 0, .int 0, .ref (u_2.1 3), .ref (u_2.1 4), .ref (u_2.1 5)])), ((u_2.1 3), .inl (cyI, 1000, .inl (fun _ => 0))), ((u_2.1 4), .inl (cyI, 4, .inl (fun _ => 0))), ((u_2.1 5), .inl (cyI, 32, .inl (fun _ => 0))), ((u_2.1 6), .inl (cyJ, 12, .inr (.inl (fun _ => 0)))), ((u_2.1 7), .inl (cyJ, 4, .inr (.inl (fun _ => 0)))), ((u_2.1 8), .inr (9, [.int 0, .int 0, .int 0, .ref (u_2.1 9), .ref (u_2.1 10), .ref (u_2.1 11), .ref (u_2.1 12), .ref (u_2.1 13), .ref (u_2.1 14), .int 0, .int 0, .ref (u_2.1 15), .ref (u_2.1 16), .ref (u_2.1 17), .ref (u_2.1 18)])), ((u_2.1 9), .inl (cyI, 12, .inl (fun _ => 0))), ((u_2.1 10), .inl (cyI, 12, .inl (fun _ => 0))), ((u_2.1 11), .inl (cyI, 12, .inl (fun _ => 0))), ((u_2.1 12), .inl (cyI, 12, .inl (fun _ => 0))), ((u_2.1 13), .inl (cyI, 12, .inl (fun _ => 0))), ((u_2.1 14), .inl (cyI, 12, .inl (fun _ => 0))), ((u_2.1 15), .inl (cyI, 12, .inl (fun _ => 0))), ((u_2.1 16), .inl (cyI, 4, .inl (fun _ => 0))), ((u_2.1 17), .inl (cyI, 4, .inl (fun _ => 0))), ((u_2.1 18), .inl (cyI, 4, .inl (fun _ => 0))), (q_4, .inr (9, [.int 0, .int 0, .int 0, .ref (u_5.1 0), .ref (u_5.1 1), .ref (u_5.1 2), .ref (u_5.1 3), .ref (u_5.1 4), .ref (u_5.1 5), .int 0, .int 0, .ref (u_5.1 6), .ref (u_5.1 7), .ref (u_5.1 8), .ref (u_5.1 9)])), ((u_5.1 0), .inl (cyI, 12, .inl (fun _ => 0))), ((u_5.1 1), .inl (cyI, 12, .inl (fun _ => 0))), ((u_5.1 2), .inl (cyI, 12, .inl (fun _ => 0))), ((u_5.1 3), .inl (cyI, 12, .inl (fun _ => 0))), ((u_5.1 4), .inl (cyI, 12, .inl (fun _ => 0))), ((u_5.1 5), .inl (cyI, 12, .inl (fun _ => 0))), ((u_5.1 6), .inl (cyI, 12, .inl (fun _ => 0))), ((u_5.1 7), .inl (cyI, 4, .inl (fun _ => 0))), ((u_5.1 8), .inl (cyI, 4, .inl (fun _ => 0))), ((u_5.1 9), .inl (cyI, 4, .inl (fun _ => 0))), (q_7, .inr (7, [.ref (u_8.1 0), .ref (u_8.1 1), .ref (u_8.1 2), .ref (u_8.1 3), .int 0, .int 0, .int 0])), ((u_8.1 0), .inl (cyI, 12, .inl (fun _ => (-1)))), ((u_8.1 1), .inl (cyI, 12, .inl (fun _ => 0))), ((u_8.1 2), .inl (cyI, 12, .inl (fun _ => 0))), ((u_8.1 3), .inl (cyI, 30, .inl (fun _ => 0))), (q_10, .inr (7, [.ref (u_11.1 0), .ref (u_11.1 1), .ref (u_11.1 2), .ref (u_11.1 3), .int 0, .int 0, .int 0])), ((u_11.1 0), .inl (cyI, 12, .inl (fun _ => (-1)))), ((u_11.1 1), .inl (cyI, 12, .inl (fun _ => 0))), ((u_11.1 2), .inl (cyI, 12, .inl (fun _ => 0))), ((u_11.1 3), .inl (cyI, 30, .inl (fun _ => 0))), (q_13, .inl (cyO, 4, .inr (.inr (.inr (.inr (fun _ => none))))))]) C inw_10 0 rfl rfl 4 (by decide) wd_86 rfl tyX10_ok nmX10 rfl hin rfl (tyX10_ok 4 (by decide)) rfl rfl (Nat.le_of_ble_eq_true rfl) dX10_init_53 rfl ?_
  refine j_aload_n (pc := 56) C dX10_init_56 rfl 0 rfl ?_
  refine j_new (pc := 57) (ci := 4) (fs := [.null, .int 0]) C inw_4 tyX4_ok wd_87 wd_88 wd_89 rfl ndX4 (by decide) (by decide) dX10_init_57 (fun q_14 => ?_)
  refine j_widen (k := 43) (n := 2444) (by decide) (by decide) ?_
  refine j_dup (pc := 60) C dX10_init_60 rfl ?_
  refine j_callN (pc := 61) (As := []) (rest := [.ref q_14, .ref h0]) (wr := [(h0, .inr (10, [.ref q_1, .ref q_4, .ref q_7, .ref q_10, .ref q_13, .null, .null, .null, .null, .null])), (q_1, .inr (5, [.ref (u_2.1 0), .ref (u_2.1 2), .ref (u_2.1 6), .ref (u_2.1 7), .ref (u_2.1 8), .int 0, .int 0])), ((u_2.1 0), .inr (8, [.ref (u_2.1 1), .int 0, .int 0, .int 0, .int 0, .int 0])), ((u_2.1 1), .inl (cyC, 1000, .inl (fun _ => 0))), ((u_2.1 2), .inr (1, [.int 0, .int 0, .ref (u_2.1 3), .ref (u_2.1 4), .ref (u_2.1 5)])), ((u_2.1 3), .inl (cyI, 1000, .inl (fun _ => 0))), ((u_2.1 4), .inl (cyI, 4, .inl (fun _ => 0))), ((u_2.1 5), .inl (cyI, 32, .inl (fun _ => 0))), ((u_2.1 6), .inl (cyJ, 12, .inr (.inl (fun _ => 0)))), ((u_2.1 7), .inl (cyJ, 4, .inr (.inl (fun _ => 0)))), ((u_2.1 8), .inr (9, [.int 0, .int 0, .int 0, .ref (u_2.1 9), .ref (u_2.1 10), .ref (u_2.1 11), .ref (u_2.1 12), .ref (u_2.1 13), .ref (u_2.1 14), .int 0, .int 0, .ref (u_2.1 15), .ref (u_2.1 16), .ref (u_2.1 17), .ref (u_2.1 18)])), ((u_2.1 9), .inl (cyI, 12, .inl (fun _ => 0))), ((u_2.1 10), .inl (cyI, 12, .inl (fun _ => 0))), ((u_2.1 11), .inl (cyI, 12, .inl (fun _ => 0))), ((u_2.1 12), .inl (cyI, 12, .inl (fun _ => 0))), ((u_2.1 13), .inl (cyI, 12, .inl (fun _ => 0))), ((u_2.1 14), .inl (cyI, 12, .inl (fun _ => 0))), ((u_2.1 15), .inl (cyI, 12, .inl (fun _ => 0))), ((u_2.1 16), .inl (cyI, 4, .inl (fun _ => 0))), ((u_2.1 17), .inl (cyI, 4, .inl (fun _ => 0))), ((u_2.1 18), .inl (cyI, 4, .inl (fun _ => 0))), (q_4, .inr (9, [.int 0, .int 0, .int 0, .ref (u_5.1 0), .ref (u_5.1 1), .ref (u_5.1 2), .ref (u_5.1 3), .ref (u_5.1 4), .ref (u_5.1 5), .int 0, .int 0, .ref (u_5.1 6), .ref (u_5.1 7), .ref (u_5.1 8), .ref (u_5.1 9)])), ((u_5.1 0), .inl (cyI, 12, .inl (fun _ => 0))), ((u_5.1 1), .inl (cyI, 12, .inl (fun _ => 0))), ((u_5.1 2), .inl (cyI, 12, .inl (fun _ => 0))), ((u_5.1 3), .inl (cyI, 12, .inl (fun _ => 0))), ((u_5.1 4), .inl (cyI, 12, .inl (fun _ => 0))), ((u_5.1 5), .inl (cyI, 12, .inl (fun _ => 0))), ((u_5.1 6), .inl (cyI, 12, .inl (fun _ => 0))), ((u_5.1 7), .inl (cyI, 4, .inl (fun _ => 0))), ((u_5.1 8), .inl (cyI, 4, .inl (fun _ => 0))), ((u_5.1 9), .inl (cyI, 4, .inl (fun _ => 0))), (q_7, .inr (7, [.ref (u_8.1 0), .ref (u_8.1 1), .ref (u_8.1 2), .ref (u_8.1 3), .int 0, .int 0, .int 0])), ((u_8.1 0), .inl (cyI, 12, .inl (fun _ => (-1)))), ((u_8.1 1), .inl (cyI, 12, .inl (fun _ => 0))), ((u_8.1 2), .inl (cyI, 12, .inl (fun _ => 0))), ((u_8.1 3), .inl (cyI, 30, .inl (fun _ => 0))), (q_10, .inr (7, [.ref (u_11.1 0), .ref (u_11.1 1), .ref (u_11.1 2), .ref (u_11.1 3), .int 0, .int 0, .int 0])), ((u_11.1 0), .inl (cyI, 12, .inl (fun _ => (-1)))), ((u_11.1 1), .inl (cyI, 12, .inl (fun _ => 0))), ((u_11.1 2), .inl (cyI, 12, .inl (fun _ => 0))), ((u_11.1 3), .inl (cyI, 30, .inl (fun _ => 0))), (q_13, .inl (cyO, 4, .inr (.inr (.inr (.inr (fun _ => none))))))]) C (c_X4_init l D cyC cyI cyJ cyZ cyO q_14) wd_90 wd_89 C.2.2.2.2.2.2.1.2.2.2.2.2.1 wd_91 rfl ⟨by decide, by decide, rfl⟩ rfl ⟨rfl, rfl, by decide, by decide⟩ ⟨by decide, by decide⟩ [43] [0, 1, 2, 3, 4, 5, 6, 7, 8, 9, 10, 11, 12, 13, 14, 15, 16, 17, 18, 19, 20, 21, 22, 23, 24, 25, 26, 27, 28, 29, 30, 31, 32, 33, 34, 35, 36, 37, 38, 39, 40, 41, 42] rfl rfl ⟨by decide, by decide, by decide⟩ rfl (Nat.le_of_ble_eq_true rfl) dX10_init_61 (fun u_15 hw_16 => ?_)
  refine j_eq (ws2 := [(h0, .inr (10, [.ref q_1, .ref q_4, .ref q_7, .ref q_10, .ref q_13, .null, .null, .null, .null, .null])), (q_1, .inr (5, [.ref (u_2.1 0), .ref (u_2.1 2), .ref (u_2.1 6), .ref (u_2.1 7), .ref (u_2.1 8), .int 0, .int 0])), ((u_2.1 0), .inr (8, [.ref (u_2.1 1), .int 0, .int 0, .int 0, .int 0, .int 0])), ((u_2.1 1), .inl (cyC, 1000, .inl (fun _ => 0))), ((u_2.1 2), .inr (1, [.int 0, .int 0, .ref (u_2.1 3), .ref (u_2.1 4), .ref (u_2.1 5)])), ((u_2.1 3), .inl (cyI, 1000, .inl (fun _ => 0))), ((u_2.1 4), .inl (cyI, 4, .inl (fun _ => 0))), ((u_2.1 5), .inl (cyI, 32, .inl (fun _ => 0))), ((u_2.1 6), .inl (cyJ, 12, .inr (.inl (fun _ => 0)))), ((u_2.1 7), .inl (cyJ, 4, .inr (.inl (fun _ => 0)))), ((u_2.1 8), .inr (9, [.int 0, .int 0, .int 0, .ref (u_2.1 9), .ref (u_2.1 10), .ref (u_2.1 11), .ref (u_2.1 12), .ref (u_2.1 13), .ref (u_2.1 14), .int 0, .int 0, .ref (u_2.1 15), .ref (u_2.1 16), .ref (u_2.1 17), .ref (u_2.1 18)])), ((u_2.1 9), .inl (cyI, 12, .inl (fun _ => 0))), ((u_2.1 10), .inl (cyI, 12, .inl (fun _ => 0))), ((u_2.1 11), .inl (cyI, 12, .inl (fun _ => 0))), ((u_2.1 12), .inl (cyI, 12, .inl (fun _ => 0))), ((u_2.1 13), .inl (cyI, 12, .inl (fun _ => 0))), ((u_2.1 14), .inl (cyI, 12, .inl (fun _ => 0))), ((u_2.1 15), .inl (cyI, 12, .inl (fun _ => 0))), ((u_2.1 16), .inl (cyI, 4, .inl (fun _ => 0))), ((u_2.1 17), .inl (cyI, 4, .inl (fun _ => 0))), ((u_2.1 18), .inl (cyI, 4, .inl (fun _ => 0))), (q_4, .inr (9, [.int 0, .int 0, .int 0, .ref (u_5.1 0), .ref (u_5.1 1), .ref (u_5.1 2), .ref (u_5.1 3), .ref (u_5.1 4), .ref (u_5.1 5), .int 0, .int 0, .ref (u_5.1 6), .ref (u_5.1 7), .ref (u_5.1 8), .ref (u_5.1 9)])), ((u_5.1 0), .inl (cyI, 12, .inl (fun _ => 0))), ((u_5.1 1), .inl (cyI, 12, .inl (fun _ => 0))), ((u_5.1 2), .inl (cyI, 12, .inl (fun _ => 0))), ((u_5.1 3), .inl (cyI, 12, .inl (fun _ => 0))), ((u_5.1 4), .inl (cyI, 12, .inl (fun _ => 0))), ((u_5.1 5), .inl (cyI, 12, .inl (fun _ => 0))), ((u_5.1 6), .inl (cyI, 12, .inl (fun _ => 0))), ((u_5.1 7), .inl (cyI, 4, .inl (fun _ => 0))), ((u_5.1 8), .inl (cyI, 4, .inl (fun _ => 0))), ((u_5.1 9), .inl (cyI, 4, .inl (fun _ => 0))), (q_7, .inr (7, [.ref (u_8.1 0), .ref (u_8.1 1), .ref (u_8.1 2), .ref (u_8.1 3), .int 0, .int 0, .int 0])), ((u_8.1 0), .inl (cyI, 12, .inl (fun _ => (-1)))), ((u_8.1 1), .inl (cyI, 12, .inl (fun _ => 0))), ((u_8.1 2), .inl (cyI, 12, .inl (fun _ => 0))), ((u_8.1 3), .inl (cyI, 30, .inl (fun _ => 0))), (q_10, .inr (7, [.ref (u_11.1 0), .ref (u_11.1 1), .ref (u_11.1 2), .ref (u_11.1 3), .int 0, .int 0, .int 0])), ((u_11.1 0), .inl (cyI, 12, .inl (fun _ => (-1)))), ((u_11.1 1), .inl (cyI, 12, .inl (fun _ => 0))), ((u_11.1 2), .inl (cyI, 12, .inl (fun _ => 0))), ((u_11.1 3), .inl (cyI, 30, .inl (fun _ => 0))), (q_13, .inl (cyO, 4, .inr (.inr (.inr (.inr (fun _ => none)))))), (q_14, .inr (4, [.ref (u_15.1 0), .int 0])), ((u_15.1 0), .inl (cyI, 12, .inl (fun _ => 0)))]) (pc2 := 64) (lv2 := [(0, .ref h0)]) (st2 := [.ref q_14, .ref h0]) rfl rfl rfl rfl ?_
  refine j_widen (k := 44) (n := 2456) (by decide) (by decide) ?_
  refine j_putF (pc := 64) (ci := 10) (v := .ref q_14) (ws' := [(h0, .inr (10, [.ref q_1, .ref q_4, .ref q_7, .ref q_10, .ref q_13, .ref q_14, .null, .null, .null, .null])), (q_1, .inr (5, [.ref (u_2.1 0), .ref (u_2.1 2), .ref (u_2.1 6), .ref (u_2.1 7), .ref (u_2.1 8), .int 0, .int 0])), ((u_2.1 0), .inr (8, [.ref (u_2.1 1), .int 0, .int 0, .int 0, .int 0, .int 0])), ((u_2.1 1), .inl (cyC, 1000, .inl (fun _ => 0))), ((u_2.1 2), .inr (1, [.int 0, .int 0, .ref (u_2.1 3), .ref (u_2.1 4), .ref (u_2.1 5)])), ((u_2.1 3), .inl (cyI, 1000, .inl (fun _ => 0))), ((u_2.1 4), .inl (cyI, 4, .inl (fun _ => 0))), ((u_2.1 5), .inl (cyI, 32, .inl (fun _ => 0))), ((u_2.1 6), .inl (cyJ, 12, .inr (.inl (fun _ => 0)))), ((u_2.1 7), .inl (cyJ, 4, .inr (.inl (fun _ => 0)))), ((u_2.1 8), .inr (9, [.int 0, .int 0, .int 0, .ref (u_2.1 9), .ref (u_2.1 10), .ref (u_2.1 11), .ref (u_2.1 12), .ref (u_2.1 13), .ref (u_2.1 14), .int 0, .int 0, .ref (u_2.1 15), .ref (u_2.1 16), .ref (u_2.1 17), .ref (u_2.1 18)])), ((u_2.1 9), .inl (cyI, 12, .inl (fun _ => 0))), ((u_2.1 10), .inl (cyI, 12, .inl (fun _ => 0))), ((u_2.1 11), .inl (cyI, 12, .inl (fun _ => 0))), ((u_2.1 12), .inl (cyI, 12, .inl (fun _ => 0))), ((u_2.1 13), .inl (cyI, 12, .inl (fun _ => 0))), ((u_2.1 14), .inl (cyI, 12, .inl (fun _ => 0))), ((u_2.1 15), .inl (cyI, 12, .inl (fun _ => 0))), ((u_2.1 16), .inl (cyI, 4, .inl (fun _ => 0))), ((u_2.1 17), .inl (cyI, 4, .inl (fun _ => 0))), ((u_2.1 18), .inl (cyI, 4, .inl (fun _ => 0))), (q_4, .inr (9, [.int 0, .int 0, .int 0, .ref (u_5.1 0), .ref (u_5.1 1), .ref (u_5.1 2), .ref (u_5.1 3), .ref (u_5.1 4), .ref (u_5.1 5), .int 0, .int 0, .ref (u_5.1 6), .ref (u_5.1 7), .ref (u_5.1 8), .ref (u_5.1 9)])), ((u_5.1 0), .inl (cyI, 12, .inl (fun _ => 0))), ((u_5.1 1), .inl (cyI, 12, .inl (fun _ => 0))), ((u_5.1 2), .inl (cyI, 12, .inl (fun _ => 0))), ((u_5.1 3), .inl (cyI, 12, .inl (fun _ => 0))), ((u_5.1 4), .inl (cyI, 12, .inl (fun _ => 0))), ((u_5.1 5), .inl (cyI, 12, .inl (fun _ => 0))), ((u_5.1 6), .inl (cyI, 12, .inl (fun _ => 0))), ((u_5.1 7), .inl (cyI, 4, .inl (fun _ => 0))), ((u_5.1 8), .inl (cyI, 4, .inl (fun _ => 0))), ((u_5.1 9), .inl (cyI, 4, .inl (fun _ => 0))), (q_7, .inr (7, [.ref (u_8.1 0), .ref (u_8.1 1), .ref (u_8.1 2), .ref (u_8.1 3), .int 0, .int 0, .int 0])), ((u_8.1 0), .inl (cyI, 12, .inl (fun _ => (-1)))), ((u_8.1 1), .inl (cyI, 12, .inl (fun _ => 0))), ((u_8.1 2), .inl (cyI, 12, .inl (fun _ => 0))), ((u_8.1 3), .inl (cyI, 30, .inl (fun _ => 0))), (q_10, .inr (7, [.ref (u_11.1 0), .ref (u_11.1 1), .ref (u_11.1 2), .ref (u_11.1 3), .int 0, .int 0, .int 0])), ((u_11.1 0), .inl (cyI, 12, .inl (fun _ => (-1)))), ((u_11.1 1), .inl (cyI, 12, .inl (fun _ => 0))), ((u_11.1 2), .inl (cyI, 12, .inl (fun _ => 0))), ((u_11.1 3), .inl (cyI, 30, .inl (fun _ => 0))), (q_13, .inl (cyO, 4, .inr (.inr (.inr (.inr (fun _ => none)))))), (q_14, .inr (4, [.ref (u_15.1 0), .int 0])), ((u_15.1 0), .inl (cyI, 12, .inl (fun _ => 0)))]) C inw_10 0 rfl rfl 5 (by decide) wd_92 rfl tyX10_ok nmX10 rfl hin rfl (tyX10_ok 5 (by decide)) rfl rfl (Nat.le_of_ble_eq_true rfl) dX10_init_64 rfl ?_
  refine j_aload_n (pc := 67) C dX10_init_67 rfl 0 rfl ?_
  refine j_new (pc := 68) (ci := 3) (fs := [.int 0, .null, .null, .int 0, .int 0, .int 0, .null, .null]) C inw_3 tyX3_ok wd_93 wd_94 wd_95 rfl ndX3 (by decide) (by decide) dX10_init_68 (fun q_17 => ?_)
  refine j_widen (k := 45) (n := 2464) (by decide) (by decide) ?_
  refine j_dup (pc := 71) C dX10_init_71 rfl ?_
  refine j_callN (pc := 72) (As := []) (rest := [.ref q_17, .ref h0]) (wr := [(h0, .inr (10, [.ref q_1, .ref q_4, .ref q_7, .ref q_10, .ref q_13, .ref q_14, .null, .null, .null, .null])), (q_1, .inr (5, [.ref (u_2.1 0), .ref (u_2.1 2), .ref (u_2.1 6), .ref (u_2.1 7), .ref (u_2.1 8), .int 0, .int 0])), ((u_2.1 0), .inr (8, [.ref (u_2.1 1), .int 0, .int 0, .int 0, .int 0, .int 0])), ((u_2.1 1), .inl (cyC, 1000, .inl (fun _ => 0))), ((u_2.1 2), .inr (1, [.int 0, .int 0, .ref (u_2.1 3), .ref (u_2.1 4), .ref (u_2.1 5)])), ((u_2.1 3), .inl (cyI, 1000, .inl (fun _ => 0))), ((u_2.1 4), .inl (cyI, 4, .inl (fun _ => 0))), ((u_2.1 5), .inl (cyI, 32, .inl (fun _ => 0))), ((u_2.1 6), .inl (cyJ, 12, .inr (.inl (fun _ => 0)))), ((u_2.1 7), .inl (cyJ, 4, .inr (.inl (fun _ => 0)))), ((u_2.1 8), .inr (9, [.int 0, .int 0, .int 0, .ref (u_2.1 9), .ref (u_2.1 10), .ref (u_2.1 11), .ref (u_2.1 12), .ref (u_2.1 13), .ref (u_2.1 14), .int 0, .int 0, .ref (u_2.1 15), .ref (u_2.1 16), .ref (u_2.1 17), .ref (u_2.1 18)])), ((u_2.1 9), .inl (cyI, 12, .inl (fun _ => 0))), ((u_2.1 10), .inl (cyI, 12, .inl (fun _ => 0))), ((u_2.1 11), .inl (cyI, 12, .inl (fun _ => 0))), ((u_2.1 12), .inl (cyI, 12, .inl (fun _ => 0))), ((u_2.1 13), .inl (cyI, 12, .inl (fun _ => 0))), ((u_2.1 14), .inl (cyI, 12, .inl (fun _ => 0))), ((u_2.1 15), .inl (cyI, 12, .inl (fun _ => 0))), ((u_2.1 16), .inl (cyI, 4, .inl (fun _ => 0))), ((u_2.1 17), .inl (cyI, 4, .inl (fun _ => 0))), ((u_2.1 18), .inl (cyI, 4, .inl (fun _ => 0))), (q_4, .inr (9, [.int 0, .int 0, .int 0, .ref (u_5.1 0), .ref (u_5.1 1), .ref (u_5.1 2), .ref (u_5.1 3), .ref (u_5.1 4), .ref (u_5.1 5), .int 0, .int 0, .ref (u_5.1 6), .ref (u_5.1 7), .ref (u_5.1 8), .ref (u_5.1 9)])), ((u_5.1 0), .inl (cyI, 12, .inl (fun _ => 0))), ((u_5.1 1), .inl (cyI, 12, .inl (fun _ => 0))), ((u_5.1 2), .inl (cyI, 12, .inl (fun _ => 0))), ((u_5.1 3), .inl (cyI, 12, .inl (fun _ => 0))), ((u_5.1 4), .inl (cyI, 12, .inl (fun _ => 0))), ((u_5.1 5), .inl (cyI, 12, .inl (fun _ => 0))), ((u_5.1 6), .inl (cyI, 12, .inl (fun _ => 0))), ((u_5.1 7), .inl (cyI, 4, .inl (fun _ => 0))), ((u_5.1 8), .inl (cyI, 4, .inl (fun _ => 0))), ((u_5.1 9), .inl (cyI, 4, .inl (fun _ => 0))), (q_7, .inr (7, [.ref (u_8.1 0), .ref (u_8.1 1), .ref (u_8.1 2), .ref (u_8.1 3), .int 0, .int 0, .int 0])), ((u_8.1 0), .inl (cyI, 12, .inl (fun _ => (-1)))), ((u_8.1 1), .inl (cyI, 12, .inl (fun _ => 0))), ((u_8.1 2), .inl (cyI, 12, .inl (fun _ => 0))), ((u_8.1 3), .inl (cyI, 30, .inl (fun _ => 0))), (q_10, .inr (7, [.ref (u_11.1 0), .ref (u_11.1 1), .ref (u_11.1 2), .ref (u_11.1 3), .int 0, .int 0, .int 0])), ((u_11.1 0), .inl (cyI, 12, .inl (fun _ => (-1)))), ((u_11.1 1), .inl (cyI, 12, .inl (fun _ => 0))), ((u_11.1 2), .inl (cyI, 12, .inl (fun _ => 0))), ((u_11.1 3), .inl (cyI, 30, .inl (fun _ => 0))), (q_13, .inl (cyO, 4, .inr (.inr (.inr (.inr (fun _ => none)))))), (q_14, .inr (4, [.ref (u_15.1 0), .int 0])), ((u_15.1 0), .inl (cyI, 12, .inl (fun _ => 0)))]) C (c_X3_init l D cyC cyI cyJ cyZ cyO q_17) wd_96 wd_95 C.2.2.2.2.2.2.1.2.2.2.2.2.2.1 wd_97 rfl ⟨by decide, by decide, rfl⟩ rfl ⟨rfl, rfl, by decide, by decide⟩ ⟨by decide, by decide⟩ [45] [0, 1, 2, 3, 4, 5, 6, 7, 8, 9, 10, 11, 12, 13, 14, 15, 16, 17, 18, 19, 20, 21, 22, 23, 24, 25, 26, 27, 28, 29, 30, 31, 32, 33, 34, 35, 36, 37, 38, 39, 40, 41, 42, 43, 44] rfl rfl ⟨by decide, by decide, by decide⟩ rfl (Nat.le_of_ble_eq_true rfl) dX10_init_72 (fun u_18 hw_19 => ?_)
  refine j_eq (ws2 := [(h0, .inr (10, [.ref q_1, .ref q_4, .ref q_7, .ref q_10, .ref q_13, .ref q_14, .null, .null, .null, .null])), (q_1, .inr (5, [.ref (u_2.1 0), .ref (u_2.1 2), .ref (u_2.1 6), .ref (u_2.1 7), .ref (u_2.1 8), .int 0, .int 0])), ((u_2.1 0), .inr (8, [.ref (u_2.1 1), .int 0, .int 0, .int 0, .int 0, .int 0])), ((u_2.1 1), .inl (cyC, 1000, .inl (fun _ => 0))), ((u_2.1 2), .inr (1, [.int 0, .int 0, .ref (u_2.1 3), .ref (u_2.1 4), .ref (u_2.1 5)])), ((u_2.1 3), .inl (cyI, 1000, .inl (fun _ => 0))), ((u_2.1 4), .inl (cyI, 4, .inl (fun _ => 0))), ((u_2.1 5), .inl (cyI, 32, .inl (fun _ => 0))), ((u_2.1 6), .inl (cyJ, 12, .inr (.inl (fun _ => 0)))), ((u_2.1 7), .inl (cyJ, 4, .inr (.inl (fun _ => 0)))), ((u_2.1 8), .inr (9, [.int 0, .int 0, .int 0, .ref (u_2.1 9), .ref (u_2.1 10), .ref (u_2.1 11), .ref (u_2.1 12), .ref (u_2.1 13), .ref (u_2.1 14), .int 0, .int 0, .ref (u_2.1 15), .ref (u_2.1 16), .ref (u_2.1 17), .ref (u_2.1 18)])), ((u_2.1 9), .inl (cyI, 12, .inl (fun _ => 0))), ((u_2.1 10), .inl (cyI, 12, .inl (fun _ => 0))), ((u_2.1 11), .inl (cyI, 12, .inl (fun _ => 0))), ((u_2.1 12), .inl (cyI, 12, .inl (fun _ => 0))), ((u_2.1 13), .inl (cyI, 12, .inl (fun _ => 0))), ((u_2.1 14), .inl (cyI, 12, .inl (fun _ => 0))), ((u_2.1 15), .inl (cyI, 12, .inl (fun _ => 0))), ((u_2.1 16), .inl (cyI, 4, .inl (fun _ => 0))), ((u_2.1 17), .inl (cyI, 4, .inl (fun _ => 0))), ((u_2.1 18), .inl (cyI, 4, .inl (fun _ => 0))), (q_4, .inr (9, [.int 0, .int 0, .int 0, .ref (u_5.1 0), .ref (u_5.1 1), .ref (u_5.1 2), .ref (u_5.1 3), .ref (u_5.1 4), .ref (u_5.1 5), .int 0, .int 0, .ref (u_5.1 6), .ref (u_5.1 7), .ref (u_5.1 8), .ref (u_5.1 9)])), ((u_5.1 0), .inl (cyI, 12, .inl (fun _ => 0))), ((u_5.1 1), .inl (cyI, 12, .inl (fun _ => 0))), ((u_5.1 2), .inl (cyI, 12, .inl (fun _ => 0))), ((u_5.1 3), .inl (cyI, 12, .inl (fun _ => 0))), ((u_5.1 4), .inl (cyI, 12, .inl (fun _ => 0))), ((u_5.1 5), .inl (cyI, 12, .inl (fun _ => 0))), ((u_5.1 6), .inl (cyI, 12, .inl (fun _ => 0))), ((u_5.1 7), .inl (cyI, 4, .inl (fun _ => 0))), ((u_5.1 8), .inl (cyI, 4, .inl (fun _ => 0))), ((u_5.1 9), .inl (cyI, 4, .inl (fun _ => 0))), (q_7, .inr (7, [.ref (u_8.1 0), .ref (u_8.1 1), .ref (u_8.1 2), .ref (u_8.1 3), .int 0, .int 0, .int 0])), ((u_8.1 0), .inl (cyI, 12, .inl (fun _ => (-1)))), ((u_8.1 1), .inl (cyI, 12, .inl (fun _ => 0))), ((u_8.1 2), .inl (cyI, 12, .inl (fun _ => 0))), ((u_8.1 3), .inl (cyI, 30, .inl (fun _ => 0))), (q_10, .inr (7, [.ref (u_11.1 0), .ref (u_11.1 1), .ref (u_11.1 2), .ref (u_11.1 3), .int 0, .int 0, .int 0])), ((u_11.1 0), .inl (cyI, 12, .inl (fun _ => (-1)))), ((u_11.1 1), .inl (cyI, 12, .inl (fun _ => 0))), ((u_11.1 2), .inl (cyI, 12, .inl (fun _ => 0))), ((u_11.1 3), .inl (cyI, 30, .inl (fun _ => 0))), (q_13, .inl (cyO, 4, .inr (.inr (.inr (.inr (fun _ => none)))))), (q_14, .inr (4, [.ref (u_15.1 0), .int 0])), ((u_15.1 0), .inl (cyI, 12, .inl (fun _ => 0))), (q_17, .inr (3, [.int 0, .ref (u_18.1 0), .ref (u_18.1 1), .int 0, .int 0, .int 0, .ref (u_18.1 2), .ref (u_18.1 3)])), ((u_18.1 0), .inl (cyI, 12, .inl (fun _ => 0))), ((u_18.1 1), .inl (cyI, 12, .inl (fun _ => 0))), ((u_18.1 2), .inl (cyI, 12, .inl (fun _ => 0))), ((u_18.1 3), .inl (cyI, 12, .inl (fun _ => 0)))]) (pc2 := 75) (lv2 := [(0, .ref h0)]) (st2 := [.ref q_17, .ref h0]) rfl rfl rfl rfl ?_
  refine j_widen (k := 49) (n := 2512) (by decide) (by decide) ?_
  refine j_putF (pc := 75) (ci := 10) (v := .ref q_17) (ws' := [(h0, .inr (10, [.ref q_1, .ref q_4, .ref q_7, .ref q_10, .ref q_13, .ref q_14, .ref q_17, .null, .null, .null])), (q_1, .inr (5, [.ref (u_2.1 0), .ref (u_2.1 2), .ref (u_2.1 6), .ref (u_2.1 7), .ref (u_2.1 8), .int 0, .int 0])), ((u_2.1 0), .inr (8, [.ref (u_2.1 1), .int 0, .int 0, .int 0, .int 0, .int 0])), ((u_2.1 1), .inl (cyC, 1000, .inl (fun _ => 0))), ((u_2.1 2), .inr (1, [.int 0, .int 0, .ref (u_2.1 3), .ref (u_2.1 4), .ref (u_2.1 5)])), ((u_2.1 3), .inl (cyI, 1000, .inl (fun _ => 0))), ((u_2.1 4), .inl (cyI, 4, .inl (fun _ => 0))), ((u_2.1 5), .inl (cyI, 32, .inl (fun _ => 0))), ((u_2.1 6), .inl (cyJ, 12, .inr (.inl (fun _ => 0)))), ((u_2.1 7), .inl (cyJ, 4, .inr (.inl (fun _ => 0)))), ((u_2.1 8), .inr (9, [.int 0, .int 0, .int 0, .ref (u_2.1 9), .ref (u_2.1 10), .ref (u_2.1 11), .ref (u_2.1 12), .ref (u_2.1 13), .ref (u_2.1 14), .int 0, .int 0, .ref (u_2.1 15), .ref (u_2.1 16), .ref (u_2.1 17), .ref (u_2.1 18)])), ((u_2.1 9), .inl (cyI, 12, .inl (fun _ => 0))), ((u_2.1 10), .inl (cyI, 12, .inl (fun _ => 0))), ((u_2.1 11), .inl (cyI, 12, .inl (fun _ => 0))), ((u_2.1 12), .inl (cyI, 12, .inl (fun _ => 0))), ((u_2.1 13), .inl (cyI, 12, .inl (fun _ => 0))), ((u_2.1 14), .inl (cyI, 12, .inl (fun _ => 0))), ((u_2.1 15), .inl (cyI, 12, .inl (fun _ => 0))), ((u_2.1 16), .inl (cyI, 4, .inl (fun _ => 0))), ((u_2.1 17), .inl (cyI, 4, .inl (fun _ => 0))), ((u_2.1 18), .inl (cyI, 4, .inl (fun _ => 0))), (q_4, .inr (9, [.int 0, .int 0, .int 0, .ref (u_5.1 0), .ref (u_5.1 1), .ref (u_5.1 2), .ref (u_5.1 3), .ref (u_5.1 4), .ref (u_5.1 5), .int 0, .int 0, .ref (u_5.1 6), .ref (u_5.1 7), .ref (u_5.1 8), .ref (u_5.1 9)])), ((u_5.1 0), .inl (cyI, 12, .inl (fun _ => 0))), ((u_5.1 1), .inl (cyI, 12, .inl (fun _ => 0))), ((u_5.1 2), .inl (cyI, 12, .inl (fun _ => 0))), ((u_5.1 3), .inl (cyI, 12, .inl (fun _ => 0))), ((u_5.1 4), .inl (cyI, 12, .inl (fun _ => 0))), ((u_5.1 5), .inl (cyI, 12, .inl (fun _ => 0))), ((u_5.1 6), .inl (cyI, 12, .inl (fun _ => 0))), ((u_5.1 7), .inl (cyI, 4, .inl (fun _ => 0))), ((u_5.1 8), .inl (cyI, 4, .inl (fun _ => 0))), ((u_5.1 9), .inl (cyI, 4, .inl (fun _ => 0))), (q_7, .inr (7, [.ref (u_8.1 0), .ref (u_8.1 1), .ref (u_8.1 2), .ref (u_8.1 3), .int 0, .int 0, .int 0])), ((u_8.1 0), .inl (cyI, 12, .inl (fun _ => (-1)))), ((u_8.1 1), .inl (cyI, 12, .inl (fun _ => 0))), ((u_8.1 2), .inl (cyI, 12, .inl (fun _ => 0))), ((u_8.1 3), .inl (cyI, 30, .inl (fun _ => 0))), (q_10, .inr (7, [.ref (u_11.1 0), .ref (u_11.1 1), .ref (u_11.1 2), .ref (u_11.1 3), .int 0, .int 0, .int 0])), ((u_11.1 0), .inl (cyI, 12, .inl (fun _ => (-1)))), ((u_11.1 1), .inl (cyI, 12, .inl (fun _ => 0))), ((u_11.1 2), .inl (cyI, 12, .inl (fun _ => 0))), ((u_11.1 3), .inl (cyI, 30, .inl (fun _ => 0))), (q_13, .inl (cyO, 4, .inr (.inr (.inr (.inr (fun _ => none)))))), (q_14, .inr (4, [.ref (u_15.1 0), .int 0])), ((u_15.1 0), .inl (cyI, 12, .inl (fun _ => 0))), (q_17, .inr (3, [.int 0, .ref (u_18.1 0), .ref (u_18.1 1), .int 0, .int 0, .int 0, .ref (u_18.1 2), .ref (u_18.1 3)])), ((u_18.1 0), .inl (cyI, 12, .inl (fun _ => 0))), ((u_18.1 1), .inl (cyI, 12, .inl (fun _ => 0))), ((u_18.1 2), .inl (cyI, 12, .inl (fun _ => 0))), ((u_18.1 3), .inl (cyI, 12, .inl (fun _ => 0)))]) C inw_10 0 rfl rfl 6 (by decide) wd_98 rfl tyX10_ok nmX10 rfl hin rfl (tyX10_ok 6 (by decide)) rfl rfl (Nat.le_of_ble_eq_true rfl) dX10_init_75 rfl ?_
  refine j_aload_n (pc := 78) C dX10_init_78 rfl 0 rfl ?_
  refine j_new (pc := 79) (ci := 0) (fs := [.int 0, .int 0, .null, .null, .null]) C inw_0 tyX0_ok wd_99 wd_100 wd_101 rfl ndX0 (by decide) (by decide) dX10_init_79 (fun q_20 => ?_)
  refine j_widen (k := 50) (n := 2517) (by decide) (by decide) ?_
  refine j_dup (pc := 82) C dX10_init_82 rfl ?_
  refine j_callN (pc := 83) (As := []) (rest := [.ref q_20, .ref h0]) (wr := [(h0, .inr (10, [.ref q_1, .ref q_4, .ref q_7, .ref q_10, .ref q_13, .ref q_14, .ref q_17, .null, .null, .null])), (q_1, .inr (5, [.ref (u_2.1 0), .ref (u_2.1 2), .ref (u_2.1 6), .ref (u_2.1 7), .ref (u_2.1 8), .int 0, .int 0])), ((u_2.1 0), .inr (8, [.ref (u_2.1 1), .int 0, .int 0, .int 0, .int 0, .int 0])), ((u_2.1 1), .inl (cyC, 1000, .inl (fun _ => 0))), ((u_2.1 2), .inr (1, [.int 0, .int 0, .ref (u_2.1 3), .ref (u_2.1 4), .ref (u_2.1 5)])), ((u_2.1 3), .inl (cyI, 1000, .inl (fun _ => 0))), ((u_2.1 4), .inl (cyI, 4, .inl (fun _ => 0))), ((u_2.1 5), .inl (cyI, 32, .inl (fun _ => 0))), ((u_2.1 6), .inl (cyJ, 12, .inr (.inl (fun _ => 0)))), ((u_2.1 7), .inl (cyJ, 4, .inr (.inl (fun _ => 0)))), ((u_2.1 8), .inr (9, [.int 0, .int 0, .int 0, .ref (u_2.1 9), .ref (u_2.1 10), .ref (u_2.1 11), .ref (u_2.1 12), .ref (u_2.1 13), .ref (u_2.1 14), .int 0, .int 0, .ref (u_2.1 15), .ref (u_2.1 16), .ref (u_2.1 17), .ref (u_2.1 18)])), ((u_2.1 9), .inl (cyI, 12, .inl (fun _ => 0))), ((u_2.1 10), .inl (cyI, 12, .inl (fun _ => 0))), ((u_2.1 11), .inl (cyI, 12, .inl (fun _ => 0))), ((u_2.1 12), .inl (cyI, 12, .inl (fun _ => 0))), ((u_2.1 13), .inl (cyI, 12, .inl (fun _ => 0))), ((u_2.1 14), .inl (cyI, 12, .inl (fun _ => 0))), ((u_2.1 15), .inl (cyI, 12, .inl (fun _ => 0))), ((u_2.1 16), .inl (cyI, 4, .inl (fun _ => 0))), ((u_2.1 17), .inl (cyI, 4, .inl (fun _ => 0))), ((u_2.1 18), .inl (cyI, 4, .inl (fun _ => 0))), (q_4, .inr (9, [.int 0, .int 0, .int 0, .ref (u_5.1 0), .ref (u_5.1 1), .ref (u_5.1 2), .ref (u_5.1 3), .ref (u_5.1 4), .ref (u_5.1 5), .int 0, .int 0, .ref (u_5.1 6), .ref (u_5.1 7), .ref (u_5.1 8), .ref (u_5.1 9)])), ((u_5.1 0), .inl (cyI, 12, .inl (fun _ => 0))), ((u_5.1 1), .inl (cyI, 12, .inl (fun _ => 0))), ((u_5.1 2), .inl (cyI, 12, .inl (fun _ => 0))), ((u_5.1 3), .inl (cyI, 12, .inl (fun _ => 0))), ((u_5.1 4), .inl (cyI, 12, .inl (fun _ => 0))), ((u_5.1 5), .inl (cyI, 12, .inl (fun _ => 0))), ((u_5.1 6), .inl (cyI, 12, .inl (fun _ => 0))), ((u_5.1 7), .inl (cyI, 4, .inl (fun _ => 0))), ((u_5.1 8), .inl (cyI, 4, .inl (fun _ => 0))), ((u_5.1 9), .inl (cyI, 4, .inl (fun _ => 0))), (q_7, .inr (7, [.ref (u_8.1 0), .ref (u_8.1 1), .ref (u_8.1 2), .ref (u_8.1 3), .int 0, .int 0, .int 0])), ((u_8.1 0), .inl (cyI, 12, .inl (fun _ => (-1)))), ((u_8.1 1), .inl (cyI, 12, .inl (fun _ => 0))), ((u_8.1 2), .inl (cyI, 12, .inl (fun _ => 0))), ((u_8.1 3), .inl (cyI, 30, .inl (fun _ => 0))), (q_10, .inr (7, [.ref (u_11.1 0), .ref (u_11.1 1), .ref (u_11.1 2), .ref (u_11.1 3), .int 0, .int 0, .int 0])), ((u_11.1 0), .inl (cyI, 12, .inl (fun _ => (-1)))), ((u_11.1 1), .inl (cyI, 12, .inl (fun _ => 0))), ((u_11.1 2), .inl (cyI, 12, .inl (fun _ => 0))), ((u_11.1 3), .inl (cyI, 30, .inl (fun _ => 0))), (q_13, .inl (cyO, 4, .inr (.inr (.inr (.inr (fun _ => none)))))), (q_14, .inr (4, [.ref (u_15.1 0), .int 0])), ((u_15.1 0), .inl (cyI, 12, .inl (fun _ => 0))), (q_17, .inr (3, [.int 0, .ref (u_18.1 0), .ref (u_18.1 1), .int 0, .int 0, .int 0, .ref (u_18.1 2), .ref (u_18.1 3)])), ((u_18.1 0), .inl (cyI, 12, .inl (fun _ => 0))), ((u_18.1 1), .inl (cyI, 12, .inl (fun _ => 0))), ((u_18.1 2), .inl (cyI, 12, .inl (fun _ => 0))), ((u_18.1 3), .inl (cyI, 12, .inl (fun _ => 0)))]) C (c_X0_init l D cyC cyI cyJ cyZ cyO q_20) wd_102 wd_101 C.2.2.2.2.2.2.1.2.2.2.2.2.2.2.1 wd_103 rfl ⟨by decide, by decide, rfl⟩ rfl ⟨rfl, rfl, by decide, by decide⟩ ⟨by decide, by decide⟩ [50] [0, 1, 2, 3, 4, 5, 6, 7, 8, 9, 10, 11, 12, 13, 14, 15, 16, 17, 18, 19, 20, 21, 22, 23, 24, 25, 26, 27, 28, 29, 30, 31, 32, 33, 34, 35, 36, 37, 38, 39, 40, 41, 42, 43, 44, 45, 46, 47, 48, 49] rfl rfl ⟨by decide, by decide, by decide⟩ rfl (Nat.le_of_ble_eq_true rfl) dX10_init_83 (fun u_21 hw_22 => ?_)
  refine j_eq (ws2 := [(h0, .inr (10, [.ref q_1, .ref q_4, .ref q_7, .ref q_10, .ref q_13, .ref q_14, .ref q_17, .null, .null, .null])), (q_1, .inr (5, [.ref (u_2.1 0), .ref (u_2.1 2), .ref (u_2.1 6), .ref (u_2.1 7), .ref (u_2.1 8), .int 0, .int 0])), ((u_2.1 0), .inr (8, [.ref (u_2.1 1), .int 0, .int 0, .int 0, .int 0, .int 0])), ((u_2.1 1), .inl (cyC, 1000, .inl (fun _ => 0))), ((u_2.1 2), .inr (1, [.int 0, .int 0, .ref (u_2.1 3), .ref (u_2.1 4), .ref (u_2.1 5)])), ((u_2.1 3), .inl (cyI, 1000, .inl (fun _ => 0))), ((u_2.1 4), .inl (cyI, 4, .inl (fun _ => 0))), ((u_2.1 5), .inl (cyI, 32, .inl (fun _ => 0))), ((u_2.1 6), .inl (cyJ, 12, .inr (.inl (fun _ => 0)))), ((u_2.1 7), .inl (cyJ, 4, .inr (.inl (fun _ => 0)))), ((u_2.1 8), .inr (9, [.int 0, .int 0, .int 0, .ref (u_2.1 9), .ref (u_2.1 10), .ref (u_2.1 11), .ref (u_2.1 12), .ref (u_2.1 13), .ref (u_2.1 14), .int 0, .int 0, .ref (u_2.1 15), .ref (u_2.1 16), .ref (u_2.1 17), .ref (u_2.1 18)])), ((u_2.1 9), .inl (cyI, 12, .inl (fun _ => 0))), ((u_2.1 10), .inl (cyI, 12, .inl (fun _ => 0))), ((u_2.1 11), .inl (cyI, 12, .inl (fun _ => 0))), ((u_2.1 12), .inl (cyI, 12, .inl (fun _ => 0))), ((u_2.1 13), .inl (cyI, 12, .inl (fun _ => 0))), ((u_2.1 14), .inl (cyI, 12, .inl (fun _ => 0))), ((u_2.1 15), .inl (cyI, 12, .inl (fun _ => 0))), ((u_2.1 16), .inl (cyI, 4, .inl (fun _ => 0))), ((u_2.1 17), .inl (cyI, 4, .inl (fun _ => 0))), ((u_2.1 18), .inl (cyI, 4, .inl (fun _ => 0))), (q_4, .inr (9, [.int 0, .int 0, .int 0, .ref (u_5.1 0), .ref (u_5.1 1), .ref (u_5.1 2), .ref (u_5.1 3), .ref (u_5.1 4), .ref (u_5.1 5), .int 0, .int 0, .ref (u_5.1 6), .ref (u_5.1 7), .ref (u_5.1 8), .ref (u_5.1 9)])), ((u_5.1 0), .inl (cyI, 12, .inl (fun _ => 0))), ((u_5.1 1), .inl (cyI, 12, .inl (fun _ => 0))), ((u_5.1 2), .inl (cyI, 12, .inl (fun _ => 0))), ((u_5.1 3), .inl (cyI, 12, .inl (fun _ => 0))), ((u_5.1 4), .inl (cyI, 12, .inl (fun _ => 0))), ((u_5.1 5), .inl (cyI, 12, .inl (fun _ => 0))), ((u_5.1 6), .inl (cyI, 12, .inl (fun _ => 0))), ((u_5.1 7), .inl (cyI, 4, .inl (fun _ => 0))), ((u_5.1 8), .inl (cyI, 4, .inl (fun _ => 0))), ((u_5.1 9), .inl (cyI, 4, .inl (fun _ => 0))), (q_7, .inr (7, [.ref (u_8.1 0), .ref (u_8.1 1), .ref (u_8.1 2), .ref (u_8.1 3), .int 0, .int 0, .int 0])), ((u_8.1 0), .inl (cyI, 12, .inl (fun _ => (-1)))), ((u_8.1 1), .inl (cyI, 12, .inl (fun _ => 0))), ((u_8.1 2), .inl (cyI, 12, .inl (fun _ => 0))), ((u_8.1 3), .inl (cyI, 30, .inl (fun _ => 0))), (q_10, .inr (7, [.ref (u_11.1 0), .ref (u_11.1 1), .ref (u_11.1 2), .ref (u_11.1 3), .int 0, .int 0, .int 0])), ((u_11.1 0), .inl (cyI, 12, .inl (fun _ => (-1)))), ((u_11.1 1), .inl (cyI, 12, .inl (fun _ => 0))), ((u_11.1 2), .inl (cyI, 12, .inl (fun _ => 0))), ((u_11.1 3), .inl (cyI, 30, .inl (fun _ => 0))), (q_13, .inl (cyO, 4, .inr (.inr (.inr (.inr (fun _ => none)))))), (q_14, .inr (4, [.ref (u_15.1 0), .int 0])), ((u_15.1 0), .inl (cyI, 12, .inl (fun _ => 0))), (q_17, .inr (3, [.int 0, .ref (u_18.1 0), .ref (u_18.1 1), .int 0, .int 0, .int 0, .ref (u_18.1 2), .ref (u_18.1 3)])), ((u_18.1 0), .inl (cyI, 12, .inl (fun _ => 0))), ((u_18.1 1), .inl (cyI, 12, .inl (fun _ => 0))), ((u_18.1 2), .inl (cyI, 12, .inl (fun _ => 0))), ((u_18.1 3), .inl (cyI, 12, .inl (fun _ => 0))), (q_20, .inr (0, [.int 0, .int 0, .ref (u_21.1 0), .ref (u_21.1 1), .ref (u_21.1 2)])), ((u_21.1 0), .inl (cyI, 0, .inl (fun _ => 0))), ((u_21.1 1), .inl (cyI, 0, .inl (fun _ => 0))), ((u_21.1 2), .inl (cyI, 0, .inl (fun _ => 0)))]) (pc2 := 86) (lv2 := [(0, .ref h0)]) (st2 := [.ref q_20, .ref h0]) rfl rfl rfl rfl ?_
  refine j_widen (k := 53) (n := 2517) (by decide) (by decide) ?_
  refine j_putF (pc := 86) (ci := 10) (v := .ref q_20) (ws' := [(h0, .inr (10, [.ref q_1, .ref q_4, .ref q_7, .ref q_10, .ref q_13, .ref q_14, .ref q_17, .ref q_20, .null, .null])), (q_1, .inr (5, [.ref (u_2.1 0), .ref (u_2.1 2), .ref (u_2.1 6), .ref (u_2.1 7), .ref (u_2.1 8), .int 0, .int 0])), ((u_2.1 0), .inr (8, [.ref (u_2.1 1), .int 0, .int 0, .int 0, .int 0, .int 0])), ((u_2.1 1), .inl (cyC, 1000, .inl (fun _ => 0))), ((u_2.1 2), .inr (1, [.int 0, .int 0, .ref (u_2.1 3), .ref (u_2.1 4), .ref (u_2.1 5)])), ((u_2.1 3), .inl (cyI, 1000, .inl (fun _ => 0))), ((u_2.1 4), .inl (cyI, 4, .inl (fun _ => 0))), ((u_2.1 5), .inl (cyI, 32, .inl (fun _ => 0))), ((u_2.1 6), .inl (cyJ, 12, .inr (.inl (fun _ => 0)))), ((u_2.1 7), .inl (cyJ, 4, .inr (.inl (fun _ => 0)))), ((u_2.1 8), .inr (9, [.int 0, .int 0, .int 0, .ref (u_2.1 9), .ref (u_2.1 10), .ref (u_2.1 11), .ref (u_2.1 12), .ref (u_2.1 13), .ref (u_2.1 14), .int 0, .int 0, .ref (u_2.1 15), .ref (u_2.1 16), .ref (u_2.1 17), .ref (u_2.1 18)])), ((u_2.1 9), .inl (cyI, 12, .inl (fun _ => 0))), ((u_2.1 10), .inl (cyI, 12, .inl (fun _ => 0))), ((u_2.1 11), .inl (cyI, 12, .inl (fun _ => 0))), ((u_2.1 12), .inl (cyI, 12, .inl (fun _ => 0))), ((u_2.1 13), .inl (cyI, 12, .inl (fun _ => 0))), ((u_2.1 14), .inl (cyI, 12, .inl (fun _ => 0))), ((u_2.1 15), .inl (cyI, 12, .inl (fun _ => 0))), ((u_2.1 16), .inl (cyI, 4, .inl (fun _ => 0))), ((u_2.1 17), .inl (cyI, 4, .inl (fun _ => 0))), ((u_2.1 18), .inl (cyI, 4, .inl (fun _ => 0))), (q_4, .inr (9, [.int 0, .int 0, .int 0, .ref (u_5.1 0), .ref (u_5.1 1), .ref (u_5.1 2), .ref (u_5.1 3), .ref (u_5.1 4), .ref (u_5.1 5), .int 0, .int 0, .ref (u_5.1 6), .ref (u_5.1 7), .ref (u_5.1 8), .ref (u_5.1 9)])), ((u_5.1 0), .inl (cyI, 12, .inl (fun _ => 0))), ((u_5.1 1), .inl (cyI, 12, .inl (fun _ => 0))), ((u_5.1 2), .inl (cyI, 12, .inl (fun _ => 0))), ((u_5.1 3), .inl (cyI, 12, .inl (fun _ => 0))), ((u_5.1 4), .inl (cyI, 12, .inl (fun _ => 0))), ((u_5.1 5), .inl (cyI, 12, .inl (fun _ => 0))), ((u_5.1 6), .inl (cyI, 12, .inl (fun _ => 0))), ((u_5.1 7), .inl (cyI, 4, .inl (fun _ => 0))), ((u_5.1 8), .inl (cyI, 4, .inl (fun _ => 0))), ((u_5.1 9), .inl (cyI, 4, .inl (fun _ => 0))), (q_7, .inr (7, [.ref (u_8.1 0), .ref (u_8.1 1), .ref (u_8.1 2), .ref (u_8.1 3), .int 0, .int 0, .int 0])), ((u_8.1 0), .inl (cyI, 12, .inl (fun _ => (-1)))), ((u_8.1 1), .inl (cyI, 12, .inl (fun _ => 0))), ((u_8.1 2), .inl (cyI, 12, .inl (fun _ => 0))), ((u_8.1 3), .inl (cyI, 30, .inl (fun _ => 0))), (q_10, .inr (7, [.ref (u_11.1 0), .ref (u_11.1 1), .ref (u_11.1 2), .ref (u_11.1 3), .int 0, .int 0, .int 0])), ((u_11.1 0), .inl (cyI, 12, .inl (fun _ => (-1)))), ((u_11.1 1), .inl (cyI, 12, .inl (fun _ => 0))), ((u_11.1 2), .inl (cyI, 12, .inl (fun _ => 0))), ((u_11.1 3), .inl (cyI, 30, .inl (fun _ => 0))), (q_13, .inl (cyO, 4, .inr (.inr (.inr (.inr (fun _ => none)))))), (q_14, .inr (4, [.ref (u_15.1 0), .int 0])), ((u_15.1 0), .inl (cyI, 12, .inl (fun _ => 0))), (q_17, .inr (3, [.int 0, .ref (u_18.1 0), .ref (u_18.1 1), .int 0, .int 0, .int 0, .ref (u_18.1 2), .ref (u_18.1 3)])), ((u_18.1 0), .inl (cyI, 12, .inl (fun _ => 0))), ((u_18.1 1), .inl (cyI, 12, .inl (fun _ => 0))), ((u_18.1 2), .inl (cyI, 12, .inl (fun _ => 0))), ((u_18.1 3), .inl (cyI, 12, .inl (fun _ => 0))), (q_20, .inr (0, [.int 0, .int 0, .ref (u_21.1 0), .ref (u_21.1 1), .ref (u_21.1 2)])), ((u_21.1 0), .inl (cyI, 0, .inl (fun _ => 0))), ((u_21.1 1), .inl (cyI, 0, .inl (fun _ => 0))), ((u_21.1 2), .inl (cyI, 0, .inl (fun _ => 0)))]) C inw_10 0 rfl rfl 7 (by decide) wd_104 rfl tyX10_ok nmX10 rfl hin rfl (tyX10_ok 7 (by decide)) rfl rfl (Nat.le_of_ble_eq_true rfl) dX10_init_86 rfl ?_
  refine j_aload_n (pc := 89) C dX10_init_89 rfl 0 rfl ?_
  refine j_new (pc := 90) (ci := 6) (fs := [.null, .int 0, .int 0, .int 0, .int 0, .int 0, .null, .null]) C inw_6 tyX6_ok wd_105 wd_106 wd_107 rfl ndX6 (by decide) (by decide) dX10_init_90 (fun q_23 => ?_)
  refine j_widen (k := 54) (n := 2525) (by decide) (by decide) ?_
  refine j_dup (pc := 93) C dX10_init_93 rfl ?_
  refine j_callN (pc := 94) (As := []) (rest := [.ref q_23, .ref h0]) (wr := [(h0, .inr (10, [.ref q_1, .ref q_4, .ref q_7, .ref q_10, .ref q_13, .ref q_14, .ref q_17, .ref q_20, .null, .null])), (q_1, .inr (5, [.ref (u_2.1 0), .ref (u_2.1 2), .ref (u_2.1 6), .ref (u_2.1 7), .ref (u_2.1 8), .int 0, .int 0])), ((u_2.1 0), .inr (8, [.ref (u_2.1 1), .int 0, .int 0, .int 0, .int 0, .int 0])), ((u_2.1 1), .inl (cyC, 1000, .inl (fun _ => 0))), ((u_2.1 2), .inr (1, [.int 0, .int 0, .ref (u_2.1 3), .ref (u_2.1 4), .ref (u_2.1 5)])), ((u_2.1 3), .inl (cyI, 1000, .inl (fun _ => 0))), ((u_2.1 4), .inl (cyI, 4, .inl (fun _ => 0))), ((u_2.1 5), .inl (cyI, 32, .inl (fun _ => 0))), ((u_2.1 6), .inl (cyJ, 12, .inr (.inl (fun _ => 0)))), ((u_2.1 7), .inl (cyJ, 4, .inr (.inl (fun _ => 0)))), ((u_2.1 8), .inr (9, [.int 0, .int 0, .int 0, .ref (u_2.1 9), .ref (u_2.1 10), .ref (u_2.1 11), .ref (u_2.1 12), .ref (u_2.1 13), .ref (u_2.1 14), .int 0, .int 0, .ref (u_2.1 15), .ref (u_2.1 16), .ref (u_2.1 17), .ref (u_2.1 18)])), ((u_2.1 9), .inl (cyI, 12, .inl (fun _ => 0))), ((u_2.1 10), .inl (cyI, 12, .inl (fun _ => 0))), ((u_2.1 11), .inl (cyI, 12, .inl (fun _ => 0))), ((u_2.1 12), .inl (cyI, 12, .inl (fun _ => 0))), ((u_2.1 13), .inl (cyI, 12, .inl (fun _ => 0))), ((u_2.1 14), .inl (cyI, 12, .inl (fun _ => 0))), ((u_2.1 15), .inl (cyI, 12, .inl (fun _ => 0))), ((u_2.1 16), .inl (cyI, 4, .inl (fun _ => 0))), ((u_2.1 17), .inl (cyI, 4, .inl (fun _ => 0))), ((u_2.1 18), .inl (cyI, 4, .inl (fun _ => 0))), (q_4, .inr (9, [.int 0, .int 0, .int 0, .ref (u_5.1 0), .ref (u_5.1 1), .ref (u_5.1 2), .ref (u_5.1 3), .ref (u_5.1 4), .ref (u_5.1 5), .int 0, .int 0, .ref (u_5.1 6), .ref (u_5.1 7), .ref (u_5.1 8), .ref (u_5.1 9)])), ((u_5.1 0), .inl (cyI, 12, .inl (fun _ => 0))), ((u_5.1 1), .inl (cyI, 12, .inl (fun _ => 0))), ((u_5.1 2), .inl (cyI, 12, .inl (fun _ => 0))), ((u_5.1 3), .inl (cyI, 12, .inl (fun _ => 0))), ((u_5.1 4), .inl (cyI, 12, .inl (fun _ => 0))), ((u_5.1 5), .inl (cyI, 12, .inl (fun _ => 0))), ((u_5.1 6), .inl (cyI, 12, .inl (fun _ => 0))), ((u_5.1 7), .inl (cyI, 4, .inl (fun _ => 0))), ((u_5.1 8), .inl (cyI, 4, .inl (fun _ => 0))), ((u_5.1 9), .inl (cyI, 4, .inl (fun _ => 0))), (q_7, .inr (7, [.ref (u_8.1 0), .ref (u_8.1 1), .ref (u_8.1 2), .ref (u_8.1 3), .int 0, .int 0, .int 0])), ((u_8.1 0), .inl (cyI, 12, .inl (fun _ => (-1)))), ((u_8.1 1), .inl (cyI, 12, .inl (fun _ => 0))), ((u_8.1 2), .inl (cyI, 12, .inl (fun _ => 0))), ((u_8.1 3), .inl (cyI, 30, .inl (fun _ => 0))), (q_10, .inr (7, [.ref (u_11.1 0), .ref (u_11.1 1), .ref (u_11.1 2), .ref (u_11.1 3), .int 0, .int 0, .int 0])), ((u_11.1 0), .inl (cyI, 12, .inl (fun _ => (-1)))), ((u_11.1 1), .inl (cyI, 12, .inl (fun _ => 0))), ((u_11.1 2), .inl (cyI, 12, .inl (fun _ => 0))), ((u_11.1 3), .inl (cyI, 30, .inl (fun _ => 0))), (q_13, .inl (cyO, 4, .inr (.inr (.inr (.inr (fun _ => none)))))), (q_14, .inr (4, [.ref (u_15.1 0), .int 0])), ((u_15.1 0), .inl (cyI, 12, .inl (fun _ => 0))), (q_17, .inr (3, [.int 0, .ref (u_18.1 0), .ref (u_18.1 1), .int 0, .int 0, .int 0, .ref (u_18.1 2), .ref (u_18.1 3)])), ((u_18.1 0), .inl (cyI, 12, .inl (fun _ => 0))), ((u_18.1 1), .inl (cyI, 12, .inl (fun _ => 0))), ((u_18.1 2), .inl (cyI, 12, .inl (fun _ => 0))), ((u_18.1 3), .inl (cyI, 12, .inl (fun _ => 0))), (q_20, .inr (0, [.int 0, .int 0, .ref (u_21.1 0), .ref (u_21.1 1), .ref (u_21.1 2)])), ((u_21.1 0), .inl (cyI, 0, .inl (fun _ => 0))), ((u_21.1 1), .inl (cyI, 0, .inl (fun _ => 0))), ((u_21.1 2), .inl (cyI, 0, .inl (fun _ => 0)))]) C (c_X6_init l D cyC cyI cyJ cyZ cyO q_23) wd_108 wd_107 C.2.2.2.2.2.2.1.2.2.2.2.2.2.2.2.1 wd_109 rfl ⟨by decide, by decide, rfl⟩ rfl ⟨rfl, rfl, by decide, by decide⟩ ⟨by decide, by decide⟩ [54] [0, 1, 2, 3, 4, 5, 6, 7, 8, 9, 10, 11, 12, 13, 14, 15, 16, 17, 18, 19, 20, 21, 22, 23, 24, 25, 26, 27, 28, 29, 30, 31, 32, 33, 34, 35, 36, 37, 38, 39, 40, 41, 42, 43, 44, 45, 46, 47, 48, 49, 50, 51, 52, 53] rfl rfl ⟨by decide, by decide, by decide⟩ rfl (Nat.le_of_ble_eq_true rfl) dX10_init_94 (fun u_24 hw_25 => ?_)
  refine j_eq (ws2 := [(h0, .inr (10, [.ref q_1, .ref q_4, .ref q_7, .ref q_10, .ref q_13, .ref q_14, .ref q_17, .ref q_20, .null, .null])), (q_1, .inr (5, [.ref (u_2.1 0), .ref (u_2.1 2), .ref (u_2.1 6), .ref (u_2.1 7), .ref (u_2.1 8), .int 0, .int 0])), ((u_2.1 0), .inr (8, [.ref (u_2.1 1), .int 0, .int 0, .int 0, .int 0, .int 0])), ((u_2.1 1), .inl (cyC, 1000, .inl (fun _ => 0))), ((u_2.1 2), .inr (1, [.int 0, .int 0, .ref (u_2.1 3), .ref (u_2.1 4), .ref (u_2.1 5)])), ((u_2.1 3), .inl (cyI, 1000, .inl (fun _ => 0))), ((u_2.1 4), .inl (cyI, 4, .inl (fun _ => 0))), ((u_2.1 5), .inl (cyI, 32, .inl (fun _ => 0))), ((u_2.1 6), .inl (cyJ, 12, .inr (.inl (fun _ => 0)))), ((u_2.1 7), .inl (cyJ, 4, .inr (.inl (fun _ => 0)))), ((u_2.1 8), .inr (9, [.int 0, .int 0, .int 0, .ref (u_2.1 9), .ref (u_2.1 10), .ref (u_2.1 11), .ref (u_2.1 12), .ref (u_2.1 13), .ref (u_2.1 14), .int 0, .int 0, .ref (u_2.1 15), .ref (u_2.1 16), .ref (u_2.1 17), .ref (u_2.1 18)])), ((u_2.1 9), .inl (cyI, 12, .inl (fun _ => 0))), ((u_2.1 10), .inl (cyI, 12, .inl (fun _ => 0))), ((u_2.1 11), .inl (cyI, 12, .inl (fun _ => 0))), ((u_2.1 12), .inl (cyI, 12, .inl (fun _ => 0))), ((u_2.1 13), .inl (cyI, 12, .inl (fun _ => 0))), ((u_2.1 14), .inl (cyI, 12, .inl (fun _ => 0))), ((u_2.1 15), .inl (cyI, 12, .inl (fun _ => 0))), ((u_2.1 16), .inl (cyI, 4, .inl (fun _ => 0))), ((u_2.1 17), .inl (cyI, 4, .inl (fun _ => 0))), ((u_2.1 18), .inl (cyI, 4, .inl (fun _ => 0))), (q_4, .inr (9, [.int 0, .int 0, .int 0, .ref (u_5.1 0), .ref (u_5.1 1), .ref (u_5.1 2), .ref (u_5.1 3), .ref (u_5.1 4), .ref (u_5.1 5), .int 0, .int 0, .ref (u_5.1 6), .ref (u_5.1 7), .ref (u_5.1 8), .ref (u_5.1 9)])), ((u_5.1 0), .inl (cyI, 12, .inl (fun _ => 0))), ((u_5.1 1), .inl (cyI, 12, .inl (fun _ => 0))), ((u_5.1 2), .inl (cyI, 12, .inl (fun _ => 0))), ((u_5.1 3), .inl (cyI, 12, .inl (fun _ => 0))), ((u_5.1 4), .inl (cyI, 12, .inl (fun _ => 0))), ((u_5.1 5), .inl (cyI, 12, .inl (fun _ => 0))), ((u_5.1 6), .inl (cyI, 12, .inl (fun _ => 0))), ((u_5.1 7), .inl (cyI, 4, .inl (fun _ => 0))), ((u_5.1 8), .inl (cyI, 4, .inl (fun _ => 0))), ((u_5.1 9), .inl (cyI, 4, .inl (fun _ => 0))), (q_7, .inr (7, [.ref (u_8.1 0), .ref (u_8.1 1), .ref (u_8.1 2), .ref (u_8.1 3), .int 0, .int 0, .int 0])), ((u_8.1 0), .inl (cyI, 12, .inl (fun _ => (-1)))), ((u_8.1 1), .inl (cyI, 12, .inl (fun _ => 0))), ((u_8.1 2), .inl (cyI, 12, .inl (fun _ => 0))), ((u_8.1 3), .inl (cyI, 30, .inl (fun _ => 0))), (q_10, .inr (7, [.ref (u_11.1 0), .ref (u_11.1 1), .ref (u_11.1 2), .ref (u_11.1 3), .int 0, .int 0, .int 0])), ((u_11.1 0), .inl (cyI, 12, .inl (fun _ => (-1)))), ((u_11.1 1), .inl (cyI, 12, .inl (fun _ => 0))), ((u_11.1 2), .inl (cyI, 12, .inl (fun _ => 0))), ((u_11.1 3), .inl (cyI, 30, .inl (fun _ => 0))), (q_13, .inl (cyO, 4, .inr (.inr (.inr (.inr (fun _ => none)))))), (q_14, .inr (4, [.ref (u_15.1 0), .int 0])), ((u_15.1 0), .inl (cyI, 12, .inl (fun _ => 0))), (q_17, .inr (3, [.int 0, .ref (u_18.1 0), .ref (u_18.1 1), .int 0, .int 0, .int 0, .ref (u_18.1 2), .ref (u_18.1 3)])), ((u_18.1 0), .inl (cyI, 12, .inl (fun _ => 0))), ((u_18.1 1), .inl (cyI, 12, .inl (fun _ => 0))), ((u_18.1 2), .inl (cyI, 12, .inl (fun _ => 0))), ((u_18.1 3), .inl (cyI, 12, .inl (fun _ => 0))), (q_20, .inr (0, [.int 0, .int 0, .ref (u_21.1 0), .ref (u_21.1 1), .ref (u_21.1 2)])), ((u_21.1 0), .inl (cyI, 0, .inl (fun _ => 0))), ((u_21.1 1), .inl (cyI, 0, .inl (fun _ => 0))), ((u_21.1 2), .inl (cyI, 0, .inl (fun _ => 0))), (q_23, .inr (6, [.ref (u_24.1 0), .int 0, .int 0, .int 0, .int 0, .int 0, .ref (u_24.1 1), .ref (u_24.1 2)])), ((u_24.1 0), .inl (cyI, 7, .inl (fun _ => 0))), ((u_24.1 1), .inl (cyI, 7, .inl (fun _ => 0))), ((u_24.1 2), .inl (cyI, 12, .inl (fun _ => 0)))]) (pc2 := 97) (lv2 := [(0, .ref h0)]) (st2 := [.ref q_23, .ref h0]) rfl rfl rfl rfl ?_
  refine j_widen (k := 57) (n := 2551) (by decide) (by decide) ?_
  refine j_putF (pc := 97) (ci := 10) (v := .ref q_23) (ws' := [(h0, .inr (10, [.ref q_1, .ref q_4, .ref q_7, .ref q_10, .ref q_13, .ref q_14, .ref q_17, .ref q_20, .ref q_23, .null])), (q_1, .inr (5, [.ref (u_2.1 0), .ref (u_2.1 2), .ref (u_2.1 6), .ref (u_2.1 7), .ref (u_2.1 8), .int 0, .int 0])), ((u_2.1 0), .inr (8, [.ref (u_2.1 1), .int 0, .int 0, .int 0, .int 0, .int 0])), ((u_2.1 1), .inl (cyC, 1000, .inl (fun _ => 0))), ((u_2.1 2), .inr (1, [.int 0, .int 0, .ref (u_2.1 3), .ref (u_2.1 4), .ref (u_2.1 5)])), ((u_2.1 3), .inl (cyI, 1000, .inl (fun _ => 0))), ((u_2.1 4), .inl (cyI, 4, .inl (fun _ => 0))), ((u_2.1 5), .inl (cyI, 32, .inl (fun _ => 0))), ((u_2.1 6), .inl (cyJ, 12, .inr (.inl (fun _ => 0)))), ((u_2.1 7), .inl (cyJ, 4, .inr (.inl (fun _ => 0)))), ((u_2.1 8), .inr (9, [.int 0, .int 0, .int 0, .ref (u_2.1 9), .ref (u_2.1 10), .ref (u_2.1 11), .ref (u_2.1 12), .ref (u_2.1 13), .ref (u_2.1 14), .int 0, .int 0, .ref (u_2.1 15), .ref (u_2.1 16), .ref (u_2.1 17), .ref (u_2.1 18)])), ((u_2.1 9), .inl (cyI, 12, .inl (fun _ => 0))), ((u_2.1 10), .inl (cyI, 12, .inl (fun _ => 0))), ((u_2.1 11), .inl (cyI, 12, .inl (fun _ => 0))), ((u_2.1 12), .inl (cyI, 12, .inl (fun _ => 0))), ((u_2.1 13), .inl (cyI, 12, .inl (fun _ => 0))), ((u_2.1 14), .inl (cyI, 12, .inl (fun _ => 0))), ((u_2.1 15), .inl (cyI, 12, .inl (fun _ => 0))), ((u_2.1 16), .inl (cyI, 4, .inl (fun _ => 0))), ((u_2.1 17), .inl (cyI, 4, .inl (fun _ => 0))), ((u_2.1 18), .inl (cyI, 4, .inl (fun _ => 0))), (q_4, .inr (9, [.int 0, .int 0, .int 0, .ref (u_5.1 0), .ref (u_5.1 1), .ref (u_5.1 2), .ref (u_5.1 3), .ref (u_5.1 4), .ref (u_5.1 5), .int 0, .int 0, .ref (u_5.1 6), .ref (u_5.1 7), .ref (u_5.1 8), .ref (u_5.1 9)])), ((u_5.1 0), .inl (cyI, 12, .inl (fun _ => 0))), ((u_5.1 1), .inl (cyI, 12, .inl (fun _ => 0))), ((u_5.1 2), .inl (cyI, 12, .inl (fun _ => 0))), ((u_5.1 3), .inl (cyI, 12, .inl (fun _ => 0))), ((u_5.1 4), .inl (cyI, 12, .inl (fun _ => 0))), ((u_5.1 5), .inl (cyI, 12, .inl (fun _ => 0))), ((u_5.1 6), .inl (cyI, 12, .inl (fun _ => 0))), ((u_5.1 7), .inl (cyI, 4, .inl (fun _ => 0))), ((u_5.1 8), .inl (cyI, 4, .inl (fun _ => 0))), ((u_5.1 9), .inl (cyI, 4, .inl (fun _ => 0))), (q_7, .inr (7, [.ref (u_8.1 0), .ref (u_8.1 1), .ref (u_8.1 2), .ref (u_8.1 3), .int 0, .int 0, .int 0])), ((u_8.1 0), .inl (cyI, 12, .inl (fun _ => (-1)))), ((u_8.1 1), .inl (cyI, 12, .inl (fun _ => 0))), ((u_8.1 2), .inl (cyI, 12, .inl (fun _ => 0))), ((u_8.1 3), .inl (cyI, 30, .inl (fun _ => 0))), (q_10, .inr (7, [.ref (u_11.1 0), .ref (u_11.1 1), .ref (u_11.1 2), .ref (u_11.1 3), .int 0, .int 0, .int 0])), ((u_11.1 0), .inl (cyI, 12, .inl (fun _ => (-1)))), ((u_11.1 1), .inl (cyI, 12, .inl (fun _ => 0))), ((u_11.1 2), .inl (cyI, 12, .inl (fun _ => 0))), ((u_11.1 3), .inl (cyI, 30, .inl (fun _ => 0))), (q_13, .inl (cyO, 4, .inr (.inr (.inr (.inr (fun _ => none)))))), (q_14, .inr (4, [.ref (u_15.1 0), .int 0])), ((u_15.1 0), .inl (cyI, 12, .inl (fun _ => 0))), (q_17, .inr (3, [.int 0, .ref (u_18.1 0), .ref (u_18.1 1), .int 0, .int 0, .int 0, .ref (u_18.1 2), .ref (u_18.1 3)])), ((u_18.1 0), .inl (cyI, 12, .inl (fun _ => 0))), ((u_18.1 1), .inl (cyI, 12, .inl (fun _ => 0))), ((u_18.1 2), .inl (cyI, 12, .inl (fun _ => 0))), ((u_18.1 3), .inl (cyI, 12, .inl (fun _ => 0))), (q_20, .inr (0, [.int 0, .int 0, .ref (u_21.1 0), .ref (u_21.1 1), .ref (u_21.1 2)])), ((u_21.1 0), .inl (cyI, 0, .inl (fun _ => 0))), ((u_21.1 1), .inl (cyI, 0, .inl (fun _ => 0))), ((u_21.1 2), .inl (cyI, 0, .inl (fun _ => 0))), (q_23, .inr (6, [.ref (u_24.1 0), .int 0, .int 0, .int 0, .int 0, .int 0, .ref (u_24.1 1), .ref (u_24.1 2)])), ((u_24.1 0), .inl (cyI, 7, .inl (fun _ => 0))), ((u_24.1 1), .inl (cyI, 7, .inl (fun _ => 0))), ((u_24.1 2), .inl (cyI, 12, .inl (fun _ => 0)))]) C inw_10 0 rfl rfl 8 (by decide) wd_110 rfl tyX10_ok nmX10 rfl hin rfl (tyX10_ok 8 (by decide)) rfl rfl (Nat.le_of_ble_eq_true rfl) dX10_init_97 rfl ?_
  refine j_aload_n (pc := 100) C dX10_init_100 rfl 0 rfl ?_
  refine j_new (pc := 101) (ci := 2) (fs := [.null]) C inw_2 tyX2_ok wd_111 wd_112 wd_113 rfl ndX2 (by decide) (by decide) dX10_init_101 (fun q_26 => ?_)
  refine j_widen (k := 58) (n := 2552) (by decide) (by decide) ?_
  refine j_dup (pc := 104) C dX10_init_104 rfl ?_
  refine j_callN (pc := 105) (As := []) (rest := [.ref q_26, .ref h0]) (wr := [(h0, .inr (10, [.ref q_1, .ref q_4, .ref q_7, .ref q_10, .ref q_13, .ref q_14, .ref q_17, .ref q_20, .ref q_23, .null])), (q_1, .inr (5, [.ref (u_2.1 0), .ref (u_2.1 2), .ref (u_2.1 6), .ref (u_2.1 7), .ref (u_2.1 8), .int 0, .int 0])), ((u_2.1 0), .inr (8, [.ref (u_2.1 1), .int 0, .int 0, .int 0, .int 0, .int 0])), ((u_2.1 1), .inl (cyC, 1000, .inl (fun _ => 0))), ((u_2.1 2), .inr (1, [.int 0, .int 0, .ref (u_2.1 3), .ref (u_2.1 4), .ref (u_2.1 5)])), ((u_2.1 3), .inl (cyI, 1000, .inl (fun _ => 0))), ((u_2.1 4), .inl (cyI, 4, .inl (fun _ => 0))), ((u_2.1 5), .inl (cyI, 32, .inl (fun _ => 0))), ((u_2.1 6), .inl (cyJ, 12, .inr (.inl (fun _ => 0)))), ((u_2.1 7), .inl (cyJ, 4, .inr (.inl (fun _ => 0)))), ((u_2.1 8), .inr (9, [.int 0, .int 0, .int 0, .ref (u_2.1 9), .ref (u_2.1 10), .ref (u_2.1 11), .ref (u_2.1 12), .ref (u_2.1 13), .ref (u_2.1 14), .int 0, .int 0, .ref (u_2.1 15), .ref (u_2.1 16), .ref (u_2.1 17), .ref (u_2.1 18)])), ((u_2.1 9), .inl (cyI, 12, .inl (fun _ => 0))), ((u_2.1 10), .inl (cyI, 12, .inl (fun _ => 0))), ((u_2.1 11), .inl (cyI, 12, .inl (fun _ => 0))), ((u_2.1 12), .inl (cyI, 12, .inl (fun _ => 0))), ((u_2.1 13), .inl (cyI, 12, .inl (fun _ => 0))), ((u_2.1 14), .inl (cyI, 12, .inl (fun _ => 0))), ((u_2.1 15), .inl (cyI, 12, .inl (fun _ => 0))), ((u_2.1 16), .inl (cyI, 4, .inl (fun _ => 0))), ((u_2.1 17), .inl (cyI, 4, .inl (fun _ => 0))), ((u_2.1 18), .inl (cyI, 4, .inl (fun _ => 0))), (q_4, .inr (9, [.int 0, .int 0, .int 0, .ref (u_5.1 0), .ref (u_5.1 1), .ref (u_5.1 2), .ref (u_5.1 3), .ref (u_5.1 4), .ref (u_5.1 5), .int 0, .int 0, .ref (u_5.1 6), .ref (u_5.1 7), .ref (u_5.1 8), .ref (u_5.1 9)])), ((u_5.1 0), .inl (cyI, 12, .inl (fun _ => 0))), ((u_5.1 1), .inl (cyI, 12, .inl (fun _ => 0))), ((u_5.1 2), .inl (cyI, 12, .inl (fun _ => 0))), ((u_5.1 3), .inl (cyI, 12, .inl (fun _ => 0))), ((u_5.1 4), .inl (cyI, 12, .inl (fun _ => 0))), ((u_5.1 5), .inl (cyI, 12, .inl (fun _ => 0))), ((u_5.1 6), .inl (cyI, 12, .inl (fun _ => 0))), ((u_5.1 7), .inl (cyI, 4, .inl (fun _ => 0))), ((u_5.1 8), .inl (cyI, 4, .inl (fun _ => 0))), ((u_5.1 9), .inl (cyI, 4, .inl (fun _ => 0))), (q_7, .inr (7, [.ref (u_8.1 0), .ref (u_8.1 1), .ref (u_8.1 2), .ref (u_8.1 3), .int 0, .int 0, .int 0])), ((u_8.1 0), .inl (cyI, 12, .inl (fun _ => (-1)))), ((u_8.1 1), .inl (cyI, 12, .inl (fun _ => 0))), ((u_8.1 2), .inl (cyI, 12, .inl (fun _ => 0))), ((u_8.1 3), .inl (cyI, 30, .inl (fun _ => 0))), (q_10, .inr (7, [.ref (u_11.1 0), .ref (u_11.1 1), .ref (u_11.1 2), .ref (u_11.1 3), .int 0, .int 0, .int 0])), ((u_11.1 0), .inl (cyI, 12, .inl (fun _ => (-1)))), ((u_11.1 1), .inl (cyI, 12, .inl (fun _ => 0))), ((u_11.1 2), .inl (cyI, 12, .inl (fun _ => 0))), ((u_11.1 3), .inl (cyI, 30, .inl (fun _ => 0))), (q_13, .inl (cyO, 4, .inr (.inr (.inr (.inr (fun _ => none)))))), (q_14, .inr (4, [.ref (u_15.1 0), .int 0])), ((u_15.1 0), .inl (cyI, 12, .inl (fun _ => 0))), (q_17, .inr (3, [.int 0, .ref (u_18.1 0), .ref (u_18.1 1), .int 0, .int 0, .int 0, .ref (u_18.1 2), .ref (u_18.1 3)])), ((u_18.1 0), .inl (cyI, 12, .inl (fun _ => 0))), ((u_18.1 1), .inl (cyI, 12, .inl (fun _ => 0))), ((u_18.1 2), .inl (cyI, 12, .inl (fun _ => 0))), ((u_18.1 3), .inl (cyI, 12, .inl (fun _ => 0))), (q_20, .inr (0, [.int 0, .int 0, .ref (u_21.1 0), .ref (u_21.1 1), .ref (u_21.1 2)])), ((u_21.1 0), .inl (cyI, 0, .inl (fun _ => 0))), ((u_21.1 1), .inl (cyI, 0, .inl (fun _ => 0))), ((u_21.1 2), .inl (cyI, 0, .inl (fun _ => 0))), (q_23, .inr (6, [.ref (u_24.1 0), .int 0, .int 0, .int 0, .int 0, .int 0, .ref (u_24.1 1), .ref (u_24.1 2)])), ((u_24.1 0), .inl (cyI, 7, .inl (fun _ => 0))), ((u_24.1 1), .inl (cyI, 7, .inl (fun _ => 0))), ((u_24.1 2), .inl (cyI, 12, .inl (fun _ => 0)))]) C (c_X2_init l D cyC cyI cyJ cyZ cyO q_26) wd_114 wd_113 C.2.2.2.2.2.2.1.2.2.2.2.2.2.2.2.2.1 wd_115 rfl ⟨by decide, by decide, rfl⟩ rfl ⟨rfl, rfl, by decide, by decide⟩ ⟨by decide, by decide⟩ [58] [0, 1, 2, 3, 4, 5, 6, 7, 8, 9, 10, 11, 12, 13, 14, 15, 16, 17, 18, 19, 20, 21, 22, 23, 24, 25, 26, 27, 28, 29, 30, 31, 32, 33, 34, 35, 36, 37, 38, 39, 40, 41, 42, 43, 44, 45, 46, 47, 48, 49, 50, 51, 52, 53, 54, 55, 56, 57] rfl rfl ⟨by decide, by decide, by decide⟩ rfl (Nat.le_of_ble_eq_true rfl) dX10_init_105 (fun u_27 hw_28 => ?_)
  refine j_eq (ws2 := [(h0, .inr (10, [.ref q_1, .ref q_4, .ref q_7, .ref q_10, .ref q_13, .ref q_14, .ref q_17, .ref q_20, .ref q_23, .null])), (q_1, .inr (5, [.ref (u_2.1 0), .ref (u_2.1 2), .ref (u_2.1 6), .ref (u_2.1 7), .ref (u_2.1 8), .int 0, .int 0])), ((u_2.1 0), .inr (8, [.ref (u_2.1 1), .int 0, .int 0, .int 0, .int 0, .int 0])), ((u_2.1 1), .inl (cyC, 1000, .inl (fun _ => 0))), ((u_2.1 2), .inr (1, [.int 0, .int 0, .ref (u_2.1 3), .ref (u_2.1 4), .ref (u_2.1 5)])), ((u_2.1 3), .inl (cyI, 1000, .inl (fun _ => 0))), ((u_2.1 4), .inl (cyI, 4, .inl (fun _ => 0))), ((u_2.1 5), .inl (cyI, 32, .inl (fun _ => 0))), ((u_2.1 6), .inl (cyJ, 12, .inr (.inl (fun _ => 0)))), ((u_2.1 7), .inl (cyJ, 4, .inr (.inl (fun _ => 0)))), ((u_2.1 8), .inr (9, [.int 0, .int 0, .int 0, .ref (u_2.1 9), .ref (u_2.1 10), .ref (u_2.1 11), .ref (u_2.1 12), .ref (u_2.1 13), .ref (u_2.1 14), .int 0, .int 0, .ref (u_2.1 15), .ref (u_2.1 16), .ref (u_2.1 17), .ref (u_2.1 18)])), ((u_2.1 9), .inl (cyI, 12, .inl (fun _ => 0))), ((u_2.1 10), .inl (cyI, 12, .inl (fun _ => 0))), ((u_2.1 11), .inl (cyI, 12, .inl (fun _ => 0))), ((u_2.1 12), .inl (cyI, 12, .inl (fun _ => 0))), ((u_2.1 13), .inl (cyI, 12, .inl (fun _ => 0))), ((u_2.1 14), .inl (cyI, 12, .inl (fun _ => 0))), ((u_2.1 15), .inl (cyI, 12, .inl (fun _ => 0))), ((u_2.1 16), .inl (cyI, 4, .inl (fun _ => 0))), ((u_2.1 17), .inl (cyI, 4, .inl (fun _ => 0))), ((u_2.1 18), .inl (cyI, 4, .inl (fun _ => 0))), (q_4, .inr (9, [.int 0, .int 0, .int 0, .ref (u_5.1 0), .ref (u_5.1 1), .ref (u_5.1 2), .ref (u_5.1 3), .ref (u_5.1 4), .ref (u_5.1 5), .int 0, .int 0, .ref (u_5.1 6), .ref (u_5.1 7), .ref (u_5.1 8), .ref (u_5.1 9)])), ((u_5.1 0), .inl (cyI, 12, .inl (fun _ => 0))), ((u_5.1 1), .inl (cyI, 12, .inl (fun _ => 0))), ((u_5.1 2), .inl (cyI, 12, .inl (fun _ => 0))), ((u_5.1 3), .inl (cyI, 12, .inl (fun _ => 0))), ((u_5.1 4), .inl (cyI, 12, .inl (fun _ => 0))), ((u_5.1 5), .inl (cyI, 12, .inl (fun _ => 0))), ((u_5.1 6), .inl (cyI, 12, .inl (fun _ => 0))), ((u_5.1 7), .inl (cyI, 4, .inl (fun _ => 0))), ((u_5.1 8), .inl (cyI, 4, .inl (fun _ => 0))), ((u_5.1 9), .inl (cyI, 4, .inl (fun _ => 0))), (q_7, .inr (7, [.ref (u_8.1 0), .ref (u_8.1 1), .ref (u_8.1 2), .ref (u_8.1 3), .int 0, .int 0, .int 0])), ((u_8.1 0), .inl (cyI, 12, .inl (fun _ => (-1)))), ((u_8.1 1), .inl (cyI, 12, .inl (fun _ => 0))), ((u_8.1 2), .inl (cyI, 12, .inl (fun _ => 0))), ((u_8.1 3), .inl (cyI, 30, .inl (fun _ => 0))), (q_10, .inr (7, [.ref (u_11.1 0), .ref (u_11.1 1), .ref (u_11.1 2), .ref (u_11.1 3), .int 0, .int 0, .int 0])), ((u_11.1 0), .inl (cyI, 12, .inl (fun _ => (-1)))), ((u_11.1 1), .inl (cyI, 12, .inl (fun _ => 0))), ((u_11.1 2), .inl (cyI, 12, .inl (fun _ => 0))), ((u_11.1 3), .inl (cyI, 30, .inl (fun _ => 0))), (q_13, .inl (cyO, 4, .inr (.inr (.inr (.inr (fun _ => none)))))), (q_14, .inr (4, [.ref (u_15.1 0), .int 0])), ((u_15.1 0), .inl (cyI, 12, .inl (fun _ => 0))), (q_17, .inr (3, [.int 0, .ref (u_18.1 0), .ref (u_18.1 1), .int 0, .int 0, .int 0, .ref (u_18.1 2), .ref (u_18.1 3)])), ((u_18.1 0), .inl (cyI, 12, .inl (fun _ => 0))), ((u_18.1 1), .inl (cyI, 12, .inl (fun _ => 0))), ((u_18.1 2), .inl (cyI, 12, .inl (fun _ => 0))), ((u_18.1 3), .inl (cyI, 12, .inl (fun _ => 0))), (q_20, .inr (0, [.int 0, .int 0, .ref (u_21.1 0), .ref (u_21.1 1), .ref (u_21.1 2)])), ((u_21.1 0), .inl (cyI, 0, .inl (fun _ => 0))), ((u_21.1 1), .inl (cyI, 0, .inl (fun _ => 0))), ((u_21.1 2), .inl (cyI, 0, .inl (fun _ => 0))), (q_23, .inr (6, [.ref (u_24.1 0), .int 0, .int 0, .int 0, .int 0, .int 0, .ref (u_24.1 1), .ref (u_24.1 2)])), ((u_24.1 0), .inl (cyI, 7, .inl (fun _ => 0))), ((u_24.1 1), .inl (cyI, 7, .inl (fun _ => 0))), ((u_24.1 2), .inl (cyI, 12, .inl (fun _ => 0))), (q_26, .inr (2, [.ref (u_27.1 0)])), ((u_27.1 0), .inl (cyJ, 4, .inr (.inl (fun _ => 0))))]) (pc2 := 108) (lv2 := [(0, .ref h0)]) (st2 := [.ref q_26, .ref h0]) rfl rfl rfl rfl ?_
  refine j_widen (k := 59) (n := 2556) (by decide) (by decide) ?_
  refine j_putF (pc := 108) (ci := 10) (v := .ref q_26) (ws' := [(h0, .inr (10, [.ref q_1, .ref q_4, .ref q_7, .ref q_10, .ref q_13, .ref q_14, .ref q_17, .ref q_20, .ref q_23, .ref q_26])), (q_1, .inr (5, [.ref (u_2.1 0), .ref (u_2.1 2), .ref (u_2.1 6), .ref (u_2.1 7), .ref (u_2.1 8), .int 0, .int 0])), ((u_2.1 0), .inr (8, [.ref (u_2.1 1), .int 0, .int 0, .int 0, .int 0, .int 0])), ((u_2.1 1), .inl (cyC, 1000, .inl (fun _ => 0))), ((u_2.1 2), .inr (1, [.int 0, .int 0, .ref (u_2.1 3), .ref (u_2.1 4), .ref (u_2.1 5)])), ((u_2.1 3), .inl (cyI, 1000, .inl (fun _ => 0))), ((u_2.1 4), .inl (cyI, 4, .inl (fun _ => 0))), ((u_2.1 5), .inl (cyI, 32, .inl (fun _ => 0))), ((u_2.1 6), .inl (cyJ, 12, .inr (.inl (fun _ => 0)))), ((u_2.1 7), .inl (cyJ, 4, .inr (.inl (fun _ => 0)))), ((u_2.1 8), .inr (9, [.int 0, .int 0, .int 0, .ref (u_2.1 9), .ref (u_2.1 10), .ref (u_2.1 11), .ref (u_2.1 12), .ref (u_2.1 13), .ref (u_2.1 14), .int 0, .int 0, .ref (u_2.1 15), .ref (u_2.1 16), .ref (u_2.1 17), .ref (u_2.1 18)])), ((u_2.1 9), .inl (cyI, 12, .inl (fun _ => 0))), ((u_2.1 10), .inl (cyI, 12, .inl (fun _ => 0))), ((u_2.1 11), .inl (cyI, 12, .inl (fun _ => 0))), ((u_2.1 12), .inl (cyI, 12, .inl (fun _ => 0))), ((u_2.1 13), .inl (cyI, 12, .inl (fun _ => 0))), ((u_2.1 14), .inl (cyI, 12, .inl (fun _ => 0))), ((u_2.1 15), .inl (cyI, 12, .inl (fun _ => 0))), ((u_2.1 16), .inl (cyI, 4, .inl (fun _ => 0))), ((u_2.1 17), .inl (cyI, 4, .inl (fun _ => 0))), ((u_2.1 18), .inl (cyI, 4, .inl (fun _ => 0))), (q_4, .inr (9, [.int 0, .int 0, .int 0, .ref (u_5.1 0), .ref (u_5.1 1), .ref (u_5.1 2), .ref (u_5.1 3), .ref (u_5.1 4), .ref (u_5.1 5), .int 0, .int 0, .ref (u_5.1 6), .ref (u_5.1 7), .ref (u_5.1 8), .ref (u_5.1 9)])), ((u_5.1 0), .inl (cyI, 12, .inl (fun _ => 0))), ((u_5.1 1), .inl (cyI, 12, .inl (fun _ => 0))), ((u_5.1 2), .inl (cyI, 12, .inl (fun _ => 0))), ((u_5.1 3), .inl (cyI, 12, .inl (fun _ => 0))), ((u_5.1 4), .inl (cyI, 12, .inl (fun _ => 0))), ((u_5.1 5), .inl (cyI, 12, .inl (fun _ => 0))), ((u_5.1 6), .inl (cyI, 12, .inl (fun _ => 0))), ((u_5.1 7), .inl (cyI, 4, .inl (fun _ => 0))), ((u_5.1 8), .inl (cyI, 4, .inl (fun _ => 0))), ((u_5.1 9), .inl (cyI, 4, .inl (fun _ => 0))), (q_7, .inr (7, [.ref (u_8.1 0), .ref (u_8.1 1), .ref (u_8.1 2), .ref (u_8.1 3), .int 0, .int 0, .int 0])), ((u_8.1 0), .inl (cyI, 12, .inl (fun _ => (-1)))), ((u_8.1 1), .inl (cyI, 12, .inl (fun _ => 0))), ((u_8.1 2), .inl (cyI, 12, .inl (fun _ => 0))), ((u_8.1 3), .inl (cyI, 30, .inl (fun _ => 0))), (q_10, .inr (7, [.ref (u_11.1 0), .ref (u_11.1 1), .ref (u_11.1 2), .ref (u_11.1 3), .int 0, .int 0, .int 0])), ((u_11.1 0), .inl (cyI, 12, .inl (fun _ => (-1)))), ((u_11.1 1), .inl (cyI, 12, .inl (fun _ => 0))), ((u_11.1 2), .inl (cyI, 12, .inl (fun _ => 0))), ((u_11.1 3), .inl (cyI, 30, .inl (fun _ => 0))), (q_13, .inl (cyO, 4, .inr (.inr (.inr (.inr (fun _ => none)))))), (q_14, .inr (4, [.ref (u_15.1 0), .int 0])), ((u_15.1 0), .inl (cyI, 12, .inl (fun _ => 0))), (q_17, .inr (3, [.int 0, .ref (u_18.1 0), .ref (u_18.1 1), .int 0, .int 0, .int 0, .ref (u_18.1 2), .ref (u_18.1 3)])), ((u_18.1 0), .inl (cyI, 12, .inl (fun _ => 0))), ((u_18.1 1), .inl (cyI, 12, .inl (fun _ => 0))), ((u_18.1 2), .inl (cyI, 12, .inl (fun _ => 0))), ((u_18.1 3), .inl (cyI, 12, .inl (fun _ => 0))), (q_20, .inr (0, [.int 0, .int 0, .ref (u_21.1 0), .ref (u_21.1 1), .ref (u_21.1 2)])), ((u_21.1 0), .inl (cyI, 0, .inl (fun _ => 0))), ((u_21.1 1), .inl (cyI, 0, .inl (fun _ => 0))), ((u_21.1 2), .inl (cyI, 0, .inl (fun _ => 0))), (q_23, .inr (6, [.ref (u_24.1 0), .int 0, .int 0, .int 0, .int 0, .int 0, .ref (u_24.1 1), .ref (u_24.1 2)])), ((u_24.1 0), .inl (cyI, 7, .inl (fun _ => 0))), ((u_24.1 1), .inl (cyI, 7, .inl (fun _ => 0))), ((u_24.1 2), .inl (cyI, 12, .inl (fun _ => 0))), (q_26, .inr (2, [.ref (u_27.1 0)])), ((u_27.1 0), .inl (cyJ, 4, .inr (.inl (fun _ => 0))))]) C inw_10 0 rfl rfl 9 (by decide) wd_116 rfl tyX10_ok nmX10 rfl hin rfl (tyX10_ok 9 (by decide)) rfl rfl (Nat.le_of_ble_eq_true rfl) dX10_init_108 rfl ?_
  refine j_iconst (pc := 111) (v := 0) C dX10_init_111 (by decide) ?_
  refine j_istore_n (pc := 112) (lv' := [(1, .int 0), (0, .ref h0)]) C dX10_init_112 rfl (by decide) rfl ?_
  refine j_iload_n (pc := 113) C dX10_init_113 rfl 0 rfl ?_
  refine j_iconst (pc := 114) (v := 4) C dX10_init_114 (by decide) ?_
  refine j_icmp_ge_f (pc := 115) (tgt := 137) C dX10_init_115 (by decide) (by decide) ?_
  refine j_aload_n (pc := 118) C dX10_init_118 rfl 1 rfl ?_
  refine j_get (pc := 119) (ci := 10) (v := .ref q_13) C inw_10 0 rfl rfl 4 (by decide) wd_86 rfl rfl dX10_init_119 ?_
  refine j_iload_n (pc := 122) C dX10_init_122 rfl 0 rfl ?_
  refine j_new (pc := 123) (ci := 7) (fs := [.null, .null, .null, .null, .int 0, .int 0, .int 0]) C inw_7 tyX7_ok wd_78 wd_79 wd_80 rfl ndX7 (by decide) (by decide) dX10_init_123 (fun q_29 => ?_)
  refine j_widen (k := 60) (n := 2563) (by decide) (by decide) ?_
  refine j_dup (pc := 126) C dX10_init_126 rfl ?_
  refine j_callI (pc := 127) (As := []) (rest := [.ref q_29, .int 0, .ref q_13]) (wr := [(h0, .inr (10, [.ref q_1, .ref q_4, .ref q_7, .ref q_10, .ref q_13, .ref q_14, .ref q_17, .ref q_20, .ref q_23, .ref q_26])), (q_1, .inr (5, [.ref (u_2.1 0), .ref (u_2.1 2), .ref (u_2.1 6), .ref (u_2.1 7), .ref (u_2.1 8), .int 0, .int 0])), ((u_2.1 0), .inr (8, [.ref (u_2.1 1), .int 0, .int 0, .int 0, .int 0, .int 0])), ((u_2.1 1), .inl (cyC, 1000, .inl (fun _ => 0))), ((u_2.1 2), .inr (1, [.int 0, .int 0, .ref (u_2.1 3), .ref (u_2.1 4), .ref (u_2.1 5)])), ((u_2.1 3), .inl (cyI, 1000, .inl (fun _ => 0))), ((u_2.1 4), .inl (cyI, 4, .inl (fun _ => 0))), ((u_2.1 5), .inl (cyI, 32, .inl (fun _ => 0))), ((u_2.1 6), .inl (cyJ, 12, .inr (.inl (fun _ => 0)))), ((u_2.1 7), .inl (cyJ, 4, .inr (.inl (fun _ => 0)))), ((u_2.1 8), .inr (9, [.int 0, .int 0, .int 0, .ref (u_2.1 9), .ref (u_2.1 10), .ref (u_2.1 11), .ref (u_2.1 12), .ref (u_2.1 13), .ref (u_2.1 14), .int 0, .int 0, .ref (u_2.1 15), .ref (u_2.1 16), .ref (u_2.1 17), .ref (u_2.1 18)])), ((u_2.1 9), .inl (cyI, 12, .inl (fun _ => 0))), ((u_2.1 10), .inl (cyI, 12, .inl (fun _ => 0))), ((u_2.1 11), .inl (cyI, 12, .inl (fun _ => 0))), ((u_2.1 12), .inl (cyI, 12, .inl (fun _ => 0))), ((u_2.1 13), .inl (cyI, 12, .inl (fun _ => 0))), ((u_2.1 14), .inl (cyI, 12, .inl (fun _ => 0))), ((u_2.1 15), .inl (cyI, 12, .inl (fun _ => 0))), ((u_2.1 16), .inl (cyI, 4, .inl (fun _ => 0))), ((u_2.1 17), .inl (cyI, 4, .inl (fun _ => 0))), ((u_2.1 18), .inl (cyI, 4, .inl (fun _ => 0))), (q_4, .inr (9, [.int 0, .int 0, .int 0, .ref (u_5.1 0), .ref (u_5.1 1), .ref (u_5.1 2), .ref (u_5.1 3), .ref (u_5.1 4), .ref (u_5.1 5), .int 0, .int 0, .ref (u_5.1 6), .ref (u_5.1 7), .ref (u_5.1 8), .ref (u_5.1 9)])), ((u_5.1 0), .inl (cyI, 12, .inl (fun _ => 0))), ((u_5.1 1), .inl (cyI, 12, .inl (fun _ => 0))), ((u_5.1 2), .inl (cyI, 12, .inl (fun _ => 0))), ((u_5.1 3), .inl (cyI, 12, .inl (fun _ => 0))), ((u_5.1 4), .inl (cyI, 12, .inl (fun _ => 0))), ((u_5.1 5), .inl (cyI, 12, .inl (fun _ => 0))), ((u_5.1 6), .inl (cyI, 12, .inl (fun _ => 0))), ((u_5.1 7), .inl (cyI, 4, .inl (fun _ => 0))), ((u_5.1 8), .inl (cyI, 4, .inl (fun _ => 0))), ((u_5.1 9), .inl (cyI, 4, .inl (fun _ => 0))), (q_7, .inr (7, [.ref (u_8.1 0), .ref (u_8.1 1), .ref (u_8.1 2), .ref (u_8.1 3), .int 0, .int 0, .int 0])), ((u_8.1 0), .inl (cyI, 12, .inl (fun _ => (-1)))), ((u_8.1 1), .inl (cyI, 12, .inl (fun _ => 0))), ((u_8.1 2), .inl (cyI, 12, .inl (fun _ => 0))), ((u_8.1 3), .inl (cyI, 30, .inl (fun _ => 0))), (q_10, .inr (7, [.ref (u_11.1 0), .ref (u_11.1 1), .ref (u_11.1 2), .ref (u_11.1 3), .int 0, .int 0, .int 0])), ((u_11.1 0), .inl (cyI, 12, .inl (fun _ => (-1)))), ((u_11.1 1), .inl (cyI, 12, .inl (fun _ => 0))), ((u_11.1 2), .inl (cyI, 12, .inl (fun _ => 0))), ((u_11.1 3), .inl (cyI, 30, .inl (fun _ => 0))), (q_13, .inl (cyO, 4, .inr (.inr (.inr (.inr (fun _ => none)))))), (q_14, .inr (4, [.ref (u_15.1 0), .int 0])), ((u_15.1 0), .inl (cyI, 12, .inl (fun _ => 0))), (q_17, .inr (3, [.int 0, .ref (u_18.1 0), .ref (u_18.1 1), .int 0, .int 0, .int 0, .ref (u_18.1 2), .ref (u_18.1 3)])), ((u_18.1 0), .inl (cyI, 12, .inl (fun _ => 0))), ((u_18.1 1), .inl (cyI, 12, .inl (fun _ => 0))), ((u_18.1 2), .inl (cyI, 12, .inl (fun _ => 0))), ((u_18.1 3), .inl (cyI, 12, .inl (fun _ => 0))), (q_20, .inr (0, [.int 0, .int 0, .ref (u_21.1 0), .ref (u_21.1 1), .ref (u_21.1 2)])), ((u_21.1 0), .inl (cyI, 0, .inl (fun _ => 0))), ((u_21.1 1), .inl (cyI, 0, .inl (fun _ => 0))), ((u_21.1 2), .inl (cyI, 0, .inl (fun _ => 0))), (q_23, .inr (6, [.ref (u_24.1 0), .int 0, .int 0, .int 0, .int 0, .int 0, .ref (u_24.1 1), .ref (u_24.1 2)])), ((u_24.1 0), .inl (cyI, 7, .inl (fun _ => 0))), ((u_24.1 1), .inl (cyI, 7, .inl (fun _ => 0))), ((u_24.1 2), .inl (cyI, 12, .inl (fun _ => 0))), (q_26, .inr (2, [.ref (u_27.1 0)])), ((u_27.1 0), .inl (cyJ, 4, .inr (.inl (fun _ => 0))))]) C (c_X7_init l D cyC cyI cyJ cyZ cyO q_29) wd_81 wd_80 wd_82 wd_83 rfl ⟨by decide, by decide, rfl⟩ rfl ⟨rfl, rfl, by decide, by decide⟩ ⟨by decide, by decide⟩ [60] [0, 1, 2, 3, 4, 5, 6, 7, 8, 9, 10, 11, 12, 13, 14, 15, 16, 17, 18, 19, 20, 21, 22, 23, 24, 25, 26, 27, 28, 29, 30, 31, 32, 33, 34, 35, 36, 37, 38, 39, 40, 41, 42, 43, 44, 45, 46, 47, 48, 49, 50, 51, 52, 53, 54, 55, 56, 57, 58, 59] rfl rfl ⟨by decide, by decide, by decide⟩ rfl (Nat.le_of_ble_eq_true rfl) dX10_init_127 (fun u_30 hw_31 => ?_)
  refine j_eq (ws2 := [(h0, .inr (10, [.ref q_1, .ref q_4, .ref q_7, .ref q_10, .ref q_13, .ref q_14, .ref q_17, .ref q_20, .ref q_23, .ref q_26])), (q_1, .inr (5, [.ref (u_2.1 0), .ref (u_2.1 2), .ref (u_2.1 6), .ref (u_2.1 7), .ref (u_2.1 8), .int 0, .int 0])), ((u_2.1 0), .inr (8, [.ref (u_2.1 1), .int 0, .int 0, .int 0, .int 0, .int 0])), ((u_2.1 1), .inl (cyC, 1000, .inl (fun _ => 0))), ((u_2.1 2), .inr (1, [.int 0, .int 0, .ref (u_2.1 3), .ref (u_2.1 4), .ref (u_2.1 5)])), ((u_2.1 3), .inl (cyI, 1000, .inl (fun _ => 0))), ((u_2.1 4), .inl (cyI, 4, .inl (fun _ => 0))), ((u_2.1 5), .inl (cyI, 32, .inl (fun _ => 0))), ((u_2.1 6), .inl (cyJ, 12, .inr (.inl (fun _ => 0)))), ((u_2.1 7), .inl (cyJ, 4, .inr (.inl (fun _ => 0)))), ((u_2.1 8), .inr (9, [.int 0, .int 0, .int 0, .ref (u_2.1 9), .ref (u_2.1 10), .ref (u_2.1 11), .ref (u_2.1 12), .ref (u_2.1 13), .ref (u_2.1 14), .int 0, .int 0, .ref (u_2.1 15), .ref (u_2.1 16), .ref (u_2.1 17), .ref (u_2.1 18)])), ((u_2.1 9), .inl (cyI, 12, .inl (fun _ => 0))), ((u_2.1 10), .inl (cyI, 12, .inl (fun _ => 0))), ((u_2.1 11), .inl (cyI, 12, .inl (fun _ => 0))), ((u_2.1 12), .inl (cyI, 12, .inl (fun _ => 0))), ((u_2.1 13), .inl (cyI, 12, .inl (fun _ => 0))), ((u_2.1 14), .inl (cyI, 12, .inl (fun _ => 0))), ((u_2.1 15), .inl (cyI, 12, .inl (fun _ => 0))), ((u_2.1 16), .inl (cyI, 4, .inl (fun _ => 0))), ((u_2.1 17), .inl (cyI, 4, .inl (fun _ => 0))), ((u_2.1 18), .inl (cyI, 4, .inl (fun _ => 0))), (q_4, .inr (9, [.int 0, .int 0, .int 0, .ref (u_5.1 0), .ref (u_5.1 1), .ref (u_5.1 2), .ref (u_5.1 3), .ref (u_5.1 4), .ref (u_5.1 5), .int 0, .int 0, .ref (u_5.1 6), .ref (u_5.1 7), .ref (u_5.1 8), .ref (u_5.1 9)])), ((u_5.1 0), .inl (cyI, 12, .inl (fun _ => 0))), ((u_5.1 1), .inl (cyI, 12, .inl (fun _ => 0))), ((u_5.1 2), .inl (cyI, 12, .inl (fun _ => 0))), ((u_5.1 3), .inl (cyI, 12, .inl (fun _ => 0))), ((u_5.1 4), .inl (cyI, 12, .inl (fun _ => 0))), ((u_5.1 5), .inl (cyI, 12, .inl (fun _ => 0))), ((u_5.1 6), .inl (cyI, 12, .inl (fun _ => 0))), ((u_5.1 7), .inl (cyI, 4, .inl (fun _ => 0))), ((u_5.1 8), .inl (cyI, 4, .inl (fun _ => 0))), ((u_5.1 9), .inl (cyI, 4, .inl (fun _ => 0))), (q_7, .inr (7, [.ref (u_8.1 0), .ref (u_8.1 1), .ref (u_8.1 2), .ref (u_8.1 3), .int 0, .int 0, .int 0])), ((u_8.1 0), .inl (cyI, 12, .inl (fun _ => (-1)))), ((u_8.1 1), .inl (cyI, 12, .inl (fun _ => 0))), ((u_8.1 2), .inl (cyI, 12, .inl (fun _ => 0))), ((u_8.1 3), .inl (cyI, 30, .inl (fun _ => 0))), (q_10, .inr (7, [.ref (u_11.1 0), .ref (u_11.1 1), .ref (u_11.1 2), .ref (u_11.1 3), .int 0, .int 0, .int 0])), ((u_11.1 0), .inl (cyI, 12, .inl (fun _ => (-1)))), ((u_11.1 1), .inl (cyI, 12, .inl (fun _ => 0))), ((u_11.1 2), .inl (cyI, 12, .inl (fun _ => 0))), ((u_11.1 3), .inl (cyI, 30, .inl (fun _ => 0))), (q_13, .inl (cyO, 4, .inr (.inr (.inr (.inr (fun _ => none)))))), (q_14, .inr (4, [.ref (u_15.1 0), .int 0])), ((u_15.1 0), .inl (cyI, 12, .inl (fun _ => 0))), (q_17, .inr (3, [.int 0, .ref (u_18.1 0), .ref (u_18.1 1), .int 0, .int 0, .int 0, .ref (u_18.1 2), .ref (u_18.1 3)])), ((u_18.1 0), .inl (cyI, 12, .inl (fun _ => 0))), ((u_18.1 1), .inl (cyI, 12, .inl (fun _ => 0))), ((u_18.1 2), .inl (cyI, 12, .inl (fun _ => 0))), ((u_18.1 3), .inl (cyI, 12, .inl (fun _ => 0))), (q_20, .inr (0, [.int 0, .int 0, .ref (u_21.1 0), .ref (u_21.1 1), .ref (u_21.1 2)])), ((u_21.1 0), .inl (cyI, 0, .inl (fun _ => 0))), ((u_21.1 1), .inl (cyI, 0, .inl (fun _ => 0))), ((u_21.1 2), .inl (cyI, 0, .inl (fun _ => 0))), (q_23, .inr (6, [.ref (u_24.1 0), .int 0, .int 0, .int 0, .int 0, .int 0, .ref (u_24.1 1), .ref (u_24.1 2)])), ((u_24.1 0), .inl (cyI, 7, .inl (fun _ => 0))), ((u_24.1 1), .inl (cyI, 7, .inl (fun _ => 0))), ((u_24.1 2), .inl (cyI, 12, .inl (fun _ => 0))), (q_26, .inr (2, [.ref (u_27.1 0)])), ((u_27.1 0), .inl (cyJ, 4, .inr (.inl (fun _ => 0)))), (q_29, .inr (7, [.ref (u_30.1 0), .ref (u_30.1 1), .ref (u_30.1 2), .ref (u_30.1 3), .int 0, .int 0, .int 0])), ((u_30.1 0), .inl (cyI, 12, .inl (fun _ => (-1)))), ((u_30.1 1), .inl (cyI, 12, .inl (fun _ => 0))), ((u_30.1 2), .inl (cyI, 12, .inl (fun _ => 0))), ((u_30.1 3), .inl (cyI, 30, .inl (fun _ => 0)))]) (pc2 := 130) (lv2 := [(1, .int 0), (0, .ref h0)]) (st2 := [.ref q_29, .int 0, .ref q_13]) rfl rfl rfl rfl ?_
  refine j_widen (k := 64) (n := 2629) (by decide) (by decide) ?_
  refine j_aast (pc := 130) (k := 0) (ws' := [(h0, .inr (10, [.ref q_1, .ref q_4, .ref q_7, .ref q_10, .ref q_13, .ref q_14, .ref q_17, .ref q_20, .ref q_23, .ref q_26])), (q_1, .inr (5, [.ref (u_2.1 0), .ref (u_2.1 2), .ref (u_2.1 6), .ref (u_2.1 7), .ref (u_2.1 8), .int 0, .int 0])), ((u_2.1 0), .inr (8, [.ref (u_2.1 1), .int 0, .int 0, .int 0, .int 0, .int 0])), ((u_2.1 1), .inl (cyC, 1000, .inl (fun _ => 0))), ((u_2.1 2), .inr (1, [.int 0, .int 0, .ref (u_2.1 3), .ref (u_2.1 4), .ref (u_2.1 5)])), ((u_2.1 3), .inl (cyI, 1000, .inl (fun _ => 0))), ((u_2.1 4), .inl (cyI, 4, .inl (fun _ => 0))), ((u_2.1 5), .inl (cyI, 32, .inl (fun _ => 0))), ((u_2.1 6), .inl (cyJ, 12, .inr (.inl (fun _ => 0)))), ((u_2.1 7), .inl (cyJ, 4, .inr (.inl (fun _ => 0)))), ((u_2.1 8), .inr (9, [.int 0, .int 0, .int 0, .ref (u_2.1 9), .ref (u_2.1 10), .ref (u_2.1 11), .ref (u_2.1 12), .ref (u_2.1 13), .ref (u_2.1 14), .int 0, .int 0, .ref (u_2.1 15), .ref (u_2.1 16), .ref (u_2.1 17), .ref (u_2.1 18)])), ((u_2.1 9), .inl (cyI, 12, .inl (fun _ => 0))), ((u_2.1 10), .inl (cyI, 12, .inl (fun _ => 0))), ((u_2.1 11), .inl (cyI, 12, .inl (fun _ => 0))), ((u_2.1 12), .inl (cyI, 12, .inl (fun _ => 0))), ((u_2.1 13), .inl (cyI, 12, .inl (fun _ => 0))), ((u_2.1 14), .inl (cyI, 12, .inl (fun _ => 0))), ((u_2.1 15), .inl (cyI, 12, .inl (fun _ => 0))), ((u_2.1 16), .inl (cyI, 4, .inl (fun _ => 0))), ((u_2.1 17), .inl (cyI, 4, .inl (fun _ => 0))), ((u_2.1 18), .inl (cyI, 4, .inl (fun _ => 0))), (q_4, .inr (9, [.int 0, .int 0, .int 0, .ref (u_5.1 0), .ref (u_5.1 1), .ref (u_5.1 2), .ref (u_5.1 3), .ref (u_5.1 4), .ref (u_5.1 5), .int 0, .int 0, .ref (u_5.1 6), .ref (u_5.1 7), .ref (u_5.1 8), .ref (u_5.1 9)])), ((u_5.1 0), .inl (cyI, 12, .inl (fun _ => 0))), ((u_5.1 1), .inl (cyI, 12, .inl (fun _ => 0))), ((u_5.1 2), .inl (cyI, 12, .inl (fun _ => 0))), ((u_5.1 3), .inl (cyI, 12, .inl (fun _ => 0))), ((u_5.1 4), .inl (cyI, 12, .inl (fun _ => 0))), ((u_5.1 5), .inl (cyI, 12, .inl (fun _ => 0))), ((u_5.1 6), .inl (cyI, 12, .inl (fun _ => 0))), ((u_5.1 7), .inl (cyI, 4, .inl (fun _ => 0))), ((u_5.1 8), .inl (cyI, 4, .inl (fun _ => 0))), ((u_5.1 9), .inl (cyI, 4, .inl (fun _ => 0))), (q_7, .inr (7, [.ref (u_8.1 0), .ref (u_8.1 1), .ref (u_8.1 2), .ref (u_8.1 3), .int 0, .int 0, .int 0])), ((u_8.1 0), .inl (cyI, 12, .inl (fun _ => (-1)))), ((u_8.1 1), .inl (cyI, 12, .inl (fun _ => 0))), ((u_8.1 2), .inl (cyI, 12, .inl (fun _ => 0))), ((u_8.1 3), .inl (cyI, 30, .inl (fun _ => 0))), (q_10, .inr (7, [.ref (u_11.1 0), .ref (u_11.1 1), .ref (u_11.1 2), .ref (u_11.1 3), .int 0, .int 0, .int 0])), ((u_11.1 0), .inl (cyI, 12, .inl (fun _ => (-1)))), ((u_11.1 1), .inl (cyI, 12, .inl (fun _ => 0))), ((u_11.1 2), .inl (cyI, 12, .inl (fun _ => 0))), ((u_11.1 3), .inl (cyI, 30, .inl (fun _ => 0))), (q_13, .inl (cyO, 4, .inr (.inr (.inr (.inr (va_up (fun _ => none) 0 (some q_29))))))), (q_14, .inr (4, [.ref (u_15.1 0), .int 0])), ((u_15.1 0), .inl (cyI, 12, .inl (fun _ => 0))), (q_17, .inr (3, [.int 0, .ref (u_18.1 0), .ref (u_18.1 1), .int 0, .int 0, .int 0, .ref (u_18.1 2), .ref (u_18.1 3)])), ((u_18.1 0), .inl (cyI, 12, .inl (fun _ => 0))), ((u_18.1 1), .inl (cyI, 12, .inl (fun _ => 0))), ((u_18.1 2), .inl (cyI, 12, .inl (fun _ => 0))), ((u_18.1 3), .inl (cyI, 12, .inl (fun _ => 0))), (q_20, .inr (0, [.int 0, .int 0, .ref (u_21.1 0), .ref (u_21.1 1), .ref (u_21.1 2)])), ((u_21.1 0), .inl (cyI, 0, .inl (fun _ => 0))), ((u_21.1 1), .inl (cyI, 0, .inl (fun _ => 0))), ((u_21.1 2), .inl (cyI, 0, .inl (fun _ => 0))), (q_23, .inr (6, [.ref (u_24.1 0), .int 0, .int 0, .int 0, .int 0, .int 0, .ref (u_24.1 1), .ref (u_24.1 2)])), ((u_24.1 0), .inl (cyI, 7, .inl (fun _ => 0))), ((u_24.1 1), .inl (cyI, 7, .inl (fun _ => 0))), ((u_24.1 2), .inl (cyI, 12, .inl (fun _ => 0))), (q_26, .inr (2, [.ref (u_27.1 0)])), ((u_27.1 0), .inl (cyJ, 4, .inr (.inl (fun _ => 0)))), (q_29, .inr (7, [.ref (u_30.1 0), .ref (u_30.1 1), .ref (u_30.1 2), .ref (u_30.1 3), .int 0, .int 0, .int 0])), ((u_30.1 0), .inl (cyI, 12, .inl (fun _ => (-1)))), ((u_30.1 1), .inl (cyI, 12, .inl (fun _ => 0))), ((u_30.1 2), .inl (cyI, 12, .inl (fun _ => 0))), ((u_30.1 3), .inl (cyI, 30, .inl (fun _ => 0)))]) C 42 4 60 7 rfl rfl rfl rfl (by decide) (by decide) (by decide) dX10_init_130 rfl ?_
  refine j_iinc (pc := 131) (v := 1) (lv' := [(1, .int 1), (0, .ref h0)]) C dX10_init_131 0 rfl (by decide) (by decide) rfl ?_
  refine j_goto (pc := 134) (tgt := 113) C dX10_init_134 (by decide) ?_
  refine j_iload_n (pc := 113) C dX10_init_113 rfl 0 rfl ?_
  refine j_iconst (pc := 114) (v := 4) C dX10_init_114 (by decide) ?_
  refine j_icmp_ge_f (pc := 115) (tgt := 137) C dX10_init_115 (by decide) (by decide) ?_
  refine j_aload_n (pc := 118) C dX10_init_118 rfl 1 rfl ?_
  refine j_get (pc := 119) (ci := 10) (v := .ref q_13) C inw_10 0 rfl rfl 4 (by decide) wd_86 rfl rfl dX10_init_119 ?_
  refine j_iload_n (pc := 122) C dX10_init_122 rfl 0 rfl ?_
  refine j_new (pc := 123) (ci := 7) (fs := [.null, .null, .null, .null, .int 0, .int 0, .int 0]) C inw_7 tyX7_ok wd_78 wd_79 wd_80 rfl ndX7 (by decide) (by decide) dX10_init_123 (fun q_32 => ?_)
  refine j_widen (k := 65) (n := 2636) (by decide) (by decide) ?_
  refine j_dup (pc := 126) C dX10_init_126 rfl ?_
  refine j_callI (pc := 127) (As := []) (rest := [.ref q_32, .int 1, .ref q_13]) (wr := [(h0, .inr (10, [.ref q_1, .ref q_4, .ref q_7, .ref q_10, .ref q_13, .ref q_14, .ref q_17, .ref q_20, .ref q_23, .ref q_26])), (q_1, .inr (5, [.ref (u_2.1 0), .ref (u_2.1 2), .ref (u_2.1 6), .ref (u_2.1 7), .ref (u_2.1 8), .int 0, .int 0])), ((u_2.1 0), .inr (8, [.ref (u_2.1 1), .int 0, .int 0, .int 0, .int 0, .int 0])), ((u_2.1 1), .inl (cyC, 1000, .inl (fun _ => 0))), ((u_2.1 2), .inr (1, [.int 0, .int 0, .ref (u_2.1 3), .ref (u_2.1 4), .ref (u_2.1 5)])), ((u_2.1 3), .inl (cyI, 1000, .inl (fun _ => 0))), ((u_2.1 4), .inl (cyI, 4, .inl (fun _ => 0))), ((u_2.1 5), .inl (cyI, 32, .inl (fun _ => 0))), ((u_2.1 6), .inl (cyJ, 12, .inr (.inl (fun _ => 0)))), ((u_2.1 7), .inl (cyJ, 4, .inr (.inl (fun _ => 0)))), ((u_2.1 8), .inr (9, [.int 0, .int 0, .int 0, .ref (u_2.1 9), .ref (u_2.1 10), .ref (u_2.1 11), .ref (u_2.1 12), .ref (u_2.1 13), .ref (u_2.1 14), .int 0, .int 0, .ref (u_2.1 15), .ref (u_2.1 16), .ref (u_2.1 17), .ref (u_2.1 18)])), ((u_2.1 9), .inl (cyI, 12, .inl (fun _ => 0))), ((u_2.1 10), .inl (cyI, 12, .inl (fun _ => 0))), ((u_2.1 11), .inl (cyI, 12, .inl (fun _ => 0))), ((u_2.1 12), .inl (cyI, 12, .inl (fun _ => 0))), ((u_2.1 13), .inl (cyI, 12, .inl (fun _ => 0))), ((u_2.1 14), .inl (cyI, 12, .inl (fun _ => 0))), ((u_2.1 15), .inl (cyI, 12, .inl (fun _ => 0))), ((u_2.1 16), .inl (cyI, 4, .inl (fun _ => 0))), ((u_2.1 17), .inl (cyI, 4, .inl (fun _ => 0))), ((u_2.1 18), .inl (cyI, 4, .inl (fun _ => 0))), (q_4, .inr (9, [.int 0, .int 0, .int 0, .ref (u_5.1 0), .ref (u_5.1 1), .ref (u_5.1 2), .ref (u_5.1 3), .ref (u_5.1 4), .ref (u_5.1 5), .int 0, .int 0, .ref (u_5.1 6), .ref (u_5.1 7), .ref (u_5.1 8), .ref (u_5.1 9)])), ((u_5.1 0), .inl (cyI, 12, .inl (fun _ => 0))), ((u_5.1 1), .inl (cyI, 12, .inl (fun _ => 0))), ((u_5.1 2), .inl (cyI, 12, .inl (fun _ => 0))), ((u_5.1 3), .inl (cyI, 12, .inl (fun _ => 0))), ((u_5.1 4), .inl (cyI, 12, .inl (fun _ => 0))), ((u_5.1 5), .inl (cyI, 12, .inl (fun _ => 0))), ((u_5.1 6), .inl (cyI, 12, .inl (fun _ => 0))), ((u_5.1 7), .inl (cyI, 4, .inl (fun _ => 0))), ((u_5.1 8), .inl (cyI, 4, .inl (fun _ => 0))), ((u_5.1 9), .inl (cyI, 4, .inl (fun _ => 0))), (q_7, .inr (7, [.ref (u_8.1 0), .ref (u_8.1 1), .ref (u_8.1 2), .ref (u_8.1 3), .int 0, .int 0, .int 0])), ((u_8.1 0), .inl (cyI, 12, .inl (fun _ => (-1)))), ((u_8.1 1), .inl (cyI, 12, .inl (fun _ => 0))), ((u_8.1 2), .inl (cyI, 12, .inl (fun _ => 0))), ((u_8.1 3), .inl (cyI, 30, .inl (fun _ => 0))), (q_10, .inr (7, [.ref (u_11.1 0), .ref (u_11.1 1), .ref (u_11.1 2), .ref (u_11.1 3), .int 0, .int 0, .int 0])), ((u_11.1 0), .inl (cyI, 12, .inl (fun _ => (-1)))), ((u_11.1 1), .inl (cyI, 12, .inl (fun _ => 0))), ((u_11.1 2), .inl (cyI, 12, .inl (fun _ => 0))), ((u_11.1 3), .inl (cyI, 30, .inl (fun _ => 0))), (q_13, .inl (cyO, 4, .inr (.inr (.inr (.inr (va_up (fun _ => none) 0 (some q_29))))))), (q_14, .inr (4, [.ref (u_15.1 0), .int 0])), ((u_15.1 0), .inl (cyI, 12, .inl (fun _ => 0))), (q_17, .inr (3, [.int 0, .ref (u_18.1 0), .ref (u_18.1 1), .int 0, .int 0, .int 0, .ref (u_18.1 2), .ref (u_18.1 3)])), ((u_18.1 0), .inl (cyI, 12, .inl (fun _ => 0))), ((u_18.1 1), .inl (cyI, 12, .inl (fun _ => 0))), ((u_18.1 2), .inl (cyI, 12, .inl (fun _ => 0))), ((u_18.1 3), .inl (cyI, 12, .inl (fun _ => 0))), (q_20, .inr (0, [.int 0, .int 0, .ref (u_21.1 0), .ref (u_21.1 1), .ref (u_21.1 2)])), ((u_21.1 0), .inl (cyI, 0, .inl (fun _ => 0))), ((u_21.1 1), .inl (cyI, 0, .inl (fun _ => 0))), ((u_21.1 2), .inl (cyI, 0, .inl (fun _ => 0))), (q_23, .inr (6, [.ref (u_24.1 0), .int 0, .int 0, .int 0, .int 0, .int 0, .ref (u_24.1 1), .ref (u_24.1 2)])), ((u_24.1 0), .inl (cyI, 7, .inl (fun _ => 0))), ((u_24.1 1), .inl (cyI, 7, .inl (fun _ => 0))), ((u_24.1 2), .inl (cyI, 12, .inl (fun _ => 0))), (q_26, .inr (2, [.ref (u_27.1 0)])), ((u_27.1 0), .inl (cyJ, 4, .inr (.inl (fun _ => 0)))), (q_29, .inr (7, [.ref (u_30.1 0), .ref (u_30.1 1), .ref (u_30.1 2), .ref (u_30.1 3), .int 0, .int 0, .int 0])), ((u_30.1 0), .inl (cyI, 12, .inl (fun _ => (-1)))), ((u_30.1 1), .inl (cyI, 12, .inl (fun _ => 0))), ((u_30.1 2), .inl (cyI, 12, .inl (fun _ => 0))), ((u_30.1 3), .inl (cyI, 30, .inl (fun _ => 0)))]) C (c_X7_init l D cyC cyI cyJ cyZ cyO q_32) wd_81 wd_80 wd_82 wd_83 rfl ⟨by decide, by decide, rfl⟩ rfl ⟨rfl, rfl, by decide, by decide⟩ ⟨by decide, by decide⟩ [65] [0, 1, 2, 3, 4, 5, 6, 7, 8, 9, 10, 11, 12, 13, 14, 15, 16, 17, 18, 19, 20, 21, 22, 23, 24, 25, 26, 27, 28, 29, 30, 31, 32, 33, 34, 35, 36, 37, 38, 39, 40, 41, 42, 43, 44, 45, 46, 47, 48, 49, 50, 51, 52, 53, 54, 55, 56, 57, 58, 59, 60, 61, 62, 63, 64] rfl rfl ⟨by decide, by decide, by decide⟩ rfl (Nat.le_of_ble_eq_true rfl) dX10_init_127 (fun u_33 hw_34 => ?_)
  refine j_eq (ws2 := [(h0, .inr (10, [.ref q_1, .ref q_4, .ref q_7, .ref q_10, .ref q_13, .ref q_14, .ref q_17, .ref q_20, .ref q_23, .ref q_26])), (q_1, .inr (5, [.ref (u_2.1 0), .ref (u_2.1 2), .ref (u_2.1 6), .ref (u_2.1 7), .ref (u_2.1 8), .int 0, .int 0])), ((u_2.1 0), .inr (8, [.ref (u_2.1 1), .int 0, .int 0, .int 0, .int 0, .int 0])), ((u_2.1 1), .inl (cyC, 1000, .inl (fun _ => 0))), ((u_2.1 2), .inr (1, [.int 0, .int 0, .ref (u_2.1 3), .ref (u_2.1 4), .ref (u_2.1 5)])), ((u_2.1 3), .inl (cyI, 1000, .inl (fun _ => 0))), ((u_2.1 4), .inl (cyI, 4, .inl (fun _ => 0))), ((u_2.1 5), .inl (cyI, 32, .inl (fun _ => 0))), ((u_2.1 6), .inl (cyJ, 12, .inr (.inl (fun _ => 0)))), ((u_2.1 7), .inl (cyJ, 4, .inr (.inl (fun _ => 0)))), ((u_2.1 8), .inr (9, [.int 0, .int 0, .int 0, .ref (u_2.1 9), .ref (u_2.1 10), .ref (u_2.1 11), .ref (u_2.1 12), .ref (u_2.1 13), .ref (u_2.1 14), .int 0, .int 0, .ref (u_2.1 15), .ref (u_2.1 16), .ref (u_2.1 17), .ref (u_2.1 18)])), ((u_2.1 9), .inl (cyI, 12, .inl (fun _ => 0))), ((u_2.1 10), .inl (cyI, 12, .inl (fun _ => 0))), ((u_2.1 11), .inl (cyI, 12, .inl (fun _ => 0))), ((u_2.1 12), .inl (cyI, 12, .inl (fun _ => 0))), ((u_2.1 13), .inl (cyI, 12, .inl (fun _ => 0))), ((u_2.1 14), .inl (cyI, 12, .inl (fun _ => 0))), ((u_2.1 15), .inl (cyI, 12, .inl (fun _ => 0))), ((u_2.1 16), .inl (cyI, 4, .inl (fun _ => 0))), ((u_2.1 17), .inl (cyI, 4, .inl (fun _ => 0))), ((u_2.1 18), .inl (cyI, 4, .inl (fun _ => 0))), (q_4, .inr (9, [.int 0, .int 0, .int 0, .ref (u_5.1 0), .ref (u_5.1 1), .ref (u_5.1 2), .ref (u_5.1 3), .ref (u_5.1 4), .ref (u_5.1 5), .int 0, .int 0, .ref (u_5.1 6), .ref (u_5.1 7), .ref (u_5.1 8), .ref (u_5.1 9)])), ((u_5.1 0), .inl (cyI, 12, .inl (fun _ => 0))), ((u_5.1 1), .inl (cyI, 12, .inl (fun _ => 0))), ((u_5.1 2), .inl (cyI, 12, .inl (fun _ => 0))), ((u_5.1 3), .inl (cyI, 12, .inl (fun _ => 0))), ((u_5.1 4), .inl (cyI, 12, .inl (fun _ => 0))), ((u_5.1 5), .inl (cyI, 12, .inl (fun _ => 0))), ((u_5.1 6), .inl (cyI, 12, .inl (fun _ => 0))), ((u_5.1 7), .inl (cyI, 4, .inl (fun _ => 0))), ((u_5.1 8), .inl (cyI, 4, .inl (fun _ => 0))), ((u_5.1 9), .inl (cyI, 4, .inl (fun _ => 0))), (q_7, .inr (7, [.ref (u_8.1 0), .ref (u_8.1 1), .ref (u_8.1 2), .ref (u_8.1 3), .int 0, .int 0, .int 0])), ((u_8.1 0), .inl (cyI, 12, .inl (fun _ => (-1)))), ((u_8.1 1), .inl (cyI, 12, .inl (fun _ => 0))), ((u_8.1 2), .inl (cyI, 12, .inl (fun _ => 0))), ((u_8.1 3), .inl (cyI, 30, .inl (fun _ => 0))), (q_10, .inr (7, [.ref (u_11.1 0), .ref (u_11.1 1), .ref (u_11.1 2), .ref (u_11.1 3), .int 0, .int 0, .int 0])), ((u_11.1 0), .inl (cyI, 12, .inl (fun _ => (-1)))), ((u_11.1 1), .inl (cyI, 12, .inl (fun _ => 0))), ((u_11.1 2), .inl (cyI, 12, .inl (fun _ => 0))), ((u_11.1 3), .inl (cyI, 30, .inl (fun _ => 0))), (q_13, .inl (cyO, 4, .inr (.inr (.inr (.inr (va_up (fun _ => none) 0 (some q_29))))))), (q_14, .inr (4, [.ref (u_15.1 0), .int 0])), ((u_15.1 0), .inl (cyI, 12, .inl (fun _ => 0))), (q_17, .inr (3, [.int 0, .ref (u_18.1 0), .ref (u_18.1 1), .int 0, .int 0, .int 0, .ref (u_18.1 2), .ref (u_18.1 3)])), ((u_18.1 0), .inl (cyI, 12, .inl (fun _ => 0))), ((u_18.1 1), .inl (cyI, 12, .inl (fun _ => 0))), ((u_18.1 2), .inl (cyI, 12, .inl (fun _ => 0))), ((u_18.1 3), .inl (cyI, 12, .inl (fun _ => 0))), (q_20, .inr (0, [.int 0, .int 0, .ref (u_21.1 0), .ref (u_21.1 1), .ref (u_21.1 2)])), ((u_21.1 0), .inl (cyI, 0, .inl (fun _ => 0))), ((u_21.1 1), .inl (cyI, 0, .inl (fun _ => 0))), ((u_21.1 2), .inl (cyI, 0, .inl (fun _ => 0))), (q_23, .inr (6, [.ref (u_24.1 0), .int 0, .int 0, .int 0, .int 0, .int 0, .ref (u_24.1 1), .ref (u_24.1 2)])), ((u_24.1 0), .inl (cyI, 7, .inl (fun _ => 0))), ((u_24.1 1), .inl (cyI, 7, .inl (fun _ => 0))), ((u_24.1 2), .inl (cyI, 12, .inl (fun _ => 0))), (q_26, .inr (2, [.ref (u_27.1 0)])), ((u_27.1 0), .inl (cyJ, 4, .inr (.inl (fun _ => 0)))), (q_29, .inr (7, [.ref (u_30.1 0), .ref (u_30.1 1), .ref (u_30.1 2), .ref (u_30.1 3), .int 0, .int 0, .int 0])), ((u_30.1 0), .inl (cyI, 12, .inl (fun _ => (-1)))), ((u_30.1 1), .inl (cyI, 12, .inl (fun _ => 0))), ((u_30.1 2), .inl (cyI, 12, .inl (fun _ => 0))), ((u_30.1 3), .inl (cyI, 30, .inl (fun _ => 0))), (q_32, .inr (7, [.ref (u_33.1 0), .ref (u_33.1 1), .ref (u_33.1 2), .ref (u_33.1 3), .int 0, .int 0, .int 0])), ((u_33.1 0), .inl (cyI, 12, .inl (fun _ => (-1)))), ((u_33.1 1), .inl (cyI, 12, .inl (fun _ => 0))), ((u_33.1 2), .inl (cyI, 12, .inl (fun _ => 0))), ((u_33.1 3), .inl (cyI, 30, .inl (fun _ => 0)))]) (pc2 := 130) (lv2 := [(1, .int 1), (0, .ref h0)]) (st2 := [.ref q_32, .int 1, .ref q_13]) rfl rfl rfl rfl ?_
  refine j_widen (k := 69) (n := 2702) (by decide) (by decide) ?_
  refine j_aast (pc := 130) (k := 1) (ws' := [(h0, .inr (10, [.ref q_1, .ref q_4, .ref q_7, .ref q_10, .ref q_13, .ref q_14, .ref q_17, .ref q_20, .ref q_23, .ref q_26])), (q_1, .inr (5, [.ref (u_2.1 0), .ref (u_2.1 2), .ref (u_2.1 6), .ref (u_2.1 7), .ref (u_2.1 8), .int 0, .int 0])), ((u_2.1 0), .inr (8, [.ref (u_2.1 1), .int 0, .int 0, .int 0, .int 0, .int 0])), ((u_2.1 1), .inl (cyC, 1000, .inl (fun _ => 0))), ((u_2.1 2), .inr (1, [.int 0, .int 0, .ref (u_2.1 3), .ref (u_2.1 4), .ref (u_2.1 5)])), ((u_2.1 3), .inl (cyI, 1000, .inl (fun _ => 0))), ((u_2.1 4), .inl (cyI, 4, .inl (fun _ => 0))), ((u_2.1 5), .inl (cyI, 32, .inl (fun _ => 0))), ((u_2.1 6), .inl (cyJ, 12, .inr (.inl (fun _ => 0)))), ((u_2.1 7), .inl (cyJ, 4, .inr (.inl (fun _ => 0)))), ((u_2.1 8), .inr (9, [.int 0, .int 0, .int 0, .ref (u_2.1 9), .ref (u_2.1 10), .ref (u_2.1 11), .ref (u_2.1 12), .ref (u_2.1 13), .ref (u_2.1 14), .int 0, .int 0, .ref (u_2.1 15), .ref (u_2.1 16), .ref (u_2.1 17), .ref (u_2.1 18)])), ((u_2.1 9), .inl (cyI, 12, .inl (fun _ => 0))), ((u_2.1 10), .inl (cyI, 12, .inl (fun _ => 0))), ((u_2.1 11), .inl (cyI, 12, .inl (fun _ => 0))), ((u_2.1 12), .inl (cyI, 12, .inl (fun _ => 0))), ((u_2.1 13), .inl (cyI, 12, .inl (fun _ => 0))), ((u_2.1 14), .inl (cyI, 12, .inl (fun _ => 0))), ((u_2.1 15), .inl (cyI, 12, .inl (fun _ => 0))), ((u_2.1 16), .inl (cyI, 4, .inl (fun _ => 0))), ((u_2.1 17), .inl (cyI, 4, .inl (fun _ => 0))), ((u_2.1 18), .inl (cyI, 4, .inl (fun _ => 0))), (q_4, .inr (9, [.int 0, .int 0, .int 0, .ref (u_5.1 0), .ref (u_5.1 1), .ref (u_5.1 2), .ref (u_5.1 3), .ref (u_5.1 4), .ref (u_5.1 5), .int 0, .int 0, .ref (u_5.1 6), .ref (u_5.1 7), .ref (u_5.1 8), .ref (u_5.1 9)])), ((u_5.1 0), .inl (cyI, 12, .inl (fun _ => 0))), ((u_5.1 1), .inl (cyI, 12, .inl (fun _ => 0))), ((u_5.1 2), .inl (cyI, 12, .inl (fun _ => 0))), ((u_5.1 3), .inl (cyI, 12, .inl (fun _ => 0))), ((u_5.1 4), .inl (cyI, 12, .inl (fun _ => 0))), ((u_5.1 5), .inl (cyI, 12, .inl (fun _ => 0))), ((u_5.1 6), .inl (cyI, 12, .inl (fun _ => 0))), ((u_5.1 7), .inl (cyI, 4, .inl (fun _ => 0))), ((u_5.1 8), .inl (cyI, 4, .inl (fun _ => 0))), ((u_5.1 9), .inl (cyI, 4, .inl (fun _ => 0))), (q_7, .inr (7, [.ref (u_8.1 0), .ref (u_8.1 1), .ref (u_8.1 2), .ref (u_8.1 3), .int 0, .int 0, .int 0])), ((u_8.1 0), .inl (cyI, 12, .inl (fun _ => (-1)))), ((u_8.1 1), .inl (cyI, 12, .inl (fun _ => 0))), ((u_8.1 2), .inl (cyI, 12, .inl (fun _ => 0))), ((u_8.1 3), .inl (cyI, 30, .inl (fun _ => 0))), (q_10, .inr (7, [.ref (u_11.1 0), .ref (u_11.1 1), .ref (u_11.1 2), .ref (u_11.1 3), .int 0, .int 0, .int 0])), ((u_11.1 0), .inl (cyI, 12, .inl (fun _ => (-1)))), ((u_11.1 1), .inl (cyI, 12, .inl (fun _ => 0))), ((u_11.1 2), .inl (cyI, 12, .inl (fun _ => 0))), ((u_11.1 3), .inl (cyI, 30, .inl (fun _ => 0))), (q_13, .inl (cyO, 4, .inr (.inr (.inr (.inr (va_up (va_up (fun _ => none) 0 (some q_29)) 1 (some q_32))))))), (q_14, .inr (4, [.ref (u_15.1 0), .int 0])), ((u_15.1 0), .inl (cyI, 12, .inl (fun _ => 0))), (q_17, .inr (3, [.int 0, .ref (u_18.1 0), .ref (u_18.1 1), .int 0, .int 0, .int 0, .ref (u_18.1 2), .ref (u_18.1 3)])), ((u_18.1 0), .inl (cyI, 12, .inl (fun _ => 0))), ((u_18.1 1), .inl (cyI, 12, .inl (fun _ => 0))), ((u_18.1 2), .inl (cyI, 12, .inl (fun _ => 0))), ((u_18.1 3), .inl (cyI, 12, .inl (fun _ => 0))), (q_20, .inr (0, [.int 0, .int 0, .ref (u_21.1 0), .ref (u_21.1 1), .ref (u_21.1 2)])), ((u_21.1 0), .inl (cyI, 0, .inl (fun _ => 0))), ((u_21.1 1), .inl (cyI, 0, .inl (fun _ => 0))), ((u_21.1 2), .inl (cyI, 0, .inl (fun _ => 0))), (q_23, .inr (6, [.ref (u_24.1 0), .int 0, .int 0, .int 0, .int 0, .int 0, .ref (u_24.1 1), .ref (u_24.1 2)])), ((u_24.1 0), .inl (cyI, 7, .inl (fun _ => 0))), ((u_24.1 1), .inl (cyI, 7, .inl (fun _ => 0))), ((u_24.1 2), .inl (cyI, 12, .inl (fun _ => 0))), (q_26, .inr (2, [.ref (u_27.1 0)])), ((u_27.1 0), .inl (cyJ, 4, .inr (.inl (fun _ => 0)))), (q_29, .inr (7, [.ref (u_30.1 0), .ref (u_30.1 1), .ref (u_30.1 2), .ref (u_30.1 3), .int 0, .int 0, .int 0])), ((u_30.1 0), .inl (cyI, 12, .inl (fun _ => (-1)))), ((u_30.1 1), .inl (cyI, 12, .inl (fun _ => 0))), ((u_30.1 2), .inl (cyI, 12, .inl (fun _ => 0))), ((u_30.1 3), .inl (cyI, 30, .inl (fun _ => 0))), (q_32, .inr (7, [.ref (u_33.1 0), .ref (u_33.1 1), .ref (u_33.1 2), .ref (u_33.1 3), .int 0, .int 0, .int 0])), ((u_33.1 0), .inl (cyI, 12, .inl (fun _ => (-1)))), ((u_33.1 1), .inl (cyI, 12, .inl (fun _ => 0))), ((u_33.1 2), .inl (cyI, 12, .inl (fun _ => 0))), ((u_33.1 3), .inl (cyI, 30, .inl (fun _ => 0)))]) C 42 4 65 7 rfl rfl rfl rfl (by decide) (by decide) (by decide) dX10_init_130 rfl ?_
  refine j_iinc (pc := 131) (v := 2) (lv' := [(1, .int 2), (0, .ref h0)]) C dX10_init_131 0 rfl (by decide) (by decide) rfl ?_
  refine j_goto (pc := 134) (tgt := 113) C dX10_init_134 (by decide) ?_
  refine j_iload_n (pc := 113) C dX10_init_113 rfl 0 rfl ?_
  refine j_iconst (pc := 114) (v := 4) C dX10_init_114 (by decide) ?_
  refine j_icmp_ge_f (pc := 115) (tgt := 137) C dX10_init_115 (by decide) (by decide) ?_
  refine j_aload_n (pc := 118) C dX10_init_118 rfl 1 rfl ?_
  refine j_get (pc := 119) (ci := 10) (v := .ref q_13) C inw_10 0 rfl rfl 4 (by decide) wd_86 rfl rfl dX10_init_119 ?_
  refine j_iload_n (pc := 122) C dX10_init_122 rfl 0 rfl ?_
  refine j_new (pc := 123) (ci := 7) (fs := [.null, .null, .null, .null, .int 0, .int 0, .int 0]) C inw_7 tyX7_ok wd_78 wd_79 wd_80 rfl ndX7 (by decide) (by decide) dX10_init_123 (fun q_35 => ?_)
  refine j_widen (k := 70) (n := 2709) (by decide) (by decide) ?_
  refine j_dup (pc := 126) C dX10_init_126 rfl ?_
  refine j_callI (pc := 127) (As := []) (rest := [.ref q_35, .int 2, .ref q_13]) (wr := [(h0, .inr (10, [.ref q_1, .ref q_4, .ref q_7, .ref q_10, .ref q_13, .ref q_14, .ref q_17, .ref q_20, .ref q_23, .ref q_26])), (q_1, .inr (5, [.ref (u_2.1 0), .ref (u_2.1 2), .ref (u_2.1 6), .ref (u_2.1 7), .ref (u_2.1 8), .int 0, .int 0])), ((u_2.1 0), .inr (8, [.ref (u_2.1 1), .int 0, .int 0, .int 0, .int 0, .int 0])), ((u_2.1 1), .inl (cyC, 1000, .inl (fun _ => 0))), ((u_2.1 2), .inr (1, [.int 0, .int 0, .ref (u_2.1 3), .ref (u_2.1 4), .ref (u_2.1 5)])), ((u_2.1 3), .inl (cyI, 1000, .inl (fun _ => 0))), ((u_2.1 4), .inl (cyI, 4, .inl (fun _ => 0))), ((u_2.1 5), .inl (cyI, 32, .inl (fun _ => 0))), ((u_2.1 6), .inl (cyJ, 12, .inr (.inl (fun _ => 0)))), ((u_2.1 7), .inl (cyJ, 4, .inr (.inl (fun _ => 0)))), ((u_2.1 8), .inr (9, [.int 0, .int 0, .int 0, .ref (u_2.1 9), .ref (u_2.1 10), .ref (u_2.1 11), .ref (u_2.1 12), .ref (u_2.1 13), .ref (u_2.1 14), .int 0, .int 0, .ref (u_2.1 15), .ref (u_2.1 16), .ref (u_2.1 17), .ref (u_2.1 18)])), ((u_2.1 9), .inl (cyI, 12, .inl (fun _ => 0))), ((u_2.1 10), .inl (cyI, 12, .inl (fun _ => 0))), ((u_2.1 11), .inl (cyI, 12, .inl (fun _ => 0))), ((u_2.1 12), .inl (cyI, 12, .inl (fun _ => 0))), ((u_2.1 13), .inl (cyI, 12, .inl (fun _ => 0))), ((u_2.1 14), .inl (cyI, 12, .inl (fun _ => 0))), ((u_2.1 15), .inl (cyI, 12, .inl (fun _ => 0))), ((u_2.1 16), .inl (cyI, 4, .inl (fun _ => 0))), ((u_2.1 17), .inl (cyI, 4, .inl (fun _ => 0))), ((u_2.1 18), .inl (cyI, 4, .inl (fun _ => 0))), (q_4, .inr (9, [.int 0, .int 0, .int 0, .ref (u_5.1 0), .ref (u_5.1 1), .ref (u_5.1 2), .ref (u_5.1 3), .ref (u_5.1 4), .ref (u_5.1 5), .int 0, .int 0, .ref (u_5.1 6), .ref (u_5.1 7), .ref (u_5.1 8), .ref (u_5.1 9)])), ((u_5.1 0), .inl (cyI, 12, .inl (fun _ => 0))), ((u_5.1 1), .inl (cyI, 12, .inl (fun _ => 0))), ((u_5.1 2), .inl (cyI, 12, .inl (fun _ => 0))), ((u_5.1 3), .inl (cyI, 12, .inl (fun _ => 0))), ((u_5.1 4), .inl (cyI, 12, .inl (fun _ => 0))), ((u_5.1 5), .inl (cyI, 12, .inl (fun _ => 0))), ((u_5.1 6), .inl (cyI, 12, .inl (fun _ => 0))), ((u_5.1 7), .inl (cyI, 4, .inl (fun _ => 0))), ((u_5.1 8), .inl (cyI, 4, .inl (fun _ => 0))), ((u_5.1 9), .inl (cyI, 4, .inl (fun _ => 0))), (q_7, .inr (7, [.ref (u_8.1 0), .ref (u_8.1 1), .ref (u_8.1 2), .ref (u_8.1 3), .int 0, .int 0, .int 0])), ((u_8.1 0), .inl (cyI, 12, .inl (fun _ => (-1)))), ((u_8.1 1), .inl (cyI, 12, .inl (fun _ => 0))), ((u_8.1 2), .inl (cyI, 12, .inl (fun _ => 0))), ((u_8.1 3), .inl (cyI, 30, .inl (fun _ => 0))), (q_10, .inr (7, [.ref (u_11.1 0), .ref (u_11.1 1), .ref (u_11.1 2), .ref (u_11.1 3), .int 0, .int 0, .int 0])), ((u_11.1 0), .inl (cyI, 12, .inl (fun _ => (-1)))), ((u_11.1 1), .inl (cyI, 12, .inl (fun _ => 0))), ((u_11.1 2), .inl (cyI, 12, .inl (fun _ => 0))), ((u_11.1 3), .inl (cyI, 30, .inl (fun _ => 0))), (q_13, .inl (cyO, 4, .inr (.inr (.inr (.inr (va_up (va_up (fun _ => none) 0 (some q_29)) 1 (some q_32))))))), (q_14, .inr (4, [.ref (u_15.1 0), .int 0])), ((u_15.1 0), .inl (cyI, 12, .inl (fun _ => 0))), (q_17, .inr (3, [.int 0, .ref (u_18.1 0), .ref (u_18.1 1), .int 0, .int 0, .int 0, .ref (u_18.1 2), .ref (u_18.1 3)])), ((u_18.1 0), .inl (cyI, 12, .inl (fun _ => 0))), ((u_18.1 1), .inl (cyI, 12, .inl (fun _ => 0))), ((u_18.1 2), .inl (cyI, 12, .inl (fun _ => 0))), ((u_18.1 3), .inl (cyI, 12, .inl (fun _ => 0))), (q_20, .inr (0, [.int 0, .int 0, .ref (u_21.1 0), .ref (u_21.1 1), .ref (u_21.1 2)])), ((u_21.1 0), .inl (cyI, 0, .inl (fun _ => 0))), ((u_21.1 1), .inl (cyI, 0, .inl (fun _ => 0))), ((u_21.1 2), .inl (cyI, 0, .inl (fun _ => 0))), (q_23, .inr (6, [.ref (u_24.1 0), .int 0, .int 0, .int 0, .int 0, .int 0, .ref (u_24.1 1), .ref (u_24.1 2)])), ((u_24.1 0), .inl (cyI, 7, .inl (fun _ => 0))), ((u_24.1 1), .inl (cyI, 7, .inl (fun _ => 0))), ((u_24.1 2), .inl (cyI, 12, .inl (fun _ => 0))), (q_26, .inr (2, [.ref (u_27.1 0)])), ((u_27.1 0), .inl (cyJ, 4, .inr (.inl (fun _ => 0)))), (q_29, .inr (7, [.ref (u_30.1 0), .ref (u_30.1 1), .ref (u_30.1 2), .ref (u_30.1 3), .int 0, .int 0, .int 0])), ((u_30.1 0), .inl (cyI, 12, .inl (fun _ => (-1)))), ((u_30.1 1), .inl (cyI, 12, .inl (fun _ => 0))), ((u_30.1 2), .inl (cyI, 12, .inl (fun _ => 0))), ((u_30.1 3), .inl (cyI, 30, .inl (fun _ => 0))), (q_32, .inr (7, [.ref (u_33.1 0), .ref (u_33.1 1), .ref (u_33.1 2), .ref (u_33.1 3), .int 0, .int 0, .int 0])), ((u_33.1 0), .inl (cyI, 12, .inl (fun _ => (-1)))), ((u_33.1 1), .inl (cyI, 12, .inl (fun _ => 0))), ((u_33.1 2), .inl (cyI, 12, .inl (fun _ => 0))), ((u_33.1 3), .inl (cyI, 30, .inl (fun _ => 0)))]) C (c_X7_init l D cyC cyI cyJ cyZ cyO q_35) wd_81 wd_80 wd_82 wd_83 rfl ⟨by decide, by decide, rfl⟩ rfl ⟨rfl, rfl, by decide, by decide⟩ ⟨by decide, by decide⟩ [70] [0, 1, 2, 3, 4, 5, 6, 7, 8, 9, 10, 11, 12, 13, 14, 15, 16, 17, 18, 19, 20, 21, 22, 23, 24, 25, 26, 27, 28, 29, 30, 31, 32, 33, 34, 35, 36, 37, 38, 39, 40, 41, 42, 43, 44, 45, 46, 47, 48, 49, 50, 51, 52, 53, 54, 55, 56, 57, 58, 59, 60, 61, 62, 63, 64, 65, 66, 67, 68, 69] rfl rfl ⟨by decide, by decide, by decide⟩ rfl (Nat.le_of_ble_eq_true rfl) dX10_init_127 (fun u_36 hw_37 => ?_)
  refine j_eq (ws2 := [(h0, .inr (10, [.ref q_1, .ref q_4, .ref q_7, .ref q_10, .ref q_13, .ref q_14, .ref q_17, .ref q_20, .ref q_23, .ref q_26])), (q_1, .inr (5, [.ref (u_2.1 0), .ref (u_2.1 2), .ref (u_2.1 6), .ref (u_2.1 7), .ref (u_2.1 8), .int 0, .int 0])), ((u_2.1 0), .inr (8, [.ref (u_2.1 1), .int 0, .int 0, .int 0, .int 0, .int 0])), ((u_2.1 1), .inl (cyC, 1000, .inl (fun _ => 0))), ((u_2.1 2), .inr (1, [.int 0, .int 0, .ref (u_2.1 3), .ref (u_2.1 4), .ref (u_2.1 5)])), ((u_2.1 3), .inl (cyI, 1000, .inl (fun _ => 0))), ((u_2.1 4), .inl (cyI, 4, .inl (fun _ => 0))), ((u_2.1 5), .inl (cyI, 32, .inl (fun _ => 0))), ((u_2.1 6), .inl (cyJ, 12, .inr (.inl (fun _ => 0)))), ((u_2.1 7), .inl (cyJ, 4, .inr (.inl (fun _ => 0)))), ((u_2.1 8), .inr (9, [.int 0, .int 0, .int 0, .ref (u_2.1 9), .ref (u_2.1 10), .ref (u_2.1 11), .ref (u_2.1 12), .ref (u_2.1 13), .ref (u_2.1 14), .int 0, .int 0, .ref (u_2.1 15), .ref (u_2.1 16), .ref (u_2.1 17), .ref (u_2.1 18)])), ((u_2.1 9), .inl (cyI, 12, .inl (fun _ => 0))), ((u_2.1 10), .inl (cyI, 12, .inl (fun _ => 0))), ((u_2.1 11), .inl (cyI, 12, .inl (fun _ => 0))), ((u_2.1 12), .inl (cyI, 12, .inl (fun _ => 0))), ((u_2.1 13), .inl (cyI, 12, .inl (fun _ => 0))), ((u_2.1 14), .inl (cyI, 12, .inl (fun _ => 0))), ((u_2.1 15), .inl (cyI, 12, .inl (fun _ => 0))), ((u_2.1 16), .inl (cyI, 4, .inl (fun _ => 0))), ((u_2.1 17), .inl (cyI, 4, .inl (fun _ => 0))), ((u_2.1 18), .inl (cyI, 4, .inl (fun _ => 0))), (q_4, .inr (9, [.int 0, .int 0, .int 0, .ref (u_5.1 0), .ref (u_5.1 1), .ref (u_5.1 2), .ref (u_5.1 3), .ref (u_5.1 4), .ref (u_5.1 5), .int 0, .int 0, .ref (u_5.1 6), .ref (u_5.1 7), .ref (u_5.1 8), .ref (u_5.1 9)])), ((u_5.1 0), .inl (cyI, 12, .inl (fun _ => 0))), ((u_5.1 1), .inl (cyI, 12, .inl (fun _ => 0))), ((u_5.1 2), .inl (cyI, 12, .inl (fun _ => 0))), ((u_5.1 3), .inl (cyI, 12, .inl (fun _ => 0))), ((u_5.1 4), .inl (cyI, 12, .inl (fun _ => 0))), ((u_5.1 5), .inl (cyI, 12, .inl (fun _ => 0))), ((u_5.1 6), .inl (cyI, 12, .inl (fun _ => 0))), ((u_5.1 7), .inl (cyI, 4, .inl (fun _ => 0))), ((u_5.1 8), .inl (cyI, 4, .inl (fun _ => 0))), ((u_5.1 9), .inl (cyI, 4, .inl (fun _ => 0))), (q_7, .inr (7, [.ref (u_8.1 0), .ref (u_8.1 1), .ref (u_8.1 2), .ref (u_8.1 3), .int 0, .int 0, .int 0])), ((u_8.1 0), .inl (cyI, 12, .inl (fun _ => (-1)))), ((u_8.1 1), .inl (cyI, 12, .inl (fun _ => 0))), ((u_8.1 2), .inl (cyI, 12, .inl (fun _ => 0))), ((u_8.1 3), .inl (cyI, 30, .inl (fun _ => 0))), (q_10, .inr (7, [.ref (u_11.1 0), .ref (u_11.1 1), .ref (u_11.1 2), .ref (u_11.1 3), .int 0, .int 0, .int 0])), ((u_11.1 0), .inl (cyI, 12, .inl (fun _ => (-1)))), ((u_11.1 1), .inl (cyI, 12, .inl (fun _ => 0))), ((u_11.1 2), .inl (cyI, 12, .inl (fun _ => 0))), ((u_11.1 3), .inl (cyI, 30, .inl (fun _ => 0))), (q_13, .inl (cyO, 4, .inr (.inr (.inr (.inr (va_up (va_up (fun _ => none) 0 (some q_29)) 1 (some q_32))))))), (q_14, .inr (4, [.ref (u_15.1 0), .int 0])), ((u_15.1 0), .inl (cyI, 12, .inl (fun _ => 0))), (q_17, .inr (3, [.int 0, .ref (u_18.1 0), .ref (u_18.1 1), .int 0, .int 0, .int 0, .ref (u_18.1 2), .ref (u_18.1 3)])), ((u_18.1 0), .inl (cyI, 12, .inl (fun _ => 0))), ((u_18.1 1), .inl (cyI, 12, .inl (fun _ => 0))), ((u_18.1 2), .inl (cyI, 12, .inl (fun _ => 0))), ((u_18.1 3), .inl (cyI, 12, .inl (fun _ => 0))), (q_20, .inr (0, [.int 0, .int 0, .ref (u_21.1 0), .ref (u_21.1 1), .ref (u_21.1 2)])), ((u_21.1 0), .inl (cyI, 0, .inl (fun _ => 0))), ((u_21.1 1), .inl (cyI, 0, .inl (fun _ => 0))), ((u_21.1 2), .inl (cyI, 0, .inl (fun _ => 0))), (q_23, .inr (6, [.ref (u_24.1 0), .int 0, .int 0, .int 0, .int 0, .int 0, .ref (u_24.1 1), .ref (u_24.1 2)])), ((u_24.1 0), .inl (cyI, 7, .inl (fun _ => 0))), ((u_24.1 1), .inl (cyI, 7, .inl (fun _ => 0))), ((u_24.1 2), .inl (cyI, 12, .inl (fun _ => 0))), (q_26, .inr (2, [.ref (u_27.1 0)])), ((u_27.1 0), .inl (cyJ, 4, .inr (.inl (fun _ => 0)))), (q_29, .inr (7, [.ref (u_30.1 0), .ref (u_30.1 1), .ref (u_30.1 2), .ref (u_30.1 3), .int 0, .int 0, .int 0])), ((u_30.1 0), .inl (cyI, 12, .inl (fun _ => (-1)))), ((u_30.1 1), .inl (cyI, 12, .inl (fun _ => 0))), ((u_30.1 2), .inl (cyI, 12, .inl (fun _ => 0))), ((u_30.1 3), .inl (cyI, 30, .inl (fun _ => 0))), (q_32, .inr (7, [.ref (u_33.1 0), .ref (u_33.1 1), .ref (u_33.1 2), .ref (u_33.1 3), .int 0, .int 0, .int 0])), ((u_33.1 0), .inl (cyI, 12, .inl (fun _ => (-1)))), ((u_33.1 1), .inl (cyI, 12, .inl (fun _ => 0))), ((u_33.1 2), .inl (cyI, 12, .inl (fun _ => 0))), ((u_33.1 3), .inl (cyI, 30, .inl (fun _ => 0))), (q_35, .inr (7, [.ref (u_36.1 0), .ref (u_36.1 1), .ref (u_36.1 2), .ref (u_36.1 3), .int 0, .int 0, .int 0])), ((u_36.1 0), .inl (cyI, 12, .inl (fun _ => (-1)))), ((u_36.1 1), .inl (cyI, 12, .inl (fun _ => 0))), ((u_36.1 2), .inl (cyI, 12, .inl (fun _ => 0))), ((u_36.1 3), .inl (cyI, 30, .inl (fun _ => 0)))]) (pc2 := 130) (lv2 := [(1, .int 2), (0, .ref h0)]) (st2 := [.ref q_35, .int 2, .ref q_13]) rfl rfl rfl rfl ?_
  refine j_widen (k := 74) (n := 2775) (by decide) (by decide) ?_
  refine j_aast (pc := 130) (k := 2) (ws' := [(h0, .inr (10, [.ref q_1, .ref q_4, .ref q_7, .ref q_10, .ref q_13, .ref q_14, .ref q_17, .ref q_20, .ref q_23, .ref q_26])), (q_1, .inr (5, [.ref (u_2.1 0), .ref (u_2.1 2), .ref (u_2.1 6), .ref (u_2.1 7), .ref (u_2.1 8), .int 0, .int 0])), ((u_2.1 0), .inr (8, [.ref (u_2.1 1), .int 0, .int 0, .int 0, .int 0, .int 0])), ((u_2.1 1), .inl (cyC, 1000, .inl (fun _ => 0))), ((u_2.1 2), .inr (1, [.int 0, .int 0, .ref (u_2.1 3), .ref (u_2.1 4), .ref (u_2.1 5)])), ((u_2.1 3), .inl (cyI, 1000, .inl (fun _ => 0))), ((u_2.1 4), .inl (cyI, 4, .inl (fun _ => 0))), ((u_2.1 5), .inl (cyI, 32, .inl (fun _ => 0))), ((u_2.1 6), .inl (cyJ, 12, .inr (.inl (fun _ => 0)))), ((u_2.1 7), .inl (cyJ, 4, .inr (.inl (fun _ => 0)))), ((u_2.1 8), .inr (9, [.int 0, .int 0, .int 0, .ref (u_2.1 9), .ref (u_2.1 10), .ref (u_2.1 11), .ref (u_2.1 12), .ref (u_2.1 13), .ref (u_2.1 14), .int 0, .int 0, .ref (u_2.1 15), .ref (u_2.1 16), .ref (u_2.1 17), .ref (u_2.1 18)])), ((u_2.1 9), .inl (cyI, 12, .inl (fun _ => 0))), ((u_2.1 10), .inl (cyI, 12, .inl (fun _ => 0))), ((u_2.1 11), .inl (cyI, 12, .inl (fun _ => 0))), ((u_2.1 12), .inl (cyI, 12, .inl (fun _ => 0))), ((u_2.1 13), .inl (cyI, 12, .inl (fun _ => 0))), ((u_2.1 14), .inl (cyI, 12, .inl (fun _ => 0))), ((u_2.1 15), .inl (cyI, 12, .inl (fun _ => 0))), ((u_2.1 16), .inl (cyI, 4, .inl (fun _ => 0))), ((u_2.1 17), .inl (cyI, 4, .inl (fun _ => 0))), ((u_2.1 18), .inl (cyI, 4, .inl (fun _ => 0))), (q_4, .inr (9, [.int 0, .int 0, .int 0, .ref (u_5.1 0), .ref (u_5.1 1), .ref (u_5.1 2), .ref (u_5.1 3), .ref (u_5.1 4), .ref (u_5.1 5), .int 0, .int 0, .ref (u_5.1 6), .ref (u_5.1 7), .ref (u_5.1 8), .ref (u_5.1 9)])), ((u_5.1 0), .inl (cyI, 12, .inl (fun _ => 0))), ((u_5.1 1), .inl (cyI, 12, .inl (fun _ => 0))), ((u_5.1 2), .inl (cyI, 12, .inl (fun _ => 0))), ((u_5.1 3), .inl (cyI, 12, .inl (fun _ => 0))), ((u_5.1 4), .inl (cyI, 12, .inl (fun _ => 0))), ((u_5.1 5), .inl (cyI, 12, .inl (fun _ => 0))), ((u_5.1 6), .inl (cyI, 12, .inl (fun _ => 0))), ((u_5.1 7), .inl (cyI, 4, .inl (fun _ => 0))), ((u_5.1 8), .inl (cyI, 4, .inl (fun _ => 0))), ((u_5.1 9), .inl (cyI, 4, .inl (fun _ => 0))), (q_7, .inr (7, [.ref (u_8.1 0), .ref (u_8.1 1), .ref (u_8.1 2), .ref (u_8.1 3), .int 0, .int 0, .int 0])), ((u_8.1 0), .inl (cyI, 12, .inl (fun _ => (-1)))), ((u_8.1 1), .inl (cyI, 12, .inl (fun _ => 0))), ((u_8.1 2), .inl (cyI, 12, .inl (fun _ => 0))), ((u_8.1 3), .inl (cyI, 30, .inl (fun _ => 0))), (q_10, .inr (7, [.ref (u_11.1 0), .ref (u_11.1 1), .ref (u_11.1 2), .ref (u_11.1 3), .int 0, .int 0, .int 0])), ((u_11.1 0), .inl (cyI, 12, .inl (fun _ => (-1)))), ((u_11.1 1), .inl (cyI, 12, .inl (fun _ => 0))), ((u_11.1 2), .inl (cyI, 12, .inl (fun _ => 0))), ((u_11.1 3), .inl (cyI, 30, .inl (fun _ => 0))), (q_13, .inl (cyO, 4, .inr (.inr (.inr (.inr (va_up (va_up (va_up (fun _ => none) 0 (some q_29)) 1 (some q_32)) 2 (some q_35))))))), (q_14, .inr (4, [.ref (u_15.1 0), .int 0])), ((u_15.1 0), .inl (cyI, 12, .inl (fun _ => 0))), (q_17, .inr (3, [.int 0, .ref (u_18.1 0), .ref (u_18.1 1), .int 0, .int 0, .int 0, .ref (u_18.1 2), .ref (u_18.1 3)])), ((u_18.1 0), .inl (cyI, 12, .inl (fun _ => 0))), ((u_18.1 1), .inl (cyI, 12, .inl (fun _ => 0))), ((u_18.1 2), .inl (cyI, 12, .inl (fun _ => 0))), ((u_18.1 3), .inl (cyI, 12, .inl (fun _ => 0))), (q_20, .inr (0, [.int 0, .int 0, .ref (u_21.1 0), .ref (u_21.1 1), .ref (u_21.1 2)])), ((u_21.1 0), .inl (cyI, 0, .inl (fun _ => 0))), ((u_21.1 1), .inl (cyI, 0, .inl (fun _ => 0))), ((u_21.1 2), .inl (cyI, 0, .inl (fun _ => 0))), (q_23, .inr (6, [.ref (u_24.1 0), .int 0, .int 0, .int 0, .int 0, .int 0, .ref (u_24.1 1), .ref (u_24.1 2)])), ((u_24.1 0), .inl (cyI, 7, .inl (fun _ => 0))), ((u_24.1 1), .inl (cyI, 7, .inl (fun _ => 0))), ((u_24.1 2), .inl (cyI, 12, .inl (fun _ => 0))), (q_26, .inr (2, [.ref (u_27.1 0)])), ((u_27.1 0), .inl (cyJ, 4, .inr (.inl (fun _ => 0)))), (q_29, .inr (7, [.ref (u_30.1 0), .ref (u_30.1 1), .ref (u_30.1 2), .ref (u_30.1 3), .int 0, .int 0, .int 0])), ((u_30.1 0), .inl (cyI, 12, .inl (fun _ => (-1)))), ((u_30.1 1), .inl (cyI, 12, .inl (fun _ => 0))), ((u_30.1 2), .inl (cyI, 12, .inl (fun _ => 0))), ((u_30.1 3), .inl (cyI, 30, .inl (fun _ => 0))), (q_32, .inr (7, [.ref (u_33.1 0), .ref (u_33.1 1), .ref (u_33.1 2), .ref (u_33.1 3), .int 0, .int 0, .int 0])), ((u_33.1 0), .inl (cyI, 12, .inl (fun _ => (-1)))), ((u_33.1 1), .inl (cyI, 12, .inl (fun _ => 0))), ((u_33.1 2), .inl (cyI, 12, .inl (fun _ => 0))), ((u_33.1 3), .inl (cyI, 30, .inl (fun _ => 0))), (q_35, .inr (7, [.ref (u_36.1 0), .ref (u_36.1 1), .ref (u_36.1 2), .ref (u_36.1 3), .int 0, .int 0, .int 0])), ((u_36.1 0), .inl (cyI, 12, .inl (fun _ => (-1)))), ((u_36.1 1), .inl (cyI, 12, .inl (fun _ => 0))), ((u_36.1 2), .inl (cyI, 12, .inl (fun _ => 0))), ((u_36.1 3), .inl (cyI, 30, .inl (fun _ => 0)))]) C 42 4 70 7 rfl rfl rfl rfl (by decide) (by decide) (by decide) dX10_init_130 rfl ?_
  refine j_iinc (pc := 131) (v := 3) (lv' := [(1, .int 3), (0, .ref h0)]) C dX10_init_131 0 rfl (by decide) (by decide) rfl ?_
  refine j_goto (pc := 134) (tgt := 113) C dX10_init_134 (by decide) ?_
  refine j_iload_n (pc := 113) C dX10_init_113 rfl 0 rfl ?_
  refine j_iconst (pc := 114) (v := 4) C dX10_init_114 (by decide) ?_
  refine j_icmp_ge_f (pc := 115) (tgt := 137) C dX10_init_115 (by decide) (by decide) ?_
  refine j_aload_n (pc := 118) C dX10_init_118 rfl 1 rfl ?_
  refine j_get (pc := 119) (ci := 10) (v := .ref q_13) C inw_10 0 rfl rfl 4 (by decide) wd_86 rfl rfl dX10_init_119 ?_
  refine j_iload_n (pc := 122) C dX10_init_122 rfl 0 rfl ?_
  refine j_new (pc := 123) (ci := 7) (fs := [.null, .null, .null, .null, .int 0, .int 0, .int 0]) C inw_7 tyX7_ok wd_78 wd_79 wd_80 rfl ndX7 (by decide) (by decide) dX10_init_123 (fun q_38 => ?_)
  refine j_widen (k := 75) (n := 2782) (by decide) (by decide) ?_
  refine j_dup (pc := 126) C dX10_init_126 rfl ?_
  refine j_callI (pc := 127) (As := []) (rest := [.ref q_38, .int 3, .ref q_13]) (wr := [(h0, .inr (10, [.ref q_1, .ref q_4, .ref q_7, .ref q_10, .ref q_13, .ref q_14, .ref q_17, .ref q_20, .ref q_23, .ref q_26])), (q_1, .inr (5, [.ref (u_2.1 0), .ref (u_2.1 2), .ref (u_2.1 6), .ref (u_2.1 7), .ref (u_2.1 8), .int 0, .int 0])), ((u_2.1 0), .inr (8, [.ref (u_2.1 1), .int 0, .int 0, .int 0, .int 0, .int 0])), ((u_2.1 1), .inl (cyC, 1000, .inl (fun _ => 0))), ((u_2.1 2), .inr (1, [.int 0, .int 0, .ref (u_2.1 3), .ref (u_2.1 4), .ref (u_2.1 5)])), ((u_2.1 3), .inl (cyI, 1000, .inl (fun _ => 0))), ((u_2.1 4), .inl (cyI, 4, .inl (fun _ => 0))), ((u_2.1 5), .inl (cyI, 32, .inl (fun _ => 0))), ((u_2.1 6), .inl (cyJ, 12, .inr (.inl (fun _ => 0)))), ((u_2.1 7), .inl (cyJ, 4, .inr (.inl (fun _ => 0)))), ((u_2.1 8), .inr (9, [.int 0, .int 0, .int 0, .ref (u_2.1 9), .ref (u_2.1 10), .ref (u_2.1 11), .ref (u_2.1 12), .ref (u_2.1 13), .ref (u_2.1 14), .int 0, .int 0, .ref (u_2.1 15), .ref (u_2.1 16), .ref (u_2.1 17), .ref (u_2.1 18)])), ((u_2.1 9), .inl (cyI, 12, .inl (fun _ => 0))), ((u_2.1 10), .inl (cyI, 12, .inl (fun _ => 0))), ((u_2.1 11), .inl (cyI, 12, .inl (fun _ => 0))), ((u_2.1 12), .inl (cyI, 12, .inl (fun _ => 0))), ((u_2.1 13), .inl (cyI, 12, .inl (fun _ => 0))), ((u_2.1 14), .inl (cyI, 12, .inl (fun _ => 0))), ((u_2.1 15), .inl (cyI, 12, .inl (fun _ => 0))), ((u_2.1 16), .inl (cyI, 4, .inl (fun _ => 0))), ((u_2.1 17), .inl (cyI, 4, .inl (fun _ => 0))), ((u_2.1 18), .inl (cyI, 4, .inl (fun _ => 0))), (q_4, .inr (9, [.int 0, .int 0, .int 0, .ref (u_5.1 0), .ref (u_5.1 1), .ref (u_5.1 2), .ref (u_5.1 3), .ref (u_5.1 4), .ref (u_5.1 5), .int 0, .int 0, .ref (u_5.1 6), .ref (u_5.1 7), .ref (u_5.1 8), .ref (u_5.1 9)])), ((u_5.1 0), .inl (cyI, 12, .inl (fun _ => 0))), ((u_5.1 1), .inl (cyI, 12, .inl (fun _ => 0))), ((u_5.1 2), .inl (cyI, 12, .inl (fun _ => 0))), ((u_5.1 3), .inl (cyI, 12, .inl (fun _ => 0))), ((u_5.1 4), .inl (cyI, 12, .inl (fun _ => 0))), ((u_5.1 5), .inl (cyI, 12, .inl (fun _ => 0))), ((u_5.1 6), .inl (cyI, 12, .inl (fun _ => 0))), ((u_5.1 7), .inl (cyI, 4, .inl (fun _ => 0))), ((u_5.1 8), .inl (cyI, 4, .inl (fun _ => 0))), ((u_5.1 9), .inl (cyI, 4, .inl (fun _ => 0))), (q_7, .inr (7, [.ref (u_8.1 0), .ref (u_8.1 1), .ref (u_8.1 2), .ref (u_8.1 3), .int 0, .int 0, .int 0])), ((u_8.1 0), .inl (cyI, 12, .inl (fun _ => (-1)))), ((u_8.1 1), .inl (cyI, 12, .inl (fun _ => 0))), ((u_8.1 2), .inl (cyI, 12, .inl (fun _ => 0))), ((u_8.1 3), .inl (cyI, 30, .inl (fun _ => 0))), (q_10, .inr (7, [.ref (u_11.1 0), .ref (u_11.1 1), .ref (u_11.1 2), .ref (u_11.1 3), .int 0, .int 0, .int 0])), ((u_11.1 0), .inl (cyI, 12, .inl (fun _ => (-1)))), ((u_11.1 1), .inl (cyI, 12, .inl (fun _ => 0))), ((u_11.1 2), .inl (cyI, 12, .inl (fun _ => 0))), ((u_11.1 3), .inl (cyI, 30, .inl (fun _ => 0))), (q_13, .inl (cyO, 4, .inr (.inr (.inr (.inr (va_up (va_up (va_up (fun _ => none) 0 (some q_29)) 1 (some q_32)) 2 (some q_35))))))), (q_14, .inr (4, [.ref (u_15.1 0), .int 0])), ((u_15.1 0), .inl (cyI, 12, .inl (fun _ => 0))), (q_17, .inr (3, [.int 0, .ref (u_18.1 0), .ref (u_18.1 1), .int 0, .int 0, .int 0, .ref (u_18.1 2), .ref (u_18.1 3)])), ((u_18.1 0), .inl (cyI, 12, .inl (fun _ => 0))), ((u_18.1 1), .inl (cyI, 12, .inl (fun _ => 0))), ((u_18.1 2), .inl (cyI, 12, .inl (fun _ => 0))), ((u_18.1 3), .inl (cyI, 12, .inl (fun _ => 0))), (q_20, .inr (0, [.int 0, .int 0, .ref (u_21.1 0), .ref (u_21.1 1), .ref (u_21.1 2)])), ((u_21.1 0), .inl (cyI, 0, .inl (fun _ => 0))), ((u_21.1 1), .inl (cyI, 0, .inl (fun _ => 0))), ((u_21.1 2), .inl (cyI, 0, .inl (fun _ => 0))), (q_23, .inr (6, [.ref (u_24.1 0), .int 0, .int 0, .int 0, .int 0, .int 0, .ref (u_24.1 1), .ref (u_24.1 2)])), ((u_24.1 0), .inl (cyI, 7, .inl (fun _ => 0))), ((u_24.1 1), .inl (cyI, 7, .inl (fun _ => 0))), ((u_24.1 2), .inl (cyI, 12, .inl (fun _ => 0))), (q_26, .inr (2, [.ref (u_27.1 0)])), ((u_27.1 0), .inl (cyJ, 4, .inr (.inl (fun _ => 0)))), (q_29, .inr (7, [.ref (u_30.1 0), .ref (u_30.1 1), .ref (u_30.1 2), .ref (u_30.1 3), .int 0, .int 0, .int 0])), ((u_30.1 0), .inl (cyI, 12, .inl (fun _ => (-1)))), ((u_30.1 1), .inl (cyI, 12, .inl (fun _ => 0))), ((u_30.1 2), .inl (cyI, 12, .inl (fun _ => 0))), ((u_30.1 3), .inl (cyI, 30, .inl (fun _ => 0))), (q_32, .inr (7, [.ref (u_33.1 0), .ref (u_33.1 1), .ref (u_33.1 2), .ref (u_33.1 3), .int 0, .int 0, .int 0])), ((u_33.1 0), .inl (cyI, 12, .inl (fun _ => (-1)))), ((u_33.1 1), .inl (cyI, 12, .inl (fun _ => 0))), ((u_33.1 2), .inl (cyI, 12, .inl (fun _ => 0))), ((u_33.1 3), .inl (cyI, 30, .inl (fun _ => 0))), (q_35, .inr (7, [.ref (u_36.1 0), .ref (u_36.1 1), .ref (u_36.1 2), .ref (u_36.1 3), .int 0, .int 0, .int 0])), ((u_36.1 0), .inl (cyI, 12, .inl (fun _ => (-1)))), ((u_36.1 1), .inl (cyI, 12, .inl (fun _ => 0))), ((u_36.1 2), .inl (cyI, 12, .inl (fun _ => 0))), ((u_36.1 3), .inl (cyI, 30, .inl (fun _ => 0)))]) C (c_X7_init l D cyC cyI cyJ cyZ cyO q_38) wd_81 wd_80 wd_82 wd_83 rfl ⟨by decide, by decide, rfl⟩ rfl ⟨rfl, rfl, by decide, by decide⟩ ⟨by decide, by decide⟩ [75] [0, 1, 2, 3, 4, 5, 6, 7, 8, 9, 10, 11, 12, 13, 14, 15, 16, 17, 18, 19, 20, 21, 22, 23, 24, 25, 26, 27, 28, 29, 30, 31, 32, 33, 34, 35, 36, 37, 38, 39, 40, 41, 42, 43, 44, 45, 46, 47, 48, 49, 50, 51, 52, 53, 54, 55, 56, 57, 58, 59, 60, 61, 62, 63, 64, 65, 66, 67, 68, 69, 70, 71, 72, 73, 74] rfl rfl ⟨by decide, by decide, by decide⟩ rfl (Nat.le_of_ble_eq_true rfl) dX10_init_127 (fun u_39 hw_40 => ?_)
  refine j_eq (ws2 := [(h0, .inr (10, [.ref q_1, .ref q_4, .ref q_7, .ref q_10, .ref q_13, .ref q_14, .ref q_17, .ref q_20, .ref q_23, .ref q_26])), (q_1, .inr (5, [.ref (u_2.1 0), .ref (u_2.1 2), .ref (u_2.1 6), .ref (u_2.1 7), .ref (u_2.1 8), .int 0, .int 0])), ((u_2.1 0), .inr (8, [.ref (u_2.1 1), .int 0, .int 0, .int 0, .int 0, .int 0])), ((u_2.1 1), .inl (cyC, 1000, .inl (fun _ => 0))), ((u_2.1 2), .inr (1, [.int 0, .int 0, .ref (u_2.1 3), .ref (u_2.1 4), .ref (u_2.1 5)])), ((u_2.1 3), .inl (cyI, 1000, .inl (fun _ => 0))), ((u_2.1 4), .inl (cyI, 4, .inl (fun _ => 0))), ((u_2.1 5), .inl (cyI, 32, .inl (fun _ => 0))), ((u_2.1 6), .inl (cyJ, 12, .inr (.inl (fun _ => 0)))), ((u_2.1 7), .inl (cyJ, 4, .inr (.inl (fun _ => 0)))), ((u_2.1 8), .inr (9, [.int 0, .int 0, .int 0, .ref (u_2.1 9), .ref (u_2.1 10), .ref (u_2.1 11), .ref (u_2.1 12), .ref (u_2.1 13), .ref (u_2.1 14), .int 0, .int 0, .ref (u_2.1 15), .ref (u_2.1 16), .ref (u_2.1 17), .ref (u_2.1 18)])), ((u_2.1 9), .inl (cyI, 12, .inl (fun _ => 0))), ((u_2.1 10), .inl (cyI, 12, .inl (fun _ => 0))), ((u_2.1 11), .inl (cyI, 12, .inl (fun _ => 0))), ((u_2.1 12), .inl (cyI, 12, .inl (fun _ => 0))), ((u_2.1 13), .inl (cyI, 12, .inl (fun _ => 0))), ((u_2.1 14), .inl (cyI, 12, .inl (fun _ => 0))), ((u_2.1 15), .inl (cyI, 12, .inl (fun _ => 0))), ((u_2.1 16), .inl (cyI, 4, .inl (fun _ => 0))), ((u_2.1 17), .inl (cyI, 4, .inl (fun _ => 0))), ((u_2.1 18), .inl (cyI, 4, .inl (fun _ => 0))), (q_4, .inr (9, [.int 0, .int 0, .int 0, .ref (u_5.1 0), .ref (u_5.1 1), .ref (u_5.1 2), .ref (u_5.1 3), .ref (u_5.1 4), .ref (u_5.1 5), .int 0, .int 0, .ref (u_5.1 6), .ref (u_5.1 7), .ref (u_5.1 8), .ref (u_5.1 9)])), ((u_5.1 0), .inl (cyI, 12, .inl (fun _ => 0))), ((u_5.1 1), .inl (cyI, 12, .inl (fun _ => 0))), ((u_5.1 2), .inl (cyI, 12, .inl (fun _ => 0))), ((u_5.1 3), .inl (cyI, 12, .inl (fun _ => 0))), ((u_5.1 4), .inl (cyI, 12, .inl (fun _ => 0))), ((u_5.1 5), .inl (cyI, 12, .inl (fun _ => 0))), ((u_5.1 6), .inl (cyI, 12, .inl (fun _ => 0))), ((u_5.1 7), .inl (cyI, 4, .inl (fun _ => 0))), ((u_5.1 8), .inl (cyI, 4, .inl (fun _ => 0))), ((u_5.1 9), .inl (cyI, 4, .inl (fun _ => 0))), (q_7, .inr (7, [.ref (u_8.1 0), .ref (u_8.1 1), .ref (u_8.1 2), .ref (u_8.1 3), .int 0, .int 0, .int 0])), ((u_8.1 0), .inl (cyI, 12, .inl (fun _ => (-1)))), ((u_8.1 1), .inl (cyI, 12, .inl (fun _ => 0))), ((u_8.1 2), .inl (cyI, 12, .inl (fun _ => 0))), ((u_8.1 3), .inl (cyI, 30, .inl (fun _ => 0))), (q_10, .inr (7, [.ref (u_11.1 0), .ref (u_11.1 1), .ref (u_11.1 2), .ref (u_11.1 3), .int 0, .int 0, .int 0])), ((u_11.1 0), .inl (cyI, 12, .inl (fun _ => (-1)))), ((u_11.1 1), .inl (cyI, 12, .inl (fun _ => 0))), ((u_11.1 2), .inl (cyI, 12, .inl (fun _ => 0))), ((u_11.1 3), .inl (cyI, 30, .inl (fun _ => 0))), (q_13, .inl (cyO, 4, .inr (.inr (.inr (.inr (va_up (va_up (va_up (fun _ => none) 0 (some q_29)) 1 (some q_32)) 2 (some q_35))))))), (q_14, .inr (4, [.ref (u_15.1 0), .int 0])), ((u_15.1 0), .inl (cyI, 12, .inl (fun _ => 0))), (q_17, .inr (3, [.int 0, .ref (u_18.1 0), .ref (u_18.1 1), .int 0, .int 0, .int 0, .ref (u_18.1 2), .ref (u_18.1 3)])), ((u_18.1 0), .inl (cyI, 12, .inl (fun _ => 0))), ((u_18.1 1), .inl (cyI, 12, .inl (fun _ => 0))), ((u_18.1 2), .inl (cyI, 12, .inl (fun _ => 0))), ((u_18.1 3), .inl (cyI, 12, .inl (fun _ => 0))), (q_20, .inr (0, [.int 0, .int 0, .ref (u_21.1 0), .ref (u_21.1 1), .ref (u_21.1 2)])), ((u_21.1 0), .inl (cyI, 0, .inl (fun _ => 0))), ((u_21.1 1), .inl (cyI, 0, .inl (fun _ => 0))), ((u_21.1 2), .inl (cyI, 0, .inl (fun _ => 0))), (q_23, .inr (6, [.ref (u_24.1 0), .int 0, .int 0, .int 0, .int 0, .int 0, .ref (u_24.1 1), .ref (u_24.1 2)])), ((u_24.1 0), .inl (cyI, 7, .inl (fun _ => 0))), ((u_24.1 1), .inl (cyI, 7, .inl (fun _ => 0))), ((u_24.1 2), .inl (cyI, 12, .inl (fun _ => 0))), (q_26, .inr (2, [.ref (u_27.1 0)])), ((u_27.1 0), .inl (cyJ, 4, .inr (.inl (fun _ => 0)))), (q_29, .inr (7, [.ref (u_30.1 0), .ref (u_30.1 1), .ref (u_30.1 2), .ref (u_30.1 3), .int 0, .int 0, .int 0])), ((u_30.1 0), .inl (cyI, 12, .inl (fun _ => (-1)))), ((u_30.1 1), .inl (cyI, 12, .inl (fun _ => 0))), ((u_30.1 2), .inl (cyI, 12, .inl (fun _ => 0))), ((u_30.1 3), .inl (cyI, 30, .inl (fun _ => 0))), (q_32, .inr (7, [.ref (u_33.1 0), .ref (u_33.1 1), .ref (u_33.1 2), .ref (u_33.1 3), .int 0, .int 0, .int 0])), ((u_33.1 0), .inl (cyI, 12, .inl (fun _ => (-1)))), ((u_33.1 1), .inl (cyI, 12, .inl (fun _ => 0))), ((u_33.1 2), .inl (cyI, 12, .inl (fun _ => 0))), ((u_33.1 3), .inl (cyI, 30, .inl (fun _ => 0))), (q_35, .inr (7, [.ref (u_36.1 0), .ref (u_36.1 1), .ref (u_36.1 2), .ref (u_36.1 3), .int 0, .int 0, .int 0])), ((u_36.1 0), .inl (cyI, 12, .inl (fun _ => (-1)))), ((u_36.1 1), .inl (cyI, 12, .inl (fun _ => 0))), ((u_36.1 2), .inl (cyI, 12, .inl (fun _ => 0))), ((u_36.1 3), .inl (cyI, 30, .inl (fun _ => 0))), (q_38, .inr (7, [.ref (u_39.1 0), .ref (u_39.1 1), .ref (u_39.1 2), .ref (u_39.1 3), .int 0, .int 0, .int 0])), ((u_39.1 0), .inl (cyI, 12, .inl (fun _ => (-1)))), ((u_39.1 1), .inl (cyI, 12, .inl (fun _ => 0))), ((u_39.1 2), .inl (cyI, 12, .inl (fun _ => 0))), ((u_39.1 3), .inl (cyI, 30, .inl (fun _ => 0)))]) (pc2 := 130) (lv2 := [(1, .int 3), (0, .ref h0)]) (st2 := [.ref q_38, .int 3, .ref q_13]) rfl rfl rfl rfl ?_
  refine j_widen (k := 79) (n := 2848) (by decide) (by decide) ?_
  refine j_aast (pc := 130) (k := 3) (ws' := [(h0, .inr (10, [.ref q_1, .ref q_4, .ref q_7, .ref q_10, .ref q_13, .ref q_14, .ref q_17, .ref q_20, .ref q_23, .ref q_26])), (q_1, .inr (5, [.ref (u_2.1 0), .ref (u_2.1 2), .ref (u_2.1 6), .ref (u_2.1 7), .ref (u_2.1 8), .int 0, .int 0])), ((u_2.1 0), .inr (8, [.ref (u_2.1 1), .int 0, .int 0, .int 0, .int 0, .int 0])), ((u_2.1 1), .inl (cyC, 1000, .inl (fun _ => 0))), ((u_2.1 2), .inr (1, [.int 0, .int 0, .ref (u_2.1 3), .ref (u_2.1 4), .ref (u_2.1 5)])), ((u_2.1 3), .inl (cyI, 1000, .inl (fun _ => 0))), ((u_2.1 4), .inl (cyI, 4, .inl (fun _ => 0))), ((u_2.1 5), .inl (cyI, 32, .inl (fun _ => 0))), ((u_2.1 6), .inl (cyJ, 12, .inr (.inl (fun _ => 0)))), ((u_2.1 7), .inl (cyJ, 4, .inr (.inl (fun _ => 0)))), ((u_2.1 8), .inr (9, [.int 0, .int 0, .int 0, .ref (u_2.1 9), .ref (u_2.1 10), .ref (u_2.1 11), .ref (u_2.1 12), .ref (u_2.1 13), .ref (u_2.1 14), .int 0, .int 0, .ref (u_2.1 15), .ref (u_2.1 16), .ref (u_2.1 17), .ref (u_2.1 18)])), ((u_2.1 9), .inl (cyI, 12, .inl (fun _ => 0))), ((u_2.1 10), .inl (cyI, 12, .inl (fun _ => 0))), ((u_2.1 11), .inl (cyI, 12, .inl (fun _ => 0))), ((u_2.1 12), .inl (cyI, 12, .inl (fun _ => 0))), ((u_2.1 13), .inl (cyI, 12, .inl (fun _ => 0))), ((u_2.1 14), .inl (cyI, 12, .inl (fun _ => 0))), ((u_2.1 15), .inl (cyI, 12, .inl (fun _ => 0))), ((u_2.1 16), .inl (cyI, 4, .inl (fun _ => 0))), ((u_2.1 17), .inl (cyI, 4, .inl (fun _ => 0))), ((u_2.1 18), .inl (cyI, 4, .inl (fun _ => 0))), (q_4, .inr (9, [.int 0, .int 0, .int 0, .ref (u_5.1 0), .ref (u_5.1 1), .ref (u_5.1 2), .ref (u_5.1 3), .ref (u_5.1 4), .ref (u_5.1 5), .int 0, .int 0, .ref (u_5.1 6), .ref (u_5.1 7), .ref (u_5.1 8), .ref (u_5.1 9)])), ((u_5.1 0), .inl (cyI, 12, .inl (fun _ => 0))), ((u_5.1 1), .inl (cyI, 12, .inl (fun _ => 0))), ((u_5.1 2), .inl (cyI, 12, .inl (fun _ => 0))), ((u_5.1 3), .inl (cyI, 12, .inl (fun _ => 0))), ((u_5.1 4), .inl (cyI, 12, .inl (fun _ => 0))), ((u_5.1 5), .inl (cyI, 12, .inl (fun _ => 0))), ((u_5.1 6), .inl (cyI, 12, .inl (fun _ => 0))), ((u_5.1 7), .inl (cyI, 4, .inl (fun _ => 0))), ((u_5.1 8), .inl (cyI, 4, .inl (fun _ => 0))), ((u_5.1 9), .inl (cyI, 4, .inl (fun _ => 0))), (q_7, .inr (7, [.ref (u_8.1 0), .ref (u_8.1 1), .ref (u_8.1 2), .ref (u_8.1 3), .int 0, .int 0, .int 0])), ((u_8.1 0), .inl (cyI, 12, .inl (fun _ => (-1)))), ((u_8.1 1), .inl (cyI, 12, .inl (fun _ => 0))), ((u_8.1 2), .inl (cyI, 12, .inl (fun _ => 0))), ((u_8.1 3), .inl (cyI, 30, .inl (fun _ => 0))), (q_10, .inr (7, [.ref (u_11.1 0), .ref (u_11.1 1), .ref (u_11.1 2), .ref (u_11.1 3), .int 0, .int 0, .int 0])), ((u_11.1 0), .inl (cyI, 12, .inl (fun _ => (-1)))), ((u_11.1 1), .inl (cyI, 12, .inl (fun _ => 0))), ((u_11.1 2), .inl (cyI, 12, .inl (fun _ => 0))), ((u_11.1 3), .inl (cyI, 30, .inl (fun _ => 0))), (q_13, .inl (cyO, 4, .inr (.inr (.inr (.inr (va_up (va_up (va_up (va_up (fun _ => none) 0 (some q_29)) 1 (some q_32)) 2 (some q_35)) 3 (some q_38))))))), (q_14, .inr (4, [.ref (u_15.1 0), .int 0])), ((u_15.1 0), .inl (cyI, 12, .inl (fun _ => 0))), (q_17, .inr (3, [.int 0, .ref (u_18.1 0), .ref (u_18.1 1), .int 0, .int 0, .int 0, .ref (u_18.1 2), .ref (u_18.1 3)])), ((u_18.1 0), .inl (cyI, 12, .inl (fun _ => 0))), ((u_18.1 1), .inl (cyI, 12, .inl (fun _ => 0))), ((u_18.1 2), .inl (cyI, 12, .inl (fun _ => 0))), ((u_18.1 3), .inl (cyI, 12, .inl (fun _ => 0))), (q_20, .inr (0, [.int 0, .int 0, .ref (u_21.1 0), .ref (u_21.1 1), .ref (u_21.1 2)])), ((u_21.1 0), .inl (cyI, 0, .inl (fun _ => 0))), ((u_21.1 1), .inl (cyI, 0, .inl (fun _ => 0))), ((u_21.1 2), .inl (cyI, 0, .inl (fun _ => 0))), (q_23, .inr (6, [.ref (u_24.1 0), .int 0, .int 0, .int 0, .int 0, .int 0, .ref (u_24.1 1), .ref (u_24.1 2)])), ((u_24.1 0), .inl (cyI, 7, .inl (fun _ => 0))), ((u_24.1 1), .inl (cyI, 7, .inl (fun _ => 0))), ((u_24.1 2), .inl (cyI, 12, .inl (fun _ => 0))), (q_26, .inr (2, [.ref (u_27.1 0)])), ((u_27.1 0), .inl (cyJ, 4, .inr (.inl (fun _ => 0)))), (q_29, .inr (7, [.ref (u_30.1 0), .ref (u_30.1 1), .ref (u_30.1 2), .ref (u_30.1 3), .int 0, .int 0, .int 0])), ((u_30.1 0), .inl (cyI, 12, .inl (fun _ => (-1)))), ((u_30.1 1), .inl (cyI, 12, .inl (fun _ => 0))), ((u_30.1 2), .inl (cyI, 12, .inl (fun _ => 0))), ((u_30.1 3), .inl (cyI, 30, .inl (fun _ => 0))), (q_32, .inr (7, [.ref (u_33.1 0), .ref (u_33.1 1), .ref (u_33.1 2), .ref (u_33.1 3), .int 0, .int 0, .int 0])), ((u_33.1 0), .inl (cyI, 12, .inl (fun _ => (-1)))), ((u_33.1 1), .inl (cyI, 12, .inl (fun _ => 0))), ((u_33.1 2), .inl (cyI, 12, .inl (fun _ => 0))), ((u_33.1 3), .inl (cyI, 30, .inl (fun _ => 0))), (q_35, .inr (7, [.ref (u_36.1 0), .ref (u_36.1 1), .ref (u_36.1 2), .ref (u_36.1 3), .int 0, .int 0, .int 0])), ((u_36.1 0), .inl (cyI, 12, .inl (fun _ => (-1)))), ((u_36.1 1), .inl (cyI, 12, .inl (fun _ => 0))), ((u_36.1 2), .inl (cyI, 12, .inl (fun _ => 0))), ((u_36.1 3), .inl (cyI, 30, .inl (fun _ => 0))), (q_38, .inr (7, [.ref (u_39.1 0), .ref (u_39.1 1), .ref (u_39.1 2), .ref (u_39.1 3), .int 0, .int 0, .int 0])), ((u_39.1 0), .inl (cyI, 12, .inl (fun _ => (-1)))), ((u_39.1 1), .inl (cyI, 12, .inl (fun _ => 0))), ((u_39.1 2), .inl (cyI, 12, .inl (fun _ => 0))), ((u_39.1 3), .inl (cyI, 30, .inl (fun _ => 0)))]) C 42 4 75 7 rfl rfl rfl rfl (by decide) (by decide) (by decide) dX10_init_130 rfl ?_
  refine j_iinc (pc := 131) (v := 4) (lv' := [(1, .int 4), (0, .ref h0)]) C dX10_init_131 0 rfl (by decide) (by decide) rfl ?_
  refine j_goto (pc := 134) (tgt := 113) C dX10_init_134 (by decide) ?_
  refine j_iload_n (pc := 113) C dX10_init_113 rfl 0 rfl ?_
  refine j_iconst (pc := 114) (v := 4) C dX10_init_114 (by decide) ?_
  refine j_icmp_ge_t (pc := 115) (tgt := 137) C dX10_init_115 (by decide) (by decide) ?_
  exact j_vret (pc := 137) C hr hk (fun i => [q_1, (u_2.1 0), (u_2.1 1), (u_2.1 2), (u_2.1 3), (u_2.1 4), (u_2.1 5), (u_2.1 6), (u_2.1 7), (u_2.1 8), (u_2.1 9), (u_2.1 10), (u_2.1 11), (u_2.1 12), (u_2.1 13), (u_2.1 14), (u_2.1 15), (u_2.1 16), (u_2.1 17), (u_2.1 18), q_4, (u_5.1 0), (u_5.1 1), (u_5.1 2), (u_5.1 3), (u_5.1 4), (u_5.1 5), (u_5.1 6), (u_5.1 7), (u_5.1 8), (u_5.1 9), q_7, (u_8.1 0), (u_8.1 1), (u_8.1 2), (u_8.1 3), q_10, (u_11.1 0), (u_11.1 1), (u_11.1 2), (u_11.1 3), q_13, q_14, (u_15.1 0), q_17, (u_18.1 0), (u_18.1 1), (u_18.1 2), (u_18.1 3), q_20, (u_21.1 0), (u_21.1 1), (u_21.1 2), q_23, (u_24.1 0), (u_24.1 1), (u_24.1 2), q_26, (u_27.1 0), q_29, (u_30.1 0), (u_30.1 1), (u_30.1 2), (u_30.1 3), q_32, (u_33.1 0), (u_33.1 1), (u_33.1 2), (u_33.1 3), q_35, (u_36.1 0), (u_36.1 1), (u_36.1 2), (u_36.1 3), q_38, (u_39.1 0), (u_39.1 1), (u_39.1 2), (u_39.1 3)].getD i 0, fun _ => 0, fun _ _ => 0) rfl trivial [0, 1, 2, 3, 4, 5, 6, 7, 8, 9, 10, 11, 12, 13, 14, 15, 16, 17, 18, 19, 20, 21, 22, 23, 24, 25, 26, 27, 28, 29, 30, 31, 32, 33, 34, 35, 36, 37, 38, 39, 40, 41, 42, 43, 44, 45, 46, 47, 48, 49, 50, 51, 52, 53, 54, 55, 56, 57, 58, 59, 60, 61, 62, 63, 64, 65, 66, 67, 68, 69, 70, 71, 72, 73, 74, 75, 76, 77, 78, 79] (by decide) rfl (by decide) (by decide) dX10_init_137
end
section
theorem wd_117 : Cond.methodLink RX11 18 objectInit ∈ WALL := wl_in (by decide +kernel) (by decide +kernel)
theorem wd_118 : Cond.fieldLink RX11 14 "BowlShelfModel" "tape" "[I" ∈ WALL := wl_in (by decide +kernel) (by decide +kernel)
theorem wd_119 : Cond.fieldLink RX11 24 "BowlShelfModel" "sort" "[I" ∈ WALL := wl_in (by decide +kernel) (by decide +kernel)
theorem wd_120 : Cond.fieldLink RX11 27 "BowlShelfModel" "place" "[I" ∈ WALL := wl_in (by decide +kernel) (by decide +kernel)
theorem wd_121 : Cond.fieldLink RX11 30 "BowlShelfModel" "value" "[J" ∈ WALL := wl_in (by decide +kernel) (by decide +kernel)
theorem wd_122 : Cond.constantLong RX11 34 (122704) ∈ WALL := wl_in (by decide +kernel) (by decide +kernel)
theorem wd_123 : Cond.constantLong RX11 36 (16765) ∈ WALL := wl_in (by decide +kernel) (by decide +kernel)
theorem wd_124 : Cond.constantLong RX11 38 (36021578) ∈ WALL := wl_in (by decide +kernel) (by decide +kernel)
theorem wd_125 : Cond.constantLong RX11 40 (27951) ∈ WALL := wl_in (by decide +kernel) (by decide +kernel)
theorem wd_126 : Cond.constantLong RX11 42 (15047032) ∈ WALL := wl_in (by decide +kernel) (by decide +kernel)
theorem wd_127 : Cond.constantLong RX11 44 (716710) ∈ WALL := wl_in (by decide +kernel) (by decide +kernel)
theorem wd_128 : Cond.constantLong RX11 46 (1177493) ∈ WALL := wl_in (by decide +kernel) (by decide +kernel)
theorem wd_129 : Cond.constantLong RX11 48 (209658) ∈ WALL := wl_in (by decide +kernel) (by decide +kernel)
theorem wd_130 : Cond.constantLong RX11 50 (1604747592) ∈ WALL := wl_in (by decide +kernel) (by decide +kernel)
theorem wd_131 : Cond.constantLong RX11 52 (4003641) ∈ WALL := wl_in (by decide +kernel) (by decide +kernel)
theorem wd_132 : Cond.constantLong RX11 54 (172677872) ∈ WALL := wl_in (by decide +kernel) (by decide +kernel)
theorem wd_133 : Cond.constantLong RX11 56 (564588237) ∈ WALL := wl_in (by decide +kernel) (by decide +kernel)
theorem wd_134 : Cond.constantLong RX11 58 (33989651) ∈ WALL := wl_in (by decide +kernel) (by decide +kernel)
theorem wd_135 : Cond.constantLong RX11 60 (932857) ∈ WALL := wl_in (by decide +kernel) (by decide +kernel)
theorem wd_136 : Cond.constantLong RX11 62 (19741) ∈ WALL := wl_in (by decide +kernel) (by decide +kernel)
theorem wd_137 : Cond.constantLong RX11 64 (1891) ∈ WALL := wl_in (by decide +kernel) (by decide +kernel)
theorem wd_138 : Cond.constantLong RX11 66 (573) ∈ WALL := wl_in (by decide +kernel) (by decide +kernel)
theorem wd_139 : Cond.constantLong RX11 68 (17595960) ∈ WALL := wl_in (by decide +kernel) (by decide +kernel)
theorem wd_140 : Cond.constantLong RX11 70 (29203711) ∈ WALL := wl_in (by decide +kernel) (by decide +kernel)
theorem wd_141 : Cond.constantLong RX11 72 (17006) ∈ WALL := wl_in (by decide +kernel) (by decide +kernel)
theorem wd_142 : Cond.constantLong RX11 74 (22955708) ∈ WALL := wl_in (by decide +kernel) (by decide +kernel)
theorem wd_143 : Cond.constantLong RX11 76 (15248761) ∈ WALL := wl_in (by decide +kernel) (by decide +kernel)
theorem wd_144 : Cond.constantLong RX11 78 (40072202) ∈ WALL := wl_in (by decide +kernel) (by decide +kernel)
theorem wd_145 : Cond.fieldLink RX11 80 "BowlShelfModel" "words" "[J" ∈ WALL := wl_in (by decide +kernel) (by decide +kernel)
theorem wd_146 : Cond.fieldLink RX11 83 "BowlShelfModel" "told" "[I" ∈ WALL := wl_in (by decide +kernel) (by decide +kernel)
theorem wd_147 : Cond.fieldLink RX11 86 "BowlShelfModel" "op" "[I" ∈ WALL := wl_in (by decide +kernel) (by decide +kernel)
theorem wd_148 : Cond.fieldLink RX11 89 "BowlShelfModel" "arg" "[I" ∈ WALL := wl_in (by decide +kernel) (by decide +kernel)
theorem wd_149 : Cond.fieldLink RX11 92 "BowlShelfModel" "names" "[J" ∈ WALL := wl_in (by decide +kernel) (by decide +kernel)
theorem wd_150 : Cond.arrayClass .boolean ∈ WALL := wl_in (by decide +kernel) (by decide +kernel)
theorem wd_151 : Cond.fieldLink RX11 95 "BowlShelfModel" "hasHabit" "[Z" ∈ WALL := wl_in (by decide +kernel) (by decide +kernel)
theorem wd_152 : Cond.fieldLink RX11 99 "BowlShelfModel" "factWords" "[I" ∈ WALL := wl_in (by decide +kernel) (by decide +kernel)
theorem wd_153 : Cond.fieldLink RX11 102 "BowlShelfModel" "facts" "[I" ∈ WALL := wl_in (by decide +kernel) (by decide +kernel)
theorem wd_154 : Cond.fieldLink RX11 105 "BowlShelfModel" "pile" "[I" ∈ WALL := wl_in (by decide +kernel) (by decide +kernel)
theorem wd_155 : Cond.fieldLink RX11 108 "BowlShelfModel" "states" "[I" ∈ WALL := wl_in (by decide +kernel) (by decide +kernel)
theorem wd_156 : Cond.fieldLink RX11 111 "BowlShelfModel" "isMarked" "[Z" ∈ WALL := wl_in (by decide +kernel) (by decide +kernel)
theorem wd_157 : Cond.fieldLink RX11 114 "BowlShelfModel" "row" "[I" ∈ WALL := wl_in (by decide +kernel) (by decide +kernel)
theorem wd_158 : Cond.fieldLink RX11 117 "BowlShelfModel" "thr" "[Z" ∈ WALL := wl_in (by decide +kernel) (by decide +kernel)
theorem wd_159 : Cond.fieldLink RX11 120 "BowlShelfModel" "mays" "[Z" ∈ WALL := wl_in (by decide +kernel) (by decide +kernel)
theorem wd_160 : Cond.constant RX11 123 (49152) ∈ WALL := wl_in (by decide +kernel) (by decide +kernel)
theorem wd_161 : Cond.fieldLink RX11 124 "BowlShelfModel" "tall" "[I" ∈ WALL := wl_in (by decide +kernel) (by decide +kernel)
theorem wd_162 : Cond.fieldLink RX11 127 "BowlShelfModel" "weights" "[I" ∈ WALL := wl_in (by decide +kernel) (by decide +kernel)
theorem wd_163 : Cond.fieldLink RX11 130 "BowlShelfModel" "rowOfWare" "[I" ∈ WALL := wl_in (by decide +kernel) (by decide +kernel)
theorem wd_164 : Cond.fieldLink RX11 133 "BowlShelfModel" "neededOf" "[I" ∈ WALL := wl_in (by decide +kernel) (by decide +kernel)
theorem wd_165 : Cond.fieldLink RX11 136 "BowlShelfModel" "tried" "[I" ∈ WALL := wl_in (by decide +kernel) (by decide +kernel)
theorem wd_166 : Cond.fieldLink RX11 139 "BowlShelfModel" "bestRow" "[I" ∈ WALL := wl_in (by decide +kernel) (by decide +kernel)
theorem wd_167 : Cond.fieldLink RX11 142 "BowlShelfModel" "digits" "[J" ∈ WALL := wl_in (by decide +kernel) (by decide +kernel)
theorem wd_168 : Cond.fieldLink RX11 145 "BowlShelfModel" "isNew" "Z" ∈ WALL := wl_in (by decide +kernel) (by decide +kernel)
theorem dX11_init_0 : decode cX11_init 0 = .ok (.aload_n 0, 1) := by decide +kernel
theorem dX11_init_1 : decode cX11_init 1 = .ok (.invokespecial 18, 3) := by decide +kernel
theorem dX11_init_4 : decode cX11_init 4 = .ok (.aload_n 0, 1) := by decide +kernel
theorem dX11_init_5 : decode cX11_init 5 = .ok (.sipush 1000, 3) := by decide +kernel
theorem dX11_init_8 : decode cX11_init 8 = .ok (.newarray .int, 2) := by decide +kernel
theorem dX11_init_10 : decode cX11_init 10 = .ok (.putfield 14, 3) := by decide +kernel
theorem dX11_init_13 : decode cX11_init 13 = .ok (.aload_n 0, 1) := by decide +kernel
theorem dX11_init_14 : decode cX11_init 14 = .ok (.sipush 1002, 3) := by decide +kernel
theorem dX11_init_17 : decode cX11_init 17 = .ok (.newarray .int, 2) := by decide +kernel
theorem dX11_init_19 : decode cX11_init 19 = .ok (.putfield 24, 3) := by decide +kernel
theorem dX11_init_22 : decode cX11_init 22 = .ok (.aload_n 0, 1) := by decide +kernel
theorem dX11_init_23 : decode cX11_init 23 = .ok (.sipush 1002, 3) := by decide +kernel
theorem dX11_init_26 : decode cX11_init 26 = .ok (.newarray .int, 2) := by decide +kernel
theorem dX11_init_28 : decode cX11_init 28 = .ok (.putfield 27, 3) := by decide +kernel
theorem dX11_init_31 : decode cX11_init 31 = .ok (.aload_n 0, 1) := by decide +kernel
theorem dX11_init_32 : decode cX11_init 32 = .ok (.sipush 1002, 3) := by decide +kernel
theorem dX11_init_35 : decode cX11_init 35 = .ok (.newarray .long, 2) := by decide +kernel
theorem dX11_init_37 : decode cX11_init 37 = .ok (.putfield 30, 3) := by decide +kernel
theorem dX11_init_40 : decode cX11_init 40 = .ok (.aload_n 0, 1) := by decide +kernel
theorem dX11_init_41 : decode cX11_init 41 = .ok (.bipush 23, 2) := by decide +kernel
theorem dX11_init_43 : decode cX11_init 43 = .ok (.newarray .long, 2) := by decide +kernel
theorem dX11_init_45 : decode cX11_init 45 = .ok (.dup, 1) := by decide +kernel
theorem dX11_init_46 : decode cX11_init 46 = .ok (.iconst 0, 1) := by decide +kernel
theorem dX11_init_47 : decode cX11_init 47 = .ok (.ldc2_w 34, 3) := by decide +kernel
theorem dX11_init_50 : decode cX11_init 50 = .ok (.lastore, 1) := by decide +kernel
theorem dX11_init_51 : decode cX11_init 51 = .ok (.dup, 1) := by decide +kernel
theorem dX11_init_52 : decode cX11_init 52 = .ok (.iconst 1, 1) := by decide +kernel
theorem dX11_init_53 : decode cX11_init 53 = .ok (.ldc2_w 36, 3) := by decide +kernel
theorem dX11_init_56 : decode cX11_init 56 = .ok (.lastore, 1) := by decide +kernel
theorem dX11_init_57 : decode cX11_init 57 = .ok (.dup, 1) := by decide +kernel
theorem dX11_init_58 : decode cX11_init 58 = .ok (.iconst 2, 1) := by decide +kernel
theorem dX11_init_59 : decode cX11_init 59 = .ok (.ldc2_w 38, 3) := by decide +kernel
theorem dX11_init_62 : decode cX11_init 62 = .ok (.lastore, 1) := by decide +kernel
theorem dX11_init_63 : decode cX11_init 63 = .ok (.dup, 1) := by decide +kernel
theorem dX11_init_64 : decode cX11_init 64 = .ok (.iconst 3, 1) := by decide +kernel
theorem dX11_init_65 : decode cX11_init 65 = .ok (.ldc2_w 40, 3) := by decide +kernel
theorem dX11_init_68 : decode cX11_init 68 = .ok (.lastore, 1) := by decide +kernel
theorem dX11_init_69 : decode cX11_init 69 = .ok (.dup, 1) := by decide +kernel
theorem dX11_init_70 : decode cX11_init 70 = .ok (.iconst 4, 1) := by decide +kernel
theorem dX11_init_71 : decode cX11_init 71 = .ok (.ldc2_w 42, 3) := by decide +kernel
theorem dX11_init_74 : decode cX11_init 74 = .ok (.lastore, 1) := by decide +kernel
theorem dX11_init_75 : decode cX11_init 75 = .ok (.dup, 1) := by decide +kernel
theorem dX11_init_76 : decode cX11_init 76 = .ok (.iconst 5, 1) := by decide +kernel
theorem dX11_init_77 : decode cX11_init 77 = .ok (.ldc2_w 44, 3) := by decide +kernel
theorem dX11_init_80 : decode cX11_init 80 = .ok (.lastore, 1) := by decide +kernel
theorem dX11_init_81 : decode cX11_init 81 = .ok (.dup, 1) := by decide +kernel
theorem dX11_init_82 : decode cX11_init 82 = .ok (.bipush 6, 2) := by decide +kernel
theorem dX11_init_84 : decode cX11_init 84 = .ok (.ldc2_w 46, 3) := by decide +kernel
theorem dX11_init_87 : decode cX11_init 87 = .ok (.lastore, 1) := by decide +kernel
theorem dX11_init_88 : decode cX11_init 88 = .ok (.dup, 1) := by decide +kernel
theorem dX11_init_89 : decode cX11_init 89 = .ok (.bipush 7, 2) := by decide +kernel
theorem dX11_init_91 : decode cX11_init 91 = .ok (.ldc2_w 48, 3) := by decide +kernel
theorem dX11_init_94 : decode cX11_init 94 = .ok (.lastore, 1) := by decide +kernel
theorem dX11_init_95 : decode cX11_init 95 = .ok (.dup, 1) := by decide +kernel
theorem dX11_init_96 : decode cX11_init 96 = .ok (.bipush 8, 2) := by decide +kernel
theorem dX11_init_98 : decode cX11_init 98 = .ok (.ldc2_w 50, 3) := by decide +kernel
theorem dX11_init_101 : decode cX11_init 101 = .ok (.lastore, 1) := by decide +kernel
theorem dX11_init_102 : decode cX11_init 102 = .ok (.dup, 1) := by decide +kernel
theorem dX11_init_103 : decode cX11_init 103 = .ok (.bipush 9, 2) := by decide +kernel
theorem dX11_init_105 : decode cX11_init 105 = .ok (.ldc2_w 52, 3) := by decide +kernel
theorem dX11_init_108 : decode cX11_init 108 = .ok (.lastore, 1) := by decide +kernel
theorem dX11_init_109 : decode cX11_init 109 = .ok (.dup, 1) := by decide +kernel
theorem dX11_init_110 : decode cX11_init 110 = .ok (.bipush 10, 2) := by decide +kernel
theorem dX11_init_112 : decode cX11_init 112 = .ok (.ldc2_w 54, 3) := by decide +kernel
theorem dX11_init_115 : decode cX11_init 115 = .ok (.lastore, 1) := by decide +kernel
theorem dX11_init_116 : decode cX11_init 116 = .ok (.dup, 1) := by decide +kernel
theorem dX11_init_117 : decode cX11_init 117 = .ok (.bipush 11, 2) := by decide +kernel
theorem dX11_init_119 : decode cX11_init 119 = .ok (.ldc2_w 56, 3) := by decide +kernel
theorem dX11_init_122 : decode cX11_init 122 = .ok (.lastore, 1) := by decide +kernel
theorem dX11_init_123 : decode cX11_init 123 = .ok (.dup, 1) := by decide +kernel
theorem dX11_init_124 : decode cX11_init 124 = .ok (.bipush 12, 2) := by decide +kernel
theorem dX11_init_126 : decode cX11_init 126 = .ok (.ldc2_w 58, 3) := by decide +kernel
theorem dX11_init_129 : decode cX11_init 129 = .ok (.lastore, 1) := by decide +kernel
theorem dX11_init_130 : decode cX11_init 130 = .ok (.dup, 1) := by decide +kernel
theorem dX11_init_131 : decode cX11_init 131 = .ok (.bipush 13, 2) := by decide +kernel
theorem dX11_init_133 : decode cX11_init 133 = .ok (.ldc2_w 60, 3) := by decide +kernel
theorem dX11_init_136 : decode cX11_init 136 = .ok (.lastore, 1) := by decide +kernel
theorem dX11_init_137 : decode cX11_init 137 = .ok (.dup, 1) := by decide +kernel
theorem dX11_init_138 : decode cX11_init 138 = .ok (.bipush 14, 2) := by decide +kernel
theorem dX11_init_140 : decode cX11_init 140 = .ok (.ldc2_w 62, 3) := by decide +kernel
theorem dX11_init_143 : decode cX11_init 143 = .ok (.lastore, 1) := by decide +kernel
theorem dX11_init_144 : decode cX11_init 144 = .ok (.dup, 1) := by decide +kernel
theorem dX11_init_145 : decode cX11_init 145 = .ok (.bipush 15, 2) := by decide +kernel
theorem dX11_init_147 : decode cX11_init 147 = .ok (.ldc2_w 64, 3) := by decide +kernel
theorem dX11_init_150 : decode cX11_init 150 = .ok (.lastore, 1) := by decide +kernel
theorem dX11_init_151 : decode cX11_init 151 = .ok (.dup, 1) := by decide +kernel
theorem dX11_init_152 : decode cX11_init 152 = .ok (.bipush 16, 2) := by decide +kernel
theorem dX11_init_154 : decode cX11_init 154 = .ok (.ldc2_w 66, 3) := by decide +kernel
theorem dX11_init_157 : decode cX11_init 157 = .ok (.lastore, 1) := by decide +kernel
theorem dX11_init_158 : decode cX11_init 158 = .ok (.dup, 1) := by decide +kernel
theorem dX11_init_159 : decode cX11_init 159 = .ok (.bipush 17, 2) := by decide +kernel
theorem dX11_init_161 : decode cX11_init 161 = .ok (.ldc2_w 68, 3) := by decide +kernel
theorem dX11_init_164 : decode cX11_init 164 = .ok (.lastore, 1) := by decide +kernel
theorem dX11_init_165 : decode cX11_init 165 = .ok (.dup, 1) := by decide +kernel
theorem dX11_init_166 : decode cX11_init 166 = .ok (.bipush 18, 2) := by decide +kernel
theorem dX11_init_168 : decode cX11_init 168 = .ok (.ldc2_w 70, 3) := by decide +kernel
theorem dX11_init_171 : decode cX11_init 171 = .ok (.lastore, 1) := by decide +kernel
theorem dX11_init_172 : decode cX11_init 172 = .ok (.dup, 1) := by decide +kernel
theorem dX11_init_173 : decode cX11_init 173 = .ok (.bipush 19, 2) := by decide +kernel
theorem dX11_init_175 : decode cX11_init 175 = .ok (.ldc2_w 72, 3) := by decide +kernel
theorem dX11_init_178 : decode cX11_init 178 = .ok (.lastore, 1) := by decide +kernel
theorem dX11_init_179 : decode cX11_init 179 = .ok (.dup, 1) := by decide +kernel
theorem dX11_init_180 : decode cX11_init 180 = .ok (.bipush 20, 2) := by decide +kernel
theorem dX11_init_182 : decode cX11_init 182 = .ok (.ldc2_w 74, 3) := by decide +kernel
theorem dX11_init_185 : decode cX11_init 185 = .ok (.lastore, 1) := by decide +kernel
theorem dX11_init_186 : decode cX11_init 186 = .ok (.dup, 1) := by decide +kernel
theorem dX11_init_187 : decode cX11_init 187 = .ok (.bipush 21, 2) := by decide +kernel
theorem dX11_init_189 : decode cX11_init 189 = .ok (.ldc2_w 76, 3) := by decide +kernel
theorem dX11_init_192 : decode cX11_init 192 = .ok (.lastore, 1) := by decide +kernel
theorem dX11_init_193 : decode cX11_init 193 = .ok (.dup, 1) := by decide +kernel
theorem dX11_init_194 : decode cX11_init 194 = .ok (.bipush 22, 2) := by decide +kernel
theorem dX11_init_196 : decode cX11_init 196 = .ok (.ldc2_w 78, 3) := by decide +kernel
theorem dX11_init_199 : decode cX11_init 199 = .ok (.lastore, 1) := by decide +kernel
theorem dX11_init_200 : decode cX11_init 200 = .ok (.putfield 80, 3) := by decide +kernel
theorem dX11_init_203 : decode cX11_init 203 = .ok (.aload_n 0, 1) := by decide +kernel
theorem dX11_init_204 : decode cX11_init 204 = .ok (.sipush 240, 3) := by decide +kernel
theorem dX11_init_207 : decode cX11_init 207 = .ok (.newarray .int, 2) := by decide +kernel
theorem dX11_init_209 : decode cX11_init 209 = .ok (.putfield 83, 3) := by decide +kernel
theorem dX11_init_212 : decode cX11_init 212 = .ok (.aload_n 0, 1) := by decide +kernel
theorem dX11_init_213 : decode cX11_init 213 = .ok (.sipush 2200, 3) := by decide +kernel
theorem dX11_init_216 : decode cX11_init 216 = .ok (.newarray .int, 2) := by decide +kernel
theorem dX11_init_218 : decode cX11_init 218 = .ok (.putfield 86, 3) := by decide +kernel
theorem dX11_init_221 : decode cX11_init 221 = .ok (.aload_n 0, 1) := by decide +kernel
theorem dX11_init_222 : decode cX11_init 222 = .ok (.sipush 2200, 3) := by decide +kernel
theorem dX11_init_225 : decode cX11_init 225 = .ok (.newarray .int, 2) := by decide +kernel
theorem dX11_init_227 : decode cX11_init 227 = .ok (.putfield 89, 3) := by decide +kernel
theorem dX11_init_230 : decode cX11_init 230 = .ok (.aload_n 0, 1) := by decide +kernel
theorem dX11_init_231 : decode cX11_init 231 = .ok (.bipush 16, 2) := by decide +kernel
theorem dX11_init_233 : decode cX11_init 233 = .ok (.newarray .long, 2) := by decide +kernel
theorem dX11_init_235 : decode cX11_init 235 = .ok (.putfield 92, 3) := by decide +kernel
theorem dX11_init_238 : decode cX11_init 238 = .ok (.aload_n 0, 1) := by decide +kernel
theorem dX11_init_239 : decode cX11_init 239 = .ok (.bipush 12, 2) := by decide +kernel
theorem dX11_init_241 : decode cX11_init 241 = .ok (.newarray .boolean, 2) := by decide +kernel
theorem dX11_init_243 : decode cX11_init 243 = .ok (.putfield 95, 3) := by decide +kernel
theorem dX11_init_246 : decode cX11_init 246 = .ok (.aload_n 0, 1) := by decide +kernel
theorem dX11_init_247 : decode cX11_init 247 = .ok (.bipush 8, 2) := by decide +kernel
theorem dX11_init_249 : decode cX11_init 249 = .ok (.newarray .int, 2) := by decide +kernel
theorem dX11_init_251 : decode cX11_init 251 = .ok (.dup, 1) := by decide +kernel
theorem dX11_init_252 : decode cX11_init 252 = .ok (.iconst 0, 1) := by decide +kernel
theorem dX11_init_253 : decode cX11_init 253 = .ok (.bipush 17, 2) := by decide +kernel
theorem dX11_init_255 : decode cX11_init 255 = .ok (.iastore, 1) := by decide +kernel
theorem dX11_init_256 : decode cX11_init 256 = .ok (.dup, 1) := by decide +kernel
theorem dX11_init_257 : decode cX11_init 257 = .ok (.iconst 1, 1) := by decide +kernel
theorem dX11_init_258 : decode cX11_init 258 = .ok (.bipush 18, 2) := by decide +kernel
theorem dX11_init_260 : decode cX11_init 260 = .ok (.iastore, 1) := by decide +kernel
theorem dX11_init_261 : decode cX11_init 261 = .ok (.dup, 1) := by decide +kernel
theorem dX11_init_262 : decode cX11_init 262 = .ok (.iconst 2, 1) := by decide +kernel
theorem dX11_init_263 : decode cX11_init 263 = .ok (.bipush 19, 2) := by decide +kernel
theorem dX11_init_265 : decode cX11_init 265 = .ok (.iastore, 1) := by decide +kernel
theorem dX11_init_266 : decode cX11_init 266 = .ok (.dup, 1) := by decide +kernel
theorem dX11_init_267 : decode cX11_init 267 = .ok (.iconst 3, 1) := by decide +kernel
theorem dX11_init_268 : decode cX11_init 268 = .ok (.bipush 7, 2) := by decide +kernel
theorem dX11_init_270 : decode cX11_init 270 = .ok (.iastore, 1) := by decide +kernel
theorem dX11_init_271 : decode cX11_init 271 = .ok (.dup, 1) := by decide +kernel
theorem dX11_init_272 : decode cX11_init 272 = .ok (.iconst 4, 1) := by decide +kernel
theorem dX11_init_273 : decode cX11_init 273 = .ok (.bipush 20, 2) := by decide +kernel
theorem dX11_init_275 : decode cX11_init 275 = .ok (.iastore, 1) := by decide +kernel
theorem dX11_init_276 : decode cX11_init 276 = .ok (.dup, 1) := by decide +kernel
theorem dX11_init_277 : decode cX11_init 277 = .ok (.iconst 5, 1) := by decide +kernel
theorem dX11_init_278 : decode cX11_init 278 = .ok (.bipush 21, 2) := by decide +kernel
theorem dX11_init_280 : decode cX11_init 280 = .ok (.iastore, 1) := by decide +kernel
theorem dX11_init_281 : decode cX11_init 281 = .ok (.dup, 1) := by decide +kernel
theorem dX11_init_282 : decode cX11_init 282 = .ok (.bipush 6, 2) := by decide +kernel
theorem dX11_init_284 : decode cX11_init 284 = .ok (.iconst 1, 1) := by decide +kernel
theorem dX11_init_285 : decode cX11_init 285 = .ok (.iastore, 1) := by decide +kernel
theorem dX11_init_286 : decode cX11_init 286 = .ok (.dup, 1) := by decide +kernel
theorem dX11_init_287 : decode cX11_init 287 = .ok (.bipush 7, 2) := by decide +kernel
theorem dX11_init_289 : decode cX11_init 289 = .ok (.bipush 22, 2) := by decide +kernel
theorem dX11_init_291 : decode cX11_init 291 = .ok (.iastore, 1) := by decide +kernel
theorem dX11_init_292 : decode cX11_init 292 = .ok (.putfield 99, 3) := by decide +kernel
theorem dX11_init_295 : decode cX11_init 295 = .ok (.aload_n 0, 1) := by decide +kernel
theorem dX11_init_296 : decode cX11_init 296 = .ok (.bipush 8, 2) := by decide +kernel
theorem dX11_init_298 : decode cX11_init 298 = .ok (.newarray .int, 2) := by decide +kernel
theorem dX11_init_300 : decode cX11_init 300 = .ok (.putfield 102, 3) := by decide +kernel
theorem dX11_init_303 : decode cX11_init 303 = .ok (.aload_n 0, 1) := by decide +kernel
theorem dX11_init_304 : decode cX11_init 304 = .ok (.sipush 1100, 3) := by decide +kernel
theorem dX11_init_307 : decode cX11_init 307 = .ok (.newarray .int, 2) := by decide +kernel
theorem dX11_init_309 : decode cX11_init 309 = .ok (.putfield 105, 3) := by decide +kernel
theorem dX11_init_312 : decode cX11_init 312 = .ok (.aload_n 0, 1) := by decide +kernel
theorem dX11_init_313 : decode cX11_init 313 = .ok (.sipush 2760, 3) := by decide +kernel
theorem dX11_init_316 : decode cX11_init 316 = .ok (.newarray .int, 2) := by decide +kernel
theorem dX11_init_318 : decode cX11_init 318 = .ok (.putfield 108, 3) := by decide +kernel
theorem dX11_init_321 : decode cX11_init 321 = .ok (.aload_n 0, 1) := by decide +kernel
theorem dX11_init_322 : decode cX11_init 322 = .ok (.iconst 4, 1) := by decide +kernel
theorem dX11_init_323 : decode cX11_init 323 = .ok (.newarray .boolean, 2) := by decide +kernel
theorem dX11_init_325 : decode cX11_init 325 = .ok (.putfield 111, 3) := by decide +kernel
theorem dX11_init_328 : decode cX11_init 328 = .ok (.aload_n 0, 1) := by decide +kernel
theorem dX11_init_329 : decode cX11_init 329 = .ok (.bipush 12, 2) := by decide +kernel
theorem dX11_init_331 : decode cX11_init 331 = .ok (.newarray .int, 2) := by decide +kernel
theorem dX11_init_333 : decode cX11_init 333 = .ok (.putfield 114, 3) := by decide +kernel
theorem dX11_init_336 : decode cX11_init 336 = .ok (.aload_n 0, 1) := by decide +kernel
theorem dX11_init_337 : decode cX11_init 337 = .ok (.sipush 144, 3) := by decide +kernel
theorem dX11_init_340 : decode cX11_init 340 = .ok (.newarray .boolean, 2) := by decide +kernel
theorem dX11_init_342 : decode cX11_init 342 = .ok (.putfield 117, 3) := by decide +kernel
theorem dX11_init_345 : decode cX11_init 345 = .ok (.aload_n 0, 1) := by decide +kernel
theorem dX11_init_346 : decode cX11_init 346 = .ok (.sipush 144, 3) := by decide +kernel
theorem dX11_init_349 : decode cX11_init 349 = .ok (.newarray .boolean, 2) := by decide +kernel
theorem dX11_init_351 : decode cX11_init 351 = .ok (.putfield 120, 3) := by decide +kernel
theorem dX11_init_354 : decode cX11_init 354 = .ok (.aload_n 0, 1) := by decide +kernel
theorem dX11_init_355 : decode cX11_init 355 = .ok (.ldc 123, 2) := by decide +kernel
theorem dX11_init_357 : decode cX11_init 357 = .ok (.newarray .int, 2) := by decide +kernel
theorem dX11_init_359 : decode cX11_init 359 = .ok (.putfield 124, 3) := by decide +kernel
theorem dX11_init_362 : decode cX11_init 362 = .ok (.aload_n 0, 1) := by decide +kernel
theorem dX11_init_363 : decode cX11_init 363 = .ok (.sipush 4096, 3) := by decide +kernel
theorem dX11_init_366 : decode cX11_init 366 = .ok (.newarray .int, 2) := by decide +kernel
theorem dX11_init_368 : decode cX11_init 368 = .ok (.putfield 127, 3) := by decide +kernel
theorem dX11_init_371 : decode cX11_init 371 = .ok (.aload_n 0, 1) := by decide +kernel
theorem dX11_init_372 : decode cX11_init 372 = .ok (.bipush 12, 2) := by decide +kernel
theorem dX11_init_374 : decode cX11_init 374 = .ok (.newarray .int, 2) := by decide +kernel
theorem dX11_init_376 : decode cX11_init 376 = .ok (.putfield 130, 3) := by decide +kernel
theorem dX11_init_379 : decode cX11_init 379 = .ok (.aload_n 0, 1) := by decide +kernel
theorem dX11_init_380 : decode cX11_init 380 = .ok (.sipush 4096, 3) := by decide +kernel
theorem dX11_init_383 : decode cX11_init 383 = .ok (.newarray .int, 2) := by decide +kernel
theorem dX11_init_385 : decode cX11_init 385 = .ok (.putfield 133, 3) := by decide +kernel
theorem dX11_init_388 : decode cX11_init 388 = .ok (.aload_n 0, 1) := by decide +kernel
theorem dX11_init_389 : decode cX11_init 389 = .ok (.bipush 7, 2) := by decide +kernel
theorem dX11_init_391 : decode cX11_init 391 = .ok (.newarray .int, 2) := by decide +kernel
theorem dX11_init_393 : decode cX11_init 393 = .ok (.putfield 136, 3) := by decide +kernel
theorem dX11_init_396 : decode cX11_init 396 = .ok (.aload_n 0, 1) := by decide +kernel
theorem dX11_init_397 : decode cX11_init 397 = .ok (.bipush 7, 2) := by decide +kernel
theorem dX11_init_399 : decode cX11_init 399 = .ok (.newarray .int, 2) := by decide +kernel
theorem dX11_init_401 : decode cX11_init 401 = .ok (.putfield 139, 3) := by decide +kernel
theorem dX11_init_404 : decode cX11_init 404 = .ok (.aload_n 0, 1) := by decide +kernel
theorem dX11_init_405 : decode cX11_init 405 = .ok (.iconst 5, 1) := by decide +kernel
theorem dX11_init_406 : decode cX11_init 406 = .ok (.newarray .long, 2) := by decide +kernel
theorem dX11_init_408 : decode cX11_init 408 = .ok (.putfield 142, 3) := by decide +kernel
theorem dX11_init_411 : decode cX11_init 411 = .ok (.aload_n 0, 1) := by decide +kernel
theorem dX11_init_412 : decode cX11_init 412 = .ok (.iconst 1, 1) := by decide +kernel
theorem dX11_init_413 : decode cX11_init 413 = .ok (.putfield 145, 3) := by decide +kernel
theorem dX11_init_416 : decode cX11_init 416 = .ok (.return_, 1) := by decide +kernel
set_option maxHeartbeats 4000000 in
set_option maxRecDepth 100000 in
theorem c_X11_init (l : Launch) (D : va_G) (cyC cyI cyJ cyZ cyO : ClassId) (h0 : Nat) : KK l D (TY cyC cyI cyJ cyZ cyO) yX11_init cX11_init 1 none ({ frames := 1, cells := 25, slots := 70252, locals := 12 } : Room) 25 70252 [.ref h0] [(h0, .inr (11, [.int 0, .null, .int 0, .int 0, .null, .null, .null, .int 0, .int 0, .null, .null, .null, .null, .int 0, .null, .null, .int 0, .null, .null, .null, .null, .null, .int 0, .int 0, .int 0, .null, .int 0, .null, .null, .null, .null, .null, .null, .int 0, .int 0, .int 0, .null, .null, .int 0, .int 0, .int 0, .int 0, .null]))] (fun u => none) (fun u => True) (fun u => [(h0, .inr (11, [.int 0, .ref (u.1 0), .int 0, .int 0, .ref (u.1 1), .ref (u.1 2), .ref (u.1 3), .int 0, .int 0, .ref (u.1 4), .ref (u.1 5), .ref (u.1 6), .ref (u.1 7), .int 0, .ref (u.1 8), .ref (u.1 9), .int 1, .ref (u.1 10), .ref (u.1 11), .ref (u.1 12), .ref (u.1 13), .ref (u.1 14), .int 0, .int 0, .int 0, .ref (u.1 15), .int 0, .ref (u.1 16), .ref (u.1 17), .ref (u.1 18), .ref (u.1 19), .ref (u.1 20), .ref (u.1 21), .int 0, .int 0, .int 0, .ref (u.1 22), .ref (u.1 23), .int 0, .int 0, .int 0, .int 0, .ref (u.1 24)])), ((u.1 0), .inl (cyI, 1000, .inl (fun _ => 0))), ((u.1 1), .inl (cyI, 1002, .inl (fun _ => 0))), ((u.1 2), .inl (cyI, 1002, .inl (fun _ => 0))), ((u.1 3), .inl (cyJ, 1002, .inr (.inl (fun _ => 0)))), ((u.1 4), .inl (cyJ, 23, .inr (.inl (vp_updL (vp_updL (vp_updL (vp_updL (vp_updL (vp_updL (vp_updL (vp_updL (vp_updL (vp_updL (vp_updL (vp_updL (vp_updL (vp_updL (vp_updL (vp_updL (vp_updL (vp_updL (vp_updL (vp_updL (vp_updL (vp_updL (vp_updL (fun _ => 0) 0 122704) 1 16765) 2 36021578) 3 27951) 4 15047032) 5 716710) 6 1177493) 7 209658) 8 1604747592) 9 4003641) 10 172677872) 11 564588237) 12 33989651) 13 932857) 14 19741) 15 1891) 16 573) 17 17595960) 18 29203711) 19 17006) 20 22955708) 21 15248761) 22 40072202)))), ((u.1 5), .inl (cyI, 240, .inl (fun _ => 0))), ((u.1 6), .inl (cyI, 2200, .inl (fun _ => 0))), ((u.1 7), .inl (cyI, 2200, .inl (fun _ => 0))), ((u.1 8), .inl (cyJ, 16, .inr (.inl (fun _ => 0)))), ((u.1 9), .inl (cyZ, 12, .inl (fun _ => 0))), ((u.1 10), .inl (cyI, 8, .inl (upd (upd (upd (upd (upd (upd (upd (upd (fun _ => 0) 0 17) 1 18) 2 19) 3 7) 4 20) 5 21) 6 1) 7 22))), ((u.1 11), .inl (cyI, 8, .inl (fun _ => 0))), ((u.1 12), .inl (cyI, 1100, .inl (fun _ => 0))), ((u.1 13), .inl (cyI, 2760, .inl (fun _ => 0))), ((u.1 14), .inl (cyZ, 4, .inl (fun _ => 0))), ((u.1 15), .inl (cyI, 12, .inl (fun _ => 0))), ((u.1 16), .inl (cyZ, 144, .inl (fun _ => 0))), ((u.1 17), .inl (cyZ, 144, .inl (fun _ => 0))), ((u.1 18), .inl (cyI, 49152, .inl (fun _ => 0))), ((u.1 19), .inl (cyI, 4096, .inl (fun _ => 0))), ((u.1 20), .inl (cyI, 12, .inl (fun _ => 0))), ((u.1 21), .inl (cyI, 4096, .inl (fun _ => 0))), ((u.1 22), .inl (cyI, 7, .inl (fun _ => 0))), ((u.1 23), .inl (cyI, 7, .inl (fun _ => 0))), ((u.1 24), .inl (cyJ, 5, .inr (.inl (fun _ => 0))))]) := by
  refine KK.of (lv0 := [(0, .ref h0)]) (by decide) rfl (Nat.le_of_ble_eq_true rfl) ?_
  intro p e s m args below meth c A C hr hk hin
  refine j_aload_n (pc := 0) C dX11_init_0 rfl 0 rfl ?_
  refine j_oinit (pc := 1) C wd_117 wd_1 wd_2 dX11_init_1 (by decide) (Nat.le_of_ble_eq_true rfl) ?_
  refine j_aload_n (pc := 4) C dX11_init_4 rfl 0 rfl ?_
  refine j_sipush (pc := 5) (v := 1000) C dX11_init_5 (by decide) ?_
  refine j_newa (pc := 8) (at1 := .int) (ty := .int) (N := 1000) (a0 := (1000, .inl (fun _ => 0))) C wd_6 rfl 1 rfl (fun _ _ h => h) (fun _ => rfl) (by decide) (by decide) (by decide) (by decide) (by decide) dX11_init_8 (fun q_1 => ?_)
  refine j_widen (k := 1) (n := 1000) (by decide) (by decide) ?_
  refine j_putF (pc := 10) (ci := 11) (v := .ref q_1) (ws' := [(h0, .inr (11, [.int 0, .ref q_1, .int 0, .int 0, .null, .null, .null, .int 0, .int 0, .null, .null, .null, .null, .int 0, .null, .null, .int 0, .null, .null, .null, .null, .null, .int 0, .int 0, .int 0, .null, .int 0, .null, .null, .null, .null, .null, .null, .int 0, .int 0, .int 0, .null, .null, .int 0, .int 0, .int 0, .int 0, .null])), (q_1, .inl (cyI, 1000, .inl (fun _ => 0)))]) C inw_11 0 rfl rfl 1 (by decide) wd_118 rfl tyX11_ok nmX11 rfl hin rfl (tyX11_ok 1 (by decide)) rfl rfl (Nat.le_of_ble_eq_true rfl) dX11_init_10 rfl ?_
  refine j_aload_n (pc := 13) C dX11_init_13 rfl 0 rfl ?_
  refine j_sipush (pc := 14) (v := 1002) C dX11_init_14 (by decide) ?_
  refine j_newa (pc := 17) (at1 := .int) (ty := .int) (N := 1002) (a0 := (1002, .inl (fun _ => 0))) C wd_6 rfl 1 rfl (fun _ _ h => h) (fun _ => rfl) (by decide) (by decide) (by decide) (by decide) (by decide) dX11_init_17 (fun q_2 => ?_)
  refine j_widen (k := 2) (n := 2002) (by decide) (by decide) ?_
  refine j_putF (pc := 19) (ci := 11) (v := .ref q_2) (ws' := [(h0, .inr (11, [.int 0, .ref q_1, .int 0, .int 0, .ref q_2, .null, .null, .int 0, .int 0, .null, .null, .null, .null, .int 0, .null, .null, .int 0, .null, .null, .null, .null, .null, .int 0, .int 0, .int 0, .null, .int 0, .null, .null, .null, .null, .null, .null, .int 0, .int 0, .int 0, .null, .null, .int 0, .int 0, .int 0, .int 0, .null])), (q_1, .inl (cyI, 1000, .inl (fun _ => 0))), (q_2, .inl (cyI, 1002, .inl (fun _ => 0)))]) C inw_11 0 rfl rfl 4 (by decide) wd_119 rfl tyX11_ok nmX11 rfl hin rfl (tyX11_ok 4 (by decide)) rfl rfl (Nat.le_of_ble_eq_true rfl) dX11_init_19 rfl ?_
  refine j_aload_n (pc := 22) C dX11_init_22 rfl 0 rfl ?_
  refine j_sipush (pc := 23) (v := 1002) C dX11_init_23 (by decide) ?_
  refine j_newa (pc := 26) (at1 := .int) (ty := .int) (N := 1002) (a0 := (1002, .inl (fun _ => 0))) C wd_6 rfl 1 rfl (fun _ _ h => h) (fun _ => rfl) (by decide) (by decide) (by decide) (by decide) (by decide) dX11_init_26 (fun q_3 => ?_)
  refine j_widen (k := 3) (n := 3004) (by decide) (by decide) ?_
  refine j_putF (pc := 28) (ci := 11) (v := .ref q_3) (ws' := [(h0, .inr (11, [.int 0, .ref q_1, .int 0, .int 0, .ref q_2, .ref q_3, .null, .int 0, .int 0, .null, .null, .null, .null, .int 0, .null, .null, .int 0, .null, .null, .null, .null, .null, .int 0, .int 0, .int 0, .null, .int 0, .null, .null, .null, .null, .null, .null, .int 0, .int 0, .int 0, .null, .null, .int 0, .int 0, .int 0, .int 0, .null])), (q_1, .inl (cyI, 1000, .inl (fun _ => 0))), (q_2, .inl (cyI, 1002, .inl (fun _ => 0))), (q_3, .inl (cyI, 1002, .inl (fun _ => 0)))]) C inw_11 0 rfl rfl 5 (by decide) wd_120 rfl tyX11_ok nmX11 rfl hin rfl (tyX11_ok 5 (by decide)) rfl rfl (Nat.le_of_ble_eq_true rfl) dX11_init_28 rfl ?_
  refine j_aload_n (pc := 31) C dX11_init_31 rfl 0 rfl ?_
  refine j_sipush (pc := 32) (v := 1002) C dX11_init_32 (by decide) ?_
  refine j_newa (pc := 35) (at1 := .long) (ty := .long) (N := 1002) (a0 := (1002, .inr (.inl (fun _ => 0)))) C wd_34 rfl 2 rfl (fun _ _ h => h) (fun _ => rfl) (by decide) (by decide) (by decide) (by decide) (by decide) dX11_init_35 (fun q_4 => ?_)
  refine j_widen (k := 4) (n := 4006) (by decide) (by decide) ?_
  refine j_putF (pc := 37) (ci := 11) (v := .ref q_4) (ws' := [(h0, .inr (11, [.int 0, .ref q_1, .int 0, .int 0, .ref q_2, .ref q_3, .ref q_4, .int 0, .int 0, .null, .null, .null, .null, .int 0, .null, .null, .int 0, .null, .null, .null, .null, .null, .int 0, .int 0, .int 0, .null, .int 0, .null, .null, .null, .null, .null, .null, .int 0, .int 0, .int 0, .null, .null, .int 0, .int 0, .int 0, .int 0, .null])), (q_1, .inl (cyI, 1000, .inl (fun _ => 0))), (q_2, .inl (cyI, 1002, .inl (fun _ => 0))), (q_3, .inl (cyI, 1002, .inl (fun _ => 0))), (q_4, .inl (cyJ, 1002, .inr (.inl (fun _ => 0))))]) C inw_11 0 rfl rfl 6 (by decide) wd_121 rfl tyX11_ok nmX11 rfl hin rfl (tyX11_ok 6 (by decide)) rfl rfl (Nat.le_of_ble_eq_true rfl) dX11_init_37 rfl ?_
  refine j_aload_n (pc := 40) C dX11_init_40 rfl 0 rfl ?_
  refine j_bipush (pc := 41) (v := 23) C dX11_init_41 (by decide) ?_
  refine j_newa (pc := 43) (at1 := .long) (ty := .long) (N := 23) (a0 := (23, .inr (.inl (fun _ => 0)))) C wd_34 rfl 2 rfl (fun _ _ h => h) (fun _ => rfl) (by decide) (by decide) (by decide) (by decide) (by decide) dX11_init_43 (fun q_5 => ?_)
  refine j_widen (k := 5) (n := 4029) (by decide) (by decide) ?_
  refine j_dup (pc := 45) C dX11_init_45 rfl ?_
  refine j_iconst (pc := 46) (v := 0) C dX11_init_46 (by decide) ?_
  refine j_ldc2 (pc := 47) C wd_122 dX11_init_47 ?_
  refine j_last (pc := 50) (k := 0) (ws' := [(h0, .inr (11, [.int 0, .ref q_1, .int 0, .int 0, .ref q_2, .ref q_3, .ref q_4, .int 0, .int 0, .null, .null, .null, .null, .int 0, .null, .null, .int 0, .null, .null, .null, .null, .null, .int 0, .int 0, .int 0, .null, .int 0, .null, .null, .null, .null, .null, .null, .int 0, .int 0, .int 0, .null, .null, .int 0, .int 0, .int 0, .int 0, .null])), (q_1, .inl (cyI, 1000, .inl (fun _ => 0))), (q_2, .inl (cyI, 1002, .inl (fun _ => 0))), (q_3, .inl (cyI, 1002, .inl (fun _ => 0))), (q_4, .inl (cyJ, 1002, .inr (.inl (fun _ => 0)))), (q_5, .inl (cyJ, 23, .inr (.inl (vp_updL (fun _ => 0) 0 122704))))]) C 5 2 rfl rfl (by decide) (by decide) (by decide) dX11_init_50 rfl ?_
  refine j_dup (pc := 51) C dX11_init_51 rfl ?_
  refine j_iconst (pc := 52) (v := 1) C dX11_init_52 (by decide) ?_
  refine j_ldc2 (pc := 53) C wd_123 dX11_init_53 ?_
  refine j_last (pc := 56) (k := 1) (ws' := [(h0, .inr (11, [.int 0, .ref q_1, .int 0, .int 0, .ref q_2, .ref q_3, .ref q_4, .int 0, .int 0, .null, .null, .null, .null, .int 0, .null, .null, .int 0, .null, .null, .null, .null, .null, .int 0, .int 0, .int 0, .null, .int 0, .null, .null, .null, .null, .null, .null, .int 0, .int 0, .int 0, .null, .null, .int 0, .int 0, .int 0, .int 0, .null])), (q_1, .inl (cyI, 1000, .inl (fun _ => 0))), (q_2, .inl (cyI, 1002, .inl (fun _ => 0))), (q_3, .inl (cyI, 1002, .inl (fun _ => 0))), (q_4, .inl (cyJ, 1002, .inr (.inl (fun _ => 0)))), (q_5, .inl (cyJ, 23, .inr (.inl (vp_updL (vp_updL (fun _ => 0) 0 122704) 1 16765))))]) C 5 2 rfl rfl (by decide) (by decide) (by decide) dX11_init_56 rfl ?_
  refine j_dup (pc := 57) C dX11_init_57 rfl ?_
  refine j_iconst (pc := 58) (v := 2) C dX11_init_58 (by decide) ?_
  refine j_ldc2 (pc := 59) C wd_124 dX11_init_59 ?_
  refine j_last (pc := 62) (k := 2) (ws' := [(h0, .inr (11, [.int 0, .ref q_1, .int 0, .int 0, .ref q_2, .ref q_3, .ref q_4, .int 0, .int 0, .null, .null, .null, .null, .int 0, .null, .null, .int 0, .null, .null, .null, .null, .null, .int 0, .int 0, .int 0, .null, .int 0, .null, .null, .null, .null, .null, .null, .int 0, .int 0, .int 0, .null, .null, .int 0, .int 0, .int 0, .int 0, .null])), (q_1, .inl (cyI, 1000, .inl (fun _ => 0))), (q_2, .inl (cyI, 1002, .inl (fun _ => 0))), (q_3, .inl (cyI, 1002, .inl (fun _ => 0))), (q_4, .inl (cyJ, 1002, .inr (.inl (fun _ => 0)))), (q_5, .inl (cyJ, 23, .inr (.inl (vp_updL (vp_updL (vp_updL (fun _ => 0) 0 122704) 1 16765) 2 36021578))))]) C 5 2 rfl rfl (by decide) (by decide) (by decide) dX11_init_62 rfl ?_
  refine j_dup (pc := 63) C dX11_init_63 rfl ?_
  refine j_iconst (pc := 64) (v := 3) C dX11_init_64 (by decide) ?_
  refine j_ldc2 (pc := 65) C wd_125 dX11_init_65 ?_
  refine j_last (pc := 68) (k := 3) (ws' := [(h0, .inr (11, [.int 0, .ref q_1, .int 0, .int 0, .ref q_2, .ref q_3, .ref q_4, .int 0, .int 0, .null, .null, .null, .null, .int 0, .null, .null, .int 0, .null, .null, .null, .null, .null, .int 0, .int 0, .int 0, .null, .int 0, .null, .null, .null, .null, .null, .null, .int 0, .int 0, .int 0, .null, .null, .int 0, .int 0, .int 0, .int 0, .null])), (q_1, .inl (cyI, 1000, .inl (fun _ => 0))), (q_2, .inl (cyI, 1002, .inl (fun _ => 0))), (q_3, .inl (cyI, 1002, .inl (fun _ => 0))), (q_4, .inl (cyJ, 1002, .inr (.inl (fun _ => 0)))), (q_5, .inl (cyJ, 23, .inr (.inl (vp_updL (vp_updL (vp_updL (vp_updL (fun _ => 0) 0 122704) 1 16765) 2 36021578) 3 27951))))]) C 5 2 rfl rfl (by decide) (by decide) (by decide) dX11_init_68 rfl ?_
  refine j_dup (pc := 69) C dX11_init_69 rfl ?_
  refine j_iconst (pc := 70) (v := 4) C dX11_init_70 (by decide) ?_
  refine j_ldc2 (pc := 71) C wd_126 dX11_init_71 ?_
  refine j_last (pc := 74) (k := 4) (ws' := [(h0, .inr (11, [.int 0, .ref q_1, .int 0, .int 0, .ref q_2, .ref q_3, .ref q_4, .int 0, .int 0, .null, .null, .null, .null, .int 0, .null, .null, .int 0, .null, .null, .null, .null, .null, .int 0, .int 0, .int 0, .null, .int 0, .null, .null, .null, .null, .null, .null, .int 0, .int 0, .int 0, .null, .null, .int 0, .int 0, .int 0, .int 0, .null])), (q_1, .inl (cyI, 1000, .inl (fun _ => 0))), (q_2, .inl (cyI, 1002, .inl (fun _ => 0))), (q_3, .inl (cyI, 1002, .inl (fun _ => 0))), (q_4, .inl (cyJ, 1002, .inr (.inl (fun _ => 0)))), (q_5, .inl (cyJ, 23, .inr (.inl (vp_updL (vp_updL (vp_updL (vp_updL (vp_updL (fun _ => 0) 0 122704) 1 16765) 2 36021578) 3 27951) 4 15047032))))]) C 5 2 rfl rfl (by decide) (by decide) (by decide) dX11_init_74 rfl ?_
  refine j_dup (pc := 75) C dX11_init_75 rfl ?_
  refine j_iconst (pc := 76) (v := 5) C dX11_init_76 (by decide) ?_
  refine j_ldc2 (pc := 77) C wd_127 dX11_init_77 ?_
  refine j_last (pc := 80) (k := 5) (ws' := [(h0, .inr (11, [.int 0, .ref q_1, .int 0, .int 0, .ref q_2, .ref q_3, .ref q_4, .int 0, .int 0, .null, .null, .null, .null, .int 0, .null, .null, .int 0, .null, .null, .null, .null, .null, .int 0, .int 0, .int 0, .null, .int 0, .null, .null, .null, .null, .null, .null, .int 0, .int 0, .int 0, .null, .null, .int 0, .int 0, .int 0, .int 0, .null])), (q_1, .inl (cyI, 1000, .inl (fun _ => 0))), (q_2, .inl (cyI, 1002, .inl (fun _ => 0))), (q_3, .inl (cyI, 1002, .inl (fun _ => 0))), (q_4, .inl (cyJ, 1002, .inr (.inl (fun _ => 0)))), (q_5, .inl (cyJ, 23, .inr (.inl (vp_updL (vp_updL (vp_updL (vp_updL (vp_updL (vp_updL (fun _ => 0) 0 122704) 1 16765) 2 36021578) 3 27951) 4 15047032) 5 716710))))]) C 5 2 rfl rfl (by decide) (by decide) (by decide) dX11_init_80 rfl ?_
  refine j_dup (pc := 81) C dX11_init_81 rfl ?_
  refine j_bipush (pc := 82) (v := 6) C dX11_init_82 (by decide) ?_
  refine j_ldc2 (pc := 84) C wd_128 dX11_init_84 ?_
  refine j_last (pc := 87) (k := 6) (ws' := [(h0, .inr (11, [.int 0, .ref q_1, .int 0, .int 0, .ref q_2, .ref q_3, .ref q_4, .int 0, .int 0, .null, .null, .null, .null, .int 0, .null, .null, .int 0, .null, .null, .null, .null, .null, .int 0, .int 0, .int 0, .null, .int 0, .null, .null, .null, .null, .null, .null, .int 0, .int 0, .int 0, .null, .null, .int 0, .int 0, .int 0, .int 0, .null])), (q_1, .inl (cyI, 1000, .inl (fun _ => 0))), (q_2, .inl (cyI, 1002, .inl (fun _ => 0))), (q_3, .inl (cyI, 1002, .inl (fun _ => 0))), (q_4, .inl (cyJ, 1002, .inr (.inl (fun _ => 0)))), (q_5, .inl (cyJ, 23, .inr (.inl (vp_updL (vp_updL (vp_updL (vp_updL (vp_updL (vp_updL (vp_updL (fun _ => 0) 0 122704) 1 16765) 2 36021578) 3 27951) 4 15047032) 5 716710) 6 1177493))))]) C 5 2 rfl rfl (by decide) (by decide) (by decide) dX11_init_87 rfl ?_
  refine j_dup (pc := 88) C dX11_init_88 rfl ?_
  refine j_bipush (pc := 89) (v := 7) C dX11_init_89 (by decide) ?_
  refine j_ldc2 (pc := 91) C wd_129 dX11_init_91 ?_
  refine j_last (pc := 94) (k := 7) (ws' := [(h0, .inr (11, [.int 0, .ref q_1, .int 0, .int 0, .ref q_2, .ref q_3, .ref q_4, .int 0, .int 0, .null, .null, .null, .null, .int 0, .null, .null, .int 0, .null, .null, .null, .null, .null, .int 0, .int 0, .int 0, .null, .int 0, .null, .null, .null, .null, .null, .null, .int 0, .int 0, .int 0, .null, .null, .int 0, .int 0, .int 0, .int 0, .null])), (q_1, .inl (cyI, 1000, .inl (fun _ => 0))), (q_2, .inl (cyI, 1002, .inl (fun _ => 0))), (q_3, .inl (cyI, 1002, .inl (fun _ => 0))), (q_4, .inl (cyJ, 1002, .inr (.inl (fun _ => 0)))), (q_5, .inl (cyJ, 23, .inr (.inl (vp_updL (vp_updL (vp_updL (vp_updL (vp_updL (vp_updL (vp_updL (vp_updL (fun _ => 0) 0 122704) 1 16765) 2 36021578) 3 27951) 4 15047032) 5 716710) 6 1177493) 7 209658))))]) C 5 2 rfl rfl (by decide) (by decide) (by decide) dX11_init_94 rfl ?_
  refine j_dup (pc := 95) C dX11_init_95 rfl ?_
  refine j_bipush (pc := 96) (v := 8) C dX11_init_96 (by decide) ?_
  refine j_ldc2 (pc := 98) C wd_130 dX11_init_98 ?_
  refine j_last (pc := 101) (k := 8) (ws' := [(h0, .inr (11, [.int 0, .ref q_1, .int 0, .int 0, .ref q_2, .ref q_3, .ref q_4, .int 0, .int 0, .null, .null, .null, .null, .int 0, .null, .null, .int 0, .null, .null, .null, .null, .null, .int 0, .int 0, .int 0, .null, .int 0, .null, .null, .null, .null, .null, .null, .int 0, .int 0, .int 0, .null, .null, .int 0, .int 0, .int 0, .int 0, .null])), (q_1, .inl (cyI, 1000, .inl (fun _ => 0))), (q_2, .inl (cyI, 1002, .inl (fun _ => 0))), (q_3, .inl (cyI, 1002, .inl (fun _ => 0))), (q_4, .inl (cyJ, 1002, .inr (.inl (fun _ => 0)))), (q_5, .inl (cyJ, 23, .inr (.inl (vp_updL (vp_updL (vp_updL (vp_updL (vp_updL (vp_updL (vp_updL (vp_updL (vp_updL (fun _ => 0) 0 122704) 1 16765) 2 36021578) 3 27951) 4 15047032) 5 716710) 6 1177493) 7 209658) 8 1604747592))))]) C 5 2 rfl rfl (by decide) (by decide) (by decide) dX11_init_101 rfl ?_
  refine j_dup (pc := 102) C dX11_init_102 rfl ?_
  refine j_bipush (pc := 103) (v := 9) C dX11_init_103 (by decide) ?_
  refine j_ldc2 (pc := 105) C wd_131 dX11_init_105 ?_
  refine j_last (pc := 108) (k := 9) (ws' := [(h0, .inr (11, [.int 0, .ref q_1, .int 0, .int 0, .ref q_2, .ref q_3, .ref q_4, .int 0, .int 0, .null, .null, .null, .null, .int 0, .null, .null, .int 0, .null, .null, .null, .null, .null, .int 0, .int 0, .int 0, .null, .int 0, .null, .null, .null, .null, .null, .null, .int 0, .int 0, .int 0, .null, .null, .int 0, .int 0, .int 0, .int 0, .null])), (q_1, .inl (cyI, 1000, .inl (fun _ => 0))), (q_2, .inl (cyI, 1002, .inl (fun _ => 0))), (q_3, .inl (cyI, 1002, .inl (fun _ => 0))), (q_4, .inl (cyJ, 1002, .inr (.inl (fun _ => 0)))), (q_5, .inl (cyJ, 23, .inr (.inl (vp_updL (vp_updL (vp_updL (vp_updL (vp_updL (vp_updL (vp_updL (vp_updL (vp_updL (vp_updL (fun _ => 0) 0 122704) 1 16765) 2 36021578) 3 27951) 4 15047032) 5 716710) 6 1177493) 7 209658) 8 1604747592) 9 4003641))))]) C 5 2 rfl rfl (by decide) (by decide) (by decide) dX11_init_108 rfl ?_
  refine j_dup (pc := 109) C dX11_init_109 rfl ?_
  refine j_bipush (pc := 110) (v := 10) C dX11_init_110 (by decide) ?_
  refine j_ldc2 (pc := 112) C wd_132 dX11_init_112 ?_
  refine j_last (pc := 115) (k := 10) (ws' := [(h0, .inr (11, [.int 0, .ref q_1, .int 0, .int 0, .ref q_2, .ref q_3, .ref q_4, .int 0, .int 0, .null, .null, .null, .null, .int 0, .null, .null, .int 0, .null, .null, .null, .null, .null, .int 0, .int 0, .int 0, .null, .int 0, .null, .null, .null, .null, .null, .null, .int 0, .int 0, .int 0, .null, .null, .int 0, .int 0, .int 0, .int 0, .null])), (q_1, .inl (cyI, 1000, .inl (fun _ => 0))), (q_2, .inl (cyI, 1002, .inl (fun _ => 0))), (q_3, .inl (cyI, 1002, .inl (fun _ => 0))), (q_4, .inl (cyJ, 1002, .inr (.inl (fun _ => 0)))), (q_5, .inl (cyJ, 23, .inr (.inl (vp_updL (vp_updL (vp_updL (vp_updL (vp_updL (vp_updL (vp_updL (vp_updL (vp_updL (vp_updL (vp_updL (fun _ => 0) 0 122704) 1 16765) 2 36021578) 3 27951) 4 15047032) 5 716710) 6 1177493) 7 209658) 8 1604747592) 9 4003641) 10 172677872))))]) C 5 2 rfl rfl (by decide) (by decide) (by decide) dX11_init_115 rfl ?_
  refine j_dup (pc := 116) C dX11_init_116 rfl ?_
  refine j_bipush (pc := 117) (v := 11) C dX11_init_117 (by decide) ?_
  refine j_ldc2 (pc := 119) C wd_133 dX11_init_119 ?_
  refine j_last (pc := 122) (k := 11) (ws' := [(h0, .inr (11, [.int 0, .ref q_1, .int 0, .int 0, .ref q_2, .ref q_3, .ref q_4, .int 0, .int 0, .null, .null, .null, .null, .int 0, .null, .null, .int 0, .null, .null, .null, .null, .null, .int 0, .int 0, .int 0, .null, .int 0, .null, .null, .null, .null, .null, .null, .int 0, .int 0, .int 0, .null, .null, .int 0, .int 0, .int 0, .int 0, .null])), (q_1, .inl (cyI, 1000, .inl (fun _ => 0))), (q_2, .inl (cyI, 1002, .inl (fun _ => 0))), (q_3, .inl (cyI, 1002, .inl (fun _ => 0))), (q_4, .inl (cyJ, 1002, .inr (.inl (fun _ => 0)))), (q_5, .inl (cyJ, 23, .inr (.inl (vp_updL (vp_updL (vp_updL (vp_updL (vp_updL (vp_updL (vp_updL (vp_updL (vp_updL (vp_updL (vp_updL (vp_updL (fun _ => 0) 0 122704) 1 16765) 2 36021578) 3 27951) 4 15047032) 5 716710) 6 1177493) 7 209658) 8 1604747592) 9 4003641) 10 172677872) 11 564588237))))]) C 5 2 rfl rfl (by decide) (by decide) (by decide) dX11_init_122 rfl ?_
  refine j_dup (pc := 123) C dX11_init_123 rfl ?_
  refine j_bipush (pc := 124) (v := 12) C dX11_init_124 (by decide) ?_
  refine j_ldc2 (pc := 126) C wd_134 dX11_init_126 ?_
  refine j_last (pc := 129) (k := 12) (ws' := [(h0, .inr (11, [.int 0, .ref q_1, .int 0, .int 0, .ref q_2, .ref q_3, .ref q_4, .int 0, .int 0, .null, .null, .null, .null, .int 0, .null, .null, .int 0, .null, .null, .null, .null, .null, .int 0, .int 0, .int 0, .null, .int 0, .null, .null, .null, .null, .null, .null, .int 0, .int 0, .int 0, .null, .null, .int 0, .int 0, .int 0, .int 0, .null])), (q_1, .inl (cyI, 1000, .inl (fun _ => 0))), (q_2, .inl (cyI, 1002, .inl (fun _ => 0))), (q_3, .inl (cyI, 1002, .inl (fun _ => 0))), (q_4, .inl (cyJ, 1002, .inr (.inl (fun _ => 0)))), (q_5, .inl (cyJ, 23, .inr (.inl (vp_updL (vp_updL (vp_updL (vp_updL (vp_updL (vp_updL (vp_updL (vp_updL (vp_updL (vp_updL (vp_updL (vp_updL (vp_updL (fun _ => 0) 0 122704) 1 16765) 2 36021578) 3 27951) 4 15047032) 5 716710) 6 1177493) 7 209658) 8 1604747592) 9 4003641) 10 172677872) 11 564588237) 12 33989651))))]) C 5 2 rfl rfl (by decide) (by decide) (by decide) dX11_init_129 rfl ?_
  refine j_dup (pc := 130) C dX11_init_130 rfl ?_
  refine j_bipush (pc := 131) (v := 13) C dX11_init_131 (by decide) ?_
  refine j_ldc2 (pc := 133) C wd_135 dX11_init_133 ?_
  refine j_last (pc := 136) (k := 13) (ws' := [(h0, .inr (11, [.int 0, .ref q_1, .int 0, .int 0, .ref q_2, .ref q_3, .ref q_4, .int 0, .int 0, .null, .null, .null, .null, .int 0, .null, .null, .int 0, .null, .null, .null, .null, .null, .int 0, .int 0, .int 0, .null, .int 0, .null, .null, .null, .null, .null, .null, .int 0, .int 0, .int 0, .null, .null, .int 0, .int 0, .int 0, .int 0, .null])), (q_1, .inl (cyI, 1000, .inl (fun _ => 0))), (q_2, .inl (cyI, 1002, .inl (fun _ => 0))), (q_3, .inl (cyI, 1002, .inl (fun _ => 0))), (q_4, .inl (cyJ, 1002, .inr (.inl (fun _ => 0)))), (q_5, .inl (cyJ, 23, .inr (.inl (vp_updL (vp_updL (vp_updL (vp_updL (vp_updL (vp_updL (vp_updL (vp_updL (vp_updL (vp_updL (vp_updL (vp_updL (vp_updL (vp_updL (fun _ => 0) 0 122704) 1 16765) 2 36021578) 3 27951) 4 15047032) 5 716710) 6 1177493) 7 209658) 8 1604747592) 9 4003641) 10 172677872) 11 564588237) 12 33989651) 13 932857))))]) C 5 2 rfl rfl (by decide) (by decide) (by decide) dX11_init_136 rfl ?_
  refine j_dup (pc := 137) C dX11_init_137 rfl ?_
  refine j_bipush (pc := 138) (v := 14) C dX11_init_138 (by decide) ?_
  refine j_ldc2 (pc := 140) C wd_136 dX11_init_140 ?_
  refine j_last (pc := 143) (k := 14) (ws' := [(h0, .inr (11, [.int 0, .ref q_1, .int 0, .int 0, .ref q_2, .ref q_3, .ref q_4, .int 0, .int 0, .null, .null, .null, .null, .int 0, .null, .null, .int 0, .null, .null, .null, .null, .null, .int 0, .int 0, .int 0, .null, .int 0, .null, .null, .null, .null, .null, .null, .int 0, .int 0, .int 0, .null, .null, .int 0, .int 0, .int 0, .int 0, .null])), (q_1, .inl (cyI, 1000, .inl (fun _ => 0))), (q_2, .inl (cyI, 1002, .inl (fun _ => 0))), (q_3, .inl (cyI, 1002, .inl (fun _ => 0))), (q_4, .inl (cyJ, 1002, .inr (.inl (fun _ => 0)))), (q_5, .inl (cyJ, 23, .inr (.inl (vp_updL (vp_updL (vp_updL (vp_updL (vp_updL (vp_updL (vp_updL (vp_updL (vp_updL (vp_updL (vp_updL (vp_updL (vp_updL (vp_updL (vp_updL (fun _ => 0) 0 122704) 1 16765) 2 36021578) 3 27951) 4 15047032) 5 716710) 6 1177493) 7 209658) 8 1604747592) 9 4003641) 10 172677872) 11 564588237) 12 33989651) 13 932857) 14 19741))))]) C 5 2 rfl rfl (by decide) (by decide) (by decide) dX11_init_143 rfl ?_
  refine j_dup (pc := 144) C dX11_init_144 rfl ?_
  refine j_bipush (pc := 145) (v := 15) C dX11_init_145 (by decide) ?_
  refine j_ldc2 (pc := 147) C wd_137 dX11_init_147 ?_
  refine j_last (pc := 150) (k := 15) (ws' := [(h0, .inr (11, [.int 0, .ref q_1, .int 0, .int 0, .ref q_2, .ref q_3, .ref q_4, .int 0, .int 0, .null, .null, .null, .null, .int 0, .null, .null, .int 0, .null, .null, .null, .null, .null, .int 0, .int 0, .int 0, .null, .int 0, .null, .null, .null, .null, .null, .null, .int 0, .int 0, .int 0, .null, .null, .int 0, .int 0, .int 0, .int 0, .null])), (q_1, .inl (cyI, 1000, .inl (fun _ => 0))), (q_2, .inl (cyI, 1002, .inl (fun _ => 0))), (q_3, .inl (cyI, 1002, .inl (fun _ => 0))), (q_4, .inl (cyJ, 1002, .inr (.inl (fun _ => 0)))), (q_5, .inl (cyJ, 23, .inr (.inl (vp_updL (vp_updL (vp_updL (vp_updL (vp_updL (vp_updL (vp_updL (vp_updL (vp_updL (vp_updL (vp_updL (vp_updL (vp_updL (vp_updL (vp_updL (vp_updL (fun _ => 0) 0 122704) 1 16765) 2 36021578) 3 27951) 4 15047032) 5 716710) 6 1177493) 7 209658) 8 1604747592) 9 4003641) 10 172677872) 11 564588237) 12 33989651) 13 932857) 14 19741) 15 1891))))]) C 5 2 rfl rfl (by decide) (by decide) (by decide) dX11_init_150 rfl ?_
  refine j_dup (pc := 151) C dX11_init_151 rfl ?_
  refine j_bipush (pc := 152) (v := 16) C dX11_init_152 (by decide) ?_
  refine j_ldc2 (pc := 154) C wd_138 dX11_init_154 ?_
  refine j_last (pc := 157) (k := 16) (ws' := [(h0, .inr (11, [.int 0, .ref q_1, .int 0, .int 0, .ref q_2, .ref q_3, .ref q_4, .int 0, .int 0, .null, .null, .null, .null, .int 0, .null, .null, .int 0, .null, .null, .null, .null, .null, .int 0, .int 0, .int 0, .null, .int 0, .null, .null, .null, .null, .null, .null, .int 0, .int 0, .int 0, .null, .null, .int 0, .int 0, .int 0, .int 0, .null])), (q_1, .inl (cyI, 1000, .inl (fun _ => 0))), (q_2, .inl (cyI, 1002, .inl (fun _ => 0))), (q_3, .inl (cyI, 1002, .inl (fun _ => 0))), (q_4, .inl (cyJ, 1002, .inr (.inl (fun _ => 0)))), (q_5, .inl (cyJ, 23, .inr (.inl (vp_updL (vp_updL (vp_updL (vp_updL (vp_updL (vp_updL (vp_updL (vp_updL (vp_updL (vp_updL (vp_updL (vp_updL (vp_updL (vp_updL (vp_updL (vp_updL (vp_updL (fun _ => 0) 0 122704) 1 16765) 2 36021578) 3 27951) 4 15047032) 5 716710) 6 1177493) 7 209658) 8 1604747592) 9 4003641) 10 172677872) 11 564588237) 12 33989651) 13 932857) 14 19741) 15 1891) 16 573))))]) C 5 2 rfl rfl (by decide) (by decide) (by decide) dX11_init_157 rfl ?_
  refine j_dup (pc := 158) C dX11_init_158 rfl ?_
  refine j_bipush (pc := 159) (v := 17) C dX11_init_159 (by decide) ?_
  refine j_ldc2 (pc := 161) C wd_139 dX11_init_161 ?_
  refine j_last (pc := 164) (k := 17) (ws' := [(h0, .inr (11, [.int 0, .ref q_1, .int 0, .int 0, .ref q_2, .ref q_3, .ref q_4, .int 0, .int 0, .null, .null, .null, .null, .int 0, .null, .null, .int 0, .null, .null, .null, .null, .null, .int 0, .int 0, .int 0, .null, .int 0, .null, .null, .null, .null, .null, .null, .int 0, .int 0, .int 0, .null, .null, .int 0, .int 0, .int 0, .int 0, .null])), (q_1, .inl (cyI, 1000, .inl (fun _ => 0))), (q_2, .inl (cyI, 1002, .inl (fun _ => 0))), (q_3, .inl (cyI, 1002, .inl (fun _ => 0))), (q_4, .inl (cyJ, 1002, .inr (.inl (fun _ => 0)))), (q_5, .inl (cyJ, 23, .inr (.inl (vp_updL (vp_updL (vp_updL (vp_updL (vp_updL (vp_updL (vp_updL (vp_updL (vp_updL (vp_updL (vp_updL (vp_updL (vp_updL (vp_updL (vp_updL (vp_updL (vp_updL (vp_updL (fun _ => 0) 0 122704) 1 16765) 2 36021578) 3 27951) 4 15047032) 5 716710) 6 1177493) 7 209658) 8 1604747592) 9 4003641) 10 172677872) 11 564588237) 12 33989651) 13 932857) 14 19741) 15 1891) 16 573) 17 17595960))))]) C 5 2 rfl rfl (by decide) (by decide) (by decide) dX11_init_164 rfl ?_
  refine j_dup (pc := 165) C dX11_init_165 rfl ?_
  refine j_bipush (pc := 166) (v := 18) C dX11_init_166 (by decide) ?_
  refine j_ldc2 (pc := 168) C wd_140 dX11_init_168 ?_
  refine j_last (pc := 171) (k := 18) (ws' := [(h0, .inr (11, [.int 0, .ref q_1, .int 0, .int 0, .ref q_2, .ref q_3, .ref q_4, .int 0, .int 0, .null, .null, .null, .null, .int 0, .null, .null, .int 0, .null, .null, .null, .null, .null, .int 0, .int 0, .int 0, .null, .int 0, .null, .null, .null, .null, .null, .null, .int 0, .int 0, .int 0, .null, .null, .int 0, .int 0, .int 0, .int 0, .null])), (q_1, .inl (cyI, 1000, .inl (fun _ => 0))), (q_2, .inl (cyI, 1002, .inl (fun _ => 0))), (q_3, .inl (cyI, 1002, .inl (fun _ => 0))), (q_4, .inl (cyJ, 1002, .inr (.inl (fun _ => 0)))), (q_5, .inl (cyJ, 23, .inr (.inl (vp_updL (vp_updL (vp_updL (vp_updL (vp_updL (vp_updL (vp_updL (vp_updL (vp_updL (vp_updL (vp_updL (vp_updL (vp_updL (vp_updL (vp_updL (vp_updL (vp_updL (vp_updL (vp_updL (fun _ => 0) 0 122704) 1 16765) 2 36021578) 3 27951) 4 15047032) 5 716710) 6 1177493) 7 209658) 8 1604747592) 9 4003641) 10 172677872) 11 564588237) 12 33989651) 13 932857) 14 19741) 15 1891) 16 573) 17 17595960) 18 29203711))))]) C 5 2 rfl rfl (by decide) (by decide) (by decide) dX11_init_171 rfl ?_
  refine j_dup (pc := 172) C dX11_init_172 rfl ?_
  refine j_bipush (pc := 173) (v := 19) C dX11_init_173 (by decide) ?_
  refine j_ldc2 (pc := 175) C wd_141 dX11_init_175 ?_
  refine j_last (pc := 178) (k := 19) (ws' := [(h0, .inr (11, [.int 0, .ref q_1, .int 0, .int 0, .ref q_2, .ref q_3, .ref q_4, .int 0, .int 0, .null, .null, .null, .null, .int 0, .null, .null, .int 0, .null, .null, .null, .null, .null, .int 0, .int 0, .int 0, .null, .int 0, .null, .null, .null, .null, .null, .null, .int 0, .int 0, .int 0, .null, .null, .int 0, .int 0, .int 0, .int 0, .null])), (q_1, .inl (cyI, 1000, .inl (fun _ => 0))), (q_2, .inl (cyI, 1002, .inl (fun _ => 0))), (q_3, .inl (cyI, 1002, .inl (fun _ => 0))), (q_4, .inl (cyJ, 1002, .inr (.inl (fun _ => 0)))), (q_5, .inl (cyJ, 23, .inr (.inl (vp_updL (vp_updL (vp_updL (vp_updL (vp_updL (vp_updL (vp_updL (vp_updL (vp_updL (vp_updL (vp_updL (vp_updL (vp_updL (vp_updL (vp_updL (vp_updL (vp_updL (vp_updL (vp_updL (vp_updL (fun _ => 0) 0 122704) 1 16765) 2 36021578) 3 27951) 4 15047032) 5 716710) 6 1177493) 7 209658) 8 1604747592) 9 4003641) 10 172677872) 11 564588237) 12 33989651) 13 932857) 14 19741) 15 1891) 16 573) 17 17595960) 18 29203711) 19 17006))))]) C 5 2 rfl rfl (by decide) (by decide) (by decide) dX11_init_178 rfl ?_
  refine j_dup (pc := 179) C dX11_init_179 rfl ?_
  refine j_bipush (pc := 180) (v := 20) C dX11_init_180 (by decide) ?_
  refine j_ldc2 (pc := 182) C wd_142 dX11_init_182 ?_
  refine j_last (pc := 185) (k := 20) (ws' := [(h0, .inr (11, [.int 0, .ref q_1, .int 0, .int 0, .ref q_2, .ref q_3, .ref q_4, .int 0, .int 0, .null, .null, .null, .null, .int 0, .null, .null, .int 0, .null, .null, .null, .null, .null, .int 0, .int 0, .int 0, .null, .int 0, .null, .null, .null, .null, .null, .null, .int 0, .int 0, .int 0, .null, .null, .int 0, .int 0, .int 0, .int 0, .null])), (q_1, .inl (cyI, 1000, .inl (fun _ => 0))), (q_2, .inl (cyI, 1002, .inl (fun _ => 0))), (q_3, .inl (cyI, 1002, .inl (fun _ => 0))), (q_4, .inl (cyJ, 1002, .inr (.inl (fun _ => 0)))), (q_5, .inl (cyJ, 23, .inr (.inl (vp_updL (vp_updL (vp_updL (vp_updL (vp_updL (vp_updL (vp_updL (vp_updL (vp_updL (vp_updL (vp_updL (vp_updL (vp_updL (vp_updL (vp_updL (vp_updL (vp_updL (vp_updL (vp_updL (vp_updL (vp_updL (fun _ => 0) 0 122704) 1 16765) 2 36021578) 3 27951) 4 15047032) 5 716710) 6 1177493) 7 209658) 8 1604747592) 9 4003641) 10 172677872) 11 564588237) 12 33989651) 13 932857) 14 19741) 15 1891) 16 573) 17 17595960) 18 29203711) 19 17006) 20 22955708))))]) C 5 2 rfl rfl (by decide) (by decide) (by decide) dX11_init_185 rfl ?_
  refine j_dup (pc := 186) C dX11_init_186 rfl ?_
  refine j_bipush (pc := 187) (v := 21) C dX11_init_187 (by decide) ?_
  refine j_ldc2 (pc := 189) C wd_143 dX11_init_189 ?_
  refine j_last (pc := 192) (k := 21) (ws' := [(h0, .inr (11, [.int 0, .ref q_1, .int 0, .int 0, .ref q_2, .ref q_3, .ref q_4, .int 0, .int 0, .null, .null, .null, .null, .int 0, .null, .null, .int 0, .null, .null, .null, .null, .null, .int 0, .int 0, .int 0, .null, .int 0, .null, .null, .null, .null, .null, .null, .int 0, .int 0, .int 0, .null, .null, .int 0, .int 0, .int 0, .int 0, .null])), (q_1, .inl (cyI, 1000, .inl (fun _ => 0))), (q_2, .inl (cyI, 1002, .inl (fun _ => 0))), (q_3, .inl (cyI, 1002, .inl (fun _ => 0))), (q_4, .inl (cyJ, 1002, .inr (.inl (fun _ => 0)))), (q_5, .inl (cyJ, 23, .inr (.inl (vp_updL (vp_updL (vp_updL (vp_updL (vp_updL (vp_updL (vp_updL (vp_updL (vp_updL (vp_updL (vp_updL (vp_updL (vp_updL (vp_updL (vp_updL (vp_updL (vp_updL (vp_updL (vp_updL (vp_updL (vp_updL (vp_updL (fun _ => 0) 0 122704) 1 16765) 2 36021578) 3 27951) 4 15047032) 5 716710) 6 1177493) 7 209658) 8 1604747592) 9 4003641) 10 172677872) 11 564588237) 12 33989651) 13 932857) 14 19741) 15 1891) 16 573) 17 17595960) 18 29203711) 19 17006) 20 22955708) 21 15248761))))]) C 5 2 rfl rfl (by decide) (by decide) (by decide) dX11_init_192 rfl ?_
  refine j_dup (pc := 193) C dX11_init_193 rfl ?_
  refine j_bipush (pc := 194) (v := 22) C dX11_init_194 (by decide) ?_
  refine j_ldc2 (pc := 196) C wd_144 dX11_init_196 ?_
  refine j_last (pc := 199) (k := 22) (ws' := [(h0, .inr (11, [.int 0, .ref q_1, .int 0, .int 0, .ref q_2, .ref q_3, .ref q_4, .int 0, .int 0, .null, .null, .null, .null, .int 0, .null, .null, .int 0, .null, .null, .null, .null, .null, .int 0, .int 0, .int 0, .null, .int 0, .null, .null, .null, .null, .null, .null, .int 0, .int 0, .int 0, .null, .null, .int 0, .int 0, .int 0, .int 0, .null])), (q_1, .inl (cyI, 1000, .inl (fun _ => 0))), (q_2, .inl (cyI, 1002, .inl (fun _ => 0))), (q_3, .inl (cyI, 1002, .inl (fun _ => 0))), (q_4, .inl (cyJ, 1002, .inr (.inl (fun _ => 0)))), (q_5, .inl (cyJ, 23, .inr (.inl (vp_updL (vp_updL (vp_updL (vp_updL (vp_updL (vp_updL (vp_updL (vp_updL (vp_updL (vp_updL (vp_updL (vp_updL (vp_updL (vp_updL (vp_updL (vp_updL (vp_updL (vp_updL (vp_updL (vp_updL (vp_updL (vp_updL (vp_updL (fun _ => 0) 0 122704) 1 16765) 2 36021578) 3 27951) 4 15047032) 5 716710) 6 1177493) 7 209658) 8 1604747592) 9 4003641) 10 172677872) 11 564588237) 12 33989651) 13 932857) 14 19741) 15 1891) 16 573) 17 17595960) 18 29203711) 19 17006) 20 22955708) 21 15248761) 22 40072202))))]) C 5 2 rfl rfl (by decide) (by decide) (by decide) dX11_init_199 rfl ?_
  refine j_putF (pc := 200) (ci := 11) (v := .ref q_5) (ws' := [(h0, .inr (11, [.int 0, .ref q_1, .int 0, .int 0, .ref q_2, .ref q_3, .ref q_4, .int 0, .int 0, .ref q_5, .null, .null, .null, .int 0, .null, .null, .int 0, .null, .null, .null, .null, .null, .int 0, .int 0, .int 0, .null, .int 0, .null, .null, .null, .null, .null, .null, .int 0, .int 0, .int 0, .null, .null, .int 0, .int 0, .int 0, .int 0, .null])), (q_1, .inl (cyI, 1000, .inl (fun _ => 0))), (q_2, .inl (cyI, 1002, .inl (fun _ => 0))), (q_3, .inl (cyI, 1002, .inl (fun _ => 0))), (q_4, .inl (cyJ, 1002, .inr (.inl (fun _ => 0)))), (q_5, .inl (cyJ, 23, .inr (.inl (vp_updL (vp_updL (vp_updL (vp_updL (vp_updL (vp_updL (vp_updL (vp_updL (vp_updL (vp_updL (vp_updL (vp_updL (vp_updL (vp_updL (vp_updL (vp_updL (vp_updL (vp_updL (vp_updL (vp_updL (vp_updL (vp_updL (vp_updL (fun _ => 0) 0 122704) 1 16765) 2 36021578) 3 27951) 4 15047032) 5 716710) 6 1177493) 7 209658) 8 1604747592) 9 4003641) 10 172677872) 11 564588237) 12 33989651) 13 932857) 14 19741) 15 1891) 16 573) 17 17595960) 18 29203711) 19 17006) 20 22955708) 21 15248761) 22 40072202))))]) C inw_11 0 rfl rfl 9 (by decide) wd_145 rfl tyX11_ok nmX11 rfl hin rfl (tyX11_ok 9 (by decide)) rfl rfl (Nat.le_of_ble_eq_true rfl) dX11_init_200 rfl ?_
  refine j_aload_n (pc := 203) C dX11_init_203 rfl 0 rfl ?_
  refine j_sipush (pc := 204) (v := 240) C dX11_init_204 (by decide) ?_
  refine j_newa (pc := 207) (at1 := .int) (ty := .int) (N := 240) (a0 := (240, .inl (fun _ => 0))) C wd_6 rfl 1 rfl (fun _ _ h => h) (fun _ => rfl) (by decide) (by decide) (by decide) (by decide) (by decide) dX11_init_207 (fun q_6 => ?_)
  refine j_widen (k := 6) (n := 4269) (by decide) (by decide) ?_
  refine j_putF (pc := 209) (ci := 11) (v := .ref q_6) (ws' := [(h0, .inr (11, [.int 0, .ref q_1, .int 0, .int 0, .ref q_2, .ref q_3, .ref q_4, .int 0, .int 0, .ref q_5, .ref q_6, .null, .null, .int 0, .null, .null, .int 0, .null, .null, .null, .null, .null, .int 0, .int 0, .int 0, .null, .int 0, .null, .null, .null, .null, .null, .null, .int 0, .int 0, .int 0, .null, .null, .int 0, .int 0, .int 0, .int 0, .null])), (q_1, .inl (cyI, 1000, .inl (fun _ => 0))), (q_2, .inl (cyI, 1002, .inl (fun _ => 0))), (q_3, .inl (cyI, 1002, .inl (fun _ => 0))), (q_4, .inl (cyJ, 1002, .inr (.inl (fun _ => 0)))), (q_5, .inl (cyJ, 23, .inr (.inl (vp_updL (vp_updL (vp_updL (vp_updL (vp_updL (vp_updL (vp_updL (vp_updL (vp_updL (vp_updL (vp_updL (vp_updL (vp_updL (vp_updL (vp_updL (vp_updL (vp_updL (vp_updL (vp_updL (vp_updL (vp_updL (vp_updL (vp_updL (fun _ => 0) 0 122704) 1 16765) 2 36021578) 3 27951) 4 15047032) 5 716710) 6 1177493) 7 209658) 8 1604747592) 9 4003641) 10 172677872) 11 564588237) 12 33989651) 13 932857) 14 19741) 15 1891) 16 573) 17 17595960) 18 29203711) 19 17006) 20 22955708) 21 15248761) 22 40072202)))), (q_6, .inl (cyI, 240, .inl (fun _ => 0)))]) C inw_11 0 rfl rfl 10 (by decide) wd_146 rfl tyX11_ok nmX11 rfl hin rfl (tyX11_ok 10 (by decide)) rfl rfl (Nat.le_of_ble_eq_true rfl) dX11_init_209 rfl ?_
  refine j_aload_n (pc := 212) C dX11_init_212 rfl 0 rfl ?_
  refine j_sipush (pc := 213) (v := 2200) C dX11_init_213 (by decide) ?_
  refine j_newa (pc := 216) (at1 := .int) (ty := .int) (N := 2200) (a0 := (2200, .inl (fun _ => 0))) C wd_6 rfl 1 rfl (fun _ _ h => h) (fun _ => rfl) (by decide) (by decide) (by decide) (by decide) (by decide) dX11_init_216 (fun q_7 => ?_)
  refine j_widen (k := 7) (n := 6469) (by decide) (by decide) ?_
  refine j_putF (pc := 218) (ci := 11) (v := .ref q_7) (ws' := [(h0, .inr (11, [.int 0, .ref q_1, .int 0, .int 0, .ref q_2, .ref q_3, .ref q_4, .int 0, .int 0, .ref q_5, .ref q_6, .ref q_7, .null, .int 0, .null, .null, .int 0, .null, .null, .null, .null, .null, .int 0, .int 0, .int 0, .null, .int 0, .null, .null, .null, .null, .null, .null, .int 0, .int 0, .int 0, .null, .null, .int 0, .int 0, .int 0, .int 0, .null])), (q_1, .inl (cyI, 1000, .inl (fun _ => 0))), (q_2, .inl (cyI, 1002, .inl (fun _ => 0))), (q_3, .inl (cyI, 1002, .inl (fun _ => 0))), (q_4, .inl (cyJ, 1002, .inr (.inl (fun _ => 0)))), (q_5, .inl (cyJ, 23, .inr (.inl (vp_updL (vp_updL (vp_updL (vp_updL (vp_updL (vp_updL (vp_updL (vp_updL (vp_updL (vp_updL (vp_updL (vp_updL (vp_updL (vp_updL (vp_updL (vp_updL (vp_updL (vp_updL (vp_updL (vp_updL (vp_updL (vp_updL (vp_updL (fun _ => 0) 0 122704) 1 16765) 2 36021578) 3 27951) 4 15047032) 5 716710) 6 1177493) 7 209658) 8 1604747592) 9 4003641) 10 172677872) 11 564588237) 12 33989651) 13 932857) 14 19741) 15 1891) 16 573) 17 17595960) 18 29203711) 19 17006) 20 22955708) 21 15248761) 22 40072202)))), (q_6, .inl (cyI, 240, .inl (fun _ => 0))), (q_7, .inl (cyI, 2200, .inl (fun _ => 0)))]) C inw_11 0 rfl rfl 11 (by decide) wd_147 rfl tyX11_ok nmX11 rfl hin rfl (tyX11_ok 11 (by decide)) rfl rfl (Nat.le_of_ble_eq_true rfl) dX11_init_218 rfl ?_
  refine j_aload_n (pc := 221) C dX11_init_221 rfl 0 rfl ?_
  refine j_sipush (pc := 222) (v := 2200) C dX11_init_222 (by decide) ?_
  refine j_newa (pc := 225) (at1 := .int) (ty := .int) (N := 2200) (a0 := (2200, .inl (fun _ => 0))) C wd_6 rfl 1 rfl (fun _ _ h => h) (fun _ => rfl) (by decide) (by decide) (by decide) (by decide) (by decide) dX11_init_225 (fun q_8 => ?_)
  refine j_widen (k := 8) (n := 8669) (by decide) (by decide) ?_
  refine j_putF (pc := 227) (ci := 11) (v := .ref q_8) (ws' := [(h0, .inr (11, [.int 0, .ref q_1, .int 0, .int 0, .ref q_2, .ref q_3, .ref q_4, .int 0, .int 0, .ref q_5, .ref q_6, .ref q_7, .ref q_8, .int 0, .null, .null, .int 0, .null, .null, .null, .null, .null, .int 0, .int 0, .int 0, .null, .int 0, .null, .null, .null, .null, .null, .null, .int 0, .int 0, .int 0, .null, .null, .int 0, .int 0, .int 0, .int 0, .null])), (q_1, .inl (cyI, 1000, .inl (fun _ => 0))), (q_2, .inl (cyI, 1002, .inl (fun _ => 0))), (q_3, .inl (cyI, 1002, .inl (fun _ => 0))), (q_4, .inl (cyJ, 1002, .inr (.inl (fun _ => 0)))), (q_5, .inl (cyJ, 23, .inr (.inl (vp_updL (vp_updL (vp_updL (vp_updL (vp_updL (vp_updL (vp_updL (vp_updL (vp_updL (vp_updL (vp_updL (vp_updL (vp_updL (vp_updL (vp_updL (vp_updL (vp_updL (vp_updL (vp_updL (vp_updL (vp_updL (vp_updL (vp_updL (fun _ => 0) 0 122704) 1 16765) 2 36021578) 3 27951) 4 15047032) 5 716710) 6 1177493) 7 209658) 8 1604747592) 9 4003641) 10 172677872) 11 564588237) 12 33989651) 13 932857) 14 19741) 15 1891) 16 573) 17 17595960) 18 29203711) 19 17006) 20 22955708) 21 15248761) 22 40072202)))), (q_6, .inl (cyI, 240, .inl (fun _ => 0))), (q_7, .inl (cyI, 2200, .inl (fun _ => 0))), (q_8, .inl (cyI, 2200, .inl (fun _ => 0)))]) C inw_11 0 rfl rfl 12 (by decide) wd_148 rfl tyX11_ok nmX11 rfl hin rfl (tyX11_ok 12 (by decide)) rfl rfl (Nat.le_of_ble_eq_true rfl) dX11_init_227 rfl ?_
  refine j_aload_n (pc := 230) C dX11_init_230 rfl 0 rfl ?_
  refine j_bipush (pc := 231) (v := 16) C dX11_init_231 (by decide) ?_
  refine j_newa (pc := 233) (at1 := .long) (ty := .long) (N := 16) (a0 := (16, .inr (.inl (fun _ => 0)))) C wd_34 rfl 2 rfl (fun _ _ h => h) (fun _ => rfl) (by decide) (by decide) (by decide) (by decide) (by decide) dX11_init_233 (fun q_9 => ?_)
  refine j_widen (k := 9) (n := 8685) (by decide) (by decide) ?_
  refine j_putF (pc := 235) (ci := 11) (v := .ref q_9) (ws' := [(h0, .inr (11, [.int 0, .ref q_1, .int 0, .int 0, .ref q_2, .ref q_3, .ref q_4, .int 0, .int 0, .ref q_5, .ref q_6, .ref q_7, .ref q_8, .int 0, .ref q_9, .null, .int 0, .null, .null, .null, .null, .null, .int 0, .int 0, .int 0, .null, .int 0, .null, .null, .null, .null, .null, .null, .int 0, .int 0, .int 0, .null, .null, .int 0, .int 0, .int 0, .int 0, .null])), (q_1, .inl (cyI, 1000, .inl (fun _ => 0))), (q_2, .inl (cyI, 1002, .inl (fun _ => 0))), (q_3, .inl (cyI, 1002, .inl (fun _ => 0))), (q_4, .inl (cyJ, 1002, .inr (.inl (fun _ => 0)))), (q_5, .inl (cyJ, 23, .inr (.inl (vp_updL (vp_updL (vp_updL (vp_updL (vp_updL (vp_updL (vp_updL (vp_updL (vp_updL (vp_updL (vp_updL (vp_updL (vp_updL (vp_updL (vp_updL (vp_updL (vp_updL (vp_updL (vp_updL (vp_updL (vp_updL (vp_updL (vp_updL (fun _ => 0) 0 122704) 1 16765) 2 36021578) 3 27951) 4 15047032) 5 716710) 6 1177493) 7 209658) 8 1604747592) 9 4003641) 10 172677872) 11 564588237) 12 33989651) 13 932857) 14 19741) 15 1891) 16 573) 17 17595960) 18 29203711) 19 17006) 20 22955708) 21 15248761) 22 40072202)))), (q_6, .inl (cyI, 240, .inl (fun _ => 0))), (q_7, .inl (cyI, 2200, .inl (fun _ => 0))), (q_8, .inl (cyI, 2200, .inl (fun _ => 0))), (q_9, .inl (cyJ, 16, .inr (.inl (fun _ => 0))))]) C inw_11 0 rfl rfl 14 (by decide) wd_149 rfl tyX11_ok nmX11 rfl hin rfl (tyX11_ok 14 (by decide)) rfl rfl (Nat.le_of_ble_eq_true rfl) dX11_init_235 rfl ?_
  refine j_aload_n (pc := 238) C dX11_init_238 rfl 0 rfl ?_
  refine j_bipush (pc := 239) (v := 12) C dX11_init_239 (by decide) ?_
  refine j_newa (pc := 241) (at1 := .boolean) (ty := .boolean) (N := 12) (a0 := (12, .inl (fun _ => 0))) C wd_150 rfl 3 rfl (fun _ _ h => h) (fun _ => rfl) (by decide) (by decide) (by decide) (by decide) (by decide) dX11_init_241 (fun q_10 => ?_)
  refine j_widen (k := 10) (n := 8697) (by decide) (by decide) ?_
  refine j_putF (pc := 243) (ci := 11) (v := .ref q_10) (ws' := [(h0, .inr (11, [.int 0, .ref q_1, .int 0, .int 0, .ref q_2, .ref q_3, .ref q_4, .int 0, .int 0, .ref q_5, .ref q_6, .ref q_7, .ref q_8, .int 0, .ref q_9, .ref q_10, .int 0, .null, .null, .null, .null, .null, .int 0, .int 0, .int 0, .null, .int 0, .null, .null, .null, .null, .null, .null, .int 0, .int 0, .int 0, .null, .null, .int 0, .int 0, .int 0, .int 0, .null])), (q_1, .inl (cyI, 1000, .inl (fun _ => 0))), (q_2, .inl (cyI, 1002, .inl (fun _ => 0))), (q_3, .inl (cyI, 1002, .inl (fun _ => 0))), (q_4, .inl (cyJ, 1002, .inr (.inl (fun _ => 0)))), (q_5, .inl (cyJ, 23, .inr (.inl (vp_updL (vp_updL (vp_updL (vp_updL (vp_updL (vp_updL (vp_updL (vp_updL (vp_updL (vp_updL (vp_updL (vp_updL (vp_updL (vp_updL (vp_updL (vp_updL (vp_updL (vp_updL (vp_updL (vp_updL (vp_updL (vp_updL (vp_updL (fun _ => 0) 0 122704) 1 16765) 2 36021578) 3 27951) 4 15047032) 5 716710) 6 1177493) 7 209658) 8 1604747592) 9 4003641) 10 172677872) 11 564588237) 12 33989651) 13 932857) 14 19741) 15 1891) 16 573) 17 17595960) 18 29203711) 19 17006) 20 22955708) 21 15248761) 22 40072202)))), (q_6, .inl (cyI, 240, .inl (fun _ => 0))), (q_7, .inl (cyI, 2200, .inl (fun _ => 0))), (q_8, .inl (cyI, 2200, .inl (fun _ => 0))), (q_9, .inl (cyJ, 16, .inr (.inl (fun _ => 0)))), (q_10, .inl (cyZ, 12, .inl (fun _ => 0)))]) C inw_11 0 rfl rfl 15 (by decide) wd_151 rfl tyX11_ok nmX11 rfl hin rfl (tyX11_ok 15 (by decide)) rfl rfl (Nat.le_of_ble_eq_true rfl) dX11_init_243 rfl ?_
  refine j_aload_n (pc := 246) C dX11_init_246 rfl 0 rfl ?_
  refine j_bipush (pc := 247) (v := 8) C dX11_init_247 (by decide) ?_
  refine j_newa (pc := 249) (at1 := .int) (ty := .int) (N := 8) (a0 := (8, .inl (fun _ => 0))) C wd_6 rfl 1 rfl (fun _ _ h => h) (fun _ => rfl) (by decide) (by decide) (by decide) (by decide) (by decide) dX11_init_249 (fun q_11 => ?_)
  refine j_widen (k := 11) (n := 8705) (by decide) (by decide) ?_
  refine j_dup (pc := 251) C dX11_init_251 rfl ?_
  refine j_iconst (pc := 252) (v := 0) C dX11_init_252 (by decide) ?_
  refine j_bipush (pc := 253) (v := 17) C dX11_init_253 (by decide) ?_
  refine j_iast (pc := 255) (k := 0) (ws' := [(h0, .inr (11, [.int 0, .ref q_1, .int 0, .int 0, .ref q_2, .ref q_3, .ref q_4, .int 0, .int 0, .ref q_5, .ref q_6, .ref q_7, .ref q_8, .int 0, .ref q_9, .ref q_10, .int 0, .null, .null, .null, .null, .null, .int 0, .int 0, .int 0, .null, .int 0, .null, .null, .null, .null, .null, .null, .int 0, .int 0, .int 0, .null, .null, .int 0, .int 0, .int 0, .int 0, .null])), (q_1, .inl (cyI, 1000, .inl (fun _ => 0))), (q_2, .inl (cyI, 1002, .inl (fun _ => 0))), (q_3, .inl (cyI, 1002, .inl (fun _ => 0))), (q_4, .inl (cyJ, 1002, .inr (.inl (fun _ => 0)))), (q_5, .inl (cyJ, 23, .inr (.inl (vp_updL (vp_updL (vp_updL (vp_updL (vp_updL (vp_updL (vp_updL (vp_updL (vp_updL (vp_updL (vp_updL (vp_updL (vp_updL (vp_updL (vp_updL (vp_updL (vp_updL (vp_updL (vp_updL (vp_updL (vp_updL (vp_updL (vp_updL (fun _ => 0) 0 122704) 1 16765) 2 36021578) 3 27951) 4 15047032) 5 716710) 6 1177493) 7 209658) 8 1604747592) 9 4003641) 10 172677872) 11 564588237) 12 33989651) 13 932857) 14 19741) 15 1891) 16 573) 17 17595960) 18 29203711) 19 17006) 20 22955708) 21 15248761) 22 40072202)))), (q_6, .inl (cyI, 240, .inl (fun _ => 0))), (q_7, .inl (cyI, 2200, .inl (fun _ => 0))), (q_8, .inl (cyI, 2200, .inl (fun _ => 0))), (q_9, .inl (cyJ, 16, .inr (.inl (fun _ => 0)))), (q_10, .inl (cyZ, 12, .inl (fun _ => 0))), (q_11, .inl (cyI, 8, .inl (upd (fun _ => 0) 0 17)))]) C 11 1 rfl rfl (by decide) (by decide) (by decide) dX11_init_255 rfl ?_
  refine j_dup (pc := 256) C dX11_init_256 rfl ?_
  refine j_iconst (pc := 257) (v := 1) C dX11_init_257 (by decide) ?_
  refine j_bipush (pc := 258) (v := 18) C dX11_init_258 (by decide) ?_
  refine j_iast (pc := 260) (k := 1) (ws' := [(h0, .inr (11, [.int 0, .ref q_1, .int 0, .int 0, .ref q_2, .ref q_3, .ref q_4, .int 0, .int 0, .ref q_5, .ref q_6, .ref q_7, .ref q_8, .int 0, .ref q_9, .ref q_10, .int 0, .null, .null, .null, .null, .null, .int 0, .int 0, .int 0, .null, .int 0, .null, .null, .null, .null, .null, .null, .int 0, .int 0, .int 0, .null, .null, .int 0, .int 0, .int 0, .int 0, .null])), (q_1, .inl (cyI, 1000, .inl (fun _ => 0))), (q_2, .inl (cyI, 1002, .inl (fun _ => 0))), (q_3, .inl (cyI, 1002, .inl (fun _ => 0))), (q_4, .inl (cyJ, 1002, .inr (.inl (fun _ => 0)))), (q_5, .inl (cyJ, 23, .inr (.inl (vp_updL (vp_updL (vp_updL (vp_updL (vp_updL (vp_updL (vp_updL (vp_updL (vp_updL (vp_updL (vp_updL (vp_updL (vp_updL (vp_updL (vp_updL (vp_updL (vp_updL (vp_updL (vp_updL (vp_updL (vp_updL (vp_updL (vp_updL (fun _ => 0) 0 122704) 1 16765) 2 36021578) 3 27951) 4 15047032) 5 716710) 6 1177493) 7 209658) 8 1604747592) 9 4003641) 10 172677872) 11 564588237) 12 33989651) 13 932857) 14 19741) 15 1891) 16 573) 17 17595960) 18 29203711) 19 17006) 20 22955708) 21 15248761) 22 40072202)))), (q_6, .inl (cyI, 240, .inl (fun _ => 0))), (q_7, .inl (cyI, 2200, .inl (fun _ => 0))), (q_8, .inl (cyI, 2200, .inl (fun _ => 0))), (q_9, .inl (cyJ, 16, .inr (.inl (fun _ => 0)))), (q_10, .inl (cyZ, 12, .inl (fun _ => 0))), (q_11, .inl (cyI, 8, .inl (upd (upd (fun _ => 0) 0 17) 1 18)))]) C 11 1 rfl rfl (by decide) (by decide) (by decide) dX11_init_260 rfl ?_
  refine j_dup (pc := 261) C dX11_init_261 rfl ?_
  refine j_iconst (pc := 262) (v := 2) C dX11_init_262 (by decide) ?_
  refine j_bipush (pc := 263) (v := 19) C dX11_init_263 (by decide) ?_
  refine j_iast (pc := 265) (k := 2) (ws' := [(h0, .inr (11, [.int 0, .ref q_1, .int 0, .int 0, .ref q_2, .ref q_3, .ref q_4, .int 0, .int 0, .ref q_5, .ref q_6, .ref q_7, .ref q_8, .int 0, .ref q_9, .ref q_10, .int 0, .null, .null, .null, .null, .null, .int 0, .int 0, .int 0, .null, .int 0, .null, .null, .null, .null, .null, .null, .int 0, .int 0, .int 0, .null, .null, .int 0, .int 0, .int 0, .int 0, .null])), (q_1, .inl (cyI, 1000, .inl (fun _ => 0))), (q_2, .inl (cyI, 1002, .inl (fun _ => 0))), (q_3, .inl (cyI, 1002, .inl (fun _ => 0))), (q_4, .inl (cyJ, 1002, .inr (.inl (fun _ => 0)))), (q_5, .inl (cyJ, 23, .inr (.inl (vp_updL (vp_updL (vp_updL (vp_updL (vp_updL (vp_updL (vp_updL (vp_updL (vp_updL (vp_updL (vp_updL (vp_updL (vp_updL (vp_updL (vp_updL (vp_updL (vp_updL (vp_updL (vp_updL (vp_updL (vp_updL (vp_updL (vp_updL (fun _ => 0) 0 122704) 1 16765) 2 36021578) 3 27951) 4 15047032) 5 716710) 6 1177493) 7 209658) 8 1604747592) 9 4003641) 10 172677872) 11 564588237) 12 33989651) 13 932857) 14 19741) 15 1891) 16 573) 17 17595960) 18 29203711) 19 17006) 20 22955708) 21 15248761) 22 40072202)))), (q_6, .inl (cyI, 240, .inl (fun _ => 0))), (q_7, .inl (cyI, 2200, .inl (fun _ => 0))), (q_8, .inl (cyI, 2200, .inl (fun _ => 0))), (q_9, .inl (cyJ, 16, .inr (.inl (fun _ => 0)))), (q_10, .inl (cyZ, 12, .inl (fun _ => 0))), (q_11, .inl (cyI, 8, .inl (upd (upd (upd (fun _ => 0) 0 17) 1 18) 2 19)))]) C 11 1 rfl rfl (by decide) (by decide) (by decide) dX11_init_265 rfl ?_
  refine j_dup (pc := 266) C dX11_init_266 rfl ?_
  refine j_iconst (pc := 267) (v := 3) C dX11_init_267 (by decide) ?_
  refine j_bipush (pc := 268) (v := 7) C dX11_init_268 (by decide) ?_
  refine j_iast (pc := 270) (k := 3) (ws' := [(h0, .inr (11, [.int 0, .ref q_1, .int 0, .int 0, .ref q_2, .ref q_3, .ref q_4, .int 0, .int 0, .ref q_5, .ref q_6, .ref q_7, .ref q_8, .int 0, .ref q_9, .ref q_10, .int 0, .null, .null, .null, .null, .null, .int 0, .int 0, .int 0, .null, .int 0, .null, .null, .null, .null, .null, .null, .int 0, .int 0, .int 0, .null, .null, .int 0, .int 0, .int 0, .int 0, .null])), (q_1, .inl (cyI, 1000, .inl (fun _ => 0))), (q_2, .inl (cyI, 1002, .inl (fun _ => 0))), (q_3, .inl (cyI, 1002, .inl (fun _ => 0))), (q_4, .inl (cyJ, 1002, .inr (.inl (fun _ => 0)))), (q_5, .inl (cyJ, 23, .inr (.inl (vp_updL (vp_updL (vp_updL (vp_updL (vp_updL (vp_updL (vp_updL (vp_updL (vp_updL (vp_updL (vp_updL (vp_updL (vp_updL (vp_updL (vp_updL (vp_updL (vp_updL (vp_updL (vp_updL (vp_updL (vp_updL (vp_updL (vp_updL (fun _ => 0) 0 122704) 1 16765) 2 36021578) 3 27951) 4 15047032) 5 716710) 6 1177493) 7 209658) 8 1604747592) 9 4003641) 10 172677872) 11 564588237) 12 33989651) 13 932857) 14 19741) 15 1891) 16 573) 17 17595960) 18 29203711) 19 17006) 20 22955708) 21 15248761) 22 40072202)))), (q_6, .inl (cyI, 240, .inl (fun _ => 0))), (q_7, .inl (cyI, 2200, .inl (fun _ => 0))), (q_8, .inl (cyI, 2200, .inl (fun _ => 0))), (q_9, .inl (cyJ, 16, .inr (.inl (fun _ => 0)))), (q_10, .inl (cyZ, 12, .inl (fun _ => 0))), (q_11, .inl (cyI, 8, .inl (upd (upd (upd (upd (fun _ => 0) 0 17) 1 18) 2 19) 3 7)))]) C 11 1 rfl rfl (by decide) (by decide) (by decide) dX11_init_270 rfl ?_
  refine j_dup (pc := 271) C dX11_init_271 rfl ?_
  refine j_iconst (pc := 272) (v := 4) C dX11_init_272 (by decide) ?_
  refine j_bipush (pc := 273) (v := 20) C dX11_init_273 (by decide) ?_
  refine j_iast (pc := 275) (k := 4) (ws' := [(h0, .inr (11, [.int 0, .ref q_1, .int 0, .int 0, .ref q_2, .ref q_3, .ref q_4, .int 0, .int 0, .ref q_5, .ref q_6, .ref q_7, .ref q_8, .int 0, .ref q_9, .ref q_10, .int 0, .null, .null, .null, .null, .null, .int 0, .int 0, .int 0, .null, .int 0, .null, .null, .null, .null, .null, .null, .int 0, .int 0, .int 0, .null, .null, .int 0, .int 0, .int 0, .int 0, .null])), (q_1, .inl (cyI, 1000, .inl (fun _ => 0))), (q_2, .inl (cyI, 1002, .inl (fun _ => 0))), (q_3, .inl (cyI, 1002, .inl (fun _ => 0))), (q_4, .inl (cyJ, 1002, .inr (.inl (fun _ => 0)))), (q_5, .inl (cyJ, 23, .inr (.inl (vp_updL (vp_updL (vp_updL (vp_updL (vp_updL (vp_updL (vp_updL (vp_updL (vp_updL (vp_updL (vp_updL (vp_updL (vp_updL (vp_updL (vp_updL (vp_updL (vp_updL (vp_updL (vp_updL (vp_updL (vp_updL (vp_updL (vp_updL (fun _ => 0) 0 122704) 1 16765) 2 36021578) 3 27951) 4 15047032) 5 716710) 6 1177493) 7 209658) 8 1604747592) 9 4003641) 10 172677872) 11 564588237) 12 33989651) 13 932857) 14 19741) 15 1891) 16 573) 17 17595960) 18 29203711) 19 17006) 20 22955708) 21 15248761) 22 40072202)))), (q_6, .inl (cyI, 240, .inl (fun _ => 0))), (q_7, .inl (cyI, 2200, .inl (fun _ => 0))), (q_8, .inl (cyI, 2200, .inl (fun _ => 0))), (q_9, .inl (cyJ, 16, .inr (.inl (fun _ => 0)))), (q_10, .inl (cyZ, 12, .inl (fun _ => 0))), (q_11, .inl (cyI, 8, .inl (upd (upd (upd (upd (upd (fun _ => 0) 0 17) 1 18) 2 19) 3 7) 4 20)))]) C 11 1 rfl rfl (by decide) (by decide) (by decide) dX11_init_275 rfl ?_
  refine j_dup (pc := 276) C dX11_init_276 rfl ?_
  refine j_iconst (pc := 277) (v := 5) C dX11_init_277 (by decide) ?_
  refine j_bipush (pc := 278) (v := 21) C dX11_init_278 (by decide) ?_
  refine j_iast (pc := 280) (k := 5) (ws' := [(h0, .inr (11, [.int 0, .ref q_1, .int 0, .int 0, .ref q_2, .ref q_3, .ref q_4, .int 0, .int 0, .ref q_5, .ref q_6, .ref q_7, .ref q_8, .int 0, .ref q_9, .ref q_10, .int 0, .null, .null, .null, .null, .null, .int 0, .int 0, .int 0, .null, .int 0, .null, .null, .null, .null, .null, .null, .int 0, .int 0, .int 0, .null, .null, .int 0, .int 0, .int 0, .int 0, .null])), (q_1, .inl (cyI, 1000, .inl (fun _ => 0))), (q_2, .inl (cyI, 1002, .inl (fun _ => 0))), (q_3, .inl (cyI, 1002, .inl (fun _ => 0))), (q_4, .inl (cyJ, 1002, .inr (.inl (fun _ => 0)))), (q_5, .inl (cyJ, 23, .inr (.inl (vp_updL (vp_updL (vp_updL (vp_updL (vp_updL (vp_updL (vp_updL (vp_updL (vp_updL (vp_updL (vp_updL (vp_updL (vp_updL (vp_updL (vp_updL (vp_updL (vp_updL (vp_updL (vp_updL (vp_updL (vp_updL (vp_updL (vp_updL (fun _ => 0) 0 122704) 1 16765) 2 36021578) 3 27951) 4 15047032) 5 716710) 6 1177493) 7 209658) 8 1604747592) 9 4003641) 10 172677872) 11 564588237) 12 33989651) 13 932857) 14 19741) 15 1891) 16 573) 17 17595960) 18 29203711) 19 17006) 20 22955708) 21 15248761) 22 40072202)))), (q_6, .inl (cyI, 240, .inl (fun _ => 0))), (q_7, .inl (cyI, 2200, .inl (fun _ => 0))), (q_8, .inl (cyI, 2200, .inl (fun _ => 0))), (q_9, .inl (cyJ, 16, .inr (.inl (fun _ => 0)))), (q_10, .inl (cyZ, 12, .inl (fun _ => 0))), (q_11, .inl (cyI, 8, .inl (upd (upd (upd (upd (upd (upd (fun _ => 0) 0 17) 1 18) 2 19) 3 7) 4 20) 5 21)))]) C 11 1 rfl rfl (by decide) (by decide) (by decide) dX11_init_280 rfl ?_
  refine j_dup (pc := 281) C dX11_init_281 rfl ?_
  refine j_bipush (pc := 282) (v := 6) C dX11_init_282 (by decide) ?_
  refine j_iconst (pc := 284) (v := 1) C dX11_init_284 (by decide) ?_
  refine j_iast (pc := 285) (k := 6) (ws' := [(h0, .inr (11, [.int 0, .ref q_1, .int 0, .int 0, .ref q_2, .ref q_3, .ref q_4, .int 0, .int 0, .ref q_5, .ref q_6, .ref q_7, .ref q_8, .int 0, .ref q_9, .ref q_10, .int 0, .null, .null, .null, .null, .null, .int 0, .int 0, .int 0, .null, .int 0, .null, .null, .null, .null, .null, .null, .int 0, .int 0, .int 0, .null, .null, .int 0, .int 0, .int 0, .int 0, .null])), (q_1, .inl (cyI, 1000, .inl (fun _ => 0))), (q_2, .inl (cyI, 1002, .inl (fun _ => 0))), (q_3, .inl (cyI, 1002, .inl (fun _ => 0))), (q_4, .inl (cyJ, 1002, .inr (.inl (fun _ => 0)))), (q_5, .inl (cyJ, 23, .inr (.inl (vp_updL (vp_updL (vp_updL (vp_updL (vp_updL (vp_updL (vp_updL (vp_updL (vp_updL (vp_updL (vp_updL (vp_updL (vp_updL (vp_updL (vp_updL (vp_updL (vp_updL (vp_updL (vp_updL (vp_updL (vp_updL (vp_updL (vp_updL (fun _ => 0) 0 122704) 1 16765) 2 36021578) 3 27951) 4 15047032) 5 716710) 6 1177493) 7 209658) 8 1604747592) 9 4003641) 10 172677872) 11 564588237) 12 33989651) 13 932857) 14 19741) 15 1891) 16 573) 17 17595960) 18 29203711) 19 17006) 20 22955708) 21 15248761) 22 40072202)))), (q_6, .inl (cyI, 240, .inl (fun _ => 0))), (q_7, .inl (cyI, 2200, .inl (fun _ => 0))), (q_8, .inl (cyI, 2200, .inl (fun _ => 0))), (q_9, .inl (cyJ, 16, .inr (.inl (fun _ => 0)))), (q_10, .inl (cyZ, 12, .inl (fun _ => 0))), (q_11, .inl (cyI, 8, .inl (upd (upd (upd (upd (upd (upd (upd (fun _ => 0) 0 17) 1 18) 2 19) 3 7) 4 20) 5 21) 6 1)))]) C 11 1 rfl rfl (by decide) (by decide) (by decide) dX11_init_285 rfl ?_
  refine j_dup (pc := 286) C dX11_init_286 rfl ?_
  refine j_bipush (pc := 287) (v := 7) C dX11_init_287 (by decide) ?_
  refine j_bipush (pc := 289) (v := 22) C dX11_init_289 (by decide) ?_
  refine j_iast (pc := 291) (k := 7) (ws' := [(h0, .inr (11, [.int 0, .ref q_1, .int 0, .int 0, .ref q_2, .ref q_3, .ref q_4, .int 0, .int 0, .ref q_5, .ref q_6, .ref q_7, .ref q_8, .int 0, .ref q_9, .ref q_10, .int 0, .null, .null, .null, .null, .null, .int 0, .int 0, .int 0, .null, .int 0, .null, .null, .null, .null, .null, .null, .int 0, .int 0, .int 0, .null, .null, .int 0, .int 0, .int 0, .int 0, .null])), (q_1, .inl (cyI, 1000, .inl (fun _ => 0))), (q_2, .inl (cyI, 1002, .inl (fun _ => 0))), (q_3, .inl (cyI, 1002, .inl (fun _ => 0))), (q_4, .inl (cyJ, 1002, .inr (.inl (fun _ => 0)))), (q_5, .inl (cyJ, 23, .inr (.inl (vp_updL (vp_updL (vp_updL (vp_updL (vp_updL (vp_updL (vp_updL (vp_updL (vp_updL (vp_updL (vp_updL (vp_updL (vp_updL (vp_updL (vp_updL (vp_updL (vp_updL (vp_updL (vp_updL (vp_updL (vp_updL (vp_updL (vp_updL (fun _ => 0) 0 122704) 1 16765) 2 36021578) 3 27951) 4 15047032) 5 716710) 6 1177493) 7 209658) 8 1604747592) 9 4003641) 10 172677872) 11 564588237) 12 33989651) 13 932857) 14 19741) 15 1891) 16 573) 17 17595960) 18 29203711) 19 17006) 20 22955708) 21 15248761) 22 40072202)))), (q_6, .inl (cyI, 240, .inl (fun _ => 0))), (q_7, .inl (cyI, 2200, .inl (fun _ => 0))), (q_8, .inl (cyI, 2200, .inl (fun _ => 0))), (q_9, .inl (cyJ, 16, .inr (.inl (fun _ => 0)))), (q_10, .inl (cyZ, 12, .inl (fun _ => 0))), (q_11, .inl (cyI, 8, .inl (upd (upd (upd (upd (upd (upd (upd (upd (fun _ => 0) 0 17) 1 18) 2 19) 3 7) 4 20) 5 21) 6 1) 7 22)))]) C 11 1 rfl rfl (by decide) (by decide) (by decide) dX11_init_291 rfl ?_
  refine j_putF (pc := 292) (ci := 11) (v := .ref q_11) (ws' := [(h0, .inr (11, [.int 0, .ref q_1, .int 0, .int 0, .ref q_2, .ref q_3, .ref q_4, .int 0, .int 0, .ref q_5, .ref q_6, .ref q_7, .ref q_8, .int 0, .ref q_9, .ref q_10, .int 0, .ref q_11, .null, .null, .null, .null, .int 0, .int 0, .int 0, .null, .int 0, .null, .null, .null, .null, .null, .null, .int 0, .int 0, .int 0, .null, .null, .int 0, .int 0, .int 0, .int 0, .null])), (q_1, .inl (cyI, 1000, .inl (fun _ => 0))), (q_2, .inl (cyI, 1002, .inl (fun _ => 0))), (q_3, .inl (cyI, 1002, .inl (fun _ => 0))), (q_4, .inl (cyJ, 1002, .inr (.inl (fun _ => 0)))), (q_5, .inl (cyJ, 23, .inr (.inl (vp_updL (vp_updL (vp_updL (vp_updL (vp_updL (vp_updL (vp_updL (vp_updL (vp_updL (vp_updL (vp_updL (vp_updL (vp_updL (vp_updL (vp_updL (vp_updL (vp_updL (vp_updL (vp_updL (vp_updL (vp_updL (vp_updL (vp_updL (fun _ => 0) 0 122704) 1 16765) 2 36021578) 3 27951) 4 15047032) 5 716710) 6 1177493) 7 209658) 8 1604747592) 9 4003641) 10 172677872) 11 564588237) 12 33989651) 13 932857) 14 19741) 15 1891) 16 573) 17 17595960) 18 29203711) 19 17006) 20 22955708) 21 15248761) 22 40072202)))), (q_6, .inl (cyI, 240, .inl (fun _ => 0))), (q_7, .inl (cyI, 2200, .inl (fun _ => 0))), (q_8, .inl (cyI, 2200, .inl (fun _ => 0))), (q_9, .inl (cyJ, 16, .inr (.inl (fun _ => 0)))), (q_10, .inl (cyZ, 12, .inl (fun _ => 0))), (q_11, .inl (cyI, 8, .inl (upd (upd (upd (upd (upd (upd (upd (upd (fun _ => 0) 0 17) 1 18) 2 19) 3 7) 4 20) 5 21) 6 1) 7 22)))]) C inw_11 0 rfl rfl 17 (by decide) wd_152 rfl tyX11_ok nmX11 rfl hin rfl (tyX11_ok 17 (by decide)) rfl rfl (Nat.le_of_ble_eq_true rfl) dX11_init_292 rfl ?_
  refine j_aload_n (pc := 295) C dX11_init_295 rfl 0 rfl ?_
  refine j_bipush (pc := 296) (v := 8) C dX11_init_296 (by decide) ?_
  refine j_newa (pc := 298) (at1 := .int) (ty := .int) (N := 8) (a0 := (8, .inl (fun _ => 0))) C wd_6 rfl 1 rfl (fun _ _ h => h) (fun _ => rfl) (by decide) (by decide) (by decide) (by decide) (by decide) dX11_init_298 (fun q_12 => ?_)
  refine j_widen (k := 12) (n := 8713) (by decide) (by decide) ?_
  refine j_putF (pc := 300) (ci := 11) (v := .ref q_12) (ws' := [(h0, .inr (11, [.int 0, .ref q_1, .int 0, .int 0, .ref q_2, .ref q_3, .ref q_4, .int 0, .int 0, .ref q_5, .ref q_6, .ref q_7, .ref q_8, .int 0, .ref q_9, .ref q_10, .int 0, .ref q_11, .ref q_12, .null, .null, .null, .int 0, .int 0, .int 0, .null, .int 0, .null, .null, .null, .null, .null, .null, .int 0, .int 0, .int 0, .null, .null, .int 0, .int 0, .int 0, .int 0, .null])), (q_1, .inl (cyI, 1000, .inl (fun _ => 0))), (q_2, .inl (cyI, 1002, .inl (fun _ => 0))), (q_3, .inl (cyI, 1002, .inl (fun _ => 0))), (q_4, .inl (cyJ, 1002, .inr (.inl (fun _ => 0)))), (q_5, .inl (cyJ, 23, .inr (.inl (vp_updL (vp_updL (vp_updL (vp_updL (vp_updL (vp_updL (vp_updL (vp_updL (vp_updL (vp_updL (vp_updL (vp_updL (vp_updL (vp_updL (vp_updL (vp_updL (vp_updL (vp_updL (vp_updL (vp_updL (vp_updL (vp_updL (vp_updL (fun _ => 0) 0 122704) 1 16765) 2 36021578) 3 27951) 4 15047032) 5 716710) 6 1177493) 7 209658) 8 1604747592) 9 4003641) 10 172677872) 11 564588237) 12 33989651) 13 932857) 14 19741) 15 1891) 16 573) 17 17595960) 18 29203711) 19 17006) 20 22955708) 21 15248761) 22 40072202)))), (q_6, .inl (cyI, 240, .inl (fun _ => 0))), (q_7, .inl (cyI, 2200, .inl (fun _ => 0))), (q_8, .inl (cyI, 2200, .inl (fun _ => 0))), (q_9, .inl (cyJ, 16, .inr (.inl (fun _ => 0)))), (q_10, .inl (cyZ, 12, .inl (fun _ => 0))), (q_11, .inl (cyI, 8, .inl (upd (upd (upd (upd (upd (upd (upd (upd (fun _ => 0) 0 17) 1 18) 2 19) 3 7) 4 20) 5 21) 6 1) 7 22))), (q_12, .inl (cyI, 8, .inl (fun _ => 0)))]) C inw_11 0 rfl rfl 18 (by decide) wd_153 rfl tyX11_ok nmX11 rfl hin rfl (tyX11_ok 18 (by decide)) rfl rfl (Nat.le_of_ble_eq_true rfl) dX11_init_300 rfl ?_
  refine j_aload_n (pc := 303) C dX11_init_303 rfl 0 rfl ?_
  refine j_sipush (pc := 304) (v := 1100) C dX11_init_304 (by decide) ?_
  refine j_newa (pc := 307) (at1 := .int) (ty := .int) (N := 1100) (a0 := (1100, .inl (fun _ => 0))) C wd_6 rfl 1 rfl (fun _ _ h => h) (fun _ => rfl) (by decide) (by decide) (by decide) (by decide) (by decide) dX11_init_307 (fun q_13 => ?_)
  refine j_widen (k := 13) (n := 9813) (by decide) (by decide) ?_
  refine j_putF (pc := 309) (ci := 11) (v := .ref q_13) (ws' := [(h0, .inr (11, [.int 0, .ref q_1, .int 0, .int 0, .ref q_2, .ref q_3, .ref q_4, .int 0, .int 0, .ref q_5, .ref q_6, .ref q_7, .ref q_8, .int 0, .ref q_9, .ref q_10, .int 0, .ref q_11, .ref q_12, .ref q_13, .null, .null, .int 0, .int 0, .int 0, .null, .int 0, .null, .null, .null, .null, .null, .null, .int 0, .int 0, .int 0, .null, .null, .int 0, .int 0, .int 0, .int 0, .null])), (q_1, .inl (cyI, 1000, .inl (fun _ => 0))), (q_2, .inl (cyI, 1002, .inl (fun _ => 0))), (q_3, .inl (cyI, 1002, .inl (fun _ => 0))), (q_4, .inl (cyJ, 1002, .inr (.inl (fun _ => 0)))), (q_5, .inl (cyJ, 23, .inr (.inl (vp_updL (vp_updL (vp_updL (vp_updL (vp_updL (vp_updL (vp_updL (vp_updL (vp_updL (vp_updL (vp_updL (vp_updL (vp_updL (vp_updL (vp_updL (vp_updL (vp_updL (vp_updL (vp_updL (vp_updL (vp_updL (vp_updL (vp_updL (fun _ => 0) 0 122704) 1 16765) 2 36021578) 3 27951) 4 15047032) 5 716710) 6 1177493) 7 209658) 8 1604747592) 9 4003641) 10 172677872) 11 564588237) 12 33989651) 13 932857) 14 19741) 15 1891) 16 573) 17 17595960) 18 29203711) 19 17006) 20 22955708) 21 15248761) 22 40072202)))), (q_6, .inl (cyI, 240, .inl (fun _ => 0))), (q_7, .inl (cyI, 2200, .inl (fun _ => 0))), (q_8, .inl (cyI, 2200, .inl (fun _ => 0))), (q_9, .inl (cyJ, 16, .inr (.inl (fun _ => 0)))), (q_10, .inl (cyZ, 12, .inl (fun _ => 0))), (q_11, .inl (cyI, 8, .inl (upd (upd (upd (upd (upd (upd (upd (upd (fun _ => 0) 0 17) 1 18) 2 19) 3 7) 4 20) 5 21) 6 1) 7 22))), (q_12, .inl (cyI, 8, .inl (fun _ => 0))), (q_13, .inl (cyI, 1100, .inl (fun _ => 0)))]) C inw_11 0 rfl rfl 19 (by decide) wd_154 rfl tyX11_ok nmX11 rfl hin rfl (tyX11_ok 19 (by decide)) rfl rfl (Nat.le_of_ble_eq_true rfl) dX11_init_309 rfl ?_
  refine j_aload_n (pc := 312) C dX11_init_312 rfl 0 rfl ?_
  refine j_sipush (pc := 313) (v := 2760) C dX11_init_313 (by decide) ?_
  refine j_newa (pc := 316) (at1 := .int) (ty := .int) (N := 2760) (a0 := (2760, .inl (fun _ => 0))) C wd_6 rfl 1 rfl (fun _ _ h => h) (fun _ => rfl) (by decide) (by decide) (by decide) (by decide) (by decide) dX11_init_316 (fun q_14 => ?_)
  refine j_widen (k := 14) (n := 12573) (by decide) (by decide) ?_
  refine j_putF (pc := 318) (ci := 11) (v := .ref q_14) (ws' := [(h0, .inr (11, [.int 0, .ref q_1, .int 0, .int 0, .ref q_2, .ref q_3, .ref q_4, .int 0, .int 0, .ref q_5, .ref q_6, .ref q_7, .ref q_8, .int 0, .ref q_9, .ref q_10, .int 0, .ref q_11, .ref q_12, .ref q_13, .ref q_14, .null, .int 0, .int 0, .int 0, .null, .int 0, .null, .null, .null, .null, .null, .null, .int 0, .int 0, .int 0, .null, .null, .int 0, .int 0, .int 0, .int 0, .null])), (q_1, .inl (cyI, 1000, .inl (fun _ => 0))), (q_2, .inl (cyI, 1002, .inl (fun _ => 0))), (q_3, .inl (cyI, 1002, .inl (fun _ => 0))), (q_4, .inl (cyJ, 1002, .inr (.inl (fun _ => 0)))), (q_5, .inl (cyJ, 23, .inr (.inl (vp_updL (vp_updL (vp_updL (vp_updL (vp_updL (vp_updL (vp_updL (vp_updL (vp_updL (vp_updL (vp_updL (vp_updL (vp_updL (vp_updL (vp_updL (vp_updL (vp_updL (vp_updL (vp_updL (vp_updL (vp_updL (vp_updL (vp_updL (fun _ => 0) 0 122704) 1 16765) 2 36021578) 3 27951) 4 15047032) 5 716710) 6 1177493) 7 209658) 8 1604747592) 9 4003641) 10 172677872) 11 564588237) 12 33989651) 13 932857) 14 19741) 15 1891) 16 573) 17 17595960) 18 29203711) 19 17006) 20 22955708) 21 15248761) 22 40072202)))), (q_6, .inl (cyI, 240, .inl (fun _ => 0))), (q_7, .inl (cyI, 2200, .inl (fun _ => 0))), (q_8, .inl (cyI, 2200, .inl (fun _ => 0))), (q_9, .inl (cyJ, 16, .inr (.inl (fun _ => 0)))), (q_10, .inl (cyZ, 12, .inl (fun _ => 0))), (q_11, .inl (cyI, 8, .inl (upd (upd (upd (upd (upd (upd (upd (upd (fun _ => 0) 0 17) 1 18) 2 19) 3 7) 4 20) 5 21) 6 1) 7 22))), (q_12, .inl (cyI, 8, .inl (fun _ => 0))), (q_13, .inl (cyI, 1100, .inl (fun _ => 0))), (q_14, .inl (cyI, 2760, .inl (fun _ => 0)))]) C inw_11 0 rfl rfl 20 (by decide) wd_155 rfl tyX11_ok nmX11 rfl hin rfl (tyX11_ok 20 (by decide)) rfl rfl (Nat.le_of_ble_eq_true rfl) dX11_init_318 rfl ?_
  refine j_aload_n (pc := 321) C dX11_init_321 rfl 0 rfl ?_
  refine j_iconst (pc := 322) (v := 4) C dX11_init_322 (by decide) ?_
  refine j_newa (pc := 323) (at1 := .boolean) (ty := .boolean) (N := 4) (a0 := (4, .inl (fun _ => 0))) C wd_150 rfl 3 rfl (fun _ _ h => h) (fun _ => rfl) (by decide) (by decide) (by decide) (by decide) (by decide) dX11_init_323 (fun q_15 => ?_)
  refine j_widen (k := 15) (n := 12577) (by decide) (by decide) ?_
  refine j_putF (pc := 325) (ci := 11) (v := .ref q_15) (ws' := [(h0, .inr (11, [.int 0, .ref q_1, .int 0, .int 0, .ref q_2, .ref q_3, .ref q_4, .int 0, .int 0, .ref q_5, .ref q_6, .ref q_7, .ref q_8, .int 0, .ref q_9, .ref q_10, .int 0, .ref q_11, .ref q_12, .ref q_13, .ref q_14, .ref q_15, .int 0, .int 0, .int 0, .null, .int 0, .null, .null, .null, .null, .null, .null, .int 0, .int 0, .int 0, .null, .null, .int 0, .int 0, .int 0, .int 0, .null])), (q_1, .inl (cyI, 1000, .inl (fun _ => 0))), (q_2, .inl (cyI, 1002, .inl (fun _ => 0))), (q_3, .inl (cyI, 1002, .inl (fun _ => 0))), (q_4, .inl (cyJ, 1002, .inr (.inl (fun _ => 0)))), (q_5, .inl (cyJ, 23, .inr (.inl (vp_updL (vp_updL (vp_updL (vp_updL (vp_updL (vp_updL (vp_updL (vp_updL (vp_updL (vp_updL (vp_updL (vp_updL (vp_updL (vp_updL (vp_updL (vp_updL (vp_updL (vp_updL (vp_updL (vp_updL (vp_updL (vp_updL (vp_updL (fun _ => 0) 0 122704) 1 16765) 2 36021578) 3 27951) 4 15047032) 5 716710) 6 1177493) 7 209658) 8 1604747592) 9 4003641) 10 172677872) 11 564588237) 12 33989651) 13 932857) 14 19741) 15 1891) 16 573) 17 17595960) 18 29203711) 19 17006) 20 22955708) 21 15248761) 22 40072202)))), (q_6, .inl (cyI, 240, .inl (fun _ => 0))), (q_7, .inl (cyI, 2200, .inl (fun _ => 0))), (q_8, .inl (cyI, 2200, .inl (fun _ => 0))), (q_9, .inl (cyJ, 16, .inr (.inl (fun _ => 0)))), (q_10, .inl (cyZ, 12, .inl (fun _ => 0))), (q_11, .inl (cyI, 8, .inl (upd (upd (upd (upd (upd (upd (upd (upd (fun _ => 0) 0 17) 1 18) 2 19) 3 7) 4 20) 5 21) 6 1) 7 22))), (q_12, .inl (cyI, 8, .inl (fun _ => 0))), (q_13, .inl (cyI, 1100, .inl (fun _ => 0))), (q_14, .inl (cyI, 2760, .inl (fun _ => 0))), (q_15, .inl (cyZ, 4, .inl (fun _ => 0)))]) C inw_11 0 rfl rfl 21 (by decide) wd_156 rfl tyX11_ok nmX11 rfl hin rfl (tyX11_ok 21 (by decide)) rfl rfl (Nat.le_of_ble_eq_true rfl) dX11_init_325 rfl ?_
  refine j_aload_n (pc := 328) C dX11_init_328 rfl 0 rfl ?_
  refine j_bipush (pc := 329) (v := 12) C dX11_init_329 (by decide) ?_
  refine j_newa (pc := 331) (at1 := .int) (ty := .int) (N := 12) (a0 := (12, .inl (fun _ => 0))) C wd_6 rfl 1 rfl (fun _ _ h => h) (fun _ => rfl) (by decide) (by decide) (by decide) (by decide) (by decide) dX11_init_331 (fun q_16 => ?_)
  refine j_widen (k := 16) (n := 12589) (by decide) (by decide) ?_
  refine j_putF (pc := 333) (ci := 11) (v := .ref q_16) (ws' := [(h0, .inr (11, [.int 0, .ref q_1, .int 0, .int 0, .ref q_2, .ref q_3, .ref q_4, .int 0, .int 0, .ref q_5, .ref q_6, .ref q_7, .ref q_8, .int 0, .ref q_9, .ref q_10, .int 0, .ref q_11, .ref q_12, .ref q_13, .ref q_14, .ref q_15, .int 0, .int 0, .int 0, .ref q_16, .int 0, .null, .null, .null, .null, .null, .null, .int 0, .int 0, .int 0, .null, .null, .int 0, .int 0, .int 0, .int 0, .null])), (q_1, .inl (cyI, 1000, .inl (fun _ => 0))), (q_2, .inl (cyI, 1002, .inl (fun _ => 0))), (q_3, .inl (cyI, 1002, .inl (fun _ => 0))), (q_4, .inl (cyJ, 1002, .inr (.inl (fun _ => 0)))), (q_5, .inl (cyJ, 23, .inr (.inl (vp_updL (vp_updL (vp_updL (vp_updL (vp_updL (vp_updL (vp_updL (vp_updL (vp_updL (vp_updL (vp_updL (vp_updL (vp_updL (vp_updL (vp_updL (vp_updL (vp_updL (vp_updL (vp_updL (vp_updL (vp_updL (vp_updL (vp_updL (fun _ => 0) 0 122704) 1 16765) 2 36021578) 3 27951) 4 15047032) 5 716710) 6 1177493) 7 209658) 8 1604747592) 9 4003641) 10 172677872) 11 564588237) 12 33989651) 13 932857) 14 19741) 15 1891) 16 573) 17 17595960) 18 29203711) 19 17006) 20 22955708) 21 15248761) 22 40072202)))), (q_6, .inl (cyI, 240, .inl (fun _ => 0))), (q_7, .inl (cyI, 2200, .inl (fun _ => 0))), (q_8, .inl (cyI, 2200, .inl (fun _ => 0))), (q_9, .inl (cyJ, 16, .inr (.inl (fun _ => 0)))), (q_10, .inl (cyZ, 12, .inl (fun _ => 0))), (q_11, .inl (cyI, 8, .inl (upd (upd (upd (upd (upd (upd (upd (upd (fun _ => 0) 0 17) 1 18) 2 19) 3 7) 4 20) 5 21) 6 1) 7 22))), (q_12, .inl (cyI, 8, .inl (fun _ => 0))), (q_13, .inl (cyI, 1100, .inl (fun _ => 0))), (q_14, .inl (cyI, 2760, .inl (fun _ => 0))), (q_15, .inl (cyZ, 4, .inl (fun _ => 0))), (q_16, .inl (cyI, 12, .inl (fun _ => 0)))]) C inw_11 0 rfl rfl 25 (by decide) wd_157 rfl tyX11_ok nmX11 rfl hin rfl (tyX11_ok 25 (by decide)) rfl rfl (Nat.le_of_ble_eq_true rfl) dX11_init_333 rfl ?_
  refine j_aload_n (pc := 336) C dX11_init_336 rfl 0 rfl ?_
  refine j_sipush (pc := 337) (v := 144) C dX11_init_337 (by decide) ?_
  refine j_newa (pc := 340) (at1 := .boolean) (ty := .boolean) (N := 144) (a0 := (144, .inl (fun _ => 0))) C wd_150 rfl 3 rfl (fun _ _ h => h) (fun _ => rfl) (by decide) (by decide) (by decide) (by decide) (by decide) dX11_init_340 (fun q_17 => ?_)
  refine j_widen (k := 17) (n := 12733) (by decide) (by decide) ?_
  refine j_putF (pc := 342) (ci := 11) (v := .ref q_17) (ws' := [(h0, .inr (11, [.int 0, .ref q_1, .int 0, .int 0, .ref q_2, .ref q_3, .ref q_4, .int 0, .int 0, .ref q_5, .ref q_6, .ref q_7, .ref q_8, .int 0, .ref q_9, .ref q_10, .int 0, .ref q_11, .ref q_12, .ref q_13, .ref q_14, .ref q_15, .int 0, .int 0, .int 0, .ref q_16, .int 0, .ref q_17, .null, .null, .null, .null, .null, .int 0, .int 0, .int 0, .null, .null, .int 0, .int 0, .int 0, .int 0, .null])), (q_1, .inl (cyI, 1000, .inl (fun _ => 0))), (q_2, .inl (cyI, 1002, .inl (fun _ => 0))), (q_3, .inl (cyI, 1002, .inl (fun _ => 0))), (q_4, .inl (cyJ, 1002, .inr (.inl (fun _ => 0)))), (q_5, .inl (cyJ, 23, .inr (.inl (vp_updL (vp_updL (vp_updL (vp_updL (vp_updL (vp_updL (vp_updL (vp_updL (vp_updL (vp_updL (vp_updL (vp_updL (vp_updL (vp_updL (vp_updL (vp_updL (vp_updL (vp_updL (vp_updL (vp_updL (vp_updL (vp_updL (vp_updL (fun _ => 0) 0 122704) 1 16765) 2 36021578) 3 27951) 4 15047032) 5 716710) 6 1177493) 7 209658) 8 1604747592) 9 4003641) 10 172677872) 11 564588237) 12 33989651) 13 932857) 14 19741) 15 1891) 16 573) 17 17595960) 18 29203711) 19 17006) 20 22955708) 21 15248761) 22 40072202)))), (q_6, .inl (cyI, 240, .inl (fun _ => 0))), (q_7, .inl (cyI, 2200, .inl (fun _ => 0))), (q_8, .inl (cyI, 2200, .inl (fun _ => 0))), (q_9, .inl (cyJ, 16, .inr (.inl (fun _ => 0)))), (q_10, .inl (cyZ, 12, .inl (fun _ => 0))), (q_11, .inl (cyI, 8, .inl (upd (upd (upd (upd (upd (upd (upd (upd (fun _ => 0) 0 17) 1 18) 2 19) 3 7) 4 20) 5 21) 6 1) 7 22))), (q_12, .inl (cyI, 8, .inl (fun _ => 0))), (q_13, .inl (cyI, 1100, .inl (fun _ => 0))), (q_14, .inl (cyI, 2760, .inl (fun _ => 0))), (q_15, .inl (cyZ, 4, .inl (fun _ => 0))), (q_16, .inl (cyI, 12, .inl (fun _ => 0))), (q_17, .inl (cyZ, 144, .inl (fun _ => 0)))]) C inw_11 0 rfl rfl 27 (by decide) wd_158 rfl tyX11_ok nmX11 rfl hin rfl (tyX11_ok 27 (by decide)) rfl rfl (Nat.le_of_ble_eq_true rfl) dX11_init_342 rfl ?_
  refine j_aload_n (pc := 345) C dX11_init_345 rfl 0 rfl ?_
  refine j_sipush (pc := 346) (v := 144) C dX11_init_346 (by decide) ?_
  refine j_newa (pc := 349) (at1 := .boolean) (ty := .boolean) (N := 144) (a0 := (144, .inl (fun _ => 0))) C wd_150 rfl 3 rfl (fun _ _ h => h) (fun _ => rfl) (by decide) (by decide) (by decide) (by decide) (by decide) dX11_init_349 (fun q_18 => ?_)
  refine j_widen (k := 18) (n := 12877) (by decide) (by decide) ?_
  refine j_putF (pc := 351) (ci := 11) (v := .ref q_18) (ws' := [(h0, .inr (11, [.int 0, .ref q_1, .int 0, .int 0, .ref q_2, .ref q_3, .ref q_4, .int 0, .int 0, .ref q_5, .ref q_6, .ref q_7, .ref q_8, .int 0, .ref q_9, .ref q_10, .int 0, .ref q_11, .ref q_12, .ref q_13, .ref q_14, .ref q_15, .int 0, .int 0, .int 0, .ref q_16, .int 0, .ref q_17, .ref q_18, .null, .null, .null, .null, .int 0, .int 0, .int 0, .null, .null, .int 0, .int 0, .int 0, .int 0, .null])), (q_1, .inl (cyI, 1000, .inl (fun _ => 0))), (q_2, .inl (cyI, 1002, .inl (fun _ => 0))), (q_3, .inl (cyI, 1002, .inl (fun _ => 0))), (q_4, .inl (cyJ, 1002, .inr (.inl (fun _ => 0)))), (q_5, .inl (cyJ, 23, .inr (.inl (vp_updL (vp_updL (vp_updL (vp_updL (vp_updL (vp_updL (vp_updL (vp_updL (vp_updL (vp_updL (vp_updL (vp_updL (vp_updL (vp_updL (vp_updL (vp_updL (vp_updL (vp_updL (vp_updL (vp_updL (vp_updL (vp_updL (vp_updL (fun _ => 0) 0 122704) 1 16765) 2 36021578) 3 27951) 4 15047032) 5 716710) 6 1177493) 7 209658) 8 1604747592) 9 4003641) 10 172677872) 11 564588237) 12 33989651) 13 932857) 14 19741) 15 1891) 16 573) 17 17595960) 18 29203711) 19 17006) 20 22955708) 21 15248761) 22 40072202)))), (q_6, .inl (cyI, 240, .inl (fun _ => 0))), (q_7, .inl (cyI, 2200, .inl (fun _ => 0))), (q_8, .inl (cyI, 2200, .inl (fun _ => 0))), (q_9, .inl (cyJ, 16, .inr (.inl (fun _ => 0)))), (q_10, .inl (cyZ, 12, .inl (fun _ => 0))), (q_11, .inl (cyI, 8, .inl (upd (upd (upd (upd (upd (upd (upd (upd (fun _ => 0) 0 17) 1 18) 2 19) 3 7) 4 20) 5 21) 6 1) 7 22))), (q_12, .inl (cyI, 8, .inl (fun _ => 0))), (q_13, .inl (cyI, 1100, .inl (fun _ => 0))), (q_14, .inl (cyI, 2760, .inl (fun _ => 0))), (q_15, .inl (cyZ, 4, .inl (fun _ => 0))), (q_16, .inl (cyI, 12, .inl (fun _ => 0))), (q_17, .inl (cyZ, 144, .inl (fun _ => 0))), (q_18, .inl (cyZ, 144, .inl (fun _ => 0)))]) C inw_11 0 rfl rfl 28 (by decide) wd_159 rfl tyX11_ok nmX11 rfl hin rfl (tyX11_ok 28 (by decide)) rfl rfl (Nat.le_of_ble_eq_true rfl) dX11_init_351 rfl ?_
  refine j_aload_n (pc := 354) C dX11_init_354 rfl 0 rfl ?_
  refine j_ldc (pc := 355) C wd_160 dX11_init_355 ?_
  refine j_newa (pc := 357) (at1 := .int) (ty := .int) (N := 49152) (a0 := (49152, .inl (fun _ => 0))) C wd_6 rfl 1 rfl (fun _ _ h => h) (fun _ => rfl) (by decide) (by decide) (by decide) (by decide) (by decide) dX11_init_357 (fun q_19 => ?_)
  refine j_widen (k := 19) (n := 62029) (by decide) (by decide) ?_
  refine j_putF (pc := 359) (ci := 11) (v := .ref q_19) (ws' := [(h0, .inr (11, [.int 0, .ref q_1, .int 0, .int 0, .ref q_2, .ref q_3, .ref q_4, .int 0, .int 0, .ref q_5, .ref q_6, .ref q_7, .ref q_8, .int 0, .ref q_9, .ref q_10, .int 0, .ref q_11, .ref q_12, .ref q_13, .ref q_14, .ref q_15, .int 0, .int 0, .int 0, .ref q_16, .int 0, .ref q_17, .ref q_18, .ref q_19, .null, .null, .null, .int 0, .int 0, .int 0, .null, .null, .int 0, .int 0, .int 0, .int 0, .null])), (q_1, .inl (cyI, 1000, .inl (fun _ => 0))), (q_2, .inl (cyI, 1002, .inl (fun _ => 0))), (q_3, .inl (cyI, 1002, .inl (fun _ => 0))), (q_4, .inl (cyJ, 1002, .inr (.inl (fun _ => 0)))), (q_5, .inl (cyJ, 23, .inr (.inl (vp_updL (vp_updL (vp_updL (vp_updL (vp_updL (vp_updL (vp_updL (vp_updL (vp_updL (vp_updL (vp_updL (vp_updL (vp_updL (vp_updL (vp_updL (vp_updL (vp_updL (vp_updL (vp_updL (vp_updL (vp_updL (vp_updL (vp_updL (fun _ => 0) 0 122704) 1 16765) 2 36021578) 3 27951) 4 15047032) 5 716710) 6 1177493) 7 209658) 8 1604747592) 9 4003641) 10 172677872) 11 564588237) 12 33989651) 13 932857) 14 19741) 15 1891) 16 573) 17 17595960) 18 29203711) 19 17006) 20 22955708) 21 15248761) 22 40072202)))), (q_6, .inl (cyI, 240, .inl (fun _ => 0))), (q_7, .inl (cyI, 2200, .inl (fun _ => 0))), (q_8, .inl (cyI, 2200, .inl (fun _ => 0))), (q_9, .inl (cyJ, 16, .inr (.inl (fun _ => 0)))), (q_10, .inl (cyZ, 12, .inl (fun _ => 0))), (q_11, .inl (cyI, 8, .inl (upd (upd (upd (upd (upd (upd (upd (upd (fun _ => 0) 0 17) 1 18) 2 19) 3 7) 4 20) 5 21) 6 1) 7 22))), (q_12, .inl (cyI, 8, .inl (fun _ => 0))), (q_13, .inl (cyI, 1100, .inl (fun _ => 0))), (q_14, .inl (cyI, 2760, .inl (fun _ => 0))), (q_15, .inl (cyZ, 4, .inl (fun _ => 0))), (q_16, .inl (cyI, 12, .inl (fun _ => 0))), (q_17, .inl (cyZ, 144, .inl (fun _ => 0))), (q_18, .inl (cyZ, 144, .inl (fun _ => 0))), (q_19, .inl (cyI, 49152, .inl (fun _ => 0)))]) C inw_11 0 rfl rfl 29 (by decide) wd_161 rfl tyX11_ok nmX11 rfl hin rfl (tyX11_ok 29 (by decide)) rfl rfl (Nat.le_of_ble_eq_true rfl) dX11_init_359 rfl ?_
  refine j_aload_n (pc := 362) C dX11_init_362 rfl 0 rfl ?_
  refine j_sipush (pc := 363) (v := 4096) C dX11_init_363 (by decide) ?_
  refine j_newa (pc := 366) (at1 := .int) (ty := .int) (N := 4096) (a0 := (4096, .inl (fun _ => 0))) C wd_6 rfl 1 rfl (fun _ _ h => h) (fun _ => rfl) (by decide) (by decide) (by decide) (by decide) (by decide) dX11_init_366 (fun q_20 => ?_)
  refine j_widen (k := 20) (n := 66125) (by decide) (by decide) ?_
  refine j_putF (pc := 368) (ci := 11) (v := .ref q_20) (ws' := [(h0, .inr (11, [.int 0, .ref q_1, .int 0, .int 0, .ref q_2, .ref q_3, .ref q_4, .int 0, .int 0, .ref q_5, .ref q_6, .ref q_7, .ref q_8, .int 0, .ref q_9, .ref q_10, .int 0, .ref q_11, .ref q_12, .ref q_13, .ref q_14, .ref q_15, .int 0, .int 0, .int 0, .ref q_16, .int 0, .ref q_17, .ref q_18, .ref q_19, .ref q_20, .null, .null, .int 0, .int 0, .int 0, .null, .null, .int 0, .int 0, .int 0, .int 0, .null])), (q_1, .inl (cyI, 1000, .inl (fun _ => 0))), (q_2, .inl (cyI, 1002, .inl (fun _ => 0))), (q_3, .inl (cyI, 1002, .inl (fun _ => 0))), (q_4, .inl (cyJ, 1002, .inr (.inl (fun _ => 0)))), (q_5, .inl (cyJ, 23, .inr (.inl (vp_updL (vp_updL (vp_updL (vp_updL (vp_updL (vp_updL (vp_updL (vp_updL (vp_updL (vp_updL (vp_updL (vp_updL (vp_updL (vp_updL (vp_updL (vp_updL (vp_updL (vp_updL (vp_updL (vp_updL (vp_updL (vp_updL (vp_updL (fun _ => 0) 0 122704) 1 16765) 2 36021578) 3 27951) 4 15047032) 5 716710) 6 1177493) 7 209658) 8 1604747592) 9 4003641) 10 172677872) 11 564588237) 12 33989651) 13 932857) 14 19741) 15 1891) 16 573) 17 17595960) 18 29203711) 19 17006) 20 22955708) 21 15248761) 22 40072202)))), (q_6, .inl (cyI, 240, .inl (fun _ => 0))), (q_7, .inl (cyI, 2200, .inl (fun _ => 0))), (q_8, .inl (cyI, 2200, .inl (fun _ => 0))), (q_9, .inl (cyJ, 16, .inr (.inl (fun _ => 0)))), (q_10, .inl (cyZ, 12, .inl (fun _ => 0))), (q_11, .inl (cyI, 8, .inl (upd (upd (upd (upd (upd (upd (upd (upd (fun _ => 0) 0 17) 1 18) 2 19) 3 7) 4 20) 5 21) 6 1) 7 22))), (q_12, .inl (cyI, 8, .inl (fun _ => 0))), (q_13, .inl (cyI, 1100, .inl (fun _ => 0))), (q_14, .inl (cyI, 2760, .inl (fun _ => 0))), (q_15, .inl (cyZ, 4, .inl (fun _ => 0))), (q_16, .inl (cyI, 12, .inl (fun _ => 0))), (q_17, .inl (cyZ, 144, .inl (fun _ => 0))), (q_18, .inl (cyZ, 144, .inl (fun _ => 0))), (q_19, .inl (cyI, 49152, .inl (fun _ => 0))), (q_20, .inl (cyI, 4096, .inl (fun _ => 0)))]) C inw_11 0 rfl rfl 30 (by decide) wd_162 rfl tyX11_ok nmX11 rfl hin rfl (tyX11_ok 30 (by decide)) rfl rfl (Nat.le_of_ble_eq_true rfl) dX11_init_368 rfl ?_
  refine j_aload_n (pc := 371) C dX11_init_371 rfl 0 rfl ?_
  refine j_bipush (pc := 372) (v := 12) C dX11_init_372 (by decide) ?_
  refine j_newa (pc := 374) (at1 := .int) (ty := .int) (N := 12) (a0 := (12, .inl (fun _ => 0))) C wd_6 rfl 1 rfl (fun _ _ h => h) (fun _ => rfl) (by decide) (by decide) (by decide) (by decide) (by decide) dX11_init_374 (fun q_21 => ?_)
  refine j_widen (k := 21) (n := 66137) (by decide) (by decide) ?_
  refine j_putF (pc := 376) (ci := 11) (v := .ref q_21) (ws' := [(h0, .inr (11, [.int 0, .ref q_1, .int 0, .int 0, .ref q_2, .ref q_3, .ref q_4, .int 0, .int 0, .ref q_5, .ref q_6, .ref q_7, .ref q_8, .int 0, .ref q_9, .ref q_10, .int 0, .ref q_11, .ref q_12, .ref q_13, .ref q_14, .ref q_15, .int 0, .int 0, .int 0, .ref q_16, .int 0, .ref q_17, .ref q_18, .ref q_19, .ref q_20, .ref q_21, .null, .int 0, .int 0, .int 0, .null, .null, .int 0, .int 0, .int 0, .int 0, .null])), (q_1, .inl (cyI, 1000, .inl (fun _ => 0))), (q_2, .inl (cyI, 1002, .inl (fun _ => 0))), (q_3, .inl (cyI, 1002, .inl (fun _ => 0))), (q_4, .inl (cyJ, 1002, .inr (.inl (fun _ => 0)))), (q_5, .inl (cyJ, 23, .inr (.inl (vp_updL (vp_updL (vp_updL (vp_updL (vp_updL (vp_updL (vp_updL (vp_updL (vp_updL (vp_updL (vp_updL (vp_updL (vp_updL (vp_updL (vp_updL (vp_updL (vp_updL (vp_updL (vp_updL (vp_updL (vp_updL (vp_updL (vp_updL (fun _ => 0) 0 122704) 1 16765) 2 36021578) 3 27951) 4 15047032) 5 716710) 6 1177493) 7 209658) 8 1604747592) 9 4003641) 10 172677872) 11 564588237) 12 33989651) 13 932857) 14 19741) 15 1891) 16 573) 17 17595960) 18 29203711) 19 17006) 20 22955708) 21 15248761) 22 40072202)))), (q_6, .inl (cyI, 240, .inl (fun _ => 0))), (q_7, .inl (cyI, 2200, .inl (fun _ => 0))), (q_8, .inl (cyI, 2200, .inl (fun _ => 0))), (q_9, .inl (cyJ, 16, .inr (.inl (fun _ => 0)))), (q_10, .inl (cyZ, 12, .inl (fun _ => 0))), (q_11, .inl (cyI, 8, .inl (upd (upd (upd (upd (upd (upd (upd (upd (fun _ => 0) 0 17) 1 18) 2 19) 3 7) 4 20) 5 21) 6 1) 7 22))), (q_12, .inl (cyI, 8, .inl (fun _ => 0))), (q_13, .inl (cyI, 1100, .inl (fun _ => 0))), (q_14, .inl (cyI, 2760, .inl (fun _ => 0))), (q_15, .inl (cyZ, 4, .inl (fun _ => 0))), (q_16, .inl (cyI, 12, .inl (fun _ => 0))), (q_17, .inl (cyZ, 144, .inl (fun _ => 0))), (q_18, .inl (cyZ, 144, .inl (fun _ => 0))), (q_19, .inl (cyI, 49152, .inl (fun _ => 0))), (q_20, .inl (cyI, 4096, .inl (fun _ => 0))), (q_21, .inl (cyI, 12, .inl (fun _ => 0)))]) C inw_11 0 rfl rfl 31 (by decide) wd_163 rfl tyX11_ok nmX11 rfl hin rfl (tyX11_ok 31 (by decide)) rfl rfl (Nat.le_of_ble_eq_true rfl) dX11_init_376 rfl ?_
  refine j_aload_n (pc := 379) C dX11_init_379 rfl 0 rfl ?_
  refine j_sipush (pc := 380) (v := 4096) C dX11_init_380 (by decide) ?_
  refine j_newa (pc := 383) (at1 := .int) (ty := .int) (N := 4096) (a0 := (4096, .inl (fun _ => 0))) C wd_6 rfl 1 rfl (fun _ _ h => h) (fun _ => rfl) (by decide) (by decide) (by decide) (by decide) (by decide) dX11_init_383 (fun q_22 => ?_)
  refine j_widen (k := 22) (n := 70233) (by decide) (by decide) ?_
  refine j_putF (pc := 385) (ci := 11) (v := .ref q_22) (ws' := [(h0, .inr (11, [.int 0, .ref q_1, .int 0, .int 0, .ref q_2, .ref q_3, .ref q_4, .int 0, .int 0, .ref q_5, .ref q_6, .ref q_7, .ref q_8, .int 0, .ref q_9, .ref q_10, .int 0, .ref q_11, .ref q_12, .ref q_13, .ref q_14, .ref q_15, .int 0, .int 0, .int 0, .ref q_16, .int 0, .ref q_17, .ref q_18, .ref q_19, .ref q_20, .ref q_21, .ref q_22, .int 0, .int 0, .int 0, .null, .null, .int 0, .int 0, .int 0, .int 0, .null])), (q_1, .inl (cyI, 1000, .inl (fun _ => 0))), (q_2, .inl (cyI, 1002, .inl (fun _ => 0))), (q_3, .inl (cyI, 1002, .inl (fun _ => 0))), (q_4, .inl (cyJ, 1002, .inr (.inl (fun _ => 0)))), (q_5, .inl (cyJ, 23, .inr (.inl (vp_updL (vp_updL (vp_updL (vp_updL (vp_updL (vp_updL (vp_updL (vp_updL (vp_updL (vp_updL (vp_updL (vp_updL (vp_updL (vp_updL (vp_updL (vp_updL (vp_updL (vp_updL (vp_updL (vp_updL (vp_updL (vp_updL (vp_updL (fun _ => 0) 0 122704) 1 16765) 2 36021578) 3 27951) 4 15047032) 5 716710) 6 1177493) 7 209658) 8 1604747592) 9 4003641) 10 172677872) 11 564588237) 12 33989651) 13 932857) 14 19741) 15 1891) 16 573) 17 17595960) 18 29203711) 19 17006) 20 22955708) 21 15248761) 22 40072202)))), (q_6, .inl (cyI, 240, .inl (fun _ => 0))), (q_7, .inl (cyI, 2200, .inl (fun _ => 0))), (q_8, .inl (cyI, 2200, .inl (fun _ => 0))), (q_9, .inl (cyJ, 16, .inr (.inl (fun _ => 0)))), (q_10, .inl (cyZ, 12, .inl (fun _ => 0))), (q_11, .inl (cyI, 8, .inl (upd (upd (upd (upd (upd (upd (upd (upd (fun _ => 0) 0 17) 1 18) 2 19) 3 7) 4 20) 5 21) 6 1) 7 22))), (q_12, .inl (cyI, 8, .inl (fun _ => 0))), (q_13, .inl (cyI, 1100, .inl (fun _ => 0))), (q_14, .inl (cyI, 2760, .inl (fun _ => 0))), (q_15, .inl (cyZ, 4, .inl (fun _ => 0))), (q_16, .inl (cyI, 12, .inl (fun _ => 0))), (q_17, .inl (cyZ, 144, .inl (fun _ => 0))), (q_18, .inl (cyZ, 144, .inl (fun _ => 0))), (q_19, .inl (cyI, 49152, .inl (fun _ => 0))), (q_20, .inl (cyI, 4096, .inl (fun _ => 0))), (q_21, .inl (cyI, 12, .inl (fun _ => 0))), (q_22, .inl (cyI, 4096, .inl (fun _ => 0)))]) C inw_11 0 rfl rfl 32 (by decide) wd_164 rfl tyX11_ok nmX11 rfl hin rfl (tyX11_ok 32 (by decide)) rfl rfl (Nat.le_of_ble_eq_true rfl) dX11_init_385 rfl ?_
  refine j_aload_n (pc := 388) C dX11_init_388 rfl 0 rfl ?_
  refine j_bipush (pc := 389) (v := 7) C dX11_init_389 (by decide) ?_
  refine j_newa (pc := 391) (at1 := .int) (ty := .int) (N := 7) (a0 := (7, .inl (fun _ => 0))) C wd_6 rfl 1 rfl (fun _ _ h => h) (fun _ => rfl) (by decide) (by decide) (by decide) (by decide) (by decide) dX11_init_391 (fun q_23 => ?_)
  refine j_widen (k := 23) (n := 70240) (by decide) (by decide) ?_
  refine j_putF (pc := 393) (ci := 11) (v := .ref q_23) (ws' := [(h0, .inr (11, [.int 0, .ref q_1, .int 0, .int 0, .ref q_2, .ref q_3, .ref q_4, .int 0, .int 0, .ref q_5, .ref q_6, .ref q_7, .ref q_8, .int 0, .ref q_9, .ref q_10, .int 0, .ref q_11, .ref q_12, .ref q_13, .ref q_14, .ref q_15, .int 0, .int 0, .int 0, .ref q_16, .int 0, .ref q_17, .ref q_18, .ref q_19, .ref q_20, .ref q_21, .ref q_22, .int 0, .int 0, .int 0, .ref q_23, .null, .int 0, .int 0, .int 0, .int 0, .null])), (q_1, .inl (cyI, 1000, .inl (fun _ => 0))), (q_2, .inl (cyI, 1002, .inl (fun _ => 0))), (q_3, .inl (cyI, 1002, .inl (fun _ => 0))), (q_4, .inl (cyJ, 1002, .inr (.inl (fun _ => 0)))), (q_5, .inl (cyJ, 23, .inr (.inl (vp_updL (vp_updL (vp_updL (vp_updL (vp_updL (vp_updL (vp_updL (vp_updL (vp_updL (vp_updL (vp_updL (vp_updL (vp_updL (vp_updL (vp_updL (vp_updL (vp_updL (vp_updL (vp_updL (vp_updL (vp_updL (vp_updL (vp_updL (fun _ => 0) 0 122704) 1 16765) 2 36021578) 3 27951) 4 15047032) 5 716710) 6 1177493) 7 209658) 8 1604747592) 9 4003641) 10 172677872) 11 564588237) 12 33989651) 13 932857) 14 19741) 15 1891) 16 573) 17 17595960) 18 29203711) 19 17006) 20 22955708) 21 15248761) 22 40072202)))), (q_6, .inl (cyI, 240, .inl (fun _ => 0))), (q_7, .inl (cyI, 2200, .inl (fun _ => 0))), (q_8, .inl (cyI, 2200, .inl (fun _ => 0))), (q_9, .inl (cyJ, 16, .inr (.inl (fun _ => 0)))), (q_10, .inl (cyZ, 12, .inl (fun _ => 0))), (q_11, .inl (cyI, 8, .inl (upd (upd (upd (upd (upd (upd (upd (upd (fun _ => 0) 0 17) 1 18) 2 19) 3 7) 4 20) 5 21) 6 1) 7 22))), (q_12, .inl (cyI, 8, .inl (fun _ => 0))), (q_13, .inl (cyI, 1100, .inl (fun _ => 0))), (q_14, .inl (cyI, 2760, .inl (fun _ => 0))), (q_15, .inl (cyZ, 4, .inl (fun _ => 0))), (q_16, .inl (cyI, 12, .inl (fun _ => 0))), (q_17, .inl (cyZ, 144, .inl (fun _ => 0))), (q_18, .inl (cyZ, 144, .inl (fun _ => 0))), (q_19, .inl (cyI, 49152, .inl (fun _ => 0))), (q_20, .inl (cyI, 4096, .inl (fun _ => 0))), (q_21, .inl (cyI, 12, .inl (fun _ => 0))), (q_22, .inl (cyI, 4096, .inl (fun _ => 0))), (q_23, .inl (cyI, 7, .inl (fun _ => 0)))]) C inw_11 0 rfl rfl 36 (by decide) wd_165 rfl tyX11_ok nmX11 rfl hin rfl (tyX11_ok 36 (by decide)) rfl rfl (Nat.le_of_ble_eq_true rfl) dX11_init_393 rfl ?_
  refine j_aload_n (pc := 396) C dX11_init_396 rfl 0 rfl ?_
  refine j_bipush (pc := 397) (v := 7) C dX11_init_397 (by decide) ?_
  refine j_newa (pc := 399) (at1 := .int) (ty := .int) (N := 7) (a0 := (7, .inl (fun _ => 0))) C wd_6 rfl 1 rfl (fun _ _ h => h) (fun _ => rfl) (by decide) (by decide) (by decide) (by decide) (by decide) dX11_init_399 (fun q_24 => ?_)
  refine j_widen (k := 24) (n := 70247) (by decide) (by decide) ?_
  refine j_putF (pc := 401) (ci := 11) (v := .ref q_24) (ws' := [(h0, .inr (11, [.int 0, .ref q_1, .int 0, .int 0, .ref q_2, .ref q_3, .ref q_4, .int 0, .int 0, .ref q_5, .ref q_6, .ref q_7, .ref q_8, .int 0, .ref q_9, .ref q_10, .int 0, .ref q_11, .ref q_12, .ref q_13, .ref q_14, .ref q_15, .int 0, .int 0, .int 0, .ref q_16, .int 0, .ref q_17, .ref q_18, .ref q_19, .ref q_20, .ref q_21, .ref q_22, .int 0, .int 0, .int 0, .ref q_23, .ref q_24, .int 0, .int 0, .int 0, .int 0, .null])), (q_1, .inl (cyI, 1000, .inl (fun _ => 0))), (q_2, .inl (cyI, 1002, .inl (fun _ => 0))), (q_3, .inl (cyI, 1002, .inl (fun _ => 0))), (q_4, .inl (cyJ, 1002, .inr (.inl (fun _ => 0)))), (q_5, .inl (cyJ, 23, .inr (.inl (vp_updL (vp_updL (vp_updL (vp_updL (vp_updL (vp_updL (vp_updL (vp_updL (vp_updL (vp_updL (vp_updL (vp_updL (vp_updL (vp_updL (vp_updL (vp_updL (vp_updL (vp_updL (vp_updL (vp_updL (vp_updL (vp_updL (vp_updL (fun _ => 0) 0 122704) 1 16765) 2 36021578) 3 27951) 4 15047032) 5 716710) 6 1177493) 7 209658) 8 1604747592) 9 4003641) 10 172677872) 11 564588237) 12 33989651) 13 932857) 14 19741) 15 1891) 16 573) 17 17595960) 18 29203711) 19 17006) 20 22955708) 21 15248761) 22 40072202)))), (q_6, .inl (cyI, 240, .inl (fun _ => 0))), (q_7, .inl (cyI, 2200, .inl (fun _ => 0))), (q_8, .inl (cyI, 2200, .inl (fun _ => 0))), (q_9, .inl (cyJ, 16, .inr (.inl (fun _ => 0)))), (q_10, .inl (cyZ, 12, .inl (fun _ => 0))), (q_11, .inl (cyI, 8, .inl (upd (upd (upd (upd (upd (upd (upd (upd (fun _ => 0) 0 17) 1 18) 2 19) 3 7) 4 20) 5 21) 6 1) 7 22))), (q_12, .inl (cyI, 8, .inl (fun _ => 0))), (q_13, .inl (cyI, 1100, .inl (fun _ => 0))), (q_14, .inl (cyI, 2760, .inl (fun _ => 0))), (q_15, .inl (cyZ, 4, .inl (fun _ => 0))), (q_16, .inl (cyI, 12, .inl (fun _ => 0))), (q_17, .inl (cyZ, 144, .inl (fun _ => 0))), (q_18, .inl (cyZ, 144, .inl (fun _ => 0))), (q_19, .inl (cyI, 49152, .inl (fun _ => 0))), (q_20, .inl (cyI, 4096, .inl (fun _ => 0))), (q_21, .inl (cyI, 12, .inl (fun _ => 0))), (q_22, .inl (cyI, 4096, .inl (fun _ => 0))), (q_23, .inl (cyI, 7, .inl (fun _ => 0))), (q_24, .inl (cyI, 7, .inl (fun _ => 0)))]) C inw_11 0 rfl rfl 37 (by decide) wd_166 rfl tyX11_ok nmX11 rfl hin rfl (tyX11_ok 37 (by decide)) rfl rfl (Nat.le_of_ble_eq_true rfl) dX11_init_401 rfl ?_
  refine j_aload_n (pc := 404) C dX11_init_404 rfl 0 rfl ?_
  refine j_iconst (pc := 405) (v := 5) C dX11_init_405 (by decide) ?_
  refine j_newa (pc := 406) (at1 := .long) (ty := .long) (N := 5) (a0 := (5, .inr (.inl (fun _ => 0)))) C wd_34 rfl 2 rfl (fun _ _ h => h) (fun _ => rfl) (by decide) (by decide) (by decide) (by decide) (by decide) dX11_init_406 (fun q_25 => ?_)
  refine j_widen (k := 25) (n := 70252) (by decide) (by decide) ?_
  refine j_putF (pc := 408) (ci := 11) (v := .ref q_25) (ws' := [(h0, .inr (11, [.int 0, .ref q_1, .int 0, .int 0, .ref q_2, .ref q_3, .ref q_4, .int 0, .int 0, .ref q_5, .ref q_6, .ref q_7, .ref q_8, .int 0, .ref q_9, .ref q_10, .int 0, .ref q_11, .ref q_12, .ref q_13, .ref q_14, .ref q_15, .int 0, .int 0, .int 0, .ref q_16, .int 0, .ref q_17, .ref q_18, .ref q_19, .ref q_20, .ref q_21, .ref q_22, .int 0, .int 0, .int 0, .ref q_23, .ref q_24, .int 0, .int 0, .int 0, .int 0, .ref q_25])), (q_1, .inl (cyI, 1000, .inl (fun _ => 0))), (q_2, .inl (cyI, 1002, .inl (fun _ => 0))), (q_3, .inl (cyI, 1002, .inl (fun _ => 0))), (q_4, .inl (cyJ, 1002, .inr (.inl (fun _ => 0)))), (q_5, .inl (cyJ, 23, .inr (.inl (vp_updL (vp_updL (vp_updL (vp_updL (vp_updL (vp_updL (vp_updL (vp_updL (vp_updL (vp_updL (vp_updL (vp_updL (vp_updL (vp_updL (vp_updL (vp_updL (vp_updL (vp_updL (vp_updL (vp_updL (vp_updL (vp_updL (vp_updL (fun _ => 0) 0 122704) 1 16765) 2 36021578) 3 27951) 4 15047032) 5 716710) 6 1177493) 7 209658) 8 1604747592) 9 4003641) 10 172677872) 11 564588237) 12 33989651) 13 932857) 14 19741) 15 1891) 16 573) 17 17595960) 18 29203711) 19 17006) 20 22955708) 21 15248761) 22 40072202)))), (q_6, .inl (cyI, 240, .inl (fun _ => 0))), (q_7, .inl (cyI, 2200, .inl (fun _ => 0))), (q_8, .inl (cyI, 2200, .inl (fun _ => 0))), (q_9, .inl (cyJ, 16, .inr (.inl (fun _ => 0)))), (q_10, .inl (cyZ, 12, .inl (fun _ => 0))), (q_11, .inl (cyI, 8, .inl (upd (upd (upd (upd (upd (upd (upd (upd (fun _ => 0) 0 17) 1 18) 2 19) 3 7) 4 20) 5 21) 6 1) 7 22))), (q_12, .inl (cyI, 8, .inl (fun _ => 0))), (q_13, .inl (cyI, 1100, .inl (fun _ => 0))), (q_14, .inl (cyI, 2760, .inl (fun _ => 0))), (q_15, .inl (cyZ, 4, .inl (fun _ => 0))), (q_16, .inl (cyI, 12, .inl (fun _ => 0))), (q_17, .inl (cyZ, 144, .inl (fun _ => 0))), (q_18, .inl (cyZ, 144, .inl (fun _ => 0))), (q_19, .inl (cyI, 49152, .inl (fun _ => 0))), (q_20, .inl (cyI, 4096, .inl (fun _ => 0))), (q_21, .inl (cyI, 12, .inl (fun _ => 0))), (q_22, .inl (cyI, 4096, .inl (fun _ => 0))), (q_23, .inl (cyI, 7, .inl (fun _ => 0))), (q_24, .inl (cyI, 7, .inl (fun _ => 0))), (q_25, .inl (cyJ, 5, .inr (.inl (fun _ => 0))))]) C inw_11 0 rfl rfl 42 (by decide) wd_167 rfl tyX11_ok nmX11 rfl hin rfl (tyX11_ok 42 (by decide)) rfl rfl (Nat.le_of_ble_eq_true rfl) dX11_init_408 rfl ?_
  refine j_aload_n (pc := 411) C dX11_init_411 rfl 0 rfl ?_
  refine j_iconst (pc := 412) (v := 1) C dX11_init_412 (by decide) ?_
  refine j_put (pc := 413) (ci := 11) (v := .int 1) (ws' := [(h0, .inr (11, [.int 0, .ref q_1, .int 0, .int 0, .ref q_2, .ref q_3, .ref q_4, .int 0, .int 0, .ref q_5, .ref q_6, .ref q_7, .ref q_8, .int 0, .ref q_9, .ref q_10, .int 1, .ref q_11, .ref q_12, .ref q_13, .ref q_14, .ref q_15, .int 0, .int 0, .int 0, .ref q_16, .int 0, .ref q_17, .ref q_18, .ref q_19, .ref q_20, .ref q_21, .ref q_22, .int 0, .int 0, .int 0, .ref q_23, .ref q_24, .int 0, .int 0, .int 0, .int 0, .ref q_25])), (q_1, .inl (cyI, 1000, .inl (fun _ => 0))), (q_2, .inl (cyI, 1002, .inl (fun _ => 0))), (q_3, .inl (cyI, 1002, .inl (fun _ => 0))), (q_4, .inl (cyJ, 1002, .inr (.inl (fun _ => 0)))), (q_5, .inl (cyJ, 23, .inr (.inl (vp_updL (vp_updL (vp_updL (vp_updL (vp_updL (vp_updL (vp_updL (vp_updL (vp_updL (vp_updL (vp_updL (vp_updL (vp_updL (vp_updL (vp_updL (vp_updL (vp_updL (vp_updL (vp_updL (vp_updL (vp_updL (vp_updL (vp_updL (fun _ => 0) 0 122704) 1 16765) 2 36021578) 3 27951) 4 15047032) 5 716710) 6 1177493) 7 209658) 8 1604747592) 9 4003641) 10 172677872) 11 564588237) 12 33989651) 13 932857) 14 19741) 15 1891) 16 573) 17 17595960) 18 29203711) 19 17006) 20 22955708) 21 15248761) 22 40072202)))), (q_6, .inl (cyI, 240, .inl (fun _ => 0))), (q_7, .inl (cyI, 2200, .inl (fun _ => 0))), (q_8, .inl (cyI, 2200, .inl (fun _ => 0))), (q_9, .inl (cyJ, 16, .inr (.inl (fun _ => 0)))), (q_10, .inl (cyZ, 12, .inl (fun _ => 0))), (q_11, .inl (cyI, 8, .inl (upd (upd (upd (upd (upd (upd (upd (upd (fun _ => 0) 0 17) 1 18) 2 19) 3 7) 4 20) 5 21) 6 1) 7 22))), (q_12, .inl (cyI, 8, .inl (fun _ => 0))), (q_13, .inl (cyI, 1100, .inl (fun _ => 0))), (q_14, .inl (cyI, 2760, .inl (fun _ => 0))), (q_15, .inl (cyZ, 4, .inl (fun _ => 0))), (q_16, .inl (cyI, 12, .inl (fun _ => 0))), (q_17, .inl (cyZ, 144, .inl (fun _ => 0))), (q_18, .inl (cyZ, 144, .inl (fun _ => 0))), (q_19, .inl (cyI, 49152, .inl (fun _ => 0))), (q_20, .inl (cyI, 4096, .inl (fun _ => 0))), (q_21, .inl (cyI, 12, .inl (fun _ => 0))), (q_22, .inl (cyI, 4096, .inl (fun _ => 0))), (q_23, .inl (cyI, 7, .inl (fun _ => 0))), (q_24, .inl (cyI, 7, .inl (fun _ => 0))), (q_25, .inl (cyJ, 5, .inr (.inl (fun _ => 0))))]) C inw_11 0 rfl rfl 16 (by decide) wd_168 rfl tyX11_ok nmX11 rfl (tyX11_ok 16 (by decide)) rfl rfl (Nat.le_of_ble_eq_true rfl) dX11_init_413 rfl ?_
  exact j_vret (pc := 416) C hr hk (fun i => [q_1, q_2, q_3, q_4, q_5, q_6, q_7, q_8, q_9, q_10, q_11, q_12, q_13, q_14, q_15, q_16, q_17, q_18, q_19, q_20, q_21, q_22, q_23, q_24, q_25].getD i 0, fun _ => 0, fun _ _ => 0) rfl trivial [0, 1, 2, 3, 4, 5, 6, 7, 8, 9, 10, 11, 12, 13, 14, 15, 16, 17, 18, 19, 20, 21, 22, 23, 24, 25] (by decide) rfl (by decide) (by decide) dX11_init_416
end
section
theorem i_lt (a b : Int32) : a < b ↔ a.toInt < b.toInt := Int32.lt_iff_toInt_lt
theorem i_le (a b : Int32) : a ≤ b ↔ a.toInt ≤ b.toInt := Int32.le_iff_toInt_le
theorem i_eq (a b : Int32) : a = b ↔ a.toInt = b.toInt := ⟨fun h => by rw [h], fun h => Int32.toInt_inj.mp h⟩
theorem br_ltt_lt {x y : Int32} (h : x < y) : x < y := h
theorem br_ltf_lt {x y : Int32} (h : ¬ x < y) : ¬ x < y := h
theorem br_ltt_ge {x y : Int32} (h : x < y) : ¬ y ≤ x := by rw [i_lt] at h; rw [i_le]; omega
theorem br_ltf_ge {x y : Int32} (h : ¬ x < y) : y ≤ x := by rw [i_lt] at h; rw [i_le]; omega
theorem br_ltt_eq {x y : Int32} (h : x < y) : ¬ x = y := by rw [i_lt] at h; rw [i_eq]; omega
theorem br_ltt_ne {x y : Int32} (h : x < y) : ¬ x = y := br_ltt_eq h
theorem br_ltt_le {x y : Int32} (h : x < y) : x ≤ y := by rw [i_lt] at h; rw [i_le]; omega
theorem br_ltt_gt {x y : Int32} (h : x < y) : ¬ y < x := by rw [i_lt] at h; rw [i_lt]; omega
theorem br_get_ge {x y : Int32} (h : y ≤ x) : y ≤ x := h
theorem br_gef_ge {x y : Int32} (h : ¬ y ≤ x) : ¬ y ≤ x := h
theorem br_get_lt {x y : Int32} (h : y ≤ x) : ¬ x < y := by rw [i_le] at h; rw [i_lt]; omega
theorem br_gef_lt {x y : Int32} (h : ¬ y ≤ x) : x < y := by rw [i_le] at h; rw [i_lt]; omega
theorem br_gtt_gt {x y : Int32} (h : y < x) : y < x := h
theorem br_gtf_gt {x y : Int32} (h : ¬ y < x) : ¬ y < x := h
theorem br_gtt_le {x y : Int32} (h : y < x) : ¬ x ≤ y := by rw [i_lt] at h; rw [i_le]; omega
theorem br_gtf_le {x y : Int32} (h : ¬ y < x) : x ≤ y := by rw [i_lt] at h; rw [i_le]; omega
theorem br_let_le {x y : Int32} (h : x ≤ y) : x ≤ y := h
theorem br_lef_le {x y : Int32} (h : ¬ x ≤ y) : ¬ x ≤ y := h
theorem br_let_gt {x y : Int32} (h : x ≤ y) : ¬ y < x := by rw [i_le] at h; rw [i_lt]; omega
theorem br_lef_gt {x y : Int32} (h : ¬ x ≤ y) : y < x := by rw [i_le] at h; rw [i_lt]; omega
theorem br_eqt_eq {x y : Int32} (h : x = y) : x = y := h
theorem br_eqf_eq {x y : Int32} (h : ¬ x = y) : ¬ x = y := h
theorem br_eqt_ne {x y : Int32} (h : x = y) : x = y := h
theorem br_eqf_ne {x y : Int32} (h : ¬ x = y) : ¬ x = y := h
theorem br_net_ne {x y : Int32} (h : ¬ x = y) : ¬ x = y := h
theorem br_nef_ne {x y : Int32} (h : x = y) : x = y := h
theorem br_net_eq {x y : Int32} (h : ¬ x = y) : ¬ x = y := h
theorem br_nef_eq {x y : Int32} (h : x = y) : x = y := h
theorem ite_two {c : Prop} [Decidable c] {α : Type} {r a b : α} (h : r = if c then a else b) : (c ∧ r = a) ∨ (¬ c ∧ r = b) := by
  by_cases hc : c
  · rw [if_pos hc] at h; exact Or.inl ⟨hc, h⟩
  · rw [if_neg hc] at h; exact Or.inr ⟨hc, h⟩
theorem zupd {g : Nat → Int32} {n k : Nat} {x : Int32} (hg : ∀ j, j < n → g j = 0) (hx : x = 0) : ∀ j, j < n → upd g k x j = 0 := fun j hj => by
  by_cases h : j = k
  · subst h; rw [pk_us]; exact hx
  · rw [pk_un h]; exact hg j hj
theorem sw_2 (x : Int32) : (x.toInt < 0 ∨ 1 < x.toInt) ∨ x = 0 ∨ x = 1 := by
  simp only [i_eq]; have h0 : (0 : Int32).toInt = 0 := rfl; have h1 : (1 : Int32).toInt = 1 := rfl; omega
theorem sw_3 (x : Int32) : (x.toInt < 0 ∨ 2 < x.toInt) ∨ x = 0 ∨ x = 1 ∨ x = 2 := by
  simp only [i_eq]; have h0 : (0 : Int32).toInt = 0 := rfl; have h1 : (1 : Int32).toInt = 1 := rfl; have h2 : (2 : Int32).toInt = 2 := rfl; omega
theorem sw_6 (x : Int32) : (x.toInt < 0 ∨ 5 < x.toInt) ∨ x = 0 ∨ x = 1 ∨ x = 2 ∨ x = 3 ∨ x = 4 ∨ x = 5 := by
  simp only [i_eq]; have h0 : (0 : Int32).toInt = 0 := rfl; have h1 : (1 : Int32).toInt = 1 := rfl; have h2 : (2 : Int32).toInt = 2 := rfl; have h3 : (3 : Int32).toInt = 3 := rfl; have h4 : (4 : Int32).toInt = 4 := rfl; have h5 : (5 : Int32).toInt = 5 := rfl; omega
theorem sw_28 (x : Int32) : (x.toInt < 0 ∨ 27 < x.toInt) ∨ x = 0 ∨ x = 1 ∨ x = 2 ∨ x = 3 ∨ x = 4 ∨ x = 5 ∨ x = 6 ∨ x = 7 ∨ x = 8 ∨ x = 9 ∨ x = 10 ∨ x = 11 ∨ x = 12 ∨ x = 13 ∨ x = 14 ∨ x = 15 ∨ x = 16 ∨ x = 17 ∨ x = 18 ∨ x = 19 ∨ x = 20 ∨ x = 21 ∨ x = 22 ∨ x = 23 ∨ x = 24 ∨ x = 25 ∨ x = 26 ∨ x = 27 := by
  simp only [i_eq]; have h0 : (0 : Int32).toInt = 0 := rfl; have h1 : (1 : Int32).toInt = 1 := rfl; have h2 : (2 : Int32).toInt = 2 := rfl; have h3 : (3 : Int32).toInt = 3 := rfl; have h4 : (4 : Int32).toInt = 4 := rfl; have h5 : (5 : Int32).toInt = 5 := rfl; have h6 : (6 : Int32).toInt = 6 := rfl; have h7 : (7 : Int32).toInt = 7 := rfl; have h8 : (8 : Int32).toInt = 8 := rfl; have h9 : (9 : Int32).toInt = 9 := rfl; have h10 : (10 : Int32).toInt = 10 := rfl; have h11 : (11 : Int32).toInt = 11 := rfl; have h12 : (12 : Int32).toInt = 12 := rfl; have h13 : (13 : Int32).toInt = 13 := rfl; have h14 : (14 : Int32).toInt = 14 := rfl; have h15 : (15 : Int32).toInt = 15 := rfl; have h16 : (16 : Int32).toInt = 16 := rfl; have h17 : (17 : Int32).toInt = 17 := rfl; have h18 : (18 : Int32).toInt = 18 := rfl; have h19 : (19 : Int32).toInt = 19 := rfl; have h20 : (20 : Int32).toInt = 20 := rfl; have h21 : (21 : Int32).toInt = 21 := rfl; have h22 : (22 : Int32).toInt = 22 := rfl; have h23 : (23 : Int32).toInt = 23 := rfl; have h24 : (24 : Int32).toInt = 24 := rfl; have h25 : (25 : Int32).toInt = 25 := rfl; have h26 : (26 : Int32).toInt = 26 := rfl; have h27 : (27 : Int32).toInt = 27 := rfl; omega
theorem four (x : Int32) (h : 0 ≤ x ∧ x ≤ 3) : x = 0 ∨ x = 1 ∨ x = 2 ∨ x = 3 := by
  simp only [i_eq, i_le] at *; have h0 : (0 : Int32).toInt = 0 := rfl; have h1 : (1 : Int32).toInt = 1 := rfl; have h2 : (2 : Int32).toInt = 2 := rfl; have h3 : (3 : Int32).toInt = 3 := rfl; omega
end
section
theorem wd_169 : Cond.fieldLink RX9 42 "BowlShelf$Told" "wares" "I" ∈ WALL := wl_in (by decide +kernel) (by decide +kernel)
theorem wd_170 : Cond.fieldLink RX9 46 "BowlShelf$Told" "shelves" "I" ∈ WALL := wl_in (by decide +kernel) (by decide +kernel)
theorem wd_171 : Cond.code yX9_isShelf cX9_isShelf 2 (some .boolean) ∈ WALL := wl_in (by decide +kernel) (by decide +kernel)
theorem wd_172 : Cond.methodLink RX10 141 yX9_isShelf ∈ WALL := wl_in (by decide +kernel) (by decide +kernel)
theorem wd_173 : Cond.instanceMethod yX9_isShelf ∈ WALL := wl_in (by decide +kernel) (by decide +kernel)
theorem wd_174 : Cond.selects RX9 yX9_isShelf yX9_isShelf ∈ WALL := wl_in (by decide +kernel) (by decide +kernel)
theorem wd_175 : Cond.code yX9_isWare cX9_isWare 2 (some .boolean) ∈ WALL := wl_in (by decide +kernel) (by decide +kernel)
theorem wd_176 : Cond.methodLink RX10 112 yX9_isWare ∈ WALL := wl_in (by decide +kernel) (by decide +kernel)
theorem wd_177 : Cond.instanceMethod yX9_isWare ∈ WALL := wl_in (by decide +kernel) (by decide +kernel)
theorem wd_178 : Cond.selects RX9 yX9_isWare yX9_isWare ∈ WALL := wl_in (by decide +kernel) (by decide +kernel)
theorem wd_179 : Cond.code yX10_isStack cX10_isStack 3 (some .boolean) ∈ WALL := wl_in (by decide +kernel) (by decide +kernel)
theorem wd_180 : Cond.initialized RX10 ∈ WALL := wl_in (by decide +kernel) (by decide +kernel)
theorem wd_181 : Cond.methodLink RX10 198 yX10_isStack ∈ WALL := wl_in (by decide +kernel) (by decide +kernel)
theorem wd_182 : Cond.instanceMethod yX10_isStack ∈ WALL := wl_in (by decide +kernel) (by decide +kernel)
theorem wd_183 : Cond.selects RX10 yX10_isStack yX10_isStack ∈ WALL := wl_in (by decide +kernel) (by decide +kernel)
theorem wd_184 : Cond.fieldLink RX10 167 "BowlShelf$Standing" "cost" "I" ∈ WALL := wl_in (by decide +kernel) (by decide +kernel)
theorem wd_185 : Cond.fieldLink RX10 281 "BowlShelf$Standing" "askings" "I" ∈ WALL := wl_in (by decide +kernel) (by decide +kernel)
theorem dX9_isWare_0 : decode cX9_isWare 0 = .ok (.iload_n 1, 1) := by decide +kernel
theorem dX9_isWare_1 : decode cX9_isWare 1 = .ok (.ifCond .lt 15, 3) := by decide +kernel
theorem dX9_isWare_4 : decode cX9_isWare 4 = .ok (.iload_n 1, 1) := by decide +kernel
theorem dX9_isWare_5 : decode cX9_isWare 5 = .ok (.aload_n 0, 1) := by decide +kernel
theorem dX9_isWare_6 : decode cX9_isWare 6 = .ok (.getfield 42, 3) := by decide +kernel
theorem dX9_isWare_9 : decode cX9_isWare 9 = .ok (.if_icmp .ge 7, 3) := by decide +kernel
theorem dX9_isWare_16 : decode cX9_isWare 16 = .ok (.iconst 0, 1) := by decide +kernel
theorem dX9_isWare_17 : decode cX9_isWare 17 = .ok (.ireturn, 1) := by decide +kernel
theorem dX9_isShelf_0 : decode cX9_isShelf 0 = .ok (.iload_n 1, 1) := by decide +kernel
theorem dX9_isShelf_1 : decode cX9_isShelf 1 = .ok (.ifCond .lt 15, 3) := by decide +kernel
theorem dX9_isShelf_4 : decode cX9_isShelf 4 = .ok (.iload_n 1, 1) := by decide +kernel
theorem dX9_isShelf_5 : decode cX9_isShelf 5 = .ok (.aload_n 0, 1) := by decide +kernel
theorem dX9_isShelf_6 : decode cX9_isShelf 6 = .ok (.getfield 46, 3) := by decide +kernel
theorem dX9_isShelf_9 : decode cX9_isShelf 9 = .ok (.if_icmp .ge 7, 3) := by decide +kernel
theorem dX9_isShelf_16 : decode cX9_isShelf 16 = .ok (.iconst 0, 1) := by decide +kernel
theorem dX9_isShelf_17 : decode cX9_isShelf 17 = .ok (.ireturn, 1) := by decide +kernel
theorem dX10_isStack_0 : decode cX10_isStack 0 = .ok (.aload_n 0, 1) := by decide +kernel
theorem dX10_isStack_1 : decode cX10_isStack 1 = .ok (.getfield 19, 3) := by decide +kernel
theorem dX10_isStack_4 : decode cX10_isStack 4 = .ok (.iload_n 1, 1) := by decide +kernel
theorem dX10_isStack_5 : decode cX10_isStack 5 = .ok (.invokevirtual 141, 3) := by decide +kernel
theorem dX10_isStack_8 : decode cX10_isStack 8 = .ok (.ifCond .eq 23, 3) := by decide +kernel
theorem dX10_isStack_31 : decode cX10_isStack 31 = .ok (.iconst 0, 1) := by decide +kernel
theorem dX10_isStack_32 : decode cX10_isStack 32 = .ok (.ireturn, 1) := by decide +kernel
theorem dX10_ware_0 : decode cX10_ware 0 = .ok (.aload_n 0, 1) := by decide +kernel
theorem dX10_ware_1 : decode cX10_ware 1 = .ok (.getfield 19, 3) := by decide +kernel
theorem dX10_ware_4 : decode cX10_ware 4 = .ok (.iload_n 1, 1) := by decide +kernel
theorem dX10_ware_5 : decode cX10_ware 5 = .ok (.invokevirtual 112, 3) := by decide +kernel
theorem dX10_ware_8 : decode cX10_ware 8 = .ok (.ifCond .ne 5, 3) := by decide +kernel
theorem dX10_ware_11 : decode cX10_ware 11 = .ok (.iconst (-1), 1) := by decide +kernel
theorem dX10_ware_12 : decode cX10_ware 12 = .ok (.ireturn, 1) := by decide +kernel
theorem dX10_shelf_0 : decode cX10_shelf 0 = .ok (.aload_n 0, 1) := by decide +kernel
theorem dX10_shelf_1 : decode cX10_shelf 1 = .ok (.getfield 19, 3) := by decide +kernel
theorem dX10_shelf_4 : decode cX10_shelf 4 = .ok (.iload_n 1, 1) := by decide +kernel
theorem dX10_shelf_5 : decode cX10_shelf 5 = .ok (.invokevirtual 141, 3) := by decide +kernel
theorem dX10_shelf_8 : decode cX10_shelf 8 = .ok (.ifCond .ne 5, 3) := by decide +kernel
theorem dX10_shelf_11 : decode cX10_shelf 11 = .ok (.iconst (-1), 1) := by decide +kernel
theorem dX10_shelf_12 : decode cX10_shelf 12 = .ok (.ireturn, 1) := by decide +kernel
theorem dX10_may_0 : decode cX10_may 0 = .ok (.aload_n 0, 1) := by decide +kernel
theorem dX10_may_1 : decode cX10_may 1 = .ok (.getfield 19, 3) := by decide +kernel
theorem dX10_may_4 : decode cX10_may 4 = .ok (.iload_n 1, 1) := by decide +kernel
theorem dX10_may_5 : decode cX10_may 5 = .ok (.invokevirtual 112, 3) := by decide +kernel
theorem dX10_may_8 : decode cX10_may 8 = .ok (.ifCond .eq 19, 3) := by decide +kernel
theorem dX10_may_27 : decode cX10_may 27 = .ok (.iconst (-1), 1) := by decide +kernel
theorem dX10_may_28 : decode cX10_may 28 = .ok (.ireturn, 1) := by decide +kernel
theorem dX10_put_0 : decode cX10_put 0 = .ok (.aload_n 0, 1) := by decide +kernel
theorem dX10_put_1 : decode cX10_put 1 = .ok (.getfield 19, 3) := by decide +kernel
theorem dX10_put_4 : decode cX10_put 4 = .ok (.iload_n 1, 1) := by decide +kernel
theorem dX10_put_5 : decode cX10_put 5 = .ok (.invokevirtual 112, 3) := by decide +kernel
theorem dX10_put_8 : decode cX10_put 8 = .ok (.ifCond .eq 14, 3) := by decide +kernel
theorem dX10_put_22 : decode cX10_put 22 = .ok (.iconst 1, 1) := by decide +kernel
theorem dX10_put_23 : decode cX10_put 23 = .ok (.ireturn, 1) := by decide +kernel
theorem dX10_draw_0 : decode cX10_draw 0 = .ok (.aload_n 0, 1) := by decide +kernel
theorem dX10_draw_1 : decode cX10_draw 1 = .ok (.getfield 19, 3) := by decide +kernel
theorem dX10_draw_4 : decode cX10_draw 4 = .ok (.iload_n 1, 1) := by decide +kernel
theorem dX10_draw_5 : decode cX10_draw 5 = .ok (.invokevirtual 112, 3) := by decide +kernel
theorem dX10_draw_8 : decode cX10_draw 8 = .ok (.ifCond .ne 5, 3) := by decide +kernel
theorem dX10_draw_11 : decode cX10_draw 11 = .ok (.iconst 1, 1) := by decide +kernel
theorem dX10_draw_12 : decode cX10_draw 12 = .ok (.ireturn, 1) := by decide +kernel
theorem dX10_carry_0 : decode cX10_carry 0 = .ok (.aload_n 0, 1) := by decide +kernel
theorem dX10_carry_1 : decode cX10_carry 1 = .ok (.iload_n 1, 1) := by decide +kernel
theorem dX10_carry_2 : decode cX10_carry 2 = .ok (.iload_n 2, 1) := by decide +kernel
theorem dX10_carry_3 : decode cX10_carry 3 = .ok (.invokevirtual 198, 3) := by decide +kernel
theorem dX10_carry_6 : decode cX10_carry 6 = .ok (.ifCond .eq 19, 3) := by decide +kernel
theorem dX10_carry_25 : decode cX10_carry 25 = .ok (.iconst 1, 1) := by decide +kernel
theorem dX10_carry_26 : decode cX10_carry 26 = .ok (.ireturn, 1) := by decide +kernel
theorem dX10_where_0 : decode cX10_where 0 = .ok (.aload_n 0, 1) := by decide +kernel
theorem dX10_where_1 : decode cX10_where 1 = .ok (.getfield 19, 3) := by decide +kernel
theorem dX10_where_4 : decode cX10_where 4 = .ok (.iload_n 1, 1) := by decide +kernel
theorem dX10_where_5 : decode cX10_where 5 = .ok (.invokevirtual 112, 3) := by decide +kernel
theorem dX10_where_8 : decode cX10_where 8 = .ok (.ifCond .eq 14, 3) := by decide +kernel
theorem dX10_where_22 : decode cX10_where 22 = .ok (.iconst (-1), 1) := by decide +kernel
theorem dX10_where_23 : decode cX10_where 23 = .ok (.ireturn, 1) := by decide +kernel
theorem dX10_at_0 : decode cX10_at 0 = .ok (.aload_n 0, 1) := by decide +kernel
theorem dX10_at_1 : decode cX10_at 1 = .ok (.iload_n 1, 1) := by decide +kernel
theorem dX10_at_2 : decode cX10_at 2 = .ok (.iload_n 2, 1) := by decide +kernel
theorem dX10_at_3 : decode cX10_at 3 = .ok (.invokevirtual 198, 3) := by decide +kernel
theorem dX10_at_6 : decode cX10_at 6 = .ok (.ifCond .ne 5, 3) := by decide +kernel
theorem dX10_at_9 : decode cX10_at 9 = .ok (.iconst (-1), 1) := by decide +kernel
theorem dX10_at_10 : decode cX10_at 10 = .ok (.ireturn, 1) := by decide +kernel
theorem dX10_stack_0 : decode cX10_stack 0 = .ok (.aload_n 0, 1) := by decide +kernel
theorem dX10_stack_1 : decode cX10_stack 1 = .ok (.iload_n 1, 1) := by decide +kernel
theorem dX10_stack_2 : decode cX10_stack 2 = .ok (.iload_n 2, 1) := by decide +kernel
theorem dX10_stack_3 : decode cX10_stack 3 = .ok (.invokevirtual 198, 3) := by decide +kernel
theorem dX10_stack_6 : decode cX10_stack 6 = .ok (.ifCond .ne 5, 3) := by decide +kernel
theorem dX10_stack_9 : decode cX10_stack 9 = .ok (.iconst (-1), 1) := by decide +kernel
theorem dX10_stack_10 : decode cX10_stack 10 = .ok (.ireturn, 1) := by decide +kernel
theorem dX10_lift_0 : decode cX10_lift 0 = .ok (.aload_n 0, 1) := by decide +kernel
theorem dX10_lift_1 : decode cX10_lift 1 = .ok (.getfield 19, 3) := by decide +kernel
theorem dX10_lift_4 : decode cX10_lift 4 = .ok (.iload_n 1, 1) := by decide +kernel
theorem dX10_lift_5 : decode cX10_lift 5 = .ok (.invokevirtual 112, 3) := by decide +kernel
theorem dX10_lift_8 : decode cX10_lift 8 = .ok (.ifCond .eq 26, 3) := by decide +kernel
theorem dX10_lift_34 : decode cX10_lift 34 = .ok (.iconst (-1), 1) := by decide +kernel
theorem dX10_lift_35 : decode cX10_lift 35 = .ok (.ireturn, 1) := by decide +kernel
theorem dX10_cost_0 : decode cX10_cost 0 = .ok (.aload_n 0, 1) := by decide +kernel
theorem dX10_cost_1 : decode cX10_cost 1 = .ok (.getfield 26, 3) := by decide +kernel
theorem dX10_cost_4 : decode cX10_cost 4 = .ok (.getfield 167, 3) := by decide +kernel
theorem dX10_cost_7 : decode cX10_cost 7 = .ok (.ireturn, 1) := by decide +kernel
theorem dX10_through_0 : decode cX10_through 0 = .ok (.aload_n 0, 1) := by decide +kernel
theorem dX10_through_1 : decode cX10_through 1 = .ok (.getfield 19, 3) := by decide +kernel
theorem dX10_through_4 : decode cX10_through 4 = .ok (.iload_n 1, 1) := by decide +kernel
theorem dX10_through_5 : decode cX10_through 5 = .ok (.invokevirtual 112, 3) := by decide +kernel
theorem dX10_through_8 : decode cX10_through 8 = .ok (.ifCond .eq 14, 3) := by decide +kernel
theorem dX10_through_22 : decode cX10_through 22 = .ok (.iconst (-1), 1) := by decide +kernel
theorem dX10_through_23 : decode cX10_through 23 = .ok (.ireturn, 1) := by decide +kernel
theorem dX10_rowOf_0 : decode cX10_rowOf 0 = .ok (.aload_n 0, 1) := by decide +kernel
theorem dX10_rowOf_1 : decode cX10_rowOf 1 = .ok (.getfield 19, 3) := by decide +kernel
theorem dX10_rowOf_4 : decode cX10_rowOf 4 = .ok (.iload_n 1, 1) := by decide +kernel
theorem dX10_rowOf_5 : decode cX10_rowOf 5 = .ok (.invokevirtual 112, 3) := by decide +kernel
theorem dX10_rowOf_8 : decode cX10_rowOf 8 = .ok (.ifCond .eq 13, 3) := by decide +kernel
theorem dX10_rowOf_21 : decode cX10_rowOf 21 = .ok (.iconst (-1), 1) := by decide +kernel
theorem dX10_rowOf_22 : decode cX10_rowOf 22 = .ok (.ireturn, 1) := by decide +kernel
theorem dX10_goes_0 : decode cX10_goes 0 = .ok (.aload_n 0, 1) := by decide +kernel
theorem dX10_goes_1 : decode cX10_goes 1 = .ok (.getfield 19, 3) := by decide +kernel
theorem dX10_goes_4 : decode cX10_goes 4 = .ok (.iload_n 1, 1) := by decide +kernel
theorem dX10_goes_5 : decode cX10_goes 5 = .ok (.invokevirtual 112, 3) := by decide +kernel
theorem dX10_goes_8 : decode cX10_goes 8 = .ok (.ifCond .eq 14, 3) := by decide +kernel
theorem dX10_goes_22 : decode cX10_goes 22 = .ok (.iconst (-1), 1) := by decide +kernel
theorem dX10_goes_23 : decode cX10_goes 23 = .ok (.ireturn, 1) := by decide +kernel
theorem dX10_ask_0 : decode cX10_ask 0 = .ok (.aload_n 0, 1) := by decide +kernel
theorem dX10_ask_1 : decode cX10_ask 1 = .ok (.getfield 19, 3) := by decide +kernel
theorem dX10_ask_4 : decode cX10_ask 4 = .ok (.iload_n 1, 1) := by decide +kernel
theorem dX10_ask_5 : decode cX10_ask 5 = .ok (.invokevirtual 112, 3) := by decide +kernel
theorem dX10_ask_8 : decode cX10_ask 8 = .ok (.ifCond .eq 15, 3) := by decide +kernel
theorem dX10_ask_23 : decode cX10_ask 23 = .ok (.iconst (-1), 1) := by decide +kernel
theorem dX10_ask_24 : decode cX10_ask 24 = .ok (.ireturn, 1) := by decide +kernel
theorem dX10_clear_0 : decode cX10_clear 0 = .ok (.aload_n 0, 1) := by decide +kernel
theorem dX10_clear_1 : decode cX10_clear 1 = .ok (.getfield 26, 3) := by decide +kernel
theorem dX10_clear_4 : decode cX10_clear 4 = .ok (.iconst 0, 1) := by decide +kernel
theorem dX10_clear_5 : decode cX10_clear 5 = .ok (.putfield 281, 3) := by decide +kernel
theorem dX10_clear_8 : decode cX10_clear 8 = .ok (.iconst 1, 1) := by decide +kernel
theorem dX10_clear_9 : decode cX10_clear 9 = .ok (.ireturn, 1) := by decide +kernel
theorem dX10_asked_0 : decode cX10_asked 0 = .ok (.iconst 0, 1) := by decide +kernel
theorem dX10_asked_1 : decode cX10_asked 1 = .ok (.istore_n 1, 1) := by decide +kernel
theorem dX10_asked_2 : decode cX10_asked 2 = .ok (.iconst 0, 1) := by decide +kernel
theorem dX10_asked_3 : decode cX10_asked 3 = .ok (.istore_n 2, 1) := by decide +kernel
theorem dX10_asked_4 : decode cX10_asked 4 = .ok (.iload_n 2, 1) := by decide +kernel
theorem dX10_asked_5 : decode cX10_asked 5 = .ok (.aload_n 0, 1) := by decide +kernel
theorem dX10_asked_6 : decode cX10_asked 6 = .ok (.getfield 26, 3) := by decide +kernel
theorem dX10_asked_9 : decode cX10_asked 9 = .ok (.getfield 281, 3) := by decide +kernel
theorem dX10_asked_12 : decode cX10_asked 12 = .ok (.if_icmp .ge 42, 3) := by decide +kernel
theorem dX10_asked_54 : decode cX10_asked 54 = .ok (.iload_n 1, 1) := by decide +kernel
theorem dX10_asked_55 : decode cX10_asked 55 = .ok (.ireturn, 1) := by decide +kernel
theorem dX10_best_0 : decode cX10_best 0 = .ok (.aload_n 0, 1) := by decide +kernel
theorem dX10_best_1 : decode cX10_best 1 = .ok (.iload_n 1, 1) := by decide +kernel
theorem dX10_best_2 : decode cX10_best 2 = .ok (.iload_n 2, 1) := by decide +kernel
theorem dX10_best_3 : decode cX10_best 3 = .ok (.invokevirtual 198, 3) := by decide +kernel
theorem dX10_best_6 : decode cX10_best 6 = .ok (.ifCond .ne 5, 3) := by decide +kernel
theorem dX10_best_9 : decode cX10_best 9 = .ok (.iconst (-1), 1) := by decide +kernel
theorem dX10_best_10 : decode cX10_best 10 = .ok (.ireturn, 1) := by decide +kernel
set_option maxHeartbeats 4000000 in
set_option maxRecDepth 100000 in
theorem c_X9_isWare (l : Launch) (D : va_G) (cyC cyI cyJ cyZ cyO : ClassId) (p0 : Int32) (t21 : Nat) (t22 : Nat) (t23 : Nat) (t24 : Nat) (t25 : Nat) (t26 : Nat) (t27 : Nat) (t28 : Nat) (t29 : Nat) (t30 : Nat) (t31 : Nat) : KK l D (TY cyC cyI cyJ cyZ cyO) yX9_isWare cX9_isWare 2 (some .boolean) ({ frames := 0, cells := 0, slots := 0, locals := 0 } : Room) 0 0 [.ref t21, .int p0] [(t21, .inr (9, [.int 0, .int 0, .int 0, .ref t22, .ref t23, .ref t24, .ref t25, .ref t26, .ref t27, .int 0, .int 0, .ref t28, .ref t29, .ref t30, .ref t31]))] (fun u => some (.int 0)) (fun u => True) (fun u => [(t21, .inr (9, [.int 0, .int 0, .int 0, .ref t22, .ref t23, .ref t24, .ref t25, .ref t26, .ref t27, .int 0, .int 0, .ref t28, .ref t29, .ref t30, .ref t31]))]) := by
  refine KK.of (lv0 := [(0, .ref t21), (1, .int p0)]) (by decide) rfl (Nat.le_of_ble_eq_true rfl) ?_
  intro p e s m args below meth c A C hr hk hin
  refine j_iload_n (pc := 0) C dX9_isWare_0 rfl 1 rfl ?_
  refine j_if_lt (pc := 1) (tgt := 16) C dX9_isWare_1 (by decide) (fun c_1 => ?_) (fun c_1 => ?_)
  · skip
    refine j_iconst (pc := 16) (v := 0) C dX9_isWare_16 (by decide) ?_
    exact j_zret (pc := 17) C hr rfl hk (fun i => [].getD i 0, fun _ => 0, fun _ _ => 0) rfl trivial [0] (by decide) rfl (by decide) (by decide) dX9_isWare_17
  · skip
    refine j_iload_n (pc := 4) C dX9_isWare_4 rfl 1 rfl ?_
    refine j_aload_n (pc := 5) C dX9_isWare_5 rfl 0 rfl ?_
    refine j_get (pc := 6) (ci := 9) (v := .int 0) C inw_9 0 rfl rfl 0 (by decide) wd_169 rfl rfl dX9_isWare_6 ?_
    refine j_icmp_ge_t (pc := 9) (tgt := 16) C dX9_isWare_9 (by decide) (br_ltf_ge c_1) ?_
    refine j_iconst (pc := 16) (v := 0) C dX9_isWare_16 (by decide) ?_
    exact j_zret (pc := 17) C hr rfl hk (fun i => [].getD i 0, fun _ => 0, fun _ _ => 0) rfl trivial [0] (by decide) rfl (by decide) (by decide) dX9_isWare_17
set_option maxHeartbeats 4000000 in
set_option maxRecDepth 100000 in
theorem c_X9_isShelf (l : Launch) (D : va_G) (cyC cyI cyJ cyZ cyO : ClassId) (p0 : Int32) (t21 : Nat) (t22 : Nat) (t23 : Nat) (t24 : Nat) (t25 : Nat) (t26 : Nat) (t27 : Nat) (t28 : Nat) (t29 : Nat) (t30 : Nat) (t31 : Nat) : KK l D (TY cyC cyI cyJ cyZ cyO) yX9_isShelf cX9_isShelf 2 (some .boolean) ({ frames := 0, cells := 0, slots := 0, locals := 0 } : Room) 0 0 [.ref t21, .int p0] [(t21, .inr (9, [.int 0, .int 0, .int 0, .ref t22, .ref t23, .ref t24, .ref t25, .ref t26, .ref t27, .int 0, .int 0, .ref t28, .ref t29, .ref t30, .ref t31]))] (fun u => some (.int 0)) (fun u => True) (fun u => [(t21, .inr (9, [.int 0, .int 0, .int 0, .ref t22, .ref t23, .ref t24, .ref t25, .ref t26, .ref t27, .int 0, .int 0, .ref t28, .ref t29, .ref t30, .ref t31]))]) := by
  refine KK.of (lv0 := [(0, .ref t21), (1, .int p0)]) (by decide) rfl (Nat.le_of_ble_eq_true rfl) ?_
  intro p e s m args below meth c A C hr hk hin
  refine j_iload_n (pc := 0) C dX9_isShelf_0 rfl 1 rfl ?_
  refine j_if_lt (pc := 1) (tgt := 16) C dX9_isShelf_1 (by decide) (fun c_1 => ?_) (fun c_1 => ?_)
  · skip
    refine j_iconst (pc := 16) (v := 0) C dX9_isShelf_16 (by decide) ?_
    exact j_zret (pc := 17) C hr rfl hk (fun i => [].getD i 0, fun _ => 0, fun _ _ => 0) rfl trivial [0] (by decide) rfl (by decide) (by decide) dX9_isShelf_17
  · skip
    refine j_iload_n (pc := 4) C dX9_isShelf_4 rfl 1 rfl ?_
    refine j_aload_n (pc := 5) C dX9_isShelf_5 rfl 0 rfl ?_
    refine j_get (pc := 6) (ci := 9) (v := .int 0) C inw_9 0 rfl rfl 1 (by decide) wd_170 rfl rfl dX9_isShelf_6 ?_
    refine j_icmp_ge_t (pc := 9) (tgt := 16) C dX9_isShelf_9 (by decide) (br_ltf_ge c_1) ?_
    refine j_iconst (pc := 16) (v := 0) C dX9_isShelf_16 (by decide) ?_
    exact j_zret (pc := 17) C hr rfl hk (fun i => [].getD i 0, fun _ => 0, fun _ _ => 0) rfl trivial [0] (by decide) rfl (by decide) (by decide) dX9_isShelf_17
set_option maxHeartbeats 4000000 in
set_option maxRecDepth 100000 in
theorem c_X10_isStack (l : Launch) (D : va_G) (cyC cyI cyJ cyZ cyO : ClassId) (p0 : Int32) (p1 : Int32) (t0 : Nat) (t1 : Nat) (t21 : Nat) (t32 : Nat) (t37 : Nat) (t42 : Nat) (t43 : Nat) (t45 : Nat) (t50 : Nat) (t54 : Nat) (t58 : Nat) (t22 : Nat) (t23 : Nat) (t24 : Nat) (t25 : Nat) (t26 : Nat) (t27 : Nat) (t28 : Nat) (t29 : Nat) (t30 : Nat) (t31 : Nat) : KK l D (TY cyC cyI cyJ cyZ cyO) yX10_isStack cX10_isStack 3 (some .boolean) ({ frames := 1, cells := 0, slots := 0, locals := 21 } : Room) 0 0 [.ref t0, .int p0, .int p1] [(t0, .inr (10, [.ref t1, .ref t21, .ref t32, .ref t37, .ref t42, .ref t43, .ref t45, .ref t50, .ref t54, .ref t58])), (t21, .inr (9, [.int 0, .int 0, .int 0, .ref t22, .ref t23, .ref t24, .ref t25, .ref t26, .ref t27, .int 0, .int 0, .ref t28, .ref t29, .ref t30, .ref t31]))] (fun u => some (.int 0)) (fun u => True) (fun u => [(t0, .inr (10, [.ref t1, .ref t21, .ref t32, .ref t37, .ref t42, .ref t43, .ref t45, .ref t50, .ref t54, .ref t58])), (t21, .inr (9, [.int 0, .int 0, .int 0, .ref t22, .ref t23, .ref t24, .ref t25, .ref t26, .ref t27, .int 0, .int 0, .ref t28, .ref t29, .ref t30, .ref t31]))]) := by
  refine KK.of (lv0 := [(0, .ref t0), (1, .int p0), (2, .int p1)]) (by decide) rfl (Nat.le_of_ble_eq_true rfl) ?_
  intro p e s m args below meth c A C hr hk hin
  refine j_aload_n (pc := 0) C dX10_isStack_0 rfl 0 rfl ?_
  refine j_get (pc := 1) (ci := 10) (v := .ref t21) C inw_10 0 rfl rfl 1 (by decide) wd_77 rfl rfl dX10_isStack_1 ?_
  refine j_iload_n (pc := 4) C dX10_isStack_4 rfl 1 rfl ?_
  refine j_callV (pc := 5) (As := [.int p0]) (rest := []) (wr := [(t0, .inr (10, [.ref t1, .ref t21, .ref t32, .ref t37, .ref t42, .ref t43, .ref t45, .ref t50, .ref t54, .ref t58]))]) C (c_X9_isShelf l D cyC cyI cyJ cyZ cyO p0 t21 t22 t23 t24 t25 t26 t27 t28 t29 t30 t31) wd_171 wd_39 wd_172 wd_173 wd_174 ⟨by decide, by decide, rfl⟩ rfl ⟨rfl, rfl, by decide, by decide⟩ ⟨by decide, by decide⟩ [1] [0] rfl rfl ⟨by decide, by decide, by decide⟩ 1 rfl rfl rfl (Nat.le_of_ble_eq_true rfl) dX10_isStack_5 (fun u_1 hw_2 => ?_)
  refine j_eq (ws2 := [(t0, .inr (10, [.ref t1, .ref t21, .ref t32, .ref t37, .ref t42, .ref t43, .ref t45, .ref t50, .ref t54, .ref t58])), (t21, .inr (9, [.int 0, .int 0, .int 0, .ref t22, .ref t23, .ref t24, .ref t25, .ref t26, .ref t27, .int 0, .int 0, .ref t28, .ref t29, .ref t30, .ref t31]))]) (pc2 := 8) (lv2 := [(0, .ref t0), (1, .int p0), (2, .int p1)]) (st2 := [.int 0]) rfl rfl rfl rfl ?_
  refine j_if_eq_t (pc := 8) (tgt := 31) C dX10_isStack_8 (by decide) (by decide) ?_
  refine j_iconst (pc := 31) (v := 0) C dX10_isStack_31 (by decide) ?_
  exact j_zret (pc := 32) C hr rfl hk (fun i => [].getD i 0, fun _ => 0, fun _ _ => 0) rfl trivial [0, 1] (by decide) rfl (by decide) (by decide) dX10_isStack_32
set_option maxHeartbeats 4000000 in
set_option maxRecDepth 100000 in
theorem c_X10_ware (l : Launch) (D : va_G) (cyC cyI cyJ cyZ cyO : ClassId) (p0 : Int32) (p1 : Int32) (t0 : Nat) (t1 : Nat) (t21 : Nat) (t32 : Nat) (t37 : Nat) (t42 : Nat) (t43 : Nat) (t45 : Nat) (t50 : Nat) (t54 : Nat) (t58 : Nat) (t22 : Nat) (t23 : Nat) (t24 : Nat) (t25 : Nat) (t26 : Nat) (t27 : Nat) (t28 : Nat) (t29 : Nat) (t30 : Nat) (t31 : Nat) : KK l D (TY cyC cyI cyJ cyZ cyO) yX10_ware cX10_ware 3 (some .int) ({ frames := 1, cells := 0, slots := 0, locals := 21 } : Room) 0 0 [.ref t0, .int p0, .int p1] [(t0, .inr (10, [.ref t1, .ref t21, .ref t32, .ref t37, .ref t42, .ref t43, .ref t45, .ref t50, .ref t54, .ref t58])), (t21, .inr (9, [.int 0, .int 0, .int 0, .ref t22, .ref t23, .ref t24, .ref t25, .ref t26, .ref t27, .int 0, .int 0, .ref t28, .ref t29, .ref t30, .ref t31]))] (fun u => some (.int (-1))) (fun u => True) (fun u => []) := by
  refine KK.of (lv0 := [(0, .ref t0), (1, .int p0), (2, .int p1)]) (by decide) rfl (Nat.le_of_ble_eq_true rfl) ?_
  intro p e s m args below meth c A C hr hk hin
  refine j_aload_n (pc := 0) C dX10_ware_0 rfl 0 rfl ?_
  refine j_get (pc := 1) (ci := 10) (v := .ref t21) C inw_10 0 rfl rfl 1 (by decide) wd_77 rfl rfl dX10_ware_1 ?_
  refine j_iload_n (pc := 4) C dX10_ware_4 rfl 1 rfl ?_
  refine j_callV (pc := 5) (As := [.int p0]) (rest := []) (wr := [(t0, .inr (10, [.ref t1, .ref t21, .ref t32, .ref t37, .ref t42, .ref t43, .ref t45, .ref t50, .ref t54, .ref t58]))]) C (c_X9_isWare l D cyC cyI cyJ cyZ cyO p0 t21 t22 t23 t24 t25 t26 t27 t28 t29 t30 t31) wd_175 wd_39 wd_176 wd_177 wd_178 ⟨by decide, by decide, rfl⟩ rfl ⟨rfl, rfl, by decide, by decide⟩ ⟨by decide, by decide⟩ [1] [0] rfl rfl ⟨by decide, by decide, by decide⟩ 1 rfl rfl rfl (Nat.le_of_ble_eq_true rfl) dX10_ware_5 (fun u_1 hw_2 => ?_)
  refine j_eq (ws2 := [(t0, .inr (10, [.ref t1, .ref t21, .ref t32, .ref t37, .ref t42, .ref t43, .ref t45, .ref t50, .ref t54, .ref t58])), (t21, .inr (9, [.int 0, .int 0, .int 0, .ref t22, .ref t23, .ref t24, .ref t25, .ref t26, .ref t27, .int 0, .int 0, .ref t28, .ref t29, .ref t30, .ref t31]))]) (pc2 := 8) (lv2 := [(0, .ref t0), (1, .int p0), (2, .int p1)]) (st2 := [.int 0]) rfl rfl rfl rfl ?_
  refine j_if_ne_f (pc := 8) (tgt := 13) C dX10_ware_8 (by decide) (by decide) ?_
  refine j_iconst (pc := 11) (v := (-1)) C dX10_ware_11 (by decide) ?_
  exact j_iret (pc := 12) C hr hk (fun i => [].getD i 0, fun _ => 0, fun _ _ => 0) rfl trivial [] (by decide) rfl (by decide) (by decide) dX10_ware_12
set_option maxHeartbeats 4000000 in
set_option maxRecDepth 100000 in
theorem c_X10_shelf (l : Launch) (D : va_G) (cyC cyI cyJ cyZ cyO : ClassId) (p0 : Int32) (p1 : Int32) (t0 : Nat) (t1 : Nat) (t21 : Nat) (t32 : Nat) (t37 : Nat) (t42 : Nat) (t43 : Nat) (t45 : Nat) (t50 : Nat) (t54 : Nat) (t58 : Nat) (t22 : Nat) (t23 : Nat) (t24 : Nat) (t25 : Nat) (t26 : Nat) (t27 : Nat) (t28 : Nat) (t29 : Nat) (t30 : Nat) (t31 : Nat) : KK l D (TY cyC cyI cyJ cyZ cyO) yX10_shelf cX10_shelf 3 (some .int) ({ frames := 1, cells := 0, slots := 0, locals := 21 } : Room) 0 0 [.ref t0, .int p0, .int p1] [(t0, .inr (10, [.ref t1, .ref t21, .ref t32, .ref t37, .ref t42, .ref t43, .ref t45, .ref t50, .ref t54, .ref t58])), (t21, .inr (9, [.int 0, .int 0, .int 0, .ref t22, .ref t23, .ref t24, .ref t25, .ref t26, .ref t27, .int 0, .int 0, .ref t28, .ref t29, .ref t30, .ref t31]))] (fun u => some (.int (-1))) (fun u => True) (fun u => []) := by
  refine KK.of (lv0 := [(0, .ref t0), (1, .int p0), (2, .int p1)]) (by decide) rfl (Nat.le_of_ble_eq_true rfl) ?_
  intro p e s m args below meth c A C hr hk hin
  refine j_aload_n (pc := 0) C dX10_shelf_0 rfl 0 rfl ?_
  refine j_get (pc := 1) (ci := 10) (v := .ref t21) C inw_10 0 rfl rfl 1 (by decide) wd_77 rfl rfl dX10_shelf_1 ?_
  refine j_iload_n (pc := 4) C dX10_shelf_4 rfl 1 rfl ?_
  refine j_callV (pc := 5) (As := [.int p0]) (rest := []) (wr := [(t0, .inr (10, [.ref t1, .ref t21, .ref t32, .ref t37, .ref t42, .ref t43, .ref t45, .ref t50, .ref t54, .ref t58]))]) C (c_X9_isShelf l D cyC cyI cyJ cyZ cyO p0 t21 t22 t23 t24 t25 t26 t27 t28 t29 t30 t31) wd_171 wd_39 wd_172 wd_173 wd_174 ⟨by decide, by decide, rfl⟩ rfl ⟨rfl, rfl, by decide, by decide⟩ ⟨by decide, by decide⟩ [1] [0] rfl rfl ⟨by decide, by decide, by decide⟩ 1 rfl rfl rfl (Nat.le_of_ble_eq_true rfl) dX10_shelf_5 (fun u_1 hw_2 => ?_)
  refine j_eq (ws2 := [(t0, .inr (10, [.ref t1, .ref t21, .ref t32, .ref t37, .ref t42, .ref t43, .ref t45, .ref t50, .ref t54, .ref t58])), (t21, .inr (9, [.int 0, .int 0, .int 0, .ref t22, .ref t23, .ref t24, .ref t25, .ref t26, .ref t27, .int 0, .int 0, .ref t28, .ref t29, .ref t30, .ref t31]))]) (pc2 := 8) (lv2 := [(0, .ref t0), (1, .int p0), (2, .int p1)]) (st2 := [.int 0]) rfl rfl rfl rfl ?_
  refine j_if_ne_f (pc := 8) (tgt := 13) C dX10_shelf_8 (by decide) (by decide) ?_
  refine j_iconst (pc := 11) (v := (-1)) C dX10_shelf_11 (by decide) ?_
  exact j_iret (pc := 12) C hr hk (fun i => [].getD i 0, fun _ => 0, fun _ _ => 0) rfl trivial [] (by decide) rfl (by decide) (by decide) dX10_shelf_12
set_option maxHeartbeats 4000000 in
set_option maxRecDepth 100000 in
theorem c_X10_may (l : Launch) (D : va_G) (cyC cyI cyJ cyZ cyO : ClassId) (p0 : Int32) (p1 : Int32) (t0 : Nat) (t1 : Nat) (t21 : Nat) (t32 : Nat) (t37 : Nat) (t42 : Nat) (t43 : Nat) (t45 : Nat) (t50 : Nat) (t54 : Nat) (t58 : Nat) (t22 : Nat) (t23 : Nat) (t24 : Nat) (t25 : Nat) (t26 : Nat) (t27 : Nat) (t28 : Nat) (t29 : Nat) (t30 : Nat) (t31 : Nat) : KK l D (TY cyC cyI cyJ cyZ cyO) yX10_may cX10_may 3 (some .int) ({ frames := 1, cells := 0, slots := 0, locals := 21 } : Room) 0 0 [.ref t0, .int p0, .int p1] [(t0, .inr (10, [.ref t1, .ref t21, .ref t32, .ref t37, .ref t42, .ref t43, .ref t45, .ref t50, .ref t54, .ref t58])), (t21, .inr (9, [.int 0, .int 0, .int 0, .ref t22, .ref t23, .ref t24, .ref t25, .ref t26, .ref t27, .int 0, .int 0, .ref t28, .ref t29, .ref t30, .ref t31]))] (fun u => some (.int (-1))) (fun u => True) (fun u => []) := by
  refine KK.of (lv0 := [(0, .ref t0), (1, .int p0), (2, .int p1)]) (by decide) rfl (Nat.le_of_ble_eq_true rfl) ?_
  intro p e s m args below meth c A C hr hk hin
  refine j_aload_n (pc := 0) C dX10_may_0 rfl 0 rfl ?_
  refine j_get (pc := 1) (ci := 10) (v := .ref t21) C inw_10 0 rfl rfl 1 (by decide) wd_77 rfl rfl dX10_may_1 ?_
  refine j_iload_n (pc := 4) C dX10_may_4 rfl 1 rfl ?_
  refine j_callV (pc := 5) (As := [.int p0]) (rest := []) (wr := [(t0, .inr (10, [.ref t1, .ref t21, .ref t32, .ref t37, .ref t42, .ref t43, .ref t45, .ref t50, .ref t54, .ref t58]))]) C (c_X9_isWare l D cyC cyI cyJ cyZ cyO p0 t21 t22 t23 t24 t25 t26 t27 t28 t29 t30 t31) wd_175 wd_39 wd_176 wd_177 wd_178 ⟨by decide, by decide, rfl⟩ rfl ⟨rfl, rfl, by decide, by decide⟩ ⟨by decide, by decide⟩ [1] [0] rfl rfl ⟨by decide, by decide, by decide⟩ 1 rfl rfl rfl (Nat.le_of_ble_eq_true rfl) dX10_may_5 (fun u_1 hw_2 => ?_)
  refine j_eq (ws2 := [(t0, .inr (10, [.ref t1, .ref t21, .ref t32, .ref t37, .ref t42, .ref t43, .ref t45, .ref t50, .ref t54, .ref t58])), (t21, .inr (9, [.int 0, .int 0, .int 0, .ref t22, .ref t23, .ref t24, .ref t25, .ref t26, .ref t27, .int 0, .int 0, .ref t28, .ref t29, .ref t30, .ref t31]))]) (pc2 := 8) (lv2 := [(0, .ref t0), (1, .int p0), (2, .int p1)]) (st2 := [.int 0]) rfl rfl rfl rfl ?_
  refine j_if_eq_t (pc := 8) (tgt := 27) C dX10_may_8 (by decide) (by decide) ?_
  refine j_iconst (pc := 27) (v := (-1)) C dX10_may_27 (by decide) ?_
  exact j_iret (pc := 28) C hr hk (fun i => [].getD i 0, fun _ => 0, fun _ _ => 0) rfl trivial [] (by decide) rfl (by decide) (by decide) dX10_may_28
set_option maxHeartbeats 4000000 in
set_option maxRecDepth 100000 in
theorem c_X10_put (l : Launch) (D : va_G) (cyC cyI cyJ cyZ cyO : ClassId) (p0 : Int32) (p1 : Int32) (p2 : Int32) (t0 : Nat) (t1 : Nat) (t21 : Nat) (t32 : Nat) (t37 : Nat) (t42 : Nat) (t43 : Nat) (t45 : Nat) (t50 : Nat) (t54 : Nat) (t58 : Nat) (t22 : Nat) (t23 : Nat) (t24 : Nat) (t25 : Nat) (t26 : Nat) (t27 : Nat) (t28 : Nat) (t29 : Nat) (t30 : Nat) (t31 : Nat) : KK l D (TY cyC cyI cyJ cyZ cyO) yX10_put cX10_put 7 (some .int) ({ frames := 1, cells := 0, slots := 0, locals := 21 } : Room) 0 0 [.ref t0, .int p0, .int p1, .int p2] [(t0, .inr (10, [.ref t1, .ref t21, .ref t32, .ref t37, .ref t42, .ref t43, .ref t45, .ref t50, .ref t54, .ref t58])), (t21, .inr (9, [.int 0, .int 0, .int 0, .ref t22, .ref t23, .ref t24, .ref t25, .ref t26, .ref t27, .int 0, .int 0, .ref t28, .ref t29, .ref t30, .ref t31]))] (fun u => some (.int 1)) (fun u => True) (fun u => []) := by
  refine KK.of (lv0 := [(0, .ref t0), (1, .int p0), (2, .int p1), (3, .int p2)]) (by decide) rfl (Nat.le_of_ble_eq_true rfl) ?_
  intro p e s m args below meth c A C hr hk hin
  refine j_aload_n (pc := 0) C dX10_put_0 rfl 0 rfl ?_
  refine j_get (pc := 1) (ci := 10) (v := .ref t21) C inw_10 0 rfl rfl 1 (by decide) wd_77 rfl rfl dX10_put_1 ?_
  refine j_iload_n (pc := 4) C dX10_put_4 rfl 1 rfl ?_
  refine j_callV (pc := 5) (As := [.int p0]) (rest := []) (wr := [(t0, .inr (10, [.ref t1, .ref t21, .ref t32, .ref t37, .ref t42, .ref t43, .ref t45, .ref t50, .ref t54, .ref t58]))]) C (c_X9_isWare l D cyC cyI cyJ cyZ cyO p0 t21 t22 t23 t24 t25 t26 t27 t28 t29 t30 t31) wd_175 wd_39 wd_176 wd_177 wd_178 ⟨by decide, by decide, rfl⟩ rfl ⟨rfl, rfl, by decide, by decide⟩ ⟨by decide, by decide⟩ [1] [0] rfl rfl ⟨by decide, by decide, by decide⟩ 1 rfl rfl rfl (Nat.le_of_ble_eq_true rfl) dX10_put_5 (fun u_1 hw_2 => ?_)
  refine j_eq (ws2 := [(t0, .inr (10, [.ref t1, .ref t21, .ref t32, .ref t37, .ref t42, .ref t43, .ref t45, .ref t50, .ref t54, .ref t58])), (t21, .inr (9, [.int 0, .int 0, .int 0, .ref t22, .ref t23, .ref t24, .ref t25, .ref t26, .ref t27, .int 0, .int 0, .ref t28, .ref t29, .ref t30, .ref t31]))]) (pc2 := 8) (lv2 := [(0, .ref t0), (1, .int p0), (2, .int p1), (3, .int p2)]) (st2 := [.int 0]) rfl rfl rfl rfl ?_
  refine j_if_eq_t (pc := 8) (tgt := 22) C dX10_put_8 (by decide) (by decide) ?_
  refine j_iconst (pc := 22) (v := 1) C dX10_put_22 (by decide) ?_
  exact j_iret (pc := 23) C hr hk (fun i => [].getD i 0, fun _ => 0, fun _ _ => 0) rfl trivial [] (by decide) rfl (by decide) (by decide) dX10_put_23
set_option maxHeartbeats 4000000 in
set_option maxRecDepth 100000 in
theorem c_X10_draw (l : Launch) (D : va_G) (cyC cyI cyJ cyZ cyO : ClassId) (p0 : Int32) (t0 : Nat) (t1 : Nat) (t21 : Nat) (t32 : Nat) (t37 : Nat) (t42 : Nat) (t43 : Nat) (t45 : Nat) (t50 : Nat) (t54 : Nat) (t58 : Nat) (t22 : Nat) (t23 : Nat) (t24 : Nat) (t25 : Nat) (t26 : Nat) (t27 : Nat) (t28 : Nat) (t29 : Nat) (t30 : Nat) (t31 : Nat) : KK l D (TY cyC cyI cyJ cyZ cyO) yX10_draw cX10_draw 5 (some .int) ({ frames := 1, cells := 0, slots := 0, locals := 21 } : Room) 0 0 [.ref t0, .int p0] [(t0, .inr (10, [.ref t1, .ref t21, .ref t32, .ref t37, .ref t42, .ref t43, .ref t45, .ref t50, .ref t54, .ref t58])), (t21, .inr (9, [.int 0, .int 0, .int 0, .ref t22, .ref t23, .ref t24, .ref t25, .ref t26, .ref t27, .int 0, .int 0, .ref t28, .ref t29, .ref t30, .ref t31]))] (fun u => some (.int 1)) (fun u => True) (fun u => []) := by
  refine KK.of (lv0 := [(0, .ref t0), (1, .int p0)]) (by decide) rfl (Nat.le_of_ble_eq_true rfl) ?_
  intro p e s m args below meth c A C hr hk hin
  refine j_aload_n (pc := 0) C dX10_draw_0 rfl 0 rfl ?_
  refine j_get (pc := 1) (ci := 10) (v := .ref t21) C inw_10 0 rfl rfl 1 (by decide) wd_77 rfl rfl dX10_draw_1 ?_
  refine j_iload_n (pc := 4) C dX10_draw_4 rfl 1 rfl ?_
  refine j_callV (pc := 5) (As := [.int p0]) (rest := []) (wr := [(t0, .inr (10, [.ref t1, .ref t21, .ref t32, .ref t37, .ref t42, .ref t43, .ref t45, .ref t50, .ref t54, .ref t58]))]) C (c_X9_isWare l D cyC cyI cyJ cyZ cyO p0 t21 t22 t23 t24 t25 t26 t27 t28 t29 t30 t31) wd_175 wd_39 wd_176 wd_177 wd_178 ⟨by decide, by decide, rfl⟩ rfl ⟨rfl, rfl, by decide, by decide⟩ ⟨by decide, by decide⟩ [1] [0] rfl rfl ⟨by decide, by decide, by decide⟩ 1 rfl rfl rfl (Nat.le_of_ble_eq_true rfl) dX10_draw_5 (fun u_1 hw_2 => ?_)
  refine j_eq (ws2 := [(t0, .inr (10, [.ref t1, .ref t21, .ref t32, .ref t37, .ref t42, .ref t43, .ref t45, .ref t50, .ref t54, .ref t58])), (t21, .inr (9, [.int 0, .int 0, .int 0, .ref t22, .ref t23, .ref t24, .ref t25, .ref t26, .ref t27, .int 0, .int 0, .ref t28, .ref t29, .ref t30, .ref t31]))]) (pc2 := 8) (lv2 := [(0, .ref t0), (1, .int p0)]) (st2 := [.int 0]) rfl rfl rfl rfl ?_
  refine j_if_ne_f (pc := 8) (tgt := 13) C dX10_draw_8 (by decide) (by decide) ?_
  refine j_iconst (pc := 11) (v := 1) C dX10_draw_11 (by decide) ?_
  exact j_iret (pc := 12) C hr hk (fun i => [].getD i 0, fun _ => 0, fun _ _ => 0) rfl trivial [] (by decide) rfl (by decide) (by decide) dX10_draw_12
set_option maxHeartbeats 4000000 in
set_option maxRecDepth 100000 in
theorem c_X10_carry (l : Launch) (D : va_G) (cyC cyI cyJ cyZ cyO : ClassId) (p0 : Int32) (p1 : Int32) (p2 : Int32) (t0 : Nat) (t1 : Nat) (t21 : Nat) (t32 : Nat) (t37 : Nat) (t42 : Nat) (t43 : Nat) (t45 : Nat) (t50 : Nat) (t54 : Nat) (t58 : Nat) (t22 : Nat) (t23 : Nat) (t24 : Nat) (t25 : Nat) (t26 : Nat) (t27 : Nat) (t28 : Nat) (t29 : Nat) (t30 : Nat) (t31 : Nat) : KK l D (TY cyC cyI cyJ cyZ cyO) yX10_carry cX10_carry 4 (some .int) ({ frames := 2, cells := 0, slots := 0, locals := 43 } : Room) 0 0 [.ref t0, .int p0, .int p1, .int p2] [(t0, .inr (10, [.ref t1, .ref t21, .ref t32, .ref t37, .ref t42, .ref t43, .ref t45, .ref t50, .ref t54, .ref t58])), (t21, .inr (9, [.int 0, .int 0, .int 0, .ref t22, .ref t23, .ref t24, .ref t25, .ref t26, .ref t27, .int 0, .int 0, .ref t28, .ref t29, .ref t30, .ref t31]))] (fun u => some (.int 1)) (fun u => True) (fun u => []) := by
  refine KK.of (lv0 := [(0, .ref t0), (1, .int p0), (2, .int p1), (3, .int p2)]) (by decide) rfl (Nat.le_of_ble_eq_true rfl) ?_
  intro p e s m args below meth c A C hr hk hin
  refine j_aload_n (pc := 0) C dX10_carry_0 rfl 0 rfl ?_
  refine j_iload_n (pc := 1) C dX10_carry_1 rfl 1 rfl ?_
  refine j_iload_n (pc := 2) C dX10_carry_2 rfl 2 rfl ?_
  refine j_callV (pc := 3) (As := [.int p0, .int p1]) (rest := []) (wr := []) C (c_X10_isStack l D cyC cyI cyJ cyZ cyO p0 p1 t0 t1 t21 t32 t37 t42 t43 t45 t50 t54 t58 t22 t23 t24 t25 t26 t27 t28 t29 t30 t31) wd_179 wd_180 wd_181 wd_182 wd_183 ⟨by decide, by decide, rfl⟩ rfl ⟨rfl, rfl, by decide, by decide⟩ ⟨by decide, by decide⟩ [0, 1] [] rfl rfl ⟨by decide, by decide, by decide⟩ 0 rfl rfl rfl (Nat.le_of_ble_eq_true rfl) dX10_carry_3 (fun u_1 hw_2 => ?_)
  refine j_eq (ws2 := [(t0, .inr (10, [.ref t1, .ref t21, .ref t32, .ref t37, .ref t42, .ref t43, .ref t45, .ref t50, .ref t54, .ref t58])), (t21, .inr (9, [.int 0, .int 0, .int 0, .ref t22, .ref t23, .ref t24, .ref t25, .ref t26, .ref t27, .int 0, .int 0, .ref t28, .ref t29, .ref t30, .ref t31]))]) (pc2 := 6) (lv2 := [(0, .ref t0), (1, .int p0), (2, .int p1), (3, .int p2)]) (st2 := [.int 0]) rfl rfl rfl rfl ?_
  refine j_if_eq_t (pc := 6) (tgt := 25) C dX10_carry_6 (by decide) (by decide) ?_
  refine j_iconst (pc := 25) (v := 1) C dX10_carry_25 (by decide) ?_
  exact j_iret (pc := 26) C hr hk (fun i => [].getD i 0, fun _ => 0, fun _ _ => 0) rfl trivial [] (by decide) rfl (by decide) (by decide) dX10_carry_26
set_option maxHeartbeats 4000000 in
set_option maxRecDepth 100000 in
theorem c_X10_where (l : Launch) (D : va_G) (cyC cyI cyJ cyZ cyO : ClassId) (p0 : Int32) (p1 : Int32) (t0 : Nat) (t1 : Nat) (t21 : Nat) (t32 : Nat) (t37 : Nat) (t42 : Nat) (t43 : Nat) (t45 : Nat) (t50 : Nat) (t54 : Nat) (t58 : Nat) (t22 : Nat) (t23 : Nat) (t24 : Nat) (t25 : Nat) (t26 : Nat) (t27 : Nat) (t28 : Nat) (t29 : Nat) (t30 : Nat) (t31 : Nat) : KK l D (TY cyC cyI cyJ cyZ cyO) yX10_where cX10_where 4 (some .int) ({ frames := 1, cells := 0, slots := 0, locals := 21 } : Room) 0 0 [.ref t0, .int p0, .int p1] [(t0, .inr (10, [.ref t1, .ref t21, .ref t32, .ref t37, .ref t42, .ref t43, .ref t45, .ref t50, .ref t54, .ref t58])), (t21, .inr (9, [.int 0, .int 0, .int 0, .ref t22, .ref t23, .ref t24, .ref t25, .ref t26, .ref t27, .int 0, .int 0, .ref t28, .ref t29, .ref t30, .ref t31]))] (fun u => some (.int (-1))) (fun u => True) (fun u => []) := by
  refine KK.of (lv0 := [(0, .ref t0), (1, .int p0), (2, .int p1)]) (by decide) rfl (Nat.le_of_ble_eq_true rfl) ?_
  intro p e s m args below meth c A C hr hk hin
  refine j_aload_n (pc := 0) C dX10_where_0 rfl 0 rfl ?_
  refine j_get (pc := 1) (ci := 10) (v := .ref t21) C inw_10 0 rfl rfl 1 (by decide) wd_77 rfl rfl dX10_where_1 ?_
  refine j_iload_n (pc := 4) C dX10_where_4 rfl 1 rfl ?_
  refine j_callV (pc := 5) (As := [.int p0]) (rest := []) (wr := [(t0, .inr (10, [.ref t1, .ref t21, .ref t32, .ref t37, .ref t42, .ref t43, .ref t45, .ref t50, .ref t54, .ref t58]))]) C (c_X9_isWare l D cyC cyI cyJ cyZ cyO p0 t21 t22 t23 t24 t25 t26 t27 t28 t29 t30 t31) wd_175 wd_39 wd_176 wd_177 wd_178 ⟨by decide, by decide, rfl⟩ rfl ⟨rfl, rfl, by decide, by decide⟩ ⟨by decide, by decide⟩ [1] [0] rfl rfl ⟨by decide, by decide, by decide⟩ 1 rfl rfl rfl (Nat.le_of_ble_eq_true rfl) dX10_where_5 (fun u_1 hw_2 => ?_)
  refine j_eq (ws2 := [(t0, .inr (10, [.ref t1, .ref t21, .ref t32, .ref t37, .ref t42, .ref t43, .ref t45, .ref t50, .ref t54, .ref t58])), (t21, .inr (9, [.int 0, .int 0, .int 0, .ref t22, .ref t23, .ref t24, .ref t25, .ref t26, .ref t27, .int 0, .int 0, .ref t28, .ref t29, .ref t30, .ref t31]))]) (pc2 := 8) (lv2 := [(0, .ref t0), (1, .int p0), (2, .int p1)]) (st2 := [.int 0]) rfl rfl rfl rfl ?_
  refine j_if_eq_t (pc := 8) (tgt := 22) C dX10_where_8 (by decide) (by decide) ?_
  refine j_iconst (pc := 22) (v := (-1)) C dX10_where_22 (by decide) ?_
  exact j_iret (pc := 23) C hr hk (fun i => [].getD i 0, fun _ => 0, fun _ _ => 0) rfl trivial [] (by decide) rfl (by decide) (by decide) dX10_where_23
set_option maxHeartbeats 4000000 in
set_option maxRecDepth 100000 in
theorem c_X10_at (l : Launch) (D : va_G) (cyC cyI cyJ cyZ cyO : ClassId) (p0 : Int32) (p1 : Int32) (p2 : Int32) (t0 : Nat) (t1 : Nat) (t21 : Nat) (t32 : Nat) (t37 : Nat) (t42 : Nat) (t43 : Nat) (t45 : Nat) (t50 : Nat) (t54 : Nat) (t58 : Nat) (t22 : Nat) (t23 : Nat) (t24 : Nat) (t25 : Nat) (t26 : Nat) (t27 : Nat) (t28 : Nat) (t29 : Nat) (t30 : Nat) (t31 : Nat) : KK l D (TY cyC cyI cyJ cyZ cyO) yX10_at cX10_at 4 (some .int) ({ frames := 2, cells := 0, slots := 0, locals := 43 } : Room) 0 0 [.ref t0, .int p0, .int p1, .int p2] [(t0, .inr (10, [.ref t1, .ref t21, .ref t32, .ref t37, .ref t42, .ref t43, .ref t45, .ref t50, .ref t54, .ref t58])), (t21, .inr (9, [.int 0, .int 0, .int 0, .ref t22, .ref t23, .ref t24, .ref t25, .ref t26, .ref t27, .int 0, .int 0, .ref t28, .ref t29, .ref t30, .ref t31]))] (fun u => some (.int (-1))) (fun u => True) (fun u => []) := by
  refine KK.of (lv0 := [(0, .ref t0), (1, .int p0), (2, .int p1), (3, .int p2)]) (by decide) rfl (Nat.le_of_ble_eq_true rfl) ?_
  intro p e s m args below meth c A C hr hk hin
  refine j_aload_n (pc := 0) C dX10_at_0 rfl 0 rfl ?_
  refine j_iload_n (pc := 1) C dX10_at_1 rfl 1 rfl ?_
  refine j_iload_n (pc := 2) C dX10_at_2 rfl 2 rfl ?_
  refine j_callV (pc := 3) (As := [.int p0, .int p1]) (rest := []) (wr := []) C (c_X10_isStack l D cyC cyI cyJ cyZ cyO p0 p1 t0 t1 t21 t32 t37 t42 t43 t45 t50 t54 t58 t22 t23 t24 t25 t26 t27 t28 t29 t30 t31) wd_179 wd_180 wd_181 wd_182 wd_183 ⟨by decide, by decide, rfl⟩ rfl ⟨rfl, rfl, by decide, by decide⟩ ⟨by decide, by decide⟩ [0, 1] [] rfl rfl ⟨by decide, by decide, by decide⟩ 0 rfl rfl rfl (Nat.le_of_ble_eq_true rfl) dX10_at_3 (fun u_1 hw_2 => ?_)
  refine j_eq (ws2 := [(t0, .inr (10, [.ref t1, .ref t21, .ref t32, .ref t37, .ref t42, .ref t43, .ref t45, .ref t50, .ref t54, .ref t58])), (t21, .inr (9, [.int 0, .int 0, .int 0, .ref t22, .ref t23, .ref t24, .ref t25, .ref t26, .ref t27, .int 0, .int 0, .ref t28, .ref t29, .ref t30, .ref t31]))]) (pc2 := 6) (lv2 := [(0, .ref t0), (1, .int p0), (2, .int p1), (3, .int p2)]) (st2 := [.int 0]) rfl rfl rfl rfl ?_
  refine j_if_ne_f (pc := 6) (tgt := 11) C dX10_at_6 (by decide) (by decide) ?_
  refine j_iconst (pc := 9) (v := (-1)) C dX10_at_9 (by decide) ?_
  exact j_iret (pc := 10) C hr hk (fun i => [].getD i 0, fun _ => 0, fun _ _ => 0) rfl trivial [] (by decide) rfl (by decide) (by decide) dX10_at_10
set_option maxHeartbeats 4000000 in
set_option maxRecDepth 100000 in
theorem c_X10_stack (l : Launch) (D : va_G) (cyC cyI cyJ cyZ cyO : ClassId) (p0 : Int32) (p1 : Int32) (p2 : Int32) (t0 : Nat) (t1 : Nat) (t21 : Nat) (t32 : Nat) (t37 : Nat) (t42 : Nat) (t43 : Nat) (t45 : Nat) (t50 : Nat) (t54 : Nat) (t58 : Nat) (t22 : Nat) (t23 : Nat) (t24 : Nat) (t25 : Nat) (t26 : Nat) (t27 : Nat) (t28 : Nat) (t29 : Nat) (t30 : Nat) (t31 : Nat) : KK l D (TY cyC cyI cyJ cyZ cyO) yX10_stack cX10_stack 4 (some .int) ({ frames := 2, cells := 0, slots := 0, locals := 43 } : Room) 0 0 [.ref t0, .int p0, .int p1, .int p2] [(t0, .inr (10, [.ref t1, .ref t21, .ref t32, .ref t37, .ref t42, .ref t43, .ref t45, .ref t50, .ref t54, .ref t58])), (t21, .inr (9, [.int 0, .int 0, .int 0, .ref t22, .ref t23, .ref t24, .ref t25, .ref t26, .ref t27, .int 0, .int 0, .ref t28, .ref t29, .ref t30, .ref t31]))] (fun u => some (.int (-1))) (fun u => True) (fun u => []) := by
  refine KK.of (lv0 := [(0, .ref t0), (1, .int p0), (2, .int p1), (3, .int p2)]) (by decide) rfl (Nat.le_of_ble_eq_true rfl) ?_
  intro p e s m args below meth c A C hr hk hin
  refine j_aload_n (pc := 0) C dX10_stack_0 rfl 0 rfl ?_
  refine j_iload_n (pc := 1) C dX10_stack_1 rfl 1 rfl ?_
  refine j_iload_n (pc := 2) C dX10_stack_2 rfl 2 rfl ?_
  refine j_callV (pc := 3) (As := [.int p0, .int p1]) (rest := []) (wr := []) C (c_X10_isStack l D cyC cyI cyJ cyZ cyO p0 p1 t0 t1 t21 t32 t37 t42 t43 t45 t50 t54 t58 t22 t23 t24 t25 t26 t27 t28 t29 t30 t31) wd_179 wd_180 wd_181 wd_182 wd_183 ⟨by decide, by decide, rfl⟩ rfl ⟨rfl, rfl, by decide, by decide⟩ ⟨by decide, by decide⟩ [0, 1] [] rfl rfl ⟨by decide, by decide, by decide⟩ 0 rfl rfl rfl (Nat.le_of_ble_eq_true rfl) dX10_stack_3 (fun u_1 hw_2 => ?_)
  refine j_eq (ws2 := [(t0, .inr (10, [.ref t1, .ref t21, .ref t32, .ref t37, .ref t42, .ref t43, .ref t45, .ref t50, .ref t54, .ref t58])), (t21, .inr (9, [.int 0, .int 0, .int 0, .ref t22, .ref t23, .ref t24, .ref t25, .ref t26, .ref t27, .int 0, .int 0, .ref t28, .ref t29, .ref t30, .ref t31]))]) (pc2 := 6) (lv2 := [(0, .ref t0), (1, .int p0), (2, .int p1), (3, .int p2)]) (st2 := [.int 0]) rfl rfl rfl rfl ?_
  refine j_if_ne_f (pc := 6) (tgt := 11) C dX10_stack_6 (by decide) (by decide) ?_
  refine j_iconst (pc := 9) (v := (-1)) C dX10_stack_9 (by decide) ?_
  exact j_iret (pc := 10) C hr hk (fun i => [].getD i 0, fun _ => 0, fun _ _ => 0) rfl trivial [] (by decide) rfl (by decide) (by decide) dX10_stack_10
set_option maxHeartbeats 4000000 in
set_option maxRecDepth 100000 in
theorem c_X10_lift (l : Launch) (D : va_G) (cyC cyI cyJ cyZ cyO : ClassId) (p0 : Int32) (t0 : Nat) (t1 : Nat) (t21 : Nat) (t32 : Nat) (t37 : Nat) (t42 : Nat) (t43 : Nat) (t45 : Nat) (t50 : Nat) (t54 : Nat) (t58 : Nat) (t22 : Nat) (t23 : Nat) (t24 : Nat) (t25 : Nat) (t26 : Nat) (t27 : Nat) (t28 : Nat) (t29 : Nat) (t30 : Nat) (t31 : Nat) : KK l D (TY cyC cyI cyJ cyZ cyO) yX10_lift cX10_lift 2 (some .int) ({ frames := 1, cells := 0, slots := 0, locals := 21 } : Room) 0 0 [.ref t0, .int p0] [(t0, .inr (10, [.ref t1, .ref t21, .ref t32, .ref t37, .ref t42, .ref t43, .ref t45, .ref t50, .ref t54, .ref t58])), (t21, .inr (9, [.int 0, .int 0, .int 0, .ref t22, .ref t23, .ref t24, .ref t25, .ref t26, .ref t27, .int 0, .int 0, .ref t28, .ref t29, .ref t30, .ref t31]))] (fun u => some (.int (-1))) (fun u => True) (fun u => []) := by
  refine KK.of (lv0 := [(0, .ref t0), (1, .int p0)]) (by decide) rfl (Nat.le_of_ble_eq_true rfl) ?_
  intro p e s m args below meth c A C hr hk hin
  refine j_aload_n (pc := 0) C dX10_lift_0 rfl 0 rfl ?_
  refine j_get (pc := 1) (ci := 10) (v := .ref t21) C inw_10 0 rfl rfl 1 (by decide) wd_77 rfl rfl dX10_lift_1 ?_
  refine j_iload_n (pc := 4) C dX10_lift_4 rfl 1 rfl ?_
  refine j_callV (pc := 5) (As := [.int p0]) (rest := []) (wr := [(t0, .inr (10, [.ref t1, .ref t21, .ref t32, .ref t37, .ref t42, .ref t43, .ref t45, .ref t50, .ref t54, .ref t58]))]) C (c_X9_isWare l D cyC cyI cyJ cyZ cyO p0 t21 t22 t23 t24 t25 t26 t27 t28 t29 t30 t31) wd_175 wd_39 wd_176 wd_177 wd_178 ⟨by decide, by decide, rfl⟩ rfl ⟨rfl, rfl, by decide, by decide⟩ ⟨by decide, by decide⟩ [1] [0] rfl rfl ⟨by decide, by decide, by decide⟩ 1 rfl rfl rfl (Nat.le_of_ble_eq_true rfl) dX10_lift_5 (fun u_1 hw_2 => ?_)
  refine j_eq (ws2 := [(t0, .inr (10, [.ref t1, .ref t21, .ref t32, .ref t37, .ref t42, .ref t43, .ref t45, .ref t50, .ref t54, .ref t58])), (t21, .inr (9, [.int 0, .int 0, .int 0, .ref t22, .ref t23, .ref t24, .ref t25, .ref t26, .ref t27, .int 0, .int 0, .ref t28, .ref t29, .ref t30, .ref t31]))]) (pc2 := 8) (lv2 := [(0, .ref t0), (1, .int p0)]) (st2 := [.int 0]) rfl rfl rfl rfl ?_
  refine j_if_eq_t (pc := 8) (tgt := 34) C dX10_lift_8 (by decide) (by decide) ?_
  refine j_iconst (pc := 34) (v := (-1)) C dX10_lift_34 (by decide) ?_
  exact j_iret (pc := 35) C hr hk (fun i => [].getD i 0, fun _ => 0, fun _ _ => 0) rfl trivial [] (by decide) rfl (by decide) (by decide) dX10_lift_35
set_option maxHeartbeats 4000000 in
set_option maxRecDepth 100000 in
theorem c_X10_cost (l : Launch) (D : va_G) (cyC cyI cyJ cyZ cyO : ClassId) (t0 : Nat) (t1 : Nat) (t21 : Nat) (t32 : Nat) (t37 : Nat) (t42 : Nat) (t43 : Nat) (t45 : Nat) (t50 : Nat) (t54 : Nat) (t58 : Nat) (t33 : Nat) (t34 : Nat) (t35 : Nat) (t36 : Nat) : KK l D (TY cyC cyI cyJ cyZ cyO) yX10_cost cX10_cost 1 (some .int) ({ frames := 0, cells := 0, slots := 0, locals := 0 } : Room) 0 0 [.ref t0] [(t0, .inr (10, [.ref t1, .ref t21, .ref t32, .ref t37, .ref t42, .ref t43, .ref t45, .ref t50, .ref t54, .ref t58])), (t32, .inr (7, [.ref t33, .ref t34, .ref t35, .ref t36, .int 0, .int 0, .int 0]))] (fun u => some (.int 0)) (fun u => True) (fun u => []) := by
  refine KK.of (lv0 := [(0, .ref t0)]) (by decide) rfl (Nat.le_of_ble_eq_true rfl) ?_
  intro p e s m args below meth c A C hr hk hin
  refine j_aload_n (pc := 0) C dX10_cost_0 rfl 0 rfl ?_
  refine j_get (pc := 1) (ci := 10) (v := .ref t32) C inw_10 0 rfl rfl 2 (by decide) wd_84 rfl rfl dX10_cost_1 ?_
  refine j_get (pc := 4) (ci := 7) (v := .int 0) C inw_7 1 rfl rfl 5 (by decide) wd_184 rfl rfl dX10_cost_4 ?_
  exact j_iret (pc := 7) C hr hk (fun i => [].getD i 0, fun _ => 0, fun _ _ => 0) rfl trivial [] (by decide) rfl (by decide) (by decide) dX10_cost_7
set_option maxHeartbeats 4000000 in
set_option maxRecDepth 100000 in
theorem c_X10_through (l : Launch) (D : va_G) (cyC cyI cyJ cyZ cyO : ClassId) (p0 : Int32) (p1 : Int32) (t0 : Nat) (t1 : Nat) (t21 : Nat) (t32 : Nat) (t37 : Nat) (t42 : Nat) (t43 : Nat) (t45 : Nat) (t50 : Nat) (t54 : Nat) (t58 : Nat) (t22 : Nat) (t23 : Nat) (t24 : Nat) (t25 : Nat) (t26 : Nat) (t27 : Nat) (t28 : Nat) (t29 : Nat) (t30 : Nat) (t31 : Nat) : KK l D (TY cyC cyI cyJ cyZ cyO) yX10_through cX10_through 3 (some .int) ({ frames := 1, cells := 0, slots := 0, locals := 21 } : Room) 0 0 [.ref t0, .int p0, .int p1] [(t0, .inr (10, [.ref t1, .ref t21, .ref t32, .ref t37, .ref t42, .ref t43, .ref t45, .ref t50, .ref t54, .ref t58])), (t21, .inr (9, [.int 0, .int 0, .int 0, .ref t22, .ref t23, .ref t24, .ref t25, .ref t26, .ref t27, .int 0, .int 0, .ref t28, .ref t29, .ref t30, .ref t31]))] (fun u => some (.int (-1))) (fun u => True) (fun u => []) := by
  refine KK.of (lv0 := [(0, .ref t0), (1, .int p0), (2, .int p1)]) (by decide) rfl (Nat.le_of_ble_eq_true rfl) ?_
  intro p e s m args below meth c A C hr hk hin
  refine j_aload_n (pc := 0) C dX10_through_0 rfl 0 rfl ?_
  refine j_get (pc := 1) (ci := 10) (v := .ref t21) C inw_10 0 rfl rfl 1 (by decide) wd_77 rfl rfl dX10_through_1 ?_
  refine j_iload_n (pc := 4) C dX10_through_4 rfl 1 rfl ?_
  refine j_callV (pc := 5) (As := [.int p0]) (rest := []) (wr := [(t0, .inr (10, [.ref t1, .ref t21, .ref t32, .ref t37, .ref t42, .ref t43, .ref t45, .ref t50, .ref t54, .ref t58]))]) C (c_X9_isWare l D cyC cyI cyJ cyZ cyO p0 t21 t22 t23 t24 t25 t26 t27 t28 t29 t30 t31) wd_175 wd_39 wd_176 wd_177 wd_178 ⟨by decide, by decide, rfl⟩ rfl ⟨rfl, rfl, by decide, by decide⟩ ⟨by decide, by decide⟩ [1] [0] rfl rfl ⟨by decide, by decide, by decide⟩ 1 rfl rfl rfl (Nat.le_of_ble_eq_true rfl) dX10_through_5 (fun u_1 hw_2 => ?_)
  refine j_eq (ws2 := [(t0, .inr (10, [.ref t1, .ref t21, .ref t32, .ref t37, .ref t42, .ref t43, .ref t45, .ref t50, .ref t54, .ref t58])), (t21, .inr (9, [.int 0, .int 0, .int 0, .ref t22, .ref t23, .ref t24, .ref t25, .ref t26, .ref t27, .int 0, .int 0, .ref t28, .ref t29, .ref t30, .ref t31]))]) (pc2 := 8) (lv2 := [(0, .ref t0), (1, .int p0), (2, .int p1)]) (st2 := [.int 0]) rfl rfl rfl rfl ?_
  refine j_if_eq_t (pc := 8) (tgt := 22) C dX10_through_8 (by decide) (by decide) ?_
  refine j_iconst (pc := 22) (v := (-1)) C dX10_through_22 (by decide) ?_
  exact j_iret (pc := 23) C hr hk (fun i => [].getD i 0, fun _ => 0, fun _ _ => 0) rfl trivial [] (by decide) rfl (by decide) (by decide) dX10_through_23
set_option maxHeartbeats 4000000 in
set_option maxRecDepth 100000 in
theorem c_X10_rowOf (l : Launch) (D : va_G) (cyC cyI cyJ cyZ cyO : ClassId) (p0 : Int32) (t0 : Nat) (t1 : Nat) (t21 : Nat) (t32 : Nat) (t37 : Nat) (t42 : Nat) (t43 : Nat) (t45 : Nat) (t50 : Nat) (t54 : Nat) (t58 : Nat) (t22 : Nat) (t23 : Nat) (t24 : Nat) (t25 : Nat) (t26 : Nat) (t27 : Nat) (t28 : Nat) (t29 : Nat) (t30 : Nat) (t31 : Nat) : KK l D (TY cyC cyI cyJ cyZ cyO) yX10_rowOf cX10_rowOf 2 (some .int) ({ frames := 1, cells := 0, slots := 0, locals := 21 } : Room) 0 0 [.ref t0, .int p0] [(t0, .inr (10, [.ref t1, .ref t21, .ref t32, .ref t37, .ref t42, .ref t43, .ref t45, .ref t50, .ref t54, .ref t58])), (t21, .inr (9, [.int 0, .int 0, .int 0, .ref t22, .ref t23, .ref t24, .ref t25, .ref t26, .ref t27, .int 0, .int 0, .ref t28, .ref t29, .ref t30, .ref t31]))] (fun u => some (.int (-1))) (fun u => True) (fun u => []) := by
  refine KK.of (lv0 := [(0, .ref t0), (1, .int p0)]) (by decide) rfl (Nat.le_of_ble_eq_true rfl) ?_
  intro p e s m args below meth c A C hr hk hin
  refine j_aload_n (pc := 0) C dX10_rowOf_0 rfl 0 rfl ?_
  refine j_get (pc := 1) (ci := 10) (v := .ref t21) C inw_10 0 rfl rfl 1 (by decide) wd_77 rfl rfl dX10_rowOf_1 ?_
  refine j_iload_n (pc := 4) C dX10_rowOf_4 rfl 1 rfl ?_
  refine j_callV (pc := 5) (As := [.int p0]) (rest := []) (wr := [(t0, .inr (10, [.ref t1, .ref t21, .ref t32, .ref t37, .ref t42, .ref t43, .ref t45, .ref t50, .ref t54, .ref t58]))]) C (c_X9_isWare l D cyC cyI cyJ cyZ cyO p0 t21 t22 t23 t24 t25 t26 t27 t28 t29 t30 t31) wd_175 wd_39 wd_176 wd_177 wd_178 ⟨by decide, by decide, rfl⟩ rfl ⟨rfl, rfl, by decide, by decide⟩ ⟨by decide, by decide⟩ [1] [0] rfl rfl ⟨by decide, by decide, by decide⟩ 1 rfl rfl rfl (Nat.le_of_ble_eq_true rfl) dX10_rowOf_5 (fun u_1 hw_2 => ?_)
  refine j_eq (ws2 := [(t0, .inr (10, [.ref t1, .ref t21, .ref t32, .ref t37, .ref t42, .ref t43, .ref t45, .ref t50, .ref t54, .ref t58])), (t21, .inr (9, [.int 0, .int 0, .int 0, .ref t22, .ref t23, .ref t24, .ref t25, .ref t26, .ref t27, .int 0, .int 0, .ref t28, .ref t29, .ref t30, .ref t31]))]) (pc2 := 8) (lv2 := [(0, .ref t0), (1, .int p0)]) (st2 := [.int 0]) rfl rfl rfl rfl ?_
  refine j_if_eq_t (pc := 8) (tgt := 21) C dX10_rowOf_8 (by decide) (by decide) ?_
  refine j_iconst (pc := 21) (v := (-1)) C dX10_rowOf_21 (by decide) ?_
  exact j_iret (pc := 22) C hr hk (fun i => [].getD i 0, fun _ => 0, fun _ _ => 0) rfl trivial [] (by decide) rfl (by decide) (by decide) dX10_rowOf_22
set_option maxHeartbeats 4000000 in
set_option maxRecDepth 100000 in
theorem c_X10_goes (l : Launch) (D : va_G) (cyC cyI cyJ cyZ cyO : ClassId) (p0 : Int32) (p1 : Int32) (t0 : Nat) (t1 : Nat) (t21 : Nat) (t32 : Nat) (t37 : Nat) (t42 : Nat) (t43 : Nat) (t45 : Nat) (t50 : Nat) (t54 : Nat) (t58 : Nat) (t22 : Nat) (t23 : Nat) (t24 : Nat) (t25 : Nat) (t26 : Nat) (t27 : Nat) (t28 : Nat) (t29 : Nat) (t30 : Nat) (t31 : Nat) : KK l D (TY cyC cyI cyJ cyZ cyO) yX10_goes cX10_goes 4 (some .int) ({ frames := 1, cells := 0, slots := 0, locals := 21 } : Room) 0 0 [.ref t0, .int p0, .int p1] [(t0, .inr (10, [.ref t1, .ref t21, .ref t32, .ref t37, .ref t42, .ref t43, .ref t45, .ref t50, .ref t54, .ref t58])), (t21, .inr (9, [.int 0, .int 0, .int 0, .ref t22, .ref t23, .ref t24, .ref t25, .ref t26, .ref t27, .int 0, .int 0, .ref t28, .ref t29, .ref t30, .ref t31]))] (fun u => some (.int (-1))) (fun u => True) (fun u => []) := by
  refine KK.of (lv0 := [(0, .ref t0), (1, .int p0), (2, .int p1)]) (by decide) rfl (Nat.le_of_ble_eq_true rfl) ?_
  intro p e s m args below meth c A C hr hk hin
  refine j_aload_n (pc := 0) C dX10_goes_0 rfl 0 rfl ?_
  refine j_get (pc := 1) (ci := 10) (v := .ref t21) C inw_10 0 rfl rfl 1 (by decide) wd_77 rfl rfl dX10_goes_1 ?_
  refine j_iload_n (pc := 4) C dX10_goes_4 rfl 1 rfl ?_
  refine j_callV (pc := 5) (As := [.int p0]) (rest := []) (wr := [(t0, .inr (10, [.ref t1, .ref t21, .ref t32, .ref t37, .ref t42, .ref t43, .ref t45, .ref t50, .ref t54, .ref t58]))]) C (c_X9_isWare l D cyC cyI cyJ cyZ cyO p0 t21 t22 t23 t24 t25 t26 t27 t28 t29 t30 t31) wd_175 wd_39 wd_176 wd_177 wd_178 ⟨by decide, by decide, rfl⟩ rfl ⟨rfl, rfl, by decide, by decide⟩ ⟨by decide, by decide⟩ [1] [0] rfl rfl ⟨by decide, by decide, by decide⟩ 1 rfl rfl rfl (Nat.le_of_ble_eq_true rfl) dX10_goes_5 (fun u_1 hw_2 => ?_)
  refine j_eq (ws2 := [(t0, .inr (10, [.ref t1, .ref t21, .ref t32, .ref t37, .ref t42, .ref t43, .ref t45, .ref t50, .ref t54, .ref t58])), (t21, .inr (9, [.int 0, .int 0, .int 0, .ref t22, .ref t23, .ref t24, .ref t25, .ref t26, .ref t27, .int 0, .int 0, .ref t28, .ref t29, .ref t30, .ref t31]))]) (pc2 := 8) (lv2 := [(0, .ref t0), (1, .int p0), (2, .int p1)]) (st2 := [.int 0]) rfl rfl rfl rfl ?_
  refine j_if_eq_t (pc := 8) (tgt := 22) C dX10_goes_8 (by decide) (by decide) ?_
  refine j_iconst (pc := 22) (v := (-1)) C dX10_goes_22 (by decide) ?_
  exact j_iret (pc := 23) C hr hk (fun i => [].getD i 0, fun _ => 0, fun _ _ => 0) rfl trivial [] (by decide) rfl (by decide) (by decide) dX10_goes_23
set_option maxHeartbeats 4000000 in
set_option maxRecDepth 100000 in
theorem c_X10_ask (l : Launch) (D : va_G) (cyC cyI cyJ cyZ cyO : ClassId) (p0 : Int32) (t0 : Nat) (t1 : Nat) (t21 : Nat) (t32 : Nat) (t37 : Nat) (t42 : Nat) (t43 : Nat) (t45 : Nat) (t50 : Nat) (t54 : Nat) (t58 : Nat) (t22 : Nat) (t23 : Nat) (t24 : Nat) (t25 : Nat) (t26 : Nat) (t27 : Nat) (t28 : Nat) (t29 : Nat) (t30 : Nat) (t31 : Nat) : KK l D (TY cyC cyI cyJ cyZ cyO) yX10_ask cX10_ask 2 (some .int) ({ frames := 1, cells := 0, slots := 0, locals := 21 } : Room) 0 0 [.ref t0, .int p0] [(t0, .inr (10, [.ref t1, .ref t21, .ref t32, .ref t37, .ref t42, .ref t43, .ref t45, .ref t50, .ref t54, .ref t58])), (t21, .inr (9, [.int 0, .int 0, .int 0, .ref t22, .ref t23, .ref t24, .ref t25, .ref t26, .ref t27, .int 0, .int 0, .ref t28, .ref t29, .ref t30, .ref t31]))] (fun u => some (.int (-1))) (fun u => True) (fun u => []) := by
  refine KK.of (lv0 := [(0, .ref t0), (1, .int p0)]) (by decide) rfl (Nat.le_of_ble_eq_true rfl) ?_
  intro p e s m args below meth c A C hr hk hin
  refine j_aload_n (pc := 0) C dX10_ask_0 rfl 0 rfl ?_
  refine j_get (pc := 1) (ci := 10) (v := .ref t21) C inw_10 0 rfl rfl 1 (by decide) wd_77 rfl rfl dX10_ask_1 ?_
  refine j_iload_n (pc := 4) C dX10_ask_4 rfl 1 rfl ?_
  refine j_callV (pc := 5) (As := [.int p0]) (rest := []) (wr := [(t0, .inr (10, [.ref t1, .ref t21, .ref t32, .ref t37, .ref t42, .ref t43, .ref t45, .ref t50, .ref t54, .ref t58]))]) C (c_X9_isWare l D cyC cyI cyJ cyZ cyO p0 t21 t22 t23 t24 t25 t26 t27 t28 t29 t30 t31) wd_175 wd_39 wd_176 wd_177 wd_178 ⟨by decide, by decide, rfl⟩ rfl ⟨rfl, rfl, by decide, by decide⟩ ⟨by decide, by decide⟩ [1] [0] rfl rfl ⟨by decide, by decide, by decide⟩ 1 rfl rfl rfl (Nat.le_of_ble_eq_true rfl) dX10_ask_5 (fun u_1 hw_2 => ?_)
  refine j_eq (ws2 := [(t0, .inr (10, [.ref t1, .ref t21, .ref t32, .ref t37, .ref t42, .ref t43, .ref t45, .ref t50, .ref t54, .ref t58])), (t21, .inr (9, [.int 0, .int 0, .int 0, .ref t22, .ref t23, .ref t24, .ref t25, .ref t26, .ref t27, .int 0, .int 0, .ref t28, .ref t29, .ref t30, .ref t31]))]) (pc2 := 8) (lv2 := [(0, .ref t0), (1, .int p0)]) (st2 := [.int 0]) rfl rfl rfl rfl ?_
  refine j_if_eq_t (pc := 8) (tgt := 23) C dX10_ask_8 (by decide) (by decide) ?_
  refine j_iconst (pc := 23) (v := (-1)) C dX10_ask_23 (by decide) ?_
  exact j_iret (pc := 24) C hr hk (fun i => [].getD i 0, fun _ => 0, fun _ _ => 0) rfl trivial [] (by decide) rfl (by decide) (by decide) dX10_ask_24
set_option maxHeartbeats 4000000 in
set_option maxRecDepth 100000 in
theorem c_X10_clear (l : Launch) (D : va_G) (cyC cyI cyJ cyZ cyO : ClassId) (t0 : Nat) (t1 : Nat) (t21 : Nat) (t32 : Nat) (t37 : Nat) (t42 : Nat) (t43 : Nat) (t45 : Nat) (t50 : Nat) (t54 : Nat) (t58 : Nat) (t33 : Nat) (t34 : Nat) (t35 : Nat) (t36 : Nat) : KK l D (TY cyC cyI cyJ cyZ cyO) yX10_clear cX10_clear 1 (some .boolean) ({ frames := 0, cells := 0, slots := 0, locals := 0 } : Room) 0 0 [.ref t0] [(t0, .inr (10, [.ref t1, .ref t21, .ref t32, .ref t37, .ref t42, .ref t43, .ref t45, .ref t50, .ref t54, .ref t58])), (t32, .inr (7, [.ref t33, .ref t34, .ref t35, .ref t36, .int 0, .int 0, .int 0]))] (fun u => some (.int 1)) (fun u => True) (fun u => []) := by
  refine KK.of (lv0 := [(0, .ref t0)]) (by decide) rfl (Nat.le_of_ble_eq_true rfl) ?_
  intro p e s m args below meth c A C hr hk hin
  refine j_aload_n (pc := 0) C dX10_clear_0 rfl 0 rfl ?_
  refine j_get (pc := 1) (ci := 10) (v := .ref t32) C inw_10 0 rfl rfl 2 (by decide) wd_84 rfl rfl dX10_clear_1 ?_
  refine j_iconst (pc := 4) (v := 0) C dX10_clear_4 (by decide) ?_
  refine j_put (pc := 5) (ci := 7) (v := .int 0) (ws' := [(t0, .inr (10, [.ref t1, .ref t21, .ref t32, .ref t37, .ref t42, .ref t43, .ref t45, .ref t50, .ref t54, .ref t58])), (t32, .inr (7, [.ref t33, .ref t34, .ref t35, .ref t36, .int 0, .int 0, .int 0]))]) C inw_7 1 rfl rfl 4 (by decide) wd_185 rfl tyX7_ok nmX7 rfl (tyX7_ok 4 (by decide)) rfl rfl (Nat.le_of_ble_eq_true rfl) dX10_clear_5 rfl ?_
  refine j_iconst (pc := 8) (v := 1) C dX10_clear_8 (by decide) ?_
  exact j_zret (pc := 9) C hr rfl hk (fun i => [].getD i 0, fun _ => 0, fun _ _ => 0) rfl trivial [] (by decide) rfl (by decide) (by decide) dX10_clear_9
set_option maxHeartbeats 4000000 in
set_option maxRecDepth 100000 in
theorem c_X10_asked (l : Launch) (D : va_G) (cyC cyI cyJ cyZ cyO : ClassId) (t0 : Nat) (t1 : Nat) (t21 : Nat) (t32 : Nat) (t37 : Nat) (t42 : Nat) (t43 : Nat) (t45 : Nat) (t50 : Nat) (t54 : Nat) (t58 : Nat) (t33 : Nat) (t34 : Nat) (t35 : Nat) (t36 : Nat) : KK l D (TY cyC cyI cyJ cyZ cyO) yX10_asked cX10_asked 4 (some .int) ({ frames := 0, cells := 0, slots := 0, locals := 0 } : Room) 0 0 [.ref t0] [(t0, .inr (10, [.ref t1, .ref t21, .ref t32, .ref t37, .ref t42, .ref t43, .ref t45, .ref t50, .ref t54, .ref t58])), (t32, .inr (7, [.ref t33, .ref t34, .ref t35, .ref t36, .int 0, .int 0, .int 0]))] (fun u => some (.int 0)) (fun u => True) (fun u => []) := by
  refine KK.of (lv0 := [(0, .ref t0)]) (by decide) rfl (Nat.le_of_ble_eq_true rfl) ?_
  intro p e s m args below meth c A C hr hk hin
  refine j_iconst (pc := 0) (v := 0) C dX10_asked_0 (by decide) ?_
  refine j_istore_n (pc := 1) (lv' := [(1, .int 0), (0, .ref t0)]) C dX10_asked_1 rfl (by decide) rfl ?_
  refine j_iconst (pc := 2) (v := 0) C dX10_asked_2 (by decide) ?_
  refine j_istore_n (pc := 3) (lv' := [(2, .int 0), (1, .int 0), (0, .ref t0)]) C dX10_asked_3 rfl (by decide) rfl ?_
  refine j_iload_n (pc := 4) C dX10_asked_4 rfl 0 rfl ?_
  refine j_aload_n (pc := 5) C dX10_asked_5 rfl 2 rfl ?_
  refine j_get (pc := 6) (ci := 10) (v := .ref t32) C inw_10 0 rfl rfl 2 (by decide) wd_84 rfl rfl dX10_asked_6 ?_
  refine j_get (pc := 9) (ci := 7) (v := .int 0) C inw_7 1 rfl rfl 4 (by decide) wd_185 rfl rfl dX10_asked_9 ?_
  refine j_icmp_ge_t (pc := 12) (tgt := 54) C dX10_asked_12 (by decide) (by decide) ?_
  refine j_iload_n (pc := 54) C dX10_asked_54 rfl 1 rfl ?_
  exact j_iret (pc := 55) C hr hk (fun i => [].getD i 0, fun _ => 0, fun _ _ => 0) rfl trivial [] (by decide) rfl (by decide) (by decide) dX10_asked_55
set_option maxHeartbeats 4000000 in
set_option maxRecDepth 100000 in
theorem c_X10_best (l : Launch) (D : va_G) (cyC cyI cyJ cyZ cyO : ClassId) (p0 : Int32) (p1 : Int32) (p2 : Int32) (t0 : Nat) (t1 : Nat) (t21 : Nat) (t32 : Nat) (t37 : Nat) (t42 : Nat) (t43 : Nat) (t45 : Nat) (t50 : Nat) (t54 : Nat) (t58 : Nat) (t22 : Nat) (t23 : Nat) (t24 : Nat) (t25 : Nat) (t26 : Nat) (t27 : Nat) (t28 : Nat) (t29 : Nat) (t30 : Nat) (t31 : Nat) : KK l D (TY cyC cyI cyJ cyZ cyO) yX10_best cX10_best 4 (some .int) ({ frames := 2, cells := 0, slots := 0, locals := 43 } : Room) 0 0 [.ref t0, .int p0, .int p1, .int p2] [(t0, .inr (10, [.ref t1, .ref t21, .ref t32, .ref t37, .ref t42, .ref t43, .ref t45, .ref t50, .ref t54, .ref t58])), (t21, .inr (9, [.int 0, .int 0, .int 0, .ref t22, .ref t23, .ref t24, .ref t25, .ref t26, .ref t27, .int 0, .int 0, .ref t28, .ref t29, .ref t30, .ref t31]))] (fun u => some (.int (-1))) (fun u => True) (fun u => []) := by
  refine KK.of (lv0 := [(0, .ref t0), (1, .int p0), (2, .int p1), (3, .int p2)]) (by decide) rfl (Nat.le_of_ble_eq_true rfl) ?_
  intro p e s m args below meth c A C hr hk hin
  refine j_aload_n (pc := 0) C dX10_best_0 rfl 0 rfl ?_
  refine j_iload_n (pc := 1) C dX10_best_1 rfl 1 rfl ?_
  refine j_iload_n (pc := 2) C dX10_best_2 rfl 2 rfl ?_
  refine j_callV (pc := 3) (As := [.int p0, .int p1]) (rest := []) (wr := []) C (c_X10_isStack l D cyC cyI cyJ cyZ cyO p0 p1 t0 t1 t21 t32 t37 t42 t43 t45 t50 t54 t58 t22 t23 t24 t25 t26 t27 t28 t29 t30 t31) wd_179 wd_180 wd_181 wd_182 wd_183 ⟨by decide, by decide, rfl⟩ rfl ⟨rfl, rfl, by decide, by decide⟩ ⟨by decide, by decide⟩ [0, 1] [] rfl rfl ⟨by decide, by decide, by decide⟩ 0 rfl rfl rfl (Nat.le_of_ble_eq_true rfl) dX10_best_3 (fun u_1 hw_2 => ?_)
  refine j_eq (ws2 := [(t0, .inr (10, [.ref t1, .ref t21, .ref t32, .ref t37, .ref t42, .ref t43, .ref t45, .ref t50, .ref t54, .ref t58])), (t21, .inr (9, [.int 0, .int 0, .int 0, .ref t22, .ref t23, .ref t24, .ref t25, .ref t26, .ref t27, .int 0, .int 0, .ref t28, .ref t29, .ref t30, .ref t31]))]) (pc2 := 6) (lv2 := [(0, .ref t0), (1, .int p0), (2, .int p1), (3, .int p2)]) (st2 := [.int 0]) rfl rfl rfl rfl ?_
  refine j_if_ne_f (pc := 6) (tgt := 11) C dX10_best_6 (by decide) (by decide) ?_
  refine j_iconst (pc := 9) (v := (-1)) C dX10_best_9 (by decide) ?_
  exact j_iret (pc := 10) C hr hk (fun i => [].getD i 0, fun _ => 0, fun _ _ => 0) rfl trivial [] (by decide) rfl (by decide) (by decide) dX10_best_10
end
section
theorem wd_186 : Cond.fieldLink RX9 49 "BowlShelf$Told" "nests" "I" ∈ WALL := wl_in (by decide +kernel) (by decide +kernel)
theorem wd_187 : Cond.fieldLink RX9 52 "BowlShelf$Told" "lids" "I" ∈ WALL := wl_in (by decide +kernel) (by decide +kernel)
theorem wd_188 : Cond.fieldLink RX9 55 "BowlShelf$Told" "tops" "I" ∈ WALL := wl_in (by decide +kernel) (by decide +kernel)
theorem wd_189 : Cond.methodLink RX9 58 yJ7_fill_53178 ∈ WALL := wl_in (by decide +kernel) (by decide +kernel)
theorem wd_190 : Cond.fieldLink RX1 21 "BowlShelf$Nests" "size" "I" ∈ WALL := wl_in (by decide +kernel) (by decide +kernel)
theorem wd_191 : Cond.fieldLink RX1 25 "BowlShelf$Nests" "nests" "I" ∈ WALL := wl_in (by decide +kernel) (by decide +kernel)
theorem wd_192 : Cond.fieldLink RX8 15 "BowlShelf$Tape" "length" "I" ∈ WALL := wl_in (by decide +kernel) (by decide +kernel)
theorem wd_193 : Cond.fieldLink RX8 19 "BowlShelf$Tape" "next" "I" ∈ WALL := wl_in (by decide +kernel) (by decide +kernel)
theorem wd_194 : Cond.code yX8_pastBlanks cX8_pastBlanks 3 (some .int) ∈ WALL := wl_in (by decide +kernel) (by decide +kernel)
theorem wd_195 : Cond.methodLink RX8 25 yX8_pastBlanks ∈ WALL := wl_in (by decide +kernel) (by decide +kernel)
theorem wd_196 : Cond.instanceMethod yX8_pastBlanks ∈ WALL := wl_in (by decide +kernel) (by decide +kernel)
theorem wd_197 : Cond.selects RX8 yX8_pastBlanks yX8_pastBlanks ∈ WALL := wl_in (by decide +kernel) (by decide +kernel)
theorem wd_198 : Cond.fieldLink RX8 29 "BowlShelf$Tape" "place" "I" ∈ WALL := wl_in (by decide +kernel) (by decide +kernel)
theorem wd_199 : Cond.code yX8_pastRun cX8_pastRun 5 (some .int) ∈ WALL := wl_in (by decide +kernel) (by decide +kernel)
theorem wd_200 : Cond.methodLink RX8 32 yX8_pastRun ∈ WALL := wl_in (by decide +kernel) (by decide +kernel)
theorem wd_201 : Cond.instanceMethod yX8_pastRun ∈ WALL := wl_in (by decide +kernel) (by decide +kernel)
theorem wd_202 : Cond.selects RX8 yX8_pastRun yX8_pastRun ∈ WALL := wl_in (by decide +kernel) (by decide +kernel)
theorem wd_203 : Cond.fieldLink RX8 36 "BowlShelf$Tape" "kind" "I" ∈ WALL := wl_in (by decide +kernel) (by decide +kernel)
theorem wd_204 : Cond.code yX8_advance cX8_advance 3 none ∈ WALL := wl_in (by decide +kernel) (by decide +kernel)
theorem wd_205 : Cond.methodLink RX8 22 yX8_advance ∈ WALL := wl_in (by decide +kernel) (by decide +kernel)
theorem wd_206 : Cond.instanceMethod yX8_advance ∈ WALL := wl_in (by decide +kernel) (by decide +kernel)
theorem wd_207 : Cond.selects RX8 yX8_advance yX8_advance ∈ WALL := wl_in (by decide +kernel) (by decide +kernel)
theorem wd_208 : Cond.fieldLink RX5 66 "BowlShelf$Told" "mayOn" "[I" ∈ WALL := wl_in (by decide +kernel) (by decide +kernel)
theorem wd_209 : Cond.methodLink RX5 70 yJ7_fill_53178 ∈ WALL := wl_in (by decide +kernel) (by decide +kernel)
theorem wd_210 : Cond.fieldLink RX5 76 "BowlShelf$Told" "wares" "I" ∈ WALL := wl_in (by decide +kernel) (by decide +kernel)
theorem wd_211 : Cond.code yX9_empty cX9_empty 1 none ∈ WALL := wl_in (by decide +kernel) (by decide +kernel)
theorem wd_212 : Cond.methodLink RX5 39 yX9_empty ∈ WALL := wl_in (by decide +kernel) (by decide +kernel)
theorem wd_213 : Cond.instanceMethod yX9_empty ∈ WALL := wl_in (by decide +kernel) (by decide +kernel)
theorem wd_214 : Cond.selects RX9 yX9_empty yX9_empty ∈ WALL := wl_in (by decide +kernel) (by decide +kernel)
theorem wd_215 : Cond.code yX1_empty cX1_empty 1 none ∈ WALL := wl_in (by decide +kernel) (by decide +kernel)
theorem wd_216 : Cond.methodLink RX5 42 yX1_empty ∈ WALL := wl_in (by decide +kernel) (by decide +kernel)
theorem wd_217 : Cond.instanceMethod yX1_empty ∈ WALL := wl_in (by decide +kernel) (by decide +kernel)
theorem wd_218 : Cond.selects RX1 yX1_empty yX1_empty ∈ WALL := wl_in (by decide +kernel) (by decide +kernel)
theorem wd_219 : Cond.fieldLink RX5 43 "BowlShelf$Reader" "habits" "I" ∈ WALL := wl_in (by decide +kernel) (by decide +kernel)
theorem wd_220 : Cond.fieldLink RX5 47 "BowlShelf$Reader" "fault" "I" ∈ WALL := wl_in (by decide +kernel) (by decide +kernel)
theorem wd_221 : Cond.code yX8_start cX8_start 1 none ∈ WALL := wl_in (by decide +kernel) (by decide +kernel)
theorem wd_222 : Cond.methodLink RX5 50 yX8_start ∈ WALL := wl_in (by decide +kernel) (by decide +kernel)
theorem wd_223 : Cond.instanceMethod yX8_start ∈ WALL := wl_in (by decide +kernel) (by decide +kernel)
theorem wd_224 : Cond.selects RX8 yX8_start yX8_start ∈ WALL := wl_in (by decide +kernel) (by decide +kernel)
theorem wd_225 : Cond.fieldLink RX5 53 "BowlShelf$Tape" "kind" "I" ∈ WALL := wl_in (by decide +kernel) (by decide +kernel)
theorem wd_226 : Cond.fieldLink RX5 60 "BowlShelf$Tape" "length" "I" ∈ WALL := wl_in (by decide +kernel) (by decide +kernel)
theorem wd_227 : Cond.code yX5_findMay cX5_findMay 3 none ∈ WALL := wl_in (by decide +kernel) (by decide +kernel)
theorem wd_228 : Cond.methodLink RX5 63 yX5_findMay ∈ WALL := wl_in (by decide +kernel) (by decide +kernel)
theorem wd_229 : Cond.instanceMethod yX5_findMay ∈ WALL := wl_in (by decide +kernel) (by decide +kernel)
theorem wd_230 : Cond.selects RX5 yX5_findMay yX5_findMay ∈ WALL := wl_in (by decide +kernel) (by decide +kernel)
theorem wd_231 : Cond.fieldLink RX7 30 "BowlShelf$Standing" "askings" "I" ∈ WALL := wl_in (by decide +kernel) (by decide +kernel)
theorem wd_232 : Cond.fieldLink RX3 24 "BowlShelf$Told" "wares" "I" ∈ WALL := wl_in (by decide +kernel) (by decide +kernel)
theorem wd_233 : Cond.fieldLink RX3 30 "BowlShelf$Order" "wares" "I" ∈ WALL := wl_in (by decide +kernel) (by decide +kernel)
theorem wd_234 : Cond.fieldLink RX3 31 "BowlShelf$Order" "known" "Z" ∈ WALL := wl_in (by decide +kernel) (by decide +kernel)
theorem wd_235 : Cond.fieldLink RX3 35 "BowlShelf$Told" "mayOn" "[I" ∈ WALL := wl_in (by decide +kernel) (by decide +kernel)
theorem wd_236 : Cond.methodLink RX3 38 arraycopyName ∈ WALL := wl_in (by decide +kernel) (by decide +kernel)
theorem wd_237 : Cond.native arraycopyName ∈ WALL := wl_in (by decide +kernel) (by decide +kernel)
theorem wd_238 : Cond.static arraycopyName ∈ WALL := wl_in (by decide +kernel) (by decide +kernel)
theorem wd_239 : Cond.initialized "java/lang/System" ∈ WALL := wl_in (by decide +kernel) (by decide +kernel)
theorem wd_240 : Cond.code yX5_read cX5_read 3 (some .int) ∈ WALL := wl_in (by decide +kernel) (by decide +kernel)
theorem wd_241 : Cond.methodLink RX10 90 yX5_read ∈ WALL := wl_in (by decide +kernel) (by decide +kernel)
theorem wd_242 : Cond.instanceMethod yX5_read ∈ WALL := wl_in (by decide +kernel) (by decide +kernel)
theorem wd_243 : Cond.selects RX5 yX5_read yX5_read ∈ WALL := wl_in (by decide +kernel) (by decide +kernel)
theorem wd_244 : Cond.code yX5_exchange cX5_exchange 3 (some (.object "BowlShelf$Told")) ∈ WALL := wl_in (by decide +kernel) (by decide +kernel)
theorem wd_245 : Cond.methodLink RX10 94 yX5_exchange ∈ WALL := wl_in (by decide +kernel) (by decide +kernel)
theorem wd_246 : Cond.instanceMethod yX5_exchange ∈ WALL := wl_in (by decide +kernel) (by decide +kernel)
theorem wd_247 : Cond.selects RX5 yX5_exchange yX5_exchange ∈ WALL := wl_in (by decide +kernel) (by decide +kernel)
theorem wd_248 : Cond.code yX7_empty cX7_empty 1 none ∈ WALL := wl_in (by decide +kernel) (by decide +kernel)
theorem wd_249 : Cond.methodLink RX10 98 yX7_empty ∈ WALL := wl_in (by decide +kernel) (by decide +kernel)
theorem wd_250 : Cond.instanceMethod yX7_empty ∈ WALL := wl_in (by decide +kernel) (by decide +kernel)
theorem wd_251 : Cond.selects RX7 yX7_empty yX7_empty ∈ WALL := wl_in (by decide +kernel) (by decide +kernel)
theorem wd_252 : Cond.fieldLink RX10 101 "BowlShelf$Standing" "laid" "Z" ∈ WALL := wl_in (by decide +kernel) (by decide +kernel)
theorem wd_253 : Cond.code yX3_chain cX3_chain 4 none ∈ WALL := wl_in (by decide +kernel) (by decide +kernel)
theorem wd_254 : Cond.methodLink RX10 105 yX3_chain ∈ WALL := wl_in (by decide +kernel) (by decide +kernel)
theorem wd_255 : Cond.instanceMethod yX3_chain ∈ WALL := wl_in (by decide +kernel) (by decide +kernel)
theorem wd_256 : Cond.selects RX3 yX3_chain yX3_chain ∈ WALL := wl_in (by decide +kernel) (by decide +kernel)
theorem wd_257 : Cond.fieldLink RX10 109 "BowlShelf$Heights" "known" "Z" ∈ WALL := wl_in (by decide +kernel) (by decide +kernel)
theorem dX9_empty_0 : decode cX9_empty 0 = .ok (.aload_n 0, 1) := by decide +kernel
theorem dX9_empty_1 : decode cX9_empty 1 = .ok (.iconst 0, 1) := by decide +kernel
theorem dX9_empty_2 : decode cX9_empty 2 = .ok (.putfield 42, 3) := by decide +kernel
theorem dX9_empty_5 : decode cX9_empty 5 = .ok (.aload_n 0, 1) := by decide +kernel
theorem dX9_empty_6 : decode cX9_empty 6 = .ok (.iconst 0, 1) := by decide +kernel
theorem dX9_empty_7 : decode cX9_empty 7 = .ok (.putfield 46, 3) := by decide +kernel
theorem dX9_empty_10 : decode cX9_empty 10 = .ok (.aload_n 0, 1) := by decide +kernel
theorem dX9_empty_11 : decode cX9_empty 11 = .ok (.iconst 0, 1) := by decide +kernel
theorem dX9_empty_12 : decode cX9_empty 12 = .ok (.putfield 49, 3) := by decide +kernel
theorem dX9_empty_15 : decode cX9_empty 15 = .ok (.aload_n 0, 1) := by decide +kernel
theorem dX9_empty_16 : decode cX9_empty 16 = .ok (.iconst 0, 1) := by decide +kernel
theorem dX9_empty_17 : decode cX9_empty 17 = .ok (.putfield 52, 3) := by decide +kernel
theorem dX9_empty_20 : decode cX9_empty 20 = .ok (.aload_n 0, 1) := by decide +kernel
theorem dX9_empty_21 : decode cX9_empty 21 = .ok (.iconst 0, 1) := by decide +kernel
theorem dX9_empty_22 : decode cX9_empty 22 = .ok (.putfield 55, 3) := by decide +kernel
theorem dX9_empty_25 : decode cX9_empty 25 = .ok (.aload_n 0, 1) := by decide +kernel
theorem dX9_empty_26 : decode cX9_empty 26 = .ok (.getfield 27, 3) := by decide +kernel
theorem dX9_empty_29 : decode cX9_empty 29 = .ok (.iconst 0, 1) := by decide +kernel
theorem dX9_empty_30 : decode cX9_empty 30 = .ok (.invokestatic 58, 3) := by decide +kernel
theorem dX9_empty_33 : decode cX9_empty 33 = .ok (.return_, 1) := by decide +kernel
theorem dX1_empty_0 : decode cX1_empty 0 = .ok (.aload_n 0, 1) := by decide +kernel
theorem dX1_empty_1 : decode cX1_empty 1 = .ok (.iconst 0, 1) := by decide +kernel
theorem dX1_empty_2 : decode cX1_empty 2 = .ok (.putfield 21, 3) := by decide +kernel
theorem dX1_empty_5 : decode cX1_empty 5 = .ok (.aload_n 0, 1) := by decide +kernel
theorem dX1_empty_6 : decode cX1_empty 6 = .ok (.iconst 0, 1) := by decide +kernel
theorem dX1_empty_7 : decode cX1_empty 7 = .ok (.putfield 25, 3) := by decide +kernel
theorem dX1_empty_10 : decode cX1_empty 10 = .ok (.return_, 1) := by decide +kernel
theorem dX8_pastBlanks_0 : decode cX8_pastBlanks 0 = .ok (.iload_n 1, 1) := by decide +kernel
theorem dX8_pastBlanks_1 : decode cX8_pastBlanks 1 = .ok (.istore_n 2, 1) := by decide +kernel
theorem dX8_pastBlanks_2 : decode cX8_pastBlanks 2 = .ok (.iload_n 2, 1) := by decide +kernel
theorem dX8_pastBlanks_3 : decode cX8_pastBlanks 3 = .ok (.aload_n 0, 1) := by decide +kernel
theorem dX8_pastBlanks_4 : decode cX8_pastBlanks 4 = .ok (.getfield 15, 3) := by decide +kernel
theorem dX8_pastBlanks_7 : decode cX8_pastBlanks 7 = .ok (.if_icmp .ge 31, 3) := by decide +kernel
theorem dX8_pastBlanks_38 : decode cX8_pastBlanks 38 = .ok (.iload_n 2, 1) := by decide +kernel
theorem dX8_pastBlanks_39 : decode cX8_pastBlanks 39 = .ok (.ireturn, 1) := by decide +kernel
theorem dX8_pastRun_0 : decode cX8_pastRun 0 = .ok (.iload_n 1, 1) := by decide +kernel
theorem dX8_pastRun_1 : decode cX8_pastRun 1 = .ok (.istore 4, 2) := by decide +kernel
theorem dX8_pastRun_3 : decode cX8_pastRun 3 = .ok (.iload 4, 2) := by decide +kernel
theorem dX8_pastRun_5 : decode cX8_pastRun 5 = .ok (.aload_n 0, 1) := by decide +kernel
theorem dX8_pastRun_6 : decode cX8_pastRun 6 = .ok (.getfield 15, 3) := by decide +kernel
theorem dX8_pastRun_9 : decode cX8_pastRun 9 = .ok (.if_icmp .ge 31, 3) := by decide +kernel
theorem dX8_pastRun_40 : decode cX8_pastRun 40 = .ok (.iload 4, 2) := by decide +kernel
theorem dX8_pastRun_42 : decode cX8_pastRun 42 = .ok (.ireturn, 1) := by decide +kernel
theorem dX8_advance_0 : decode cX8_advance 0 = .ok (.aload_n 0, 1) := by decide +kernel
theorem dX8_advance_1 : decode cX8_advance 1 = .ok (.aload_n 0, 1) := by decide +kernel
theorem dX8_advance_2 : decode cX8_advance 2 = .ok (.aload_n 0, 1) := by decide +kernel
theorem dX8_advance_3 : decode cX8_advance 3 = .ok (.getfield 19, 3) := by decide +kernel
theorem dX8_advance_6 : decode cX8_advance 6 = .ok (.invokevirtual 25, 3) := by decide +kernel
theorem dX8_advance_9 : decode cX8_advance 9 = .ok (.putfield 29, 3) := by decide +kernel
theorem dX8_advance_12 : decode cX8_advance 12 = .ok (.aload_n 0, 1) := by decide +kernel
theorem dX8_advance_13 : decode cX8_advance 13 = .ok (.aload_n 0, 1) := by decide +kernel
theorem dX8_advance_14 : decode cX8_advance 14 = .ok (.getfield 29, 3) := by decide +kernel
theorem dX8_advance_17 : decode cX8_advance 17 = .ok (.bipush 97, 2) := by decide +kernel
theorem dX8_advance_19 : decode cX8_advance 19 = .ok (.bipush 122, 2) := by decide +kernel
theorem dX8_advance_21 : decode cX8_advance 21 = .ok (.invokevirtual 32, 3) := by decide +kernel
theorem dX8_advance_24 : decode cX8_advance 24 = .ok (.istore_n 1, 1) := by decide +kernel
theorem dX8_advance_25 : decode cX8_advance 25 = .ok (.aload_n 0, 1) := by decide +kernel
theorem dX8_advance_26 : decode cX8_advance 26 = .ok (.aload_n 0, 1) := by decide +kernel
theorem dX8_advance_27 : decode cX8_advance 27 = .ok (.getfield 29, 3) := by decide +kernel
theorem dX8_advance_30 : decode cX8_advance 30 = .ok (.bipush 48, 2) := by decide +kernel
theorem dX8_advance_32 : decode cX8_advance 32 = .ok (.bipush 57, 2) := by decide +kernel
theorem dX8_advance_34 : decode cX8_advance 34 = .ok (.invokevirtual 32, 3) := by decide +kernel
theorem dX8_advance_37 : decode cX8_advance 37 = .ok (.istore_n 2, 1) := by decide +kernel
theorem dX8_advance_38 : decode cX8_advance 38 = .ok (.aload_n 0, 1) := by decide +kernel
theorem dX8_advance_39 : decode cX8_advance 39 = .ok (.getfield 29, 3) := by decide +kernel
theorem dX8_advance_42 : decode cX8_advance 42 = .ok (.aload_n 0, 1) := by decide +kernel
theorem dX8_advance_43 : decode cX8_advance 43 = .ok (.getfield 15, 3) := by decide +kernel
theorem dX8_advance_46 : decode cX8_advance 46 = .ok (.if_icmp .lt 19, 3) := by decide +kernel
theorem dX8_advance_49 : decode cX8_advance 49 = .ok (.aload_n 0, 1) := by decide +kernel
theorem dX8_advance_50 : decode cX8_advance 50 = .ok (.aload_n 0, 1) := by decide +kernel
theorem dX8_advance_51 : decode cX8_advance 51 = .ok (.getfield 29, 3) := by decide +kernel
theorem dX8_advance_54 : decode cX8_advance 54 = .ok (.putfield 19, 3) := by decide +kernel
theorem dX8_advance_57 : decode cX8_advance 57 = .ok (.aload_n 0, 1) := by decide +kernel
theorem dX8_advance_58 : decode cX8_advance 58 = .ok (.iconst 0, 1) := by decide +kernel
theorem dX8_advance_59 : decode cX8_advance 59 = .ok (.putfield 36, 3) := by decide +kernel
theorem dX8_advance_62 : decode cX8_advance 62 = .ok (.goto 144, 3) := by decide +kernel
theorem dX8_advance_206 : decode cX8_advance 206 = .ok (.return_, 1) := by decide +kernel
theorem dX8_start_0 : decode cX8_start 0 = .ok (.aload_n 0, 1) := by decide +kernel
theorem dX8_start_1 : decode cX8_start 1 = .ok (.iconst 0, 1) := by decide +kernel
theorem dX8_start_2 : decode cX8_start 2 = .ok (.putfield 19, 3) := by decide +kernel
theorem dX8_start_5 : decode cX8_start 5 = .ok (.aload_n 0, 1) := by decide +kernel
theorem dX8_start_6 : decode cX8_start 6 = .ok (.invokevirtual 22, 3) := by decide +kernel
theorem dX8_start_9 : decode cX8_start 9 = .ok (.return_, 1) := by decide +kernel
theorem dX5_findMay_0 : decode cX5_findMay 0 = .ok (.aload_n 0, 1) := by decide +kernel
theorem dX5_findMay_1 : decode cX5_findMay 1 = .ok (.getfield 35, 3) := by decide +kernel
theorem dX5_findMay_4 : decode cX5_findMay 4 = .ok (.getfield 66, 3) := by decide +kernel
theorem dX5_findMay_7 : decode cX5_findMay 7 = .ok (.iconst 0, 1) := by decide +kernel
theorem dX5_findMay_8 : decode cX5_findMay 8 = .ok (.invokestatic 70, 3) := by decide +kernel
theorem dX5_findMay_11 : decode cX5_findMay 11 = .ok (.iconst 0, 1) := by decide +kernel
theorem dX5_findMay_12 : decode cX5_findMay 12 = .ok (.istore_n 1, 1) := by decide +kernel
theorem dX5_findMay_13 : decode cX5_findMay 13 = .ok (.iload_n 1, 1) := by decide +kernel
theorem dX5_findMay_14 : decode cX5_findMay 14 = .ok (.aload_n 0, 1) := by decide +kernel
theorem dX5_findMay_15 : decode cX5_findMay 15 = .ok (.getfield 35, 3) := by decide +kernel
theorem dX5_findMay_18 : decode cX5_findMay 18 = .ok (.getfield 76, 3) := by decide +kernel
theorem dX5_findMay_21 : decode cX5_findMay 21 = .ok (.if_icmp .ge 64, 3) := by decide +kernel
theorem dX5_findMay_85 : decode cX5_findMay 85 = .ok (.return_, 1) := by decide +kernel
theorem dX5_read_0 : decode cX5_read 0 = .ok (.aload_n 0, 1) := by decide +kernel
theorem dX5_read_1 : decode cX5_read 1 = .ok (.getfield 35, 3) := by decide +kernel
theorem dX5_read_4 : decode cX5_read 4 = .ok (.invokevirtual 39, 3) := by decide +kernel
theorem dX5_read_7 : decode cX5_read 7 = .ok (.aload_n 0, 1) := by decide +kernel
theorem dX5_read_8 : decode cX5_read 8 = .ok (.getfield 21, 3) := by decide +kernel
theorem dX5_read_11 : decode cX5_read 11 = .ok (.invokevirtual 42, 3) := by decide +kernel
theorem dX5_read_14 : decode cX5_read 14 = .ok (.aload_n 0, 1) := by decide +kernel
theorem dX5_read_15 : decode cX5_read 15 = .ok (.iconst 0, 1) := by decide +kernel
theorem dX5_read_16 : decode cX5_read 16 = .ok (.putfield 43, 3) := by decide +kernel
theorem dX5_read_19 : decode cX5_read 19 = .ok (.aload_n 0, 1) := by decide +kernel
theorem dX5_read_20 : decode cX5_read 20 = .ok (.iconst 0, 1) := by decide +kernel
theorem dX5_read_21 : decode cX5_read 21 = .ok (.putfield 47, 3) := by decide +kernel
theorem dX5_read_24 : decode cX5_read 24 = .ok (.aload_n 0, 1) := by decide +kernel
theorem dX5_read_25 : decode cX5_read 25 = .ok (.getfield 12, 3) := by decide +kernel
theorem dX5_read_28 : decode cX5_read 28 = .ok (.invokevirtual 50, 3) := by decide +kernel
theorem dX5_read_31 : decode cX5_read 31 = .ok (.iconst 1, 1) := by decide +kernel
theorem dX5_read_32 : decode cX5_read 32 = .ok (.istore_n 1, 1) := by decide +kernel
theorem dX5_read_33 : decode cX5_read 33 = .ok (.iconst 0, 1) := by decide +kernel
theorem dX5_read_34 : decode cX5_read 34 = .ok (.istore_n 2, 1) := by decide +kernel
theorem dX5_read_35 : decode cX5_read 35 = .ok (.iload_n 2, 1) := by decide +kernel
theorem dX5_read_36 : decode cX5_read 36 = .ok (.sipush 1000, 3) := by decide +kernel
theorem dX5_read_39 : decode cX5_read 39 = .ok (.if_icmp .ge 28, 3) := by decide +kernel
theorem dX5_read_42 : decode cX5_read 42 = .ok (.iload_n 1, 1) := by decide +kernel
theorem dX5_read_43 : decode cX5_read 43 = .ok (.ifCond .eq 24, 3) := by decide +kernel
theorem dX5_read_46 : decode cX5_read 46 = .ok (.aload_n 0, 1) := by decide +kernel
theorem dX5_read_47 : decode cX5_read 47 = .ok (.getfield 12, 3) := by decide +kernel
theorem dX5_read_50 : decode cX5_read 50 = .ok (.getfield 53, 3) := by decide +kernel
theorem dX5_read_53 : decode cX5_read 53 = .ok (.ifCond .eq 14, 3) := by decide +kernel
theorem dX5_read_67 : decode cX5_read 67 = .ok (.aload_n 0, 1) := by decide +kernel
theorem dX5_read_68 : decode cX5_read 68 = .ok (.getfield 12, 3) := by decide +kernel
theorem dX5_read_71 : decode cX5_read 71 = .ok (.iconst 0, 1) := by decide +kernel
theorem dX5_read_72 : decode cX5_read 72 = .ok (.putfield 60, 3) := by decide +kernel
theorem dX5_read_75 : decode cX5_read 75 = .ok (.iload_n 1, 1) := by decide +kernel
theorem dX5_read_76 : decode cX5_read 76 = .ok (.ifCond .eq 7, 3) := by decide +kernel
theorem dX5_read_79 : decode cX5_read 79 = .ok (.aload_n 0, 1) := by decide +kernel
theorem dX5_read_80 : decode cX5_read 80 = .ok (.invokevirtual 63, 3) := by decide +kernel
theorem dX5_read_83 : decode cX5_read 83 = .ok (.aload_n 0, 1) := by decide +kernel
theorem dX5_read_84 : decode cX5_read 84 = .ok (.getfield 47, 3) := by decide +kernel
theorem dX5_read_87 : decode cX5_read 87 = .ok (.ireturn, 1) := by decide +kernel
theorem dX5_exchange_0 : decode cX5_exchange 0 = .ok (.aload_n 0, 1) := by decide +kernel
theorem dX5_exchange_1 : decode cX5_exchange 1 = .ok (.getfield 35, 3) := by decide +kernel
theorem dX5_exchange_4 : decode cX5_exchange 4 = .ok (.astore_n 2, 1) := by decide +kernel
theorem dX5_exchange_5 : decode cX5_exchange 5 = .ok (.aload_n 0, 1) := by decide +kernel
theorem dX5_exchange_6 : decode cX5_exchange 6 = .ok (.aload_n 1, 1) := by decide +kernel
theorem dX5_exchange_7 : decode cX5_exchange 7 = .ok (.putfield 35, 3) := by decide +kernel
theorem dX5_exchange_10 : decode cX5_exchange 10 = .ok (.aload_n 2, 1) := by decide +kernel
theorem dX5_exchange_11 : decode cX5_exchange 11 = .ok (.areturn, 1) := by decide +kernel
theorem dX7_empty_0 : decode cX7_empty 0 = .ok (.aload_n 0, 1) := by decide +kernel
theorem dX7_empty_1 : decode cX7_empty 1 = .ok (.getfield 9, 3) := by decide +kernel
theorem dX7_empty_4 : decode cX7_empty 4 = .ok (.iconst (-1), 1) := by decide +kernel
theorem dX7_empty_5 : decode cX7_empty 5 = .ok (.invokestatic 24, 3) := by decide +kernel
theorem dX7_empty_8 : decode cX7_empty 8 = .ok (.aload_n 0, 1) := by decide +kernel
theorem dX7_empty_9 : decode cX7_empty 9 = .ok (.iconst 0, 1) := by decide +kernel
theorem dX7_empty_10 : decode cX7_empty 10 = .ok (.putfield 30, 3) := by decide +kernel
theorem dX7_empty_13 : decode cX7_empty 13 = .ok (.return_, 1) := by decide +kernel
theorem dX3_chain_0 : decode cX3_chain 0 = .ok (.aload_n 0, 1) := by decide +kernel
theorem dX3_chain_1 : decode cX3_chain 1 = .ok (.aload_n 1, 1) := by decide +kernel
theorem dX3_chain_2 : decode cX3_chain 2 = .ok (.getfield 24, 3) := by decide +kernel
theorem dX3_chain_5 : decode cX3_chain 5 = .ok (.putfield 30, 3) := by decide +kernel
theorem dX3_chain_8 : decode cX3_chain 8 = .ok (.aload_n 0, 1) := by decide +kernel
theorem dX3_chain_9 : decode cX3_chain 9 = .ok (.iconst 0, 1) := by decide +kernel
theorem dX3_chain_10 : decode cX3_chain 10 = .ok (.putfield 31, 3) := by decide +kernel
theorem dX3_chain_13 : decode cX3_chain 13 = .ok (.aload_n 1, 1) := by decide +kernel
theorem dX3_chain_14 : decode cX3_chain 14 = .ok (.getfield 35, 3) := by decide +kernel
theorem dX3_chain_17 : decode cX3_chain 17 = .ok (.iconst 0, 1) := by decide +kernel
theorem dX3_chain_18 : decode cX3_chain 18 = .ok (.aload_n 0, 1) := by decide +kernel
theorem dX3_chain_19 : decode cX3_chain 19 = .ok (.getfield 9, 3) := by decide +kernel
theorem dX3_chain_22 : decode cX3_chain 22 = .ok (.iconst 0, 1) := by decide +kernel
theorem dX3_chain_23 : decode cX3_chain 23 = .ok (.bipush 12, 2) := by decide +kernel
theorem dX3_chain_25 : decode cX3_chain 25 = .ok (.invokestatic 38, 3) := by decide +kernel
theorem dX3_chain_28 : decode cX3_chain 28 = .ok (.iconst 0, 1) := by decide +kernel
theorem dX3_chain_29 : decode cX3_chain 29 = .ok (.istore_n 2, 1) := by decide +kernel
theorem dX3_chain_30 : decode cX3_chain 30 = .ok (.iload_n 2, 1) := by decide +kernel
theorem dX3_chain_31 : decode cX3_chain 31 = .ok (.aload_n 0, 1) := by decide +kernel
theorem dX3_chain_32 : decode cX3_chain 32 = .ok (.getfield 30, 3) := by decide +kernel
theorem dX3_chain_35 : decode cX3_chain 35 = .ok (.if_icmp .ge 54, 3) := by decide +kernel
theorem dX3_chain_89 : decode cX3_chain 89 = .ok (.return_, 1) := by decide +kernel
theorem dX10_cupboard_0 : decode cX10_cupboard 0 = .ok (.aload_n 0, 1) := by decide +kernel
theorem dX10_cupboard_1 : decode cX10_cupboard 1 = .ok (.getfield 10, 3) := by decide +kernel
theorem dX10_cupboard_4 : decode cX10_cupboard 4 = .ok (.invokevirtual 90, 3) := by decide +kernel
theorem dX10_cupboard_7 : decode cX10_cupboard 7 = .ok (.istore_n 1, 1) := by decide +kernel
theorem dX10_cupboard_8 : decode cX10_cupboard 8 = .ok (.iload_n 1, 1) := by decide +kernel
theorem dX10_cupboard_9 : decode cX10_cupboard 9 = .ok (.ifCond .eq 5, 3) := by decide +kernel
theorem dX10_cupboard_14 : decode cX10_cupboard 14 = .ok (.aload_n 0, 1) := by decide +kernel
theorem dX10_cupboard_15 : decode cX10_cupboard 15 = .ok (.aload_n 0, 1) := by decide +kernel
theorem dX10_cupboard_16 : decode cX10_cupboard 16 = .ok (.getfield 10, 3) := by decide +kernel
theorem dX10_cupboard_19 : decode cX10_cupboard 19 = .ok (.aload_n 0, 1) := by decide +kernel
theorem dX10_cupboard_20 : decode cX10_cupboard 20 = .ok (.getfield 19, 3) := by decide +kernel
theorem dX10_cupboard_23 : decode cX10_cupboard 23 = .ok (.invokevirtual 94, 3) := by decide +kernel
theorem dX10_cupboard_26 : decode cX10_cupboard 26 = .ok (.putfield 19, 3) := by decide +kernel
theorem dX10_cupboard_29 : decode cX10_cupboard 29 = .ok (.aload_n 0, 1) := by decide +kernel
theorem dX10_cupboard_30 : decode cX10_cupboard 30 = .ok (.getfield 26, 3) := by decide +kernel
theorem dX10_cupboard_33 : decode cX10_cupboard 33 = .ok (.invokevirtual 98, 3) := by decide +kernel
theorem dX10_cupboard_36 : decode cX10_cupboard 36 = .ok (.iconst 0, 1) := by decide +kernel
theorem dX10_cupboard_37 : decode cX10_cupboard 37 = .ok (.istore_n 2, 1) := by decide +kernel
theorem dX10_cupboard_38 : decode cX10_cupboard 38 = .ok (.iload_n 2, 1) := by decide +kernel
theorem dX10_cupboard_39 : decode cX10_cupboard 39 = .ok (.iconst 4, 1) := by decide +kernel
theorem dX10_cupboard_40 : decode cX10_cupboard 40 = .ok (.if_icmp .ge 19, 3) := by decide +kernel
theorem dX10_cupboard_43 : decode cX10_cupboard 43 = .ok (.aload_n 0, 1) := by decide +kernel
theorem dX10_cupboard_44 : decode cX10_cupboard 44 = .ok (.getfield 33, 3) := by decide +kernel
theorem dX10_cupboard_47 : decode cX10_cupboard 47 = .ok (.iload_n 2, 1) := by decide +kernel
theorem dX10_cupboard_48 : decode cX10_cupboard 48 = .ok (.aaload, 1) := by decide +kernel
theorem dX10_cupboard_49 : decode cX10_cupboard 49 = .ok (.iconst 0, 1) := by decide +kernel
theorem dX10_cupboard_50 : decode cX10_cupboard 50 = .ok (.putfield 101, 3) := by decide +kernel
theorem dX10_cupboard_53 : decode cX10_cupboard 53 = .ok (.iinc 2 1, 3) := by decide +kernel
theorem dX10_cupboard_56 : decode cX10_cupboard 56 = .ok (.goto (-18), 3) := by decide +kernel
theorem dX10_cupboard_59 : decode cX10_cupboard 59 = .ok (.aload_n 0, 1) := by decide +kernel
theorem dX10_cupboard_60 : decode cX10_cupboard 60 = .ok (.getfield 47, 3) := by decide +kernel
theorem dX10_cupboard_63 : decode cX10_cupboard 63 = .ok (.aload_n 0, 1) := by decide +kernel
theorem dX10_cupboard_64 : decode cX10_cupboard 64 = .ok (.getfield 19, 3) := by decide +kernel
theorem dX10_cupboard_67 : decode cX10_cupboard 67 = .ok (.invokevirtual 105, 3) := by decide +kernel
theorem dX10_cupboard_70 : decode cX10_cupboard 70 = .ok (.aload_n 0, 1) := by decide +kernel
theorem dX10_cupboard_71 : decode cX10_cupboard 71 = .ok (.getfield 54, 3) := by decide +kernel
theorem dX10_cupboard_74 : decode cX10_cupboard 74 = .ok (.iconst 0, 1) := by decide +kernel
theorem dX10_cupboard_75 : decode cX10_cupboard 75 = .ok (.putfield 109, 3) := by decide +kernel
theorem dX10_cupboard_78 : decode cX10_cupboard 78 = .ok (.iconst 0, 1) := by decide +kernel
theorem dX10_cupboard_79 : decode cX10_cupboard 79 = .ok (.ireturn, 1) := by decide +kernel
set_option maxHeartbeats 4000000 in
set_option maxRecDepth 100000 in
theorem c_X9_empty (l : Launch) (D : va_G) (cyC cyI cyJ cyZ cyO : ClassId) (t10 : Nat) (t11 : Nat) (t12 : Nat) (t13 : Nat) (t14 : Nat) (t15 : Nat) (t16 : Nat) (t17 : Nat) (t18 : Nat) (t19 : Nat) (t20 : Nat) : KK l D (TY cyC cyI cyJ cyZ cyO) yX9_empty cX9_empty 1 none ({ frames := 1, cells := 0, slots := 0, locals := 23 } : Room) 0 0 [.ref t10] [(t10, .inr (9, [.int 0, .int 0, .int 0, .ref t11, .ref t12, .ref t13, .ref t14, .ref t15, .ref t16, .int 0, .int 0, .ref t17, .ref t18, .ref t19, .ref t20])), (t16, .inl (cyI, 12, .inl (fun _ => 0)))] (fun u => none) (fun u => True) (fun u => [(t10, .inr (9, [.int 0, .int 0, .int 0, .ref t11, .ref t12, .ref t13, .ref t14, .ref t15, .ref t16, .int 0, .int 0, .ref t17, .ref t18, .ref t19, .ref t20])), (t16, .inl (cyI, 12, .inl (fun _ => 0)))]) := by
  refine KK.of (lv0 := [(0, .ref t10)]) (by decide) rfl (Nat.le_of_ble_eq_true rfl) ?_
  intro p e s m args below meth c A C hr hk hin
  refine j_aload_n (pc := 0) C dX9_empty_0 rfl 0 rfl ?_
  refine j_iconst (pc := 1) (v := 0) C dX9_empty_1 (by decide) ?_
  refine j_put (pc := 2) (ci := 9) (v := .int 0) (ws' := [(t10, .inr (9, [.int 0, .int 0, .int 0, .ref t11, .ref t12, .ref t13, .ref t14, .ref t15, .ref t16, .int 0, .int 0, .ref t17, .ref t18, .ref t19, .ref t20])), (t16, .inl (cyI, 12, .inl (fun _ => 0)))]) C inw_9 0 rfl rfl 0 (by decide) wd_169 rfl tyX9_ok nmX9 rfl (tyX9_ok 0 (by decide)) rfl rfl (Nat.le_of_ble_eq_true rfl) dX9_empty_2 rfl ?_
  refine j_aload_n (pc := 5) C dX9_empty_5 rfl 0 rfl ?_
  refine j_iconst (pc := 6) (v := 0) C dX9_empty_6 (by decide) ?_
  refine j_put (pc := 7) (ci := 9) (v := .int 0) (ws' := [(t10, .inr (9, [.int 0, .int 0, .int 0, .ref t11, .ref t12, .ref t13, .ref t14, .ref t15, .ref t16, .int 0, .int 0, .ref t17, .ref t18, .ref t19, .ref t20])), (t16, .inl (cyI, 12, .inl (fun _ => 0)))]) C inw_9 0 rfl rfl 1 (by decide) wd_170 rfl tyX9_ok nmX9 rfl (tyX9_ok 1 (by decide)) rfl rfl (Nat.le_of_ble_eq_true rfl) dX9_empty_7 rfl ?_
  refine j_aload_n (pc := 10) C dX9_empty_10 rfl 0 rfl ?_
  refine j_iconst (pc := 11) (v := 0) C dX9_empty_11 (by decide) ?_
  refine j_put (pc := 12) (ci := 9) (v := .int 0) (ws' := [(t10, .inr (9, [.int 0, .int 0, .int 0, .ref t11, .ref t12, .ref t13, .ref t14, .ref t15, .ref t16, .int 0, .int 0, .ref t17, .ref t18, .ref t19, .ref t20])), (t16, .inl (cyI, 12, .inl (fun _ => 0)))]) C inw_9 0 rfl rfl 2 (by decide) wd_186 rfl tyX9_ok nmX9 rfl (tyX9_ok 2 (by decide)) rfl rfl (Nat.le_of_ble_eq_true rfl) dX9_empty_12 rfl ?_
  refine j_aload_n (pc := 15) C dX9_empty_15 rfl 0 rfl ?_
  refine j_iconst (pc := 16) (v := 0) C dX9_empty_16 (by decide) ?_
  refine j_put (pc := 17) (ci := 9) (v := .int 0) (ws' := [(t10, .inr (9, [.int 0, .int 0, .int 0, .ref t11, .ref t12, .ref t13, .ref t14, .ref t15, .ref t16, .int 0, .int 0, .ref t17, .ref t18, .ref t19, .ref t20])), (t16, .inl (cyI, 12, .inl (fun _ => 0)))]) C inw_9 0 rfl rfl 9 (by decide) wd_187 rfl tyX9_ok nmX9 rfl (tyX9_ok 9 (by decide)) rfl rfl (Nat.le_of_ble_eq_true rfl) dX9_empty_17 rfl ?_
  refine j_aload_n (pc := 20) C dX9_empty_20 rfl 0 rfl ?_
  refine j_iconst (pc := 21) (v := 0) C dX9_empty_21 (by decide) ?_
  refine j_put (pc := 22) (ci := 9) (v := .int 0) (ws' := [(t10, .inr (9, [.int 0, .int 0, .int 0, .ref t11, .ref t12, .ref t13, .ref t14, .ref t15, .ref t16, .int 0, .int 0, .ref t17, .ref t18, .ref t19, .ref t20])), (t16, .inl (cyI, 12, .inl (fun _ => 0)))]) C inw_9 0 rfl rfl 10 (by decide) wd_188 rfl tyX9_ok nmX9 rfl (tyX9_ok 10 (by decide)) rfl rfl (Nat.le_of_ble_eq_true rfl) dX9_empty_22 rfl ?_
  refine j_aload_n (pc := 25) C dX9_empty_25 rfl 0 rfl ?_
  refine j_get (pc := 26) (ci := 9) (v := .ref t16) C inw_9 0 rfl rfl 8 (by decide) wd_16 rfl rfl dX9_empty_26 ?_
  refine j_iconst (pc := 29) (v := 0) C dX9_empty_29 (by decide) ?_
  refine j_callS (pc := 30) (As := [.ref t16, .int 0]) (rest := []) (wr := [(t10, .inr (9, [.int 0, .int 0, .int 0, .ref t11, .ref t12, .ref t13, .ref t14, .ref t15, .ref t16, .int 0, .int 0, .ref t17, .ref t18, .ref t19, .ref t20]))]) C (c_fill l D cyC cyI cyJ cyZ cyO t16 0 (fun _ => 0)) wd_48 wd_49 wd_189 wd_51 ⟨by decide, by decide, rfl⟩ rfl ⟨rfl, rfl, by decide, by decide⟩ ⟨by decide, by decide⟩ [1] [0] rfl rfl ⟨by decide, by decide, by decide⟩ rfl (Nat.le_of_ble_eq_true rfl) dX9_empty_30 (fun u_1 hw_2 => ?_)
  refine j_eq (ws2 := [(t10, .inr (9, [.int 0, .int 0, .int 0, .ref t11, .ref t12, .ref t13, .ref t14, .ref t15, .ref t16, .int 0, .int 0, .ref t17, .ref t18, .ref t19, .ref t20])), (t16, .inl (cyI, 12, .inl (fun _ => 0)))]) (pc2 := 33) (lv2 := [(0, .ref t10)]) (st2 := []) rfl rfl rfl rfl ?_
  exact j_vret (pc := 33) C hr hk (fun i => [].getD i 0, fun _ => 0, fun _ _ => 0) rfl trivial [0, 1] (by decide) rfl (by decide) (by decide) dX9_empty_33
set_option maxHeartbeats 4000000 in
set_option maxRecDepth 100000 in
theorem c_X1_empty (l : Launch) (D : va_G) (cyC cyI cyJ cyZ cyO : ClassId) (t4 : Nat) (t5 : Nat) (t6 : Nat) (t7 : Nat) : KK l D (TY cyC cyI cyJ cyZ cyO) yX1_empty cX1_empty 1 none ({ frames := 0, cells := 0, slots := 0, locals := 0 } : Room) 0 0 [.ref t4] [(t4, .inr (1, [.int 0, .int 0, .ref t5, .ref t6, .ref t7]))] (fun u => none) (fun u => True) (fun u => [(t4, .inr (1, [.int 0, .int 0, .ref t5, .ref t6, .ref t7]))]) := by
  refine KK.of (lv0 := [(0, .ref t4)]) (by decide) rfl (Nat.le_of_ble_eq_true rfl) ?_
  intro p e s m args below meth c A C hr hk hin
  refine j_aload_n (pc := 0) C dX1_empty_0 rfl 0 rfl ?_
  refine j_iconst (pc := 1) (v := 0) C dX1_empty_1 (by decide) ?_
  refine j_put (pc := 2) (ci := 1) (v := .int 0) (ws' := [(t4, .inr (1, [.int 0, .int 0, .ref t5, .ref t6, .ref t7]))]) C inw_1 0 rfl rfl 0 (by decide) wd_190 rfl tyX1_ok nmX1 rfl (tyX1_ok 0 (by decide)) rfl rfl (Nat.le_of_ble_eq_true rfl) dX1_empty_2 rfl ?_
  refine j_aload_n (pc := 5) C dX1_empty_5 rfl 0 rfl ?_
  refine j_iconst (pc := 6) (v := 0) C dX1_empty_6 (by decide) ?_
  refine j_put (pc := 7) (ci := 1) (v := .int 0) (ws' := [(t4, .inr (1, [.int 0, .int 0, .ref t5, .ref t6, .ref t7]))]) C inw_1 0 rfl rfl 1 (by decide) wd_191 rfl tyX1_ok nmX1 rfl (tyX1_ok 1 (by decide)) rfl rfl (Nat.le_of_ble_eq_true rfl) dX1_empty_7 rfl ?_
  exact j_vret (pc := 10) C hr hk (fun i => [].getD i 0, fun _ => 0, fun _ _ => 0) rfl trivial [0] (by decide) rfl (by decide) (by decide) dX1_empty_10
set_option maxHeartbeats 4000000 in
set_option maxRecDepth 100000 in
theorem c_X8_pastBlanks (l : Launch) (D : va_G) (cyC cyI cyJ cyZ cyO : ClassId) (t2 : Nat) (t3 : Nat) : KK l D (TY cyC cyI cyJ cyZ cyO) yX8_pastBlanks cX8_pastBlanks 3 (some .int) ({ frames := 0, cells := 0, slots := 0, locals := 0 } : Room) 0 0 [.ref t2, .int 0] [(t2, .inr (8, [.ref t3, .int 0, .int 0, .int 0, .int 0, .int 0]))] (fun u => some (.int 0)) (fun u => True) (fun u => [(t2, .inr (8, [.ref t3, .int 0, .int 0, .int 0, .int 0, .int 0]))]) := by
  refine KK.of (lv0 := [(0, .ref t2), (1, .int 0)]) (by decide) rfl (Nat.le_of_ble_eq_true rfl) ?_
  intro p e s m args below meth c A C hr hk hin
  refine j_iload_n (pc := 0) C dX8_pastBlanks_0 rfl 1 rfl ?_
  refine j_istore_n (pc := 1) (lv' := [(2, .int 0), (0, .ref t2), (1, .int 0)]) C dX8_pastBlanks_1 rfl (by decide) rfl ?_
  refine j_iload_n (pc := 2) C dX8_pastBlanks_2 rfl 0 rfl ?_
  refine j_aload_n (pc := 3) C dX8_pastBlanks_3 rfl 1 rfl ?_
  refine j_get (pc := 4) (ci := 8) (v := .int 0) C inw_8 0 rfl rfl 1 (by decide) wd_192 rfl rfl dX8_pastBlanks_4 ?_
  refine j_icmp_ge_t (pc := 7) (tgt := 38) C dX8_pastBlanks_7 (by decide) (by decide) ?_
  refine j_iload_n (pc := 38) C dX8_pastBlanks_38 rfl 0 rfl ?_
  exact j_iret (pc := 39) C hr hk (fun i => [].getD i 0, fun _ => 0, fun _ _ => 0) rfl trivial [0] (by decide) rfl (by decide) (by decide) dX8_pastBlanks_39
set_option maxHeartbeats 4000000 in
set_option maxRecDepth 100000 in
theorem c_X8_pastRun (l : Launch) (D : va_G) (cyC cyI cyJ cyZ cyO : ClassId) (p0 : Int32) (p1 : Int32) (t2 : Nat) (t3 : Nat) : KK l D (TY cyC cyI cyJ cyZ cyO) yX8_pastRun cX8_pastRun 5 (some .int) ({ frames := 0, cells := 0, slots := 0, locals := 0 } : Room) 0 0 [.ref t2, .int 0, .int p0, .int p1] [(t2, .inr (8, [.ref t3, .int 0, .int 0, .int 0, .int 0, .int 0]))] (fun u => some (.int 0)) (fun u => True) (fun u => [(t2, .inr (8, [.ref t3, .int 0, .int 0, .int 0, .int 0, .int 0]))]) := by
  refine KK.of (lv0 := [(0, .ref t2), (1, .int 0), (2, .int p0), (3, .int p1)]) (by decide) rfl (Nat.le_of_ble_eq_true rfl) ?_
  intro p e s m args below meth c A C hr hk hin
  refine j_iload_n (pc := 0) C dX8_pastRun_0 rfl 1 rfl ?_
  refine j_istore (pc := 1) (lv' := [(4, .int 0), (0, .ref t2), (1, .int 0), (2, .int p0), (3, .int p1)]) C dX8_pastRun_1 (by decide) rfl ?_
  refine j_iload (pc := 3) C dX8_pastRun_3 0 rfl ?_
  refine j_aload_n (pc := 5) C dX8_pastRun_5 rfl 1 rfl ?_
  refine j_get (pc := 6) (ci := 8) (v := .int 0) C inw_8 0 rfl rfl 1 (by decide) wd_192 rfl rfl dX8_pastRun_6 ?_
  refine j_icmp_ge_t (pc := 9) (tgt := 40) C dX8_pastRun_9 (by decide) (by decide) ?_
  refine j_iload (pc := 40) C dX8_pastRun_40 0 rfl ?_
  exact j_iret (pc := 42) C hr hk (fun i => [].getD i 0, fun _ => 0, fun _ _ => 0) rfl trivial [0] (by decide) rfl (by decide) (by decide) dX8_pastRun_42
set_option maxHeartbeats 4000000 in
set_option maxRecDepth 100000 in
theorem c_X8_advance (l : Launch) (D : va_G) (cyC cyI cyJ cyZ cyO : ClassId) (t2 : Nat) (t3 : Nat) : KK l D (TY cyC cyI cyJ cyZ cyO) yX8_advance cX8_advance 3 none ({ frames := 1, cells := 0, slots := 0, locals := 24 } : Room) 0 0 [.ref t2] [(t2, .inr (8, [.ref t3, .int 0, .int 0, .int 0, .int 0, .int 0]))] (fun u => none) (fun u => True) (fun u => [(t2, .inr (8, [.ref t3, .int 0, .int 0, .int 0, .int 0, .int 0]))]) := by
  refine KK.of (lv0 := [(0, .ref t2)]) (by decide) rfl (Nat.le_of_ble_eq_true rfl) ?_
  intro p e s m args below meth c A C hr hk hin
  refine j_aload_n (pc := 0) C dX8_advance_0 rfl 0 rfl ?_
  refine j_aload_n (pc := 1) C dX8_advance_1 rfl 0 rfl ?_
  refine j_aload_n (pc := 2) C dX8_advance_2 rfl 0 rfl ?_
  refine j_get (pc := 3) (ci := 8) (v := .int 0) C inw_8 0 rfl rfl 2 (by decide) wd_193 rfl rfl dX8_advance_3 ?_
  refine j_callV (pc := 6) (As := [.int 0]) (rest := [.ref t2]) (wr := []) C (c_X8_pastBlanks l D cyC cyI cyJ cyZ cyO t2 t3) wd_194 wd_24 wd_195 wd_196 wd_197 ⟨by decide, by decide, rfl⟩ rfl ⟨rfl, rfl, by decide, by decide⟩ ⟨by decide, by decide⟩ [0] [] rfl rfl ⟨by decide, by decide, by decide⟩ 0 rfl rfl rfl (Nat.le_of_ble_eq_true rfl) dX8_advance_6 (fun u_1 hw_2 => ?_)
  refine j_eq (ws2 := [(t2, .inr (8, [.ref t3, .int 0, .int 0, .int 0, .int 0, .int 0]))]) (pc2 := 9) (lv2 := [(0, .ref t2)]) (st2 := [.int 0, .ref t2]) rfl rfl rfl rfl ?_
  refine j_put (pc := 9) (ci := 8) (v := .int 0) (ws' := [(t2, .inr (8, [.ref t3, .int 0, .int 0, .int 0, .int 0, .int 0]))]) C inw_8 0 rfl rfl 4 (by decide) wd_198 rfl tyX8_ok nmX8 rfl (tyX8_ok 4 (by decide)) rfl rfl (Nat.le_of_ble_eq_true rfl) dX8_advance_9 rfl ?_
  refine j_aload_n (pc := 12) C dX8_advance_12 rfl 0 rfl ?_
  refine j_aload_n (pc := 13) C dX8_advance_13 rfl 0 rfl ?_
  refine j_get (pc := 14) (ci := 8) (v := .int 0) C inw_8 0 rfl rfl 4 (by decide) wd_198 rfl rfl dX8_advance_14 ?_
  refine j_bipush (pc := 17) (v := 97) C dX8_advance_17 (by decide) ?_
  refine j_bipush (pc := 19) (v := 122) C dX8_advance_19 (by decide) ?_
  refine j_callV (pc := 21) (As := [.int 0, .int 97, .int 122]) (rest := []) (wr := []) C (c_X8_pastRun l D cyC cyI cyJ cyZ cyO 97 122 t2 t3) wd_199 wd_24 wd_200 wd_201 wd_202 ⟨by decide, by decide, rfl⟩ rfl ⟨rfl, rfl, by decide, by decide⟩ ⟨by decide, by decide⟩ [0] [] rfl rfl ⟨by decide, by decide, by decide⟩ 0 rfl rfl rfl (Nat.le_of_ble_eq_true rfl) dX8_advance_21 (fun u_3 hw_4 => ?_)
  refine j_eq (ws2 := [(t2, .inr (8, [.ref t3, .int 0, .int 0, .int 0, .int 0, .int 0]))]) (pc2 := 24) (lv2 := [(0, .ref t2)]) (st2 := [.int 0]) rfl rfl rfl rfl ?_
  refine j_istore_n (pc := 24) (lv' := [(1, .int 0), (0, .ref t2)]) C dX8_advance_24 rfl (by decide) rfl ?_
  refine j_aload_n (pc := 25) C dX8_advance_25 rfl 1 rfl ?_
  refine j_aload_n (pc := 26) C dX8_advance_26 rfl 1 rfl ?_
  refine j_get (pc := 27) (ci := 8) (v := .int 0) C inw_8 0 rfl rfl 4 (by decide) wd_198 rfl rfl dX8_advance_27 ?_
  refine j_bipush (pc := 30) (v := 48) C dX8_advance_30 (by decide) ?_
  refine j_bipush (pc := 32) (v := 57) C dX8_advance_32 (by decide) ?_
  refine j_callV (pc := 34) (As := [.int 0, .int 48, .int 57]) (rest := []) (wr := []) C (c_X8_pastRun l D cyC cyI cyJ cyZ cyO 48 57 t2 t3) wd_199 wd_24 wd_200 wd_201 wd_202 ⟨by decide, by decide, rfl⟩ rfl ⟨rfl, rfl, by decide, by decide⟩ ⟨by decide, by decide⟩ [0] [] rfl rfl ⟨by decide, by decide, by decide⟩ 0 rfl rfl rfl (Nat.le_of_ble_eq_true rfl) dX8_advance_34 (fun u_5 hw_6 => ?_)
  refine j_eq (ws2 := [(t2, .inr (8, [.ref t3, .int 0, .int 0, .int 0, .int 0, .int 0]))]) (pc2 := 37) (lv2 := [(1, .int 0), (0, .ref t2)]) (st2 := [.int 0]) rfl rfl rfl rfl ?_
  refine j_istore_n (pc := 37) (lv' := [(2, .int 0), (1, .int 0), (0, .ref t2)]) C dX8_advance_37 rfl (by decide) rfl ?_
  refine j_aload_n (pc := 38) C dX8_advance_38 rfl 2 rfl ?_
  refine j_get (pc := 39) (ci := 8) (v := .int 0) C inw_8 0 rfl rfl 4 (by decide) wd_198 rfl rfl dX8_advance_39 ?_
  refine j_aload_n (pc := 42) C dX8_advance_42 rfl 2 rfl ?_
  refine j_get (pc := 43) (ci := 8) (v := .int 0) C inw_8 0 rfl rfl 1 (by decide) wd_192 rfl rfl dX8_advance_43 ?_
  refine j_icmp_lt_f (pc := 46) (tgt := 65) C dX8_advance_46 (by decide) (by decide) ?_
  refine j_aload_n (pc := 49) C dX8_advance_49 rfl 2 rfl ?_
  refine j_aload_n (pc := 50) C dX8_advance_50 rfl 2 rfl ?_
  refine j_get (pc := 51) (ci := 8) (v := .int 0) C inw_8 0 rfl rfl 4 (by decide) wd_198 rfl rfl dX8_advance_51 ?_
  refine j_put (pc := 54) (ci := 8) (v := .int 0) (ws' := [(t2, .inr (8, [.ref t3, .int 0, .int 0, .int 0, .int 0, .int 0]))]) C inw_8 0 rfl rfl 2 (by decide) wd_193 rfl tyX8_ok nmX8 rfl (tyX8_ok 2 (by decide)) rfl rfl (Nat.le_of_ble_eq_true rfl) dX8_advance_54 rfl ?_
  refine j_aload_n (pc := 57) C dX8_advance_57 rfl 2 rfl ?_
  refine j_iconst (pc := 58) (v := 0) C dX8_advance_58 (by decide) ?_
  refine j_put (pc := 59) (ci := 8) (v := .int 0) (ws' := [(t2, .inr (8, [.ref t3, .int 0, .int 0, .int 0, .int 0, .int 0]))]) C inw_8 0 rfl rfl 3 (by decide) wd_203 rfl tyX8_ok nmX8 rfl (tyX8_ok 3 (by decide)) rfl rfl (Nat.le_of_ble_eq_true rfl) dX8_advance_59 rfl ?_
  refine j_goto (pc := 62) (tgt := 206) C dX8_advance_62 (by decide) ?_
  exact j_vret (pc := 206) C hr hk (fun i => [].getD i 0, fun _ => 0, fun _ _ => 0) rfl trivial [0] (by decide) rfl (by decide) (by decide) dX8_advance_206
set_option maxHeartbeats 4000000 in
set_option maxRecDepth 100000 in
theorem c_X8_start (l : Launch) (D : va_G) (cyC cyI cyJ cyZ cyO : ClassId) (t2 : Nat) (t3 : Nat) : KK l D (TY cyC cyI cyJ cyZ cyO) yX8_start cX8_start 1 none ({ frames := 2, cells := 0, slots := 0, locals := 46 } : Room) 0 0 [.ref t2] [(t2, .inr (8, [.ref t3, .int 0, .int 0, .int 0, .int 0, .int 0]))] (fun u => none) (fun u => True) (fun u => [(t2, .inr (8, [.ref t3, .int 0, .int 0, .int 0, .int 0, .int 0]))]) := by
  refine KK.of (lv0 := [(0, .ref t2)]) (by decide) rfl (Nat.le_of_ble_eq_true rfl) ?_
  intro p e s m args below meth c A C hr hk hin
  refine j_aload_n (pc := 0) C dX8_start_0 rfl 0 rfl ?_
  refine j_iconst (pc := 1) (v := 0) C dX8_start_1 (by decide) ?_
  refine j_put (pc := 2) (ci := 8) (v := .int 0) (ws' := [(t2, .inr (8, [.ref t3, .int 0, .int 0, .int 0, .int 0, .int 0]))]) C inw_8 0 rfl rfl 2 (by decide) wd_193 rfl tyX8_ok nmX8 rfl (tyX8_ok 2 (by decide)) rfl rfl (Nat.le_of_ble_eq_true rfl) dX8_start_2 rfl ?_
  refine j_aload_n (pc := 5) C dX8_start_5 rfl 0 rfl ?_
  refine j_callV (pc := 6) (As := []) (rest := []) (wr := []) C (c_X8_advance l D cyC cyI cyJ cyZ cyO t2 t3) wd_204 wd_24 wd_205 wd_206 wd_207 ⟨by decide, by decide, rfl⟩ rfl ⟨rfl, rfl, by decide, by decide⟩ ⟨by decide, by decide⟩ [0] [] rfl rfl ⟨by decide, by decide, by decide⟩ 0 rfl rfl rfl (Nat.le_of_ble_eq_true rfl) dX8_start_6 (fun u_1 hw_2 => ?_)
  refine j_eq (ws2 := [(t2, .inr (8, [.ref t3, .int 0, .int 0, .int 0, .int 0, .int 0]))]) (pc2 := 9) (lv2 := [(0, .ref t2)]) (st2 := []) rfl rfl rfl rfl ?_
  exact j_vret (pc := 9) C hr hk (fun i => [].getD i 0, fun _ => 0, fun _ _ => 0) rfl trivial [0] (by decide) rfl (by decide) (by decide) dX8_start_9
set_option maxHeartbeats 4000000 in
set_option maxRecDepth 100000 in
theorem c_X5_findMay (l : Launch) (D : va_G) (cyC cyI cyJ cyZ cyO : ClassId) (t1 : Nat) (t2 : Nat) (t4 : Nat) (t8 : Nat) (t9 : Nat) (t10 : Nat) (t11 : Nat) (t12 : Nat) (t13 : Nat) (t14 : Nat) (t15 : Nat) (t16 : Nat) (t17 : Nat) (t18 : Nat) (t19 : Nat) (t20 : Nat) : KK l D (TY cyC cyI cyJ cyZ cyO) yX5_findMay cX5_findMay 3 none ({ frames := 1, cells := 0, slots := 0, locals := 23 } : Room) 0 0 [.ref t1] [(t1, .inr (5, [.ref t2, .ref t4, .ref t8, .ref t9, .ref t10, .int 0, .int 0])), (t10, .inr (9, [.int 0, .int 0, .int 0, .ref t11, .ref t12, .ref t13, .ref t14, .ref t15, .ref t16, .int 0, .int 0, .ref t17, .ref t18, .ref t19, .ref t20])), (t17, .inl (cyI, 12, .inl (fun _ => 0)))] (fun u => none) (fun u => True) (fun u => [(t1, .inr (5, [.ref t2, .ref t4, .ref t8, .ref t9, .ref t10, .int 0, .int 0])), (t10, .inr (9, [.int 0, .int 0, .int 0, .ref t11, .ref t12, .ref t13, .ref t14, .ref t15, .ref t16, .int 0, .int 0, .ref t17, .ref t18, .ref t19, .ref t20])), (t17, .inl (cyI, 12, .inl (fun _ => 0)))]) := by
  refine KK.of (lv0 := [(0, .ref t1)]) (by decide) rfl (Nat.le_of_ble_eq_true rfl) ?_
  intro p e s m args below meth c A C hr hk hin
  refine j_aload_n (pc := 0) C dX5_findMay_0 rfl 0 rfl ?_
  refine j_get (pc := 1) (ci := 5) (v := .ref t10) C inw_5 0 rfl rfl 4 (by decide) wd_42 rfl rfl dX5_findMay_1 ?_
  refine j_get (pc := 4) (ci := 9) (v := .ref t17) C inw_9 1 rfl rfl 11 (by decide) wd_208 rfl rfl dX5_findMay_4 ?_
  refine j_iconst (pc := 7) (v := 0) C dX5_findMay_7 (by decide) ?_
  refine j_callS (pc := 8) (As := [.ref t17, .int 0]) (rest := []) (wr := [(t1, .inr (5, [.ref t2, .ref t4, .ref t8, .ref t9, .ref t10, .int 0, .int 0])), (t10, .inr (9, [.int 0, .int 0, .int 0, .ref t11, .ref t12, .ref t13, .ref t14, .ref t15, .ref t16, .int 0, .int 0, .ref t17, .ref t18, .ref t19, .ref t20]))]) C (c_fill l D cyC cyI cyJ cyZ cyO t17 0 (fun _ => 0)) wd_48 wd_49 wd_209 wd_51 ⟨by decide, by decide, rfl⟩ rfl ⟨rfl, rfl, by decide, by decide⟩ ⟨by decide, by decide⟩ [2] [0, 1] rfl rfl ⟨by decide, by decide, by decide⟩ rfl (Nat.le_of_ble_eq_true rfl) dX5_findMay_8 (fun u_1 hw_2 => ?_)
  refine j_eq (ws2 := [(t1, .inr (5, [.ref t2, .ref t4, .ref t8, .ref t9, .ref t10, .int 0, .int 0])), (t10, .inr (9, [.int 0, .int 0, .int 0, .ref t11, .ref t12, .ref t13, .ref t14, .ref t15, .ref t16, .int 0, .int 0, .ref t17, .ref t18, .ref t19, .ref t20])), (t17, .inl (cyI, 12, .inl (fun _ => 0)))]) (pc2 := 11) (lv2 := [(0, .ref t1)]) (st2 := []) rfl rfl rfl rfl ?_
  refine j_iconst (pc := 11) (v := 0) C dX5_findMay_11 (by decide) ?_
  refine j_istore_n (pc := 12) (lv' := [(1, .int 0), (0, .ref t1)]) C dX5_findMay_12 rfl (by decide) rfl ?_
  refine j_iload_n (pc := 13) C dX5_findMay_13 rfl 0 rfl ?_
  refine j_aload_n (pc := 14) C dX5_findMay_14 rfl 1 rfl ?_
  refine j_get (pc := 15) (ci := 5) (v := .ref t10) C inw_5 0 rfl rfl 4 (by decide) wd_42 rfl rfl dX5_findMay_15 ?_
  refine j_get (pc := 18) (ci := 9) (v := .int 0) C inw_9 1 rfl rfl 0 (by decide) wd_210 rfl rfl dX5_findMay_18 ?_
  refine j_icmp_ge_t (pc := 21) (tgt := 85) C dX5_findMay_21 (by decide) (by decide) ?_
  exact j_vret (pc := 85) C hr hk (fun i => [].getD i 0, fun _ => 0, fun _ _ => 0) rfl trivial [0, 1, 2] (by decide) rfl (by decide) (by decide) dX5_findMay_85
set_option maxHeartbeats 4000000 in
set_option maxRecDepth 100000 in
theorem c_X5_read (l : Launch) (D : va_G) (cyC cyI cyJ cyZ cyO : ClassId) (t1 : Nat) (t2 : Nat) (t4 : Nat) (t8 : Nat) (t9 : Nat) (t10 : Nat) (t3 : Nat) (t5 : Nat) (t6 : Nat) (t7 : Nat) (t11 : Nat) (t12 : Nat) (t13 : Nat) (t14 : Nat) (t15 : Nat) (t16 : Nat) (t17 : Nat) (t18 : Nat) (t19 : Nat) (t20 : Nat) : KK l D (TY cyC cyI cyJ cyZ cyO) yX5_read cX5_read 3 (some .int) ({ frames := 3, cells := 0, slots := 0, locals := 66 } : Room) 0 0 [.ref t1] [(t1, .inr (5, [.ref t2, .ref t4, .ref t8, .ref t9, .ref t10, .int 0, .int 0])), (t2, .inr (8, [.ref t3, .int 0, .int 0, .int 0, .int 0, .int 0])), (t4, .inr (1, [.int 0, .int 0, .ref t5, .ref t6, .ref t7])), (t10, .inr (9, [.int 0, .int 0, .int 0, .ref t11, .ref t12, .ref t13, .ref t14, .ref t15, .ref t16, .int 0, .int 0, .ref t17, .ref t18, .ref t19, .ref t20])), (t16, .inl (cyI, 12, .inl (fun _ => 0))), (t17, .inl (cyI, 12, .inl (fun _ => 0)))] (fun u => some (.int 0)) (fun u => True) (fun u => [(t1, .inr (5, [.ref t2, .ref t4, .ref t8, .ref t9, .ref t10, .int 0, .int 0])), (t2, .inr (8, [.ref t3, .int 0, .int 0, .int 0, .int 0, .int 0])), (t4, .inr (1, [.int 0, .int 0, .ref t5, .ref t6, .ref t7])), (t10, .inr (9, [.int 0, .int 0, .int 0, .ref t11, .ref t12, .ref t13, .ref t14, .ref t15, .ref t16, .int 0, .int 0, .ref t17, .ref t18, .ref t19, .ref t20])), (t16, .inl (cyI, 12, .inl (fun _ => 0))), (t17, .inl (cyI, 12, .inl (fun _ => 0)))]) := by
  refine KK.of (lv0 := [(0, .ref t1)]) (by decide) rfl (Nat.le_of_ble_eq_true rfl) ?_
  intro p e s m args below meth c A C hr hk hin
  refine j_aload_n (pc := 0) C dX5_read_0 rfl 0 rfl ?_
  refine j_get (pc := 1) (ci := 5) (v := .ref t10) C inw_5 0 rfl rfl 4 (by decide) wd_42 rfl rfl dX5_read_1 ?_
  refine j_callV (pc := 4) (As := []) (rest := []) (wr := [(t1, .inr (5, [.ref t2, .ref t4, .ref t8, .ref t9, .ref t10, .int 0, .int 0])), (t2, .inr (8, [.ref t3, .int 0, .int 0, .int 0, .int 0, .int 0])), (t4, .inr (1, [.int 0, .int 0, .ref t5, .ref t6, .ref t7])), (t17, .inl (cyI, 12, .inl (fun _ => 0)))]) C (c_X9_empty l D cyC cyI cyJ cyZ cyO t10 t11 t12 t13 t14 t15 t16 t17 t18 t19 t20) wd_211 wd_39 wd_212 wd_213 wd_214 ⟨by decide, by decide, rfl⟩ rfl ⟨rfl, rfl, by decide, by decide⟩ ⟨by decide, by decide⟩ [3, 4] [0, 1, 2, 5] rfl rfl ⟨by decide, by decide, by decide⟩ 3 rfl rfl rfl (Nat.le_of_ble_eq_true rfl) dX5_read_4 (fun u_1 hw_2 => ?_)
  refine j_eq (ws2 := [(t1, .inr (5, [.ref t2, .ref t4, .ref t8, .ref t9, .ref t10, .int 0, .int 0])), (t2, .inr (8, [.ref t3, .int 0, .int 0, .int 0, .int 0, .int 0])), (t4, .inr (1, [.int 0, .int 0, .ref t5, .ref t6, .ref t7])), (t17, .inl (cyI, 12, .inl (fun _ => 0))), (t10, .inr (9, [.int 0, .int 0, .int 0, .ref t11, .ref t12, .ref t13, .ref t14, .ref t15, .ref t16, .int 0, .int 0, .ref t17, .ref t18, .ref t19, .ref t20])), (t16, .inl (cyI, 12, .inl (fun _ => 0)))]) (pc2 := 7) (lv2 := [(0, .ref t1)]) (st2 := []) rfl rfl rfl rfl ?_
  refine j_aload_n (pc := 7) C dX5_read_7 rfl 0 rfl ?_
  refine j_get (pc := 8) (ci := 5) (v := .ref t4) C inw_5 0 rfl rfl 1 (by decide) wd_33 rfl rfl dX5_read_8 ?_
  refine j_callV (pc := 11) (As := []) (rest := []) (wr := [(t1, .inr (5, [.ref t2, .ref t4, .ref t8, .ref t9, .ref t10, .int 0, .int 0])), (t2, .inr (8, [.ref t3, .int 0, .int 0, .int 0, .int 0, .int 0])), (t17, .inl (cyI, 12, .inl (fun _ => 0))), (t10, .inr (9, [.int 0, .int 0, .int 0, .ref t11, .ref t12, .ref t13, .ref t14, .ref t15, .ref t16, .int 0, .int 0, .ref t17, .ref t18, .ref t19, .ref t20])), (t16, .inl (cyI, 12, .inl (fun _ => 0)))]) C (c_X1_empty l D cyC cyI cyJ cyZ cyO t4 t5 t6 t7) wd_215 wd_30 wd_216 wd_217 wd_218 ⟨by decide, by decide, rfl⟩ rfl ⟨rfl, rfl, by decide, by decide⟩ ⟨by decide, by decide⟩ [2] [0, 1, 3, 4, 5] rfl rfl ⟨by decide, by decide, by decide⟩ 2 rfl rfl rfl (Nat.le_of_ble_eq_true rfl) dX5_read_11 (fun u_3 hw_4 => ?_)
  refine j_eq (ws2 := [(t1, .inr (5, [.ref t2, .ref t4, .ref t8, .ref t9, .ref t10, .int 0, .int 0])), (t2, .inr (8, [.ref t3, .int 0, .int 0, .int 0, .int 0, .int 0])), (t17, .inl (cyI, 12, .inl (fun _ => 0))), (t10, .inr (9, [.int 0, .int 0, .int 0, .ref t11, .ref t12, .ref t13, .ref t14, .ref t15, .ref t16, .int 0, .int 0, .ref t17, .ref t18, .ref t19, .ref t20])), (t16, .inl (cyI, 12, .inl (fun _ => 0))), (t4, .inr (1, [.int 0, .int 0, .ref t5, .ref t6, .ref t7]))]) (pc2 := 14) (lv2 := [(0, .ref t1)]) (st2 := []) rfl rfl rfl rfl ?_
  refine j_aload_n (pc := 14) C dX5_read_14 rfl 0 rfl ?_
  refine j_iconst (pc := 15) (v := 0) C dX5_read_15 (by decide) ?_
  refine j_put (pc := 16) (ci := 5) (v := .int 0) (ws' := [(t1, .inr (5, [.ref t2, .ref t4, .ref t8, .ref t9, .ref t10, .int 0, .int 0])), (t2, .inr (8, [.ref t3, .int 0, .int 0, .int 0, .int 0, .int 0])), (t17, .inl (cyI, 12, .inl (fun _ => 0))), (t10, .inr (9, [.int 0, .int 0, .int 0, .ref t11, .ref t12, .ref t13, .ref t14, .ref t15, .ref t16, .int 0, .int 0, .ref t17, .ref t18, .ref t19, .ref t20])), (t16, .inl (cyI, 12, .inl (fun _ => 0))), (t4, .inr (1, [.int 0, .int 0, .ref t5, .ref t6, .ref t7]))]) C inw_5 0 rfl rfl 5 (by decide) wd_219 rfl tyX5_ok nmX5 rfl (tyX5_ok 5 (by decide)) rfl rfl (Nat.le_of_ble_eq_true rfl) dX5_read_16 rfl ?_
  refine j_aload_n (pc := 19) C dX5_read_19 rfl 0 rfl ?_
  refine j_iconst (pc := 20) (v := 0) C dX5_read_20 (by decide) ?_
  refine j_put (pc := 21) (ci := 5) (v := .int 0) (ws' := [(t1, .inr (5, [.ref t2, .ref t4, .ref t8, .ref t9, .ref t10, .int 0, .int 0])), (t2, .inr (8, [.ref t3, .int 0, .int 0, .int 0, .int 0, .int 0])), (t17, .inl (cyI, 12, .inl (fun _ => 0))), (t10, .inr (9, [.int 0, .int 0, .int 0, .ref t11, .ref t12, .ref t13, .ref t14, .ref t15, .ref t16, .int 0, .int 0, .ref t17, .ref t18, .ref t19, .ref t20])), (t16, .inl (cyI, 12, .inl (fun _ => 0))), (t4, .inr (1, [.int 0, .int 0, .ref t5, .ref t6, .ref t7]))]) C inw_5 0 rfl rfl 6 (by decide) wd_220 rfl tyX5_ok nmX5 rfl (tyX5_ok 6 (by decide)) rfl rfl (Nat.le_of_ble_eq_true rfl) dX5_read_21 rfl ?_
  refine j_aload_n (pc := 24) C dX5_read_24 rfl 0 rfl ?_
  refine j_get (pc := 25) (ci := 5) (v := .ref t2) C inw_5 0 rfl rfl 0 (by decide) wd_27 rfl rfl dX5_read_25 ?_
  refine j_callV (pc := 28) (As := []) (rest := []) (wr := [(t1, .inr (5, [.ref t2, .ref t4, .ref t8, .ref t9, .ref t10, .int 0, .int 0])), (t17, .inl (cyI, 12, .inl (fun _ => 0))), (t10, .inr (9, [.int 0, .int 0, .int 0, .ref t11, .ref t12, .ref t13, .ref t14, .ref t15, .ref t16, .int 0, .int 0, .ref t17, .ref t18, .ref t19, .ref t20])), (t16, .inl (cyI, 12, .inl (fun _ => 0))), (t4, .inr (1, [.int 0, .int 0, .ref t5, .ref t6, .ref t7]))]) C (c_X8_start l D cyC cyI cyJ cyZ cyO t2 t3) wd_221 wd_24 wd_222 wd_223 wd_224 ⟨by decide, by decide, rfl⟩ rfl ⟨rfl, rfl, by decide, by decide⟩ ⟨by decide, by decide⟩ [1] [0, 2, 3, 4, 5] rfl rfl ⟨by decide, by decide, by decide⟩ 1 rfl rfl rfl (Nat.le_of_ble_eq_true rfl) dX5_read_28 (fun u_5 hw_6 => ?_)
  refine j_eq (ws2 := [(t1, .inr (5, [.ref t2, .ref t4, .ref t8, .ref t9, .ref t10, .int 0, .int 0])), (t17, .inl (cyI, 12, .inl (fun _ => 0))), (t10, .inr (9, [.int 0, .int 0, .int 0, .ref t11, .ref t12, .ref t13, .ref t14, .ref t15, .ref t16, .int 0, .int 0, .ref t17, .ref t18, .ref t19, .ref t20])), (t16, .inl (cyI, 12, .inl (fun _ => 0))), (t4, .inr (1, [.int 0, .int 0, .ref t5, .ref t6, .ref t7])), (t2, .inr (8, [.ref t3, .int 0, .int 0, .int 0, .int 0, .int 0]))]) (pc2 := 31) (lv2 := [(0, .ref t1)]) (st2 := []) rfl rfl rfl rfl ?_
  refine j_iconst (pc := 31) (v := 1) C dX5_read_31 (by decide) ?_
  refine j_istore_n (pc := 32) (lv' := [(1, .int 1), (0, .ref t1)]) C dX5_read_32 rfl (by decide) rfl ?_
  refine j_iconst (pc := 33) (v := 0) C dX5_read_33 (by decide) ?_
  refine j_istore_n (pc := 34) (lv' := [(2, .int 0), (1, .int 1), (0, .ref t1)]) C dX5_read_34 rfl (by decide) rfl ?_
  refine j_iload_n (pc := 35) C dX5_read_35 rfl 0 rfl ?_
  refine j_sipush (pc := 36) (v := 1000) C dX5_read_36 (by decide) ?_
  refine j_icmp_ge_f (pc := 39) (tgt := 67) C dX5_read_39 (by decide) (by decide) ?_
  refine j_iload_n (pc := 42) C dX5_read_42 rfl 1 rfl ?_
  refine j_if_eq_f (pc := 43) (tgt := 67) C dX5_read_43 (by decide) (by decide) ?_
  refine j_aload_n (pc := 46) C dX5_read_46 rfl 2 rfl ?_
  refine j_get (pc := 47) (ci := 5) (v := .ref t2) C inw_5 0 rfl rfl 0 (by decide) wd_27 rfl rfl dX5_read_47 ?_
  refine j_get (pc := 50) (ci := 8) (v := .int 0) C inw_8 5 rfl rfl 3 (by decide) wd_225 rfl rfl dX5_read_50 ?_
  refine j_if_eq_t (pc := 53) (tgt := 67) C dX5_read_53 (by decide) (by decide) ?_
  refine j_aload_n (pc := 67) C dX5_read_67 rfl 2 rfl ?_
  refine j_get (pc := 68) (ci := 5) (v := .ref t2) C inw_5 0 rfl rfl 0 (by decide) wd_27 rfl rfl dX5_read_68 ?_
  refine j_iconst (pc := 71) (v := 0) C dX5_read_71 (by decide) ?_
  refine j_put (pc := 72) (ci := 8) (v := .int 0) (ws' := [(t1, .inr (5, [.ref t2, .ref t4, .ref t8, .ref t9, .ref t10, .int 0, .int 0])), (t17, .inl (cyI, 12, .inl (fun _ => 0))), (t10, .inr (9, [.int 0, .int 0, .int 0, .ref t11, .ref t12, .ref t13, .ref t14, .ref t15, .ref t16, .int 0, .int 0, .ref t17, .ref t18, .ref t19, .ref t20])), (t16, .inl (cyI, 12, .inl (fun _ => 0))), (t4, .inr (1, [.int 0, .int 0, .ref t5, .ref t6, .ref t7])), (t2, .inr (8, [.ref t3, .int 0, .int 0, .int 0, .int 0, .int 0]))]) C inw_8 5 rfl rfl 1 (by decide) wd_226 rfl tyX8_ok nmX8 rfl (tyX8_ok 1 (by decide)) rfl rfl (Nat.le_of_ble_eq_true rfl) dX5_read_72 rfl ?_
  refine j_iload_n (pc := 75) C dX5_read_75 rfl 1 rfl ?_
  refine j_if_eq_f (pc := 76) (tgt := 83) C dX5_read_76 (by decide) (by decide) ?_
  refine j_aload_n (pc := 79) C dX5_read_79 rfl 2 rfl ?_
  refine j_callV (pc := 80) (As := []) (rest := []) (wr := [(t16, .inl (cyI, 12, .inl (fun _ => 0))), (t4, .inr (1, [.int 0, .int 0, .ref t5, .ref t6, .ref t7])), (t2, .inr (8, [.ref t3, .int 0, .int 0, .int 0, .int 0, .int 0]))]) C (c_X5_findMay l D cyC cyI cyJ cyZ cyO t1 t2 t4 t8 t9 t10 t11 t12 t13 t14 t15 t16 t17 t18 t19 t20) wd_227 wd_72 wd_228 wd_229 wd_230 ⟨by decide, by decide, rfl⟩ rfl ⟨rfl, rfl, by decide, by decide⟩ ⟨by decide, by decide⟩ [0, 2, 1] [3, 4, 5] rfl rfl ⟨by decide, by decide, by decide⟩ 0 rfl rfl rfl (Nat.le_of_ble_eq_true rfl) dX5_read_80 (fun u_7 hw_8 => ?_)
  refine j_eq (ws2 := [(t16, .inl (cyI, 12, .inl (fun _ => 0))), (t4, .inr (1, [.int 0, .int 0, .ref t5, .ref t6, .ref t7])), (t2, .inr (8, [.ref t3, .int 0, .int 0, .int 0, .int 0, .int 0])), (t1, .inr (5, [.ref t2, .ref t4, .ref t8, .ref t9, .ref t10, .int 0, .int 0])), (t10, .inr (9, [.int 0, .int 0, .int 0, .ref t11, .ref t12, .ref t13, .ref t14, .ref t15, .ref t16, .int 0, .int 0, .ref t17, .ref t18, .ref t19, .ref t20])), (t17, .inl (cyI, 12, .inl (fun _ => 0)))]) (pc2 := 83) (lv2 := [(2, .int 0), (1, .int 1), (0, .ref t1)]) (st2 := []) rfl rfl rfl rfl ?_
  refine j_aload_n (pc := 83) C dX5_read_83 rfl 2 rfl ?_
  refine j_get (pc := 84) (ci := 5) (v := .int 0) C inw_5 3 rfl rfl 6 (by decide) wd_220 rfl rfl dX5_read_84 ?_
  exact j_iret (pc := 87) C hr hk (fun i => [].getD i 0, fun _ => 0, fun _ _ => 0) rfl trivial [3, 2, 1, 4, 0, 5] (by decide) rfl (by decide) (by decide) dX5_read_87
set_option maxHeartbeats 4000000 in
set_option maxRecDepth 100000 in
theorem c_X5_exchange (l : Launch) (D : va_G) (cyC cyI cyJ cyZ cyO : ClassId) (t1 : Nat) (t21 : Nat) (t2 : Nat) (t4 : Nat) (t8 : Nat) (t9 : Nat) (t10 : Nat) : KK l D (TY cyC cyI cyJ cyZ cyO) yX5_exchange cX5_exchange 3 (some (.object "BowlShelf$Told")) ({ frames := 0, cells := 0, slots := 0, locals := 0 } : Room) 0 0 [.ref t1, .ref t21] [(t1, .inr (5, [.ref t2, .ref t4, .ref t8, .ref t9, .ref t10, .int 0, .int 0]))] (fun u => some (.ref t10)) (fun u => True) (fun u => [(t1, .inr (5, [.ref t2, .ref t4, .ref t8, .ref t9, .ref t21, .int 0, .int 0]))]) := by
  refine KK.of (lv0 := [(0, .ref t1), (1, .ref t21)]) (by decide) rfl (Nat.le_of_ble_eq_true rfl) ?_
  intro p e s m args below meth c A C hr hk hin
  refine j_aload_n (pc := 0) C dX5_exchange_0 rfl 0 rfl ?_
  refine j_get (pc := 1) (ci := 5) (v := .ref t10) C inw_5 0 rfl rfl 4 (by decide) wd_42 rfl rfl dX5_exchange_1 ?_
  refine j_astore_n (pc := 4) (lv' := [(2, .ref t10), (0, .ref t1), (1, .ref t21)]) C dX5_exchange_4 rfl (by decide) rfl ?_
  refine j_aload_n (pc := 5) C dX5_exchange_5 rfl 1 rfl ?_
  refine j_aload_n (pc := 6) C dX5_exchange_6 rfl 2 rfl ?_
  refine j_put (pc := 7) (ci := 5) (v := .ref t21) (ws' := [(t1, .inr (5, [.ref t2, .ref t4, .ref t8, .ref t9, .ref t21, .int 0, .int 0]))]) C inw_5 0 rfl rfl 4 (by decide) wd_42 rfl tyX5_ok nmX5 rfl (tyX5_ok 4 (by decide)) rfl rfl (Nat.le_of_ble_eq_true rfl) dX5_exchange_7 rfl ?_
  refine j_aload_n (pc := 10) C dX5_exchange_10 rfl 0 rfl ?_
  exact j_aret (pc := 11) C hr (Or.inl ⟨_, rfl⟩) hk (fun i => [].getD i 0, fun _ => 0, fun _ _ => 0) rfl trivial [0] (by decide) rfl (by decide) (by decide) dX5_exchange_11
set_option maxHeartbeats 4000000 in
set_option maxRecDepth 100000 in
theorem c_X7_empty (l : Launch) (D : va_G) (cyC cyI cyJ cyZ cyO : ClassId) (t32 : Nat) (t33 : Nat) (t34 : Nat) (t35 : Nat) (t36 : Nat) : KK l D (TY cyC cyI cyJ cyZ cyO) yX7_empty cX7_empty 1 none ({ frames := 1, cells := 0, slots := 0, locals := 23 } : Room) 0 0 [.ref t32] [(t32, .inr (7, [.ref t33, .ref t34, .ref t35, .ref t36, .int 0, .int 0, .int 0])), (t33, .inl (cyI, 12, .inl (fun _ => (-1))))] (fun u => none) (fun u => True) (fun u => [(t32, .inr (7, [.ref t33, .ref t34, .ref t35, .ref t36, .int 0, .int 0, .int 0])), (t33, .inl (cyI, 12, .inl (fun _ => (-1))))]) := by
  refine KK.of (lv0 := [(0, .ref t32)]) (by decide) rfl (Nat.le_of_ble_eq_true rfl) ?_
  intro p e s m args below meth c A C hr hk hin
  refine j_aload_n (pc := 0) C dX7_empty_0 rfl 0 rfl ?_
  refine j_get (pc := 1) (ci := 7) (v := .ref t33) C inw_7 0 rfl rfl 0 (by decide) wd_44 rfl rfl dX7_empty_1 ?_
  refine j_iconst (pc := 4) (v := (-1)) C dX7_empty_4 (by decide) ?_
  refine j_callS (pc := 5) (As := [.ref t33, .int (-1)]) (rest := []) (wr := [(t32, .inr (7, [.ref t33, .ref t34, .ref t35, .ref t36, .int 0, .int 0, .int 0]))]) C (c_fill l D cyC cyI cyJ cyZ cyO t33 (-1) (fun _ => (-1))) wd_48 wd_49 wd_50 wd_51 ⟨by decide, by decide, rfl⟩ rfl ⟨rfl, rfl, by decide, by decide⟩ ⟨by decide, by decide⟩ [1] [0] rfl rfl ⟨by decide, by decide, by decide⟩ rfl (Nat.le_of_ble_eq_true rfl) dX7_empty_5 (fun u_1 hw_2 => ?_)
  refine j_eq (ws2 := [(t32, .inr (7, [.ref t33, .ref t34, .ref t35, .ref t36, .int 0, .int 0, .int 0])), (t33, .inl (cyI, 12, .inl (fun _ => (-1))))]) (pc2 := 8) (lv2 := [(0, .ref t32)]) (st2 := []) rfl rfl rfl rfl ?_
  refine j_aload_n (pc := 8) C dX7_empty_8 rfl 0 rfl ?_
  refine j_iconst (pc := 9) (v := 0) C dX7_empty_9 (by decide) ?_
  refine j_put (pc := 10) (ci := 7) (v := .int 0) (ws' := [(t32, .inr (7, [.ref t33, .ref t34, .ref t35, .ref t36, .int 0, .int 0, .int 0])), (t33, .inl (cyI, 12, .inl (fun _ => (-1))))]) C inw_7 0 rfl rfl 4 (by decide) wd_231 rfl tyX7_ok nmX7 rfl (tyX7_ok 4 (by decide)) rfl rfl (Nat.le_of_ble_eq_true rfl) dX7_empty_10 rfl ?_
  exact j_vret (pc := 13) C hr hk (fun i => [].getD i 0, fun _ => 0, fun _ _ => 0) rfl trivial [0, 1] (by decide) rfl (by decide) (by decide) dX7_empty_13
set_option maxHeartbeats 4000000 in
set_option maxRecDepth 100000 in
theorem c_X3_chain (l : Launch) (D : va_G) (cyC cyI cyJ cyZ cyO : ClassId) (t45 : Nat) (t10 : Nat) (t11 : Nat) (t12 : Nat) (t13 : Nat) (t14 : Nat) (t15 : Nat) (t16 : Nat) (t17 : Nat) (t18 : Nat) (t19 : Nat) (t20 : Nat) (t46 : Nat) (t47 : Nat) (t48 : Nat) (t49 : Nat) : KK l D (TY cyC cyI cyJ cyZ cyO) yX3_chain cX3_chain 4 none ({ frames := 1, cells := 0, slots := 0, locals := 18 } : Room) 0 0 [.ref t45, .ref t10] [(t10, .inr (9, [.int 0, .int 0, .int 0, .ref t11, .ref t12, .ref t13, .ref t14, .ref t15, .ref t16, .int 0, .int 0, .ref t17, .ref t18, .ref t19, .ref t20])), (t17, .inl (cyI, 12, .inl (fun _ => 0))), (t45, .inr (3, [.int 0, .ref t46, .ref t47, .int 0, .int 0, .int 0, .ref t48, .ref t49])), (t46, .inl (cyI, 12, .inl (fun _ => 0)))] (fun u => none) (fun u => True) (fun u => [(t10, .inr (9, [.int 0, .int 0, .int 0, .ref t11, .ref t12, .ref t13, .ref t14, .ref t15, .ref t16, .int 0, .int 0, .ref t17, .ref t18, .ref t19, .ref t20])), (t17, .inl (cyI, 12, .inl (fun _ => 0))), (t45, .inr (3, [.int 0, .ref t46, .ref t47, .int 0, .int 0, .int 0, .ref t48, .ref t49])), (t46, .inl (cyI, 12, .inl (va_cpy (fun _ => 0) (fun _ => 0) 0 0 12)))]) := by
  refine KK.of (lv0 := [(0, .ref t45), (1, .ref t10)]) (by decide) rfl (Nat.le_of_ble_eq_true rfl) ?_
  intro p e s m args below meth c A C hr hk hin
  refine j_aload_n (pc := 0) C dX3_chain_0 rfl 0 rfl ?_
  refine j_aload_n (pc := 1) C dX3_chain_1 rfl 1 rfl ?_
  refine j_get (pc := 2) (ci := 9) (v := .int 0) C inw_9 0 rfl rfl 0 (by decide) wd_232 rfl rfl dX3_chain_2 ?_
  refine j_put (pc := 5) (ci := 3) (v := .int 0) (ws' := [(t10, .inr (9, [.int 0, .int 0, .int 0, .ref t11, .ref t12, .ref t13, .ref t14, .ref t15, .ref t16, .int 0, .int 0, .ref t17, .ref t18, .ref t19, .ref t20])), (t17, .inl (cyI, 12, .inl (fun _ => 0))), (t45, .inr (3, [.int 0, .ref t46, .ref t47, .int 0, .int 0, .int 0, .ref t48, .ref t49])), (t46, .inl (cyI, 12, .inl (fun _ => 0)))]) C inw_3 2 rfl rfl 0 (by decide) wd_233 rfl tyX3_ok nmX3 rfl (tyX3_ok 0 (by decide)) rfl rfl (Nat.le_of_ble_eq_true rfl) dX3_chain_5 rfl ?_
  refine j_aload_n (pc := 8) C dX3_chain_8 rfl 0 rfl ?_
  refine j_iconst (pc := 9) (v := 0) C dX3_chain_9 (by decide) ?_
  refine j_put (pc := 10) (ci := 3) (v := .int 0) (ws' := [(t10, .inr (9, [.int 0, .int 0, .int 0, .ref t11, .ref t12, .ref t13, .ref t14, .ref t15, .ref t16, .int 0, .int 0, .ref t17, .ref t18, .ref t19, .ref t20])), (t17, .inl (cyI, 12, .inl (fun _ => 0))), (t45, .inr (3, [.int 0, .ref t46, .ref t47, .int 0, .int 0, .int 0, .ref t48, .ref t49])), (t46, .inl (cyI, 12, .inl (fun _ => 0)))]) C inw_3 2 rfl rfl 3 (by decide) wd_234 rfl tyX3_ok nmX3 rfl (tyX3_ok 3 (by decide)) rfl rfl (Nat.le_of_ble_eq_true rfl) dX3_chain_10 rfl ?_
  refine j_aload_n (pc := 13) C dX3_chain_13 rfl 1 rfl ?_
  refine j_get (pc := 14) (ci := 9) (v := .ref t17) C inw_9 0 rfl rfl 11 (by decide) wd_235 rfl rfl dX3_chain_14 ?_
  refine j_iconst (pc := 17) (v := 0) C dX3_chain_17 (by decide) ?_
  refine j_aload_n (pc := 18) C dX3_chain_18 rfl 0 rfl ?_
  refine j_get (pc := 19) (ci := 3) (v := .ref t46) C inw_3 2 rfl rfl 1 (by decide) wd_55 rfl rfl dX3_chain_19 ?_
  refine j_iconst (pc := 22) (v := 0) C dX3_chain_22 (by decide) ?_
  refine j_bipush (pc := 23) (v := 12) C dX3_chain_23 (by decide) ?_
  refine j_acpy (pc := 25) (ks := 0) (kd := 0) (kn := 12) (ws' := [(t10, .inr (9, [.int 0, .int 0, .int 0, .ref t11, .ref t12, .ref t13, .ref t14, .ref t15, .ref t16, .int 0, .int 0, .ref t17, .ref t18, .ref t19, .ref t20])), (t17, .inl (cyI, 12, .inl (fun _ => 0))), (t45, .inr (3, [.int 0, .ref t46, .ref t47, .int 0, .int 0, .int 0, .ref t48, .ref t49])), (t46, .inl (cyI, 12, .inl (va_cpy (fun _ => 0) (fun _ => 0) 0 0 12)))]) C wd_236 wd_237 wd_238 wd_239 1 3 1 rfl rfl rfl (by decide) (by decide) (by decide) (by decide) (by decide) (by decide) (by decide) (by decide) (by decide) (Nat.le_of_ble_eq_true rfl) dX3_chain_25 rfl ?_
  refine j_iconst (pc := 28) (v := 0) C dX3_chain_28 (by decide) ?_
  refine j_istore_n (pc := 29) (lv' := [(2, .int 0), (0, .ref t45), (1, .ref t10)]) C dX3_chain_29 rfl (by decide) rfl ?_
  refine j_iload_n (pc := 30) C dX3_chain_30 rfl 0 rfl ?_
  refine j_aload_n (pc := 31) C dX3_chain_31 rfl 1 rfl ?_
  refine j_get (pc := 32) (ci := 3) (v := .int 0) C inw_3 2 rfl rfl 0 (by decide) wd_233 rfl rfl dX3_chain_32 ?_
  refine j_icmp_ge_t (pc := 35) (tgt := 89) C dX3_chain_35 (by decide) (by decide) ?_
  exact j_vret (pc := 89) C hr hk (fun i => [].getD i 0, fun _ => 0, fun _ _ => 0) rfl trivial [0, 1, 2, 3] (by decide) rfl (by decide) (by decide) dX3_chain_89
set_option maxHeartbeats 4000000 in
set_option maxRecDepth 100000 in
theorem c_X10_cupboard (l : Launch) (D : va_G) (cyC cyI cyJ cyZ cyO : ClassId) (t0 : Nat) (t1 : Nat) (t21 : Nat) (t32 : Nat) (t37 : Nat) (t42 : Nat) (t43 : Nat) (t45 : Nat) (t50 : Nat) (t54 : Nat) (t58 : Nat) (t2 : Nat) (t4 : Nat) (t8 : Nat) (t9 : Nat) (t10 : Nat) (t3 : Nat) (t5 : Nat) (t6 : Nat) (t7 : Nat) (t11 : Nat) (t12 : Nat) (t13 : Nat) (t14 : Nat) (t15 : Nat) (t16 : Nat) (t17 : Nat) (t18 : Nat) (t19 : Nat) (t20 : Nat) (t33 : Nat) (t34 : Nat) (t35 : Nat) (t36 : Nat) (t60 : Nat) (t65 : Nat) (t70 : Nat) (t75 : Nat) (t46 : Nat) (t47 : Nat) (t48 : Nat) (t49 : Nat) (t51 : Nat) (t52 : Nat) (t53 : Nat) (t61 : Nat) (t62 : Nat) (t63 : Nat) (t64 : Nat) (t66 : Nat) (t67 : Nat) (t68 : Nat) (t69 : Nat) (t71 : Nat) (t72 : Nat) (t73 : Nat) (t74 : Nat) (t76 : Nat) (t77 : Nat) (t78 : Nat) (t79 : Nat) : KK l D (TY cyC cyI cyJ cyZ cyO) yX10_cupboard cX10_cupboard 3 (some .int) ({ frames := 4, cells := 0, slots := 0, locals := 88 } : Room) 0 0 [.ref t0] [(t0, .inr (10, [.ref t1, .ref t21, .ref t32, .ref t37, .ref t42, .ref t43, .ref t45, .ref t50, .ref t54, .ref t58])), (t1, .inr (5, [.ref t2, .ref t4, .ref t8, .ref t9, .ref t10, .int 0, .int 0])), (t2, .inr (8, [.ref t3, .int 0, .int 0, .int 0, .int 0, .int 0])), (t4, .inr (1, [.int 0, .int 0, .ref t5, .ref t6, .ref t7])), (t10, .inr (9, [.int 0, .int 0, .int 0, .ref t11, .ref t12, .ref t13, .ref t14, .ref t15, .ref t16, .int 0, .int 0, .ref t17, .ref t18, .ref t19, .ref t20])), (t16, .inl (cyI, 12, .inl (fun _ => 0))), (t17, .inl (cyI, 12, .inl (fun _ => 0))), (t32, .inr (7, [.ref t33, .ref t34, .ref t35, .ref t36, .int 0, .int 0, .int 0])), (t33, .inl (cyI, 12, .inl (fun _ => (-1)))), (t42, .inl (cyO, 4, .inr (.inr (.inr (.inr (va_up (va_up (va_up (va_up (fun _ => none) 0 (some t60)) 1 (some t65)) 2 (some t70)) 3 (some t75))))))), (t45, .inr (3, [.int 0, .ref t46, .ref t47, .int 0, .int 0, .int 0, .ref t48, .ref t49])), (t46, .inl (cyI, 12, .inl (fun _ => 0))), (t50, .inr (0, [.int 0, .int 0, .ref t51, .ref t52, .ref t53])), (t60, .inr (7, [.ref t61, .ref t62, .ref t63, .ref t64, .int 0, .int 0, .int 0])), (t65, .inr (7, [.ref t66, .ref t67, .ref t68, .ref t69, .int 0, .int 0, .int 0])), (t70, .inr (7, [.ref t71, .ref t72, .ref t73, .ref t74, .int 0, .int 0, .int 0])), (t75, .inr (7, [.ref t76, .ref t77, .ref t78, .ref t79, .int 0, .int 0, .int 0]))] (fun u => some (.int 0)) (fun u => True) (fun u => []) := by
  refine KK.of (lv0 := [(0, .ref t0)]) (by decide) rfl (Nat.le_of_ble_eq_true rfl) ?_
  intro p e s m args below meth c A C hr hk hin
  refine j_aload_n (pc := 0) C dX10_cupboard_0 rfl 0 rfl ?_
  refine j_get (pc := 1) (ci := 10) (v := .ref t1) C inw_10 0 rfl rfl 0 (by decide) wd_75 rfl rfl dX10_cupboard_1 ?_
  refine j_callV (pc := 4) (As := []) (rest := []) (wr := [(t0, .inr (10, [.ref t1, .ref t21, .ref t32, .ref t37, .ref t42, .ref t43, .ref t45, .ref t50, .ref t54, .ref t58])), (t32, .inr (7, [.ref t33, .ref t34, .ref t35, .ref t36, .int 0, .int 0, .int 0])), (t33, .inl (cyI, 12, .inl (fun _ => (-1)))), (t42, .inl (cyO, 4, .inr (.inr (.inr (.inr (va_up (va_up (va_up (va_up (fun _ => none) 0 (some t60)) 1 (some t65)) 2 (some t70)) 3 (some t75))))))), (t45, .inr (3, [.int 0, .ref t46, .ref t47, .int 0, .int 0, .int 0, .ref t48, .ref t49])), (t46, .inl (cyI, 12, .inl (fun _ => 0))), (t50, .inr (0, [.int 0, .int 0, .ref t51, .ref t52, .ref t53])), (t60, .inr (7, [.ref t61, .ref t62, .ref t63, .ref t64, .int 0, .int 0, .int 0])), (t65, .inr (7, [.ref t66, .ref t67, .ref t68, .ref t69, .int 0, .int 0, .int 0])), (t70, .inr (7, [.ref t71, .ref t72, .ref t73, .ref t74, .int 0, .int 0, .int 0])), (t75, .inr (7, [.ref t76, .ref t77, .ref t78, .ref t79, .int 0, .int 0, .int 0]))]) C (c_X5_read l D cyC cyI cyJ cyZ cyO t1 t2 t4 t8 t9 t10 t3 t5 t6 t7 t11 t12 t13 t14 t15 t16 t17 t18 t19 t20) wd_240 wd_72 wd_241 wd_242 wd_243 ⟨by decide, by decide, rfl⟩ rfl ⟨rfl, rfl, by decide, by decide⟩ ⟨by decide, by decide⟩ [1, 2, 3, 4, 5, 6] [0, 7, 8, 9, 10, 11, 12, 13, 14, 15, 16] rfl rfl ⟨by decide, by decide, by decide⟩ 1 rfl rfl rfl (Nat.le_of_ble_eq_true rfl) dX10_cupboard_4 (fun u_1 hw_2 => ?_)
  refine j_eq (ws2 := [(t0, .inr (10, [.ref t1, .ref t21, .ref t32, .ref t37, .ref t42, .ref t43, .ref t45, .ref t50, .ref t54, .ref t58])), (t32, .inr (7, [.ref t33, .ref t34, .ref t35, .ref t36, .int 0, .int 0, .int 0])), (t33, .inl (cyI, 12, .inl (fun _ => (-1)))), (t42, .inl (cyO, 4, .inr (.inr (.inr (.inr (va_up (va_up (va_up (va_up (fun _ => none) 0 (some t60)) 1 (some t65)) 2 (some t70)) 3 (some t75))))))), (t45, .inr (3, [.int 0, .ref t46, .ref t47, .int 0, .int 0, .int 0, .ref t48, .ref t49])), (t46, .inl (cyI, 12, .inl (fun _ => 0))), (t50, .inr (0, [.int 0, .int 0, .ref t51, .ref t52, .ref t53])), (t60, .inr (7, [.ref t61, .ref t62, .ref t63, .ref t64, .int 0, .int 0, .int 0])), (t65, .inr (7, [.ref t66, .ref t67, .ref t68, .ref t69, .int 0, .int 0, .int 0])), (t70, .inr (7, [.ref t71, .ref t72, .ref t73, .ref t74, .int 0, .int 0, .int 0])), (t75, .inr (7, [.ref t76, .ref t77, .ref t78, .ref t79, .int 0, .int 0, .int 0])), (t1, .inr (5, [.ref t2, .ref t4, .ref t8, .ref t9, .ref t10, .int 0, .int 0])), (t2, .inr (8, [.ref t3, .int 0, .int 0, .int 0, .int 0, .int 0])), (t4, .inr (1, [.int 0, .int 0, .ref t5, .ref t6, .ref t7])), (t10, .inr (9, [.int 0, .int 0, .int 0, .ref t11, .ref t12, .ref t13, .ref t14, .ref t15, .ref t16, .int 0, .int 0, .ref t17, .ref t18, .ref t19, .ref t20])), (t16, .inl (cyI, 12, .inl (fun _ => 0))), (t17, .inl (cyI, 12, .inl (fun _ => 0)))]) (pc2 := 7) (lv2 := [(0, .ref t0)]) (st2 := [.int 0]) rfl rfl rfl rfl ?_
  refine j_istore_n (pc := 7) (lv' := [(1, .int 0), (0, .ref t0)]) C dX10_cupboard_7 rfl (by decide) rfl ?_
  refine j_iload_n (pc := 8) C dX10_cupboard_8 rfl 0 rfl ?_
  refine j_if_eq_t (pc := 9) (tgt := 14) C dX10_cupboard_9 (by decide) (by decide) ?_
  refine j_aload_n (pc := 14) C dX10_cupboard_14 rfl 1 rfl ?_
  refine j_aload_n (pc := 15) C dX10_cupboard_15 rfl 1 rfl ?_
  refine j_get (pc := 16) (ci := 10) (v := .ref t1) C inw_10 0 rfl rfl 0 (by decide) wd_75 rfl rfl dX10_cupboard_16 ?_
  refine j_aload_n (pc := 19) C dX10_cupboard_19 rfl 1 rfl ?_
  refine j_get (pc := 20) (ci := 10) (v := .ref t21) C inw_10 0 rfl rfl 1 (by decide) wd_77 rfl rfl dX10_cupboard_20 ?_
  refine j_callV (pc := 23) (As := [.ref t21]) (rest := [.ref t0]) (wr := [(t0, .inr (10, [.ref t1, .ref t21, .ref t32, .ref t37, .ref t42, .ref t43, .ref t45, .ref t50, .ref t54, .ref t58])), (t32, .inr (7, [.ref t33, .ref t34, .ref t35, .ref t36, .int 0, .int 0, .int 0])), (t33, .inl (cyI, 12, .inl (fun _ => (-1)))), (t42, .inl (cyO, 4, .inr (.inr (.inr (.inr (va_up (va_up (va_up (va_up (fun _ => none) 0 (some t60)) 1 (some t65)) 2 (some t70)) 3 (some t75))))))), (t45, .inr (3, [.int 0, .ref t46, .ref t47, .int 0, .int 0, .int 0, .ref t48, .ref t49])), (t46, .inl (cyI, 12, .inl (fun _ => 0))), (t50, .inr (0, [.int 0, .int 0, .ref t51, .ref t52, .ref t53])), (t60, .inr (7, [.ref t61, .ref t62, .ref t63, .ref t64, .int 0, .int 0, .int 0])), (t65, .inr (7, [.ref t66, .ref t67, .ref t68, .ref t69, .int 0, .int 0, .int 0])), (t70, .inr (7, [.ref t71, .ref t72, .ref t73, .ref t74, .int 0, .int 0, .int 0])), (t75, .inr (7, [.ref t76, .ref t77, .ref t78, .ref t79, .int 0, .int 0, .int 0])), (t2, .inr (8, [.ref t3, .int 0, .int 0, .int 0, .int 0, .int 0])), (t4, .inr (1, [.int 0, .int 0, .ref t5, .ref t6, .ref t7])), (t10, .inr (9, [.int 0, .int 0, .int 0, .ref t11, .ref t12, .ref t13, .ref t14, .ref t15, .ref t16, .int 0, .int 0, .ref t17, .ref t18, .ref t19, .ref t20])), (t16, .inl (cyI, 12, .inl (fun _ => 0))), (t17, .inl (cyI, 12, .inl (fun _ => 0)))]) C (c_X5_exchange l D cyC cyI cyJ cyZ cyO t1 t21 t2 t4 t8 t9 t10) wd_244 wd_72 wd_245 wd_246 wd_247 ⟨by decide, by decide, rfl⟩ rfl ⟨rfl, rfl, by decide, by decide⟩ ⟨by decide, by decide⟩ [11] [0, 1, 2, 3, 4, 5, 6, 7, 8, 9, 10, 12, 13, 14, 15, 16] rfl rfl ⟨by decide, by decide, by decide⟩ 11 rfl rfl rfl (Nat.le_of_ble_eq_true rfl) dX10_cupboard_23 (fun u_3 hw_4 => ?_)
  refine j_eq (ws2 := [(t0, .inr (10, [.ref t1, .ref t21, .ref t32, .ref t37, .ref t42, .ref t43, .ref t45, .ref t50, .ref t54, .ref t58])), (t32, .inr (7, [.ref t33, .ref t34, .ref t35, .ref t36, .int 0, .int 0, .int 0])), (t33, .inl (cyI, 12, .inl (fun _ => (-1)))), (t42, .inl (cyO, 4, .inr (.inr (.inr (.inr (va_up (va_up (va_up (va_up (fun _ => none) 0 (some t60)) 1 (some t65)) 2 (some t70)) 3 (some t75))))))), (t45, .inr (3, [.int 0, .ref t46, .ref t47, .int 0, .int 0, .int 0, .ref t48, .ref t49])), (t46, .inl (cyI, 12, .inl (fun _ => 0))), (t50, .inr (0, [.int 0, .int 0, .ref t51, .ref t52, .ref t53])), (t60, .inr (7, [.ref t61, .ref t62, .ref t63, .ref t64, .int 0, .int 0, .int 0])), (t65, .inr (7, [.ref t66, .ref t67, .ref t68, .ref t69, .int 0, .int 0, .int 0])), (t70, .inr (7, [.ref t71, .ref t72, .ref t73, .ref t74, .int 0, .int 0, .int 0])), (t75, .inr (7, [.ref t76, .ref t77, .ref t78, .ref t79, .int 0, .int 0, .int 0])), (t2, .inr (8, [.ref t3, .int 0, .int 0, .int 0, .int 0, .int 0])), (t4, .inr (1, [.int 0, .int 0, .ref t5, .ref t6, .ref t7])), (t10, .inr (9, [.int 0, .int 0, .int 0, .ref t11, .ref t12, .ref t13, .ref t14, .ref t15, .ref t16, .int 0, .int 0, .ref t17, .ref t18, .ref t19, .ref t20])), (t16, .inl (cyI, 12, .inl (fun _ => 0))), (t17, .inl (cyI, 12, .inl (fun _ => 0))), (t1, .inr (5, [.ref t2, .ref t4, .ref t8, .ref t9, .ref t21, .int 0, .int 0]))]) (pc2 := 26) (lv2 := [(1, .int 0), (0, .ref t0)]) (st2 := [.ref t10, .ref t0]) rfl rfl rfl rfl ?_
  refine j_put (pc := 26) (ci := 10) (v := .ref t10) (ws' := [(t0, .inr (10, [.ref t1, .ref t10, .ref t32, .ref t37, .ref t42, .ref t43, .ref t45, .ref t50, .ref t54, .ref t58])), (t32, .inr (7, [.ref t33, .ref t34, .ref t35, .ref t36, .int 0, .int 0, .int 0])), (t33, .inl (cyI, 12, .inl (fun _ => (-1)))), (t42, .inl (cyO, 4, .inr (.inr (.inr (.inr (va_up (va_up (va_up (va_up (fun _ => none) 0 (some t60)) 1 (some t65)) 2 (some t70)) 3 (some t75))))))), (t45, .inr (3, [.int 0, .ref t46, .ref t47, .int 0, .int 0, .int 0, .ref t48, .ref t49])), (t46, .inl (cyI, 12, .inl (fun _ => 0))), (t50, .inr (0, [.int 0, .int 0, .ref t51, .ref t52, .ref t53])), (t60, .inr (7, [.ref t61, .ref t62, .ref t63, .ref t64, .int 0, .int 0, .int 0])), (t65, .inr (7, [.ref t66, .ref t67, .ref t68, .ref t69, .int 0, .int 0, .int 0])), (t70, .inr (7, [.ref t71, .ref t72, .ref t73, .ref t74, .int 0, .int 0, .int 0])), (t75, .inr (7, [.ref t76, .ref t77, .ref t78, .ref t79, .int 0, .int 0, .int 0])), (t2, .inr (8, [.ref t3, .int 0, .int 0, .int 0, .int 0, .int 0])), (t4, .inr (1, [.int 0, .int 0, .ref t5, .ref t6, .ref t7])), (t10, .inr (9, [.int 0, .int 0, .int 0, .ref t11, .ref t12, .ref t13, .ref t14, .ref t15, .ref t16, .int 0, .int 0, .ref t17, .ref t18, .ref t19, .ref t20])), (t16, .inl (cyI, 12, .inl (fun _ => 0))), (t17, .inl (cyI, 12, .inl (fun _ => 0))), (t1, .inr (5, [.ref t2, .ref t4, .ref t8, .ref t9, .ref t21, .int 0, .int 0]))]) C inw_10 0 rfl rfl 1 (by decide) wd_77 rfl tyX10_ok nmX10 rfl (tyX10_ok 1 (by decide)) rfl rfl (Nat.le_of_ble_eq_true rfl) dX10_cupboard_26 rfl ?_
  refine j_aload_n (pc := 29) C dX10_cupboard_29 rfl 1 rfl ?_
  refine j_get (pc := 30) (ci := 10) (v := .ref t32) C inw_10 0 rfl rfl 2 (by decide) wd_84 rfl rfl dX10_cupboard_30 ?_
  refine j_callV (pc := 33) (As := []) (rest := []) (wr := [(t0, .inr (10, [.ref t1, .ref t10, .ref t32, .ref t37, .ref t42, .ref t43, .ref t45, .ref t50, .ref t54, .ref t58])), (t42, .inl (cyO, 4, .inr (.inr (.inr (.inr (va_up (va_up (va_up (va_up (fun _ => none) 0 (some t60)) 1 (some t65)) 2 (some t70)) 3 (some t75))))))), (t45, .inr (3, [.int 0, .ref t46, .ref t47, .int 0, .int 0, .int 0, .ref t48, .ref t49])), (t46, .inl (cyI, 12, .inl (fun _ => 0))), (t50, .inr (0, [.int 0, .int 0, .ref t51, .ref t52, .ref t53])), (t60, .inr (7, [.ref t61, .ref t62, .ref t63, .ref t64, .int 0, .int 0, .int 0])), (t65, .inr (7, [.ref t66, .ref t67, .ref t68, .ref t69, .int 0, .int 0, .int 0])), (t70, .inr (7, [.ref t71, .ref t72, .ref t73, .ref t74, .int 0, .int 0, .int 0])), (t75, .inr (7, [.ref t76, .ref t77, .ref t78, .ref t79, .int 0, .int 0, .int 0])), (t2, .inr (8, [.ref t3, .int 0, .int 0, .int 0, .int 0, .int 0])), (t4, .inr (1, [.int 0, .int 0, .ref t5, .ref t6, .ref t7])), (t10, .inr (9, [.int 0, .int 0, .int 0, .ref t11, .ref t12, .ref t13, .ref t14, .ref t15, .ref t16, .int 0, .int 0, .ref t17, .ref t18, .ref t19, .ref t20])), (t16, .inl (cyI, 12, .inl (fun _ => 0))), (t17, .inl (cyI, 12, .inl (fun _ => 0))), (t1, .inr (5, [.ref t2, .ref t4, .ref t8, .ref t9, .ref t21, .int 0, .int 0]))]) C (c_X7_empty l D cyC cyI cyJ cyZ cyO t32 t33 t34 t35 t36) wd_248 wd_80 wd_249 wd_250 wd_251 ⟨by decide, by decide, rfl⟩ rfl ⟨rfl, rfl, by decide, by decide⟩ ⟨by decide, by decide⟩ [1, 2] [0, 3, 4, 5, 6, 7, 8, 9, 10, 11, 12, 13, 14, 15, 16] rfl rfl ⟨by decide, by decide, by decide⟩ 1 rfl rfl rfl (Nat.le_of_ble_eq_true rfl) dX10_cupboard_33 (fun u_5 hw_6 => ?_)
  refine j_eq (ws2 := [(t0, .inr (10, [.ref t1, .ref t10, .ref t32, .ref t37, .ref t42, .ref t43, .ref t45, .ref t50, .ref t54, .ref t58])), (t42, .inl (cyO, 4, .inr (.inr (.inr (.inr (va_up (va_up (va_up (va_up (fun _ => none) 0 (some t60)) 1 (some t65)) 2 (some t70)) 3 (some t75))))))), (t45, .inr (3, [.int 0, .ref t46, .ref t47, .int 0, .int 0, .int 0, .ref t48, .ref t49])), (t46, .inl (cyI, 12, .inl (fun _ => 0))), (t50, .inr (0, [.int 0, .int 0, .ref t51, .ref t52, .ref t53])), (t60, .inr (7, [.ref t61, .ref t62, .ref t63, .ref t64, .int 0, .int 0, .int 0])), (t65, .inr (7, [.ref t66, .ref t67, .ref t68, .ref t69, .int 0, .int 0, .int 0])), (t70, .inr (7, [.ref t71, .ref t72, .ref t73, .ref t74, .int 0, .int 0, .int 0])), (t75, .inr (7, [.ref t76, .ref t77, .ref t78, .ref t79, .int 0, .int 0, .int 0])), (t2, .inr (8, [.ref t3, .int 0, .int 0, .int 0, .int 0, .int 0])), (t4, .inr (1, [.int 0, .int 0, .ref t5, .ref t6, .ref t7])), (t10, .inr (9, [.int 0, .int 0, .int 0, .ref t11, .ref t12, .ref t13, .ref t14, .ref t15, .ref t16, .int 0, .int 0, .ref t17, .ref t18, .ref t19, .ref t20])), (t16, .inl (cyI, 12, .inl (fun _ => 0))), (t17, .inl (cyI, 12, .inl (fun _ => 0))), (t1, .inr (5, [.ref t2, .ref t4, .ref t8, .ref t9, .ref t21, .int 0, .int 0])), (t32, .inr (7, [.ref t33, .ref t34, .ref t35, .ref t36, .int 0, .int 0, .int 0])), (t33, .inl (cyI, 12, .inl (fun _ => (-1))))]) (pc2 := 36) (lv2 := [(1, .int 0), (0, .ref t0)]) (st2 := []) rfl rfl rfl rfl ?_
  refine j_iconst (pc := 36) (v := 0) C dX10_cupboard_36 (by decide) ?_
  refine j_istore_n (pc := 37) (lv' := [(2, .int 0), (1, .int 0), (0, .ref t0)]) C dX10_cupboard_37 rfl (by decide) rfl ?_
  refine j_iload_n (pc := 38) C dX10_cupboard_38 rfl 0 rfl ?_
  refine j_iconst (pc := 39) (v := 4) C dX10_cupboard_39 (by decide) ?_
  refine j_icmp_ge_f (pc := 40) (tgt := 59) C dX10_cupboard_40 (by decide) (by decide) ?_
  refine j_aload_n (pc := 43) C dX10_cupboard_43 rfl 2 rfl ?_
  refine j_get (pc := 44) (ci := 10) (v := .ref t42) C inw_10 0 rfl rfl 4 (by decide) wd_86 rfl rfl dX10_cupboard_44 ?_
  refine j_iload_n (pc := 47) C dX10_cupboard_47 rfl 0 rfl ?_
  refine j_aald (pc := 48) (v := .ref t60) (k := 0) C 1 4 rfl rfl (by decide) (by decide) (by decide) rfl dX10_cupboard_48 ?_
  refine j_iconst (pc := 49) (v := 0) C dX10_cupboard_49 (by decide) ?_
  refine j_put (pc := 50) (ci := 7) (v := .int 0) (ws' := [(t0, .inr (10, [.ref t1, .ref t10, .ref t32, .ref t37, .ref t42, .ref t43, .ref t45, .ref t50, .ref t54, .ref t58])), (t42, .inl (cyO, 4, .inr (.inr (.inr (.inr (va_up (va_up (va_up (va_up (fun _ => none) 0 (some t60)) 1 (some t65)) 2 (some t70)) 3 (some t75))))))), (t45, .inr (3, [.int 0, .ref t46, .ref t47, .int 0, .int 0, .int 0, .ref t48, .ref t49])), (t46, .inl (cyI, 12, .inl (fun _ => 0))), (t50, .inr (0, [.int 0, .int 0, .ref t51, .ref t52, .ref t53])), (t60, .inr (7, [.ref t61, .ref t62, .ref t63, .ref t64, .int 0, .int 0, .int 0])), (t65, .inr (7, [.ref t66, .ref t67, .ref t68, .ref t69, .int 0, .int 0, .int 0])), (t70, .inr (7, [.ref t71, .ref t72, .ref t73, .ref t74, .int 0, .int 0, .int 0])), (t75, .inr (7, [.ref t76, .ref t77, .ref t78, .ref t79, .int 0, .int 0, .int 0])), (t2, .inr (8, [.ref t3, .int 0, .int 0, .int 0, .int 0, .int 0])), (t4, .inr (1, [.int 0, .int 0, .ref t5, .ref t6, .ref t7])), (t10, .inr (9, [.int 0, .int 0, .int 0, .ref t11, .ref t12, .ref t13, .ref t14, .ref t15, .ref t16, .int 0, .int 0, .ref t17, .ref t18, .ref t19, .ref t20])), (t16, .inl (cyI, 12, .inl (fun _ => 0))), (t17, .inl (cyI, 12, .inl (fun _ => 0))), (t1, .inr (5, [.ref t2, .ref t4, .ref t8, .ref t9, .ref t21, .int 0, .int 0])), (t32, .inr (7, [.ref t33, .ref t34, .ref t35, .ref t36, .int 0, .int 0, .int 0])), (t33, .inl (cyI, 12, .inl (fun _ => (-1))))]) C inw_7 5 rfl rfl 6 (by decide) wd_252 rfl tyX7_ok nmX7 rfl (tyX7_ok 6 (by decide)) rfl rfl (Nat.le_of_ble_eq_true rfl) dX10_cupboard_50 rfl ?_
  refine j_iinc (pc := 53) (v := 1) (lv' := [(2, .int 1), (1, .int 0), (0, .ref t0)]) C dX10_cupboard_53 0 rfl (by decide) (by decide) rfl ?_
  refine j_goto (pc := 56) (tgt := 38) C dX10_cupboard_56 (by decide) ?_
  refine j_iload_n (pc := 38) C dX10_cupboard_38 rfl 0 rfl ?_
  refine j_iconst (pc := 39) (v := 4) C dX10_cupboard_39 (by decide) ?_
  refine j_icmp_ge_f (pc := 40) (tgt := 59) C dX10_cupboard_40 (by decide) (by decide) ?_
  refine j_aload_n (pc := 43) C dX10_cupboard_43 rfl 2 rfl ?_
  refine j_get (pc := 44) (ci := 10) (v := .ref t42) C inw_10 0 rfl rfl 4 (by decide) wd_86 rfl rfl dX10_cupboard_44 ?_
  refine j_iload_n (pc := 47) C dX10_cupboard_47 rfl 0 rfl ?_
  refine j_aald (pc := 48) (v := .ref t65) (k := 1) C 1 4 rfl rfl (by decide) (by decide) (by decide) rfl dX10_cupboard_48 ?_
  refine j_iconst (pc := 49) (v := 0) C dX10_cupboard_49 (by decide) ?_
  refine j_put (pc := 50) (ci := 7) (v := .int 0) (ws' := [(t0, .inr (10, [.ref t1, .ref t10, .ref t32, .ref t37, .ref t42, .ref t43, .ref t45, .ref t50, .ref t54, .ref t58])), (t42, .inl (cyO, 4, .inr (.inr (.inr (.inr (va_up (va_up (va_up (va_up (fun _ => none) 0 (some t60)) 1 (some t65)) 2 (some t70)) 3 (some t75))))))), (t45, .inr (3, [.int 0, .ref t46, .ref t47, .int 0, .int 0, .int 0, .ref t48, .ref t49])), (t46, .inl (cyI, 12, .inl (fun _ => 0))), (t50, .inr (0, [.int 0, .int 0, .ref t51, .ref t52, .ref t53])), (t60, .inr (7, [.ref t61, .ref t62, .ref t63, .ref t64, .int 0, .int 0, .int 0])), (t65, .inr (7, [.ref t66, .ref t67, .ref t68, .ref t69, .int 0, .int 0, .int 0])), (t70, .inr (7, [.ref t71, .ref t72, .ref t73, .ref t74, .int 0, .int 0, .int 0])), (t75, .inr (7, [.ref t76, .ref t77, .ref t78, .ref t79, .int 0, .int 0, .int 0])), (t2, .inr (8, [.ref t3, .int 0, .int 0, .int 0, .int 0, .int 0])), (t4, .inr (1, [.int 0, .int 0, .ref t5, .ref t6, .ref t7])), (t10, .inr (9, [.int 0, .int 0, .int 0, .ref t11, .ref t12, .ref t13, .ref t14, .ref t15, .ref t16, .int 0, .int 0, .ref t17, .ref t18, .ref t19, .ref t20])), (t16, .inl (cyI, 12, .inl (fun _ => 0))), (t17, .inl (cyI, 12, .inl (fun _ => 0))), (t1, .inr (5, [.ref t2, .ref t4, .ref t8, .ref t9, .ref t21, .int 0, .int 0])), (t32, .inr (7, [.ref t33, .ref t34, .ref t35, .ref t36, .int 0, .int 0, .int 0])), (t33, .inl (cyI, 12, .inl (fun _ => (-1))))]) C inw_7 6 rfl rfl 6 (by decide) wd_252 rfl tyX7_ok nmX7 rfl (tyX7_ok 6 (by decide)) rfl rfl (Nat.le_of_ble_eq_true rfl) dX10_cupboard_50 rfl ?_
  refine j_iinc (pc := 53) (v := 2) (lv' := [(2, .int 2), (1, .int 0), (0, .ref t0)]) C dX10_cupboard_53 0 rfl (by decide) (by decide) rfl ?_
  refine j_goto (pc := 56) (tgt := 38) C dX10_cupboard_56 (by decide) ?_
  refine j_iload_n (pc := 38) C dX10_cupboard_38 rfl 0 rfl ?_
  refine j_iconst (pc := 39) (v := 4) C dX10_cupboard_39 (by decide) ?_
  refine j_icmp_ge_f (pc := 40) (tgt := 59) C dX10_cupboard_40 (by decide) (by decide) ?_
  refine j_aload_n (pc := 43) C dX10_cupboard_43 rfl 2 rfl ?_
  refine j_get (pc := 44) (ci := 10) (v := .ref t42) C inw_10 0 rfl rfl 4 (by decide) wd_86 rfl rfl dX10_cupboard_44 ?_
  refine j_iload_n (pc := 47) C dX10_cupboard_47 rfl 0 rfl ?_
  refine j_aald (pc := 48) (v := .ref t70) (k := 2) C 1 4 rfl rfl (by decide) (by decide) (by decide) rfl dX10_cupboard_48 ?_
  refine j_iconst (pc := 49) (v := 0) C dX10_cupboard_49 (by decide) ?_
  refine j_put (pc := 50) (ci := 7) (v := .int 0) (ws' := [(t0, .inr (10, [.ref t1, .ref t10, .ref t32, .ref t37, .ref t42, .ref t43, .ref t45, .ref t50, .ref t54, .ref t58])), (t42, .inl (cyO, 4, .inr (.inr (.inr (.inr (va_up (va_up (va_up (va_up (fun _ => none) 0 (some t60)) 1 (some t65)) 2 (some t70)) 3 (some t75))))))), (t45, .inr (3, [.int 0, .ref t46, .ref t47, .int 0, .int 0, .int 0, .ref t48, .ref t49])), (t46, .inl (cyI, 12, .inl (fun _ => 0))), (t50, .inr (0, [.int 0, .int 0, .ref t51, .ref t52, .ref t53])), (t60, .inr (7, [.ref t61, .ref t62, .ref t63, .ref t64, .int 0, .int 0, .int 0])), (t65, .inr (7, [.ref t66, .ref t67, .ref t68, .ref t69, .int 0, .int 0, .int 0])), (t70, .inr (7, [.ref t71, .ref t72, .ref t73, .ref t74, .int 0, .int 0, .int 0])), (t75, .inr (7, [.ref t76, .ref t77, .ref t78, .ref t79, .int 0, .int 0, .int 0])), (t2, .inr (8, [.ref t3, .int 0, .int 0, .int 0, .int 0, .int 0])), (t4, .inr (1, [.int 0, .int 0, .ref t5, .ref t6, .ref t7])), (t10, .inr (9, [.int 0, .int 0, .int 0, .ref t11, .ref t12, .ref t13, .ref t14, .ref t15, .ref t16, .int 0, .int 0, .ref t17, .ref t18, .ref t19, .ref t20])), (t16, .inl (cyI, 12, .inl (fun _ => 0))), (t17, .inl (cyI, 12, .inl (fun _ => 0))), (t1, .inr (5, [.ref t2, .ref t4, .ref t8, .ref t9, .ref t21, .int 0, .int 0])), (t32, .inr (7, [.ref t33, .ref t34, .ref t35, .ref t36, .int 0, .int 0, .int 0])), (t33, .inl (cyI, 12, .inl (fun _ => (-1))))]) C inw_7 7 rfl rfl 6 (by decide) wd_252 rfl tyX7_ok nmX7 rfl (tyX7_ok 6 (by decide)) rfl rfl (Nat.le_of_ble_eq_true rfl) dX10_cupboard_50 rfl ?_
  refine j_iinc (pc := 53) (v := 3) (lv' := [(2, .int 3), (1, .int 0), (0, .ref t0)]) C dX10_cupboard_53 0 rfl (by decide) (by decide) rfl ?_
  refine j_goto (pc := 56) (tgt := 38) C dX10_cupboard_56 (by decide) ?_
  refine j_iload_n (pc := 38) C dX10_cupboard_38 rfl 0 rfl ?_
  refine j_iconst (pc := 39) (v := 4) C dX10_cupboard_39 (by decide) ?_
  refine j_icmp_ge_f (pc := 40) (tgt := 59) C dX10_cupboard_40 (by decide) (by decide) ?_
  refine j_aload_n (pc := 43) C dX10_cupboard_43 rfl 2 rfl ?_
  refine j_get (pc := 44) (ci := 10) (v := .ref t42) C inw_10 0 rfl rfl 4 (by decide) wd_86 rfl rfl dX10_cupboard_44 ?_
  refine j_iload_n (pc := 47) C dX10_cupboard_47 rfl 0 rfl ?_
  refine j_aald (pc := 48) (v := .ref t75) (k := 3) C 1 4 rfl rfl (by decide) (by decide) (by decide) rfl dX10_cupboard_48 ?_
  refine j_iconst (pc := 49) (v := 0) C dX10_cupboard_49 (by decide) ?_
  refine j_put (pc := 50) (ci := 7) (v := .int 0) (ws' := [(t0, .inr (10, [.ref t1, .ref t10, .ref t32, .ref t37, .ref t42, .ref t43, .ref t45, .ref t50, .ref t54, .ref t58])), (t42, .inl (cyO, 4, .inr (.inr (.inr (.inr (va_up (va_up (va_up (va_up (fun _ => none) 0 (some t60)) 1 (some t65)) 2 (some t70)) 3 (some t75))))))), (t45, .inr (3, [.int 0, .ref t46, .ref t47, .int 0, .int 0, .int 0, .ref t48, .ref t49])), (t46, .inl (cyI, 12, .inl (fun _ => 0))), (t50, .inr (0, [.int 0, .int 0, .ref t51, .ref t52, .ref t53])), (t60, .inr (7, [.ref t61, .ref t62, .ref t63, .ref t64, .int 0, .int 0, .int 0])), (t65, .inr (7, [.ref t66, .ref t67, .ref t68, .ref t69, .int 0, .int 0, .int 0])), (t70, .inr (7, [.ref t71, .ref t72, .ref t73, .ref t74, .int 0, .int 0, .int 0])), (t75, .inr (7, [.ref t76, .ref t77, .ref t78, .ref t79, .int 0, .int 0, .int 0])), (t2, .inr (8, [.ref t3, .int 0, .int 0, .int 0, .int 0, .int 0])), (t4, .inr (1, [.int 0, .int 0, .ref t5, .ref t6, .ref t7])), (t10, .inr (9, [.int 0, .int 0, .int 0, .ref t11, .ref t12, .ref t13, .ref t14, .ref t15, .ref t16, .int 0, .int 0, .ref t17, .ref t18, .ref t19, .ref t20])), (t16, .inl (cyI, 12, .inl (fun _ => 0))), (t17, .inl (cyI, 12, .inl (fun _ => 0))), (t1, .inr (5, [.ref t2, .ref t4, .ref t8, .ref t9, .ref t21, .int 0, .int 0])), (t32, .inr (7, [.ref t33, .ref t34, .ref t35, .ref t36, .int 0, .int 0, .int 0])), (t33, .inl (cyI, 12, .inl (fun _ => (-1))))]) C inw_7 8 rfl rfl 6 (by decide) wd_252 rfl tyX7_ok nmX7 rfl (tyX7_ok 6 (by decide)) rfl rfl (Nat.le_of_ble_eq_true rfl) dX10_cupboard_50 rfl ?_
  refine j_iinc (pc := 53) (v := 4) (lv' := [(2, .int 4), (1, .int 0), (0, .ref t0)]) C dX10_cupboard_53 0 rfl (by decide) (by decide) rfl ?_
  refine j_goto (pc := 56) (tgt := 38) C dX10_cupboard_56 (by decide) ?_
  refine j_iload_n (pc := 38) C dX10_cupboard_38 rfl 0 rfl ?_
  refine j_iconst (pc := 39) (v := 4) C dX10_cupboard_39 (by decide) ?_
  refine j_icmp_ge_t (pc := 40) (tgt := 59) C dX10_cupboard_40 (by decide) (by decide) ?_
  refine j_aload_n (pc := 59) C dX10_cupboard_59 rfl 2 rfl ?_
  refine j_get (pc := 60) (ci := 10) (v := .ref t45) C inw_10 0 rfl rfl 6 (by decide) wd_98 rfl rfl dX10_cupboard_60 ?_
  refine j_aload_n (pc := 63) C dX10_cupboard_63 rfl 2 rfl ?_
  refine j_get (pc := 64) (ci := 10) (v := .ref t10) C inw_10 0 rfl rfl 1 (by decide) wd_77 rfl rfl dX10_cupboard_64 ?_
  refine j_callV (pc := 67) (As := [.ref t10]) (rest := []) (wr := [(t0, .inr (10, [.ref t1, .ref t10, .ref t32, .ref t37, .ref t42, .ref t43, .ref t45, .ref t50, .ref t54, .ref t58])), (t42, .inl (cyO, 4, .inr (.inr (.inr (.inr (va_up (va_up (va_up (va_up (fun _ => none) 0 (some t60)) 1 (some t65)) 2 (some t70)) 3 (some t75))))))), (t50, .inr (0, [.int 0, .int 0, .ref t51, .ref t52, .ref t53])), (t60, .inr (7, [.ref t61, .ref t62, .ref t63, .ref t64, .int 0, .int 0, .int 0])), (t65, .inr (7, [.ref t66, .ref t67, .ref t68, .ref t69, .int 0, .int 0, .int 0])), (t70, .inr (7, [.ref t71, .ref t72, .ref t73, .ref t74, .int 0, .int 0, .int 0])), (t75, .inr (7, [.ref t76, .ref t77, .ref t78, .ref t79, .int 0, .int 0, .int 0])), (t2, .inr (8, [.ref t3, .int 0, .int 0, .int 0, .int 0, .int 0])), (t4, .inr (1, [.int 0, .int 0, .ref t5, .ref t6, .ref t7])), (t16, .inl (cyI, 12, .inl (fun _ => 0))), (t1, .inr (5, [.ref t2, .ref t4, .ref t8, .ref t9, .ref t21, .int 0, .int 0])), (t32, .inr (7, [.ref t33, .ref t34, .ref t35, .ref t36, .int 0, .int 0, .int 0])), (t33, .inl (cyI, 12, .inl (fun _ => (-1))))]) C (c_X3_chain l D cyC cyI cyJ cyZ cyO t45 t10 t11 t12 t13 t14 t15 t16 t17 t18 t19 t20 t46 t47 t48 t49) wd_253 wd_95 wd_254 wd_255 wd_256 ⟨by decide, by decide, rfl⟩ rfl ⟨rfl, rfl, by decide, by decide⟩ ⟨by decide, by decide⟩ [11, 13, 2, 3] [0, 1, 4, 5, 6, 7, 8, 9, 10, 12, 14, 15, 16] rfl rfl ⟨by decide, by decide, by decide⟩ 2 rfl rfl rfl (Nat.le_of_ble_eq_true rfl) dX10_cupboard_67 (fun u_7 hw_8 => ?_)
  refine j_eq (ws2 := [(t0, .inr (10, [.ref t1, .ref t10, .ref t32, .ref t37, .ref t42, .ref t43, .ref t45, .ref t50, .ref t54, .ref t58])), (t42, .inl (cyO, 4, .inr (.inr (.inr (.inr (va_up (va_up (va_up (va_up (fun _ => none) 0 (some t60)) 1 (some t65)) 2 (some t70)) 3 (some t75))))))), (t50, .inr (0, [.int 0, .int 0, .ref t51, .ref t52, .ref t53])), (t60, .inr (7, [.ref t61, .ref t62, .ref t63, .ref t64, .int 0, .int 0, .int 0])), (t65, .inr (7, [.ref t66, .ref t67, .ref t68, .ref t69, .int 0, .int 0, .int 0])), (t70, .inr (7, [.ref t71, .ref t72, .ref t73, .ref t74, .int 0, .int 0, .int 0])), (t75, .inr (7, [.ref t76, .ref t77, .ref t78, .ref t79, .int 0, .int 0, .int 0])), (t2, .inr (8, [.ref t3, .int 0, .int 0, .int 0, .int 0, .int 0])), (t4, .inr (1, [.int 0, .int 0, .ref t5, .ref t6, .ref t7])), (t16, .inl (cyI, 12, .inl (fun _ => 0))), (t1, .inr (5, [.ref t2, .ref t4, .ref t8, .ref t9, .ref t21, .int 0, .int 0])), (t32, .inr (7, [.ref t33, .ref t34, .ref t35, .ref t36, .int 0, .int 0, .int 0])), (t33, .inl (cyI, 12, .inl (fun _ => (-1)))), (t10, .inr (9, [.int 0, .int 0, .int 0, .ref t11, .ref t12, .ref t13, .ref t14, .ref t15, .ref t16, .int 0, .int 0, .ref t17, .ref t18, .ref t19, .ref t20])), (t17, .inl (cyI, 12, .inl (fun _ => 0))), (t45, .inr (3, [.int 0, .ref t46, .ref t47, .int 0, .int 0, .int 0, .ref t48, .ref t49])), (t46, .inl (cyI, 12, .inl (va_cpy (fun _ => 0) (fun _ => 0) 0 0 12)))]) (pc2 := 70) (lv2 := [(2, .int 4), (1, .int 0), (0, .ref t0)]) (st2 := []) rfl rfl rfl rfl ?_
  refine j_aload_n (pc := 70) C dX10_cupboard_70 rfl 2 rfl ?_
  refine j_get (pc := 71) (ci := 10) (v := .ref t50) C inw_10 0 rfl rfl 7 (by decide) wd_104 rfl rfl dX10_cupboard_71 ?_
  refine j_iconst (pc := 74) (v := 0) C dX10_cupboard_74 (by decide) ?_
  refine j_put (pc := 75) (ci := 0) (v := .int 0) (ws' := [(t0, .inr (10, [.ref t1, .ref t10, .ref t32, .ref t37, .ref t42, .ref t43, .ref t45, .ref t50, .ref t54, .ref t58])), (t42, .inl (cyO, 4, .inr (.inr (.inr (.inr (va_up (va_up (va_up (va_up (fun _ => none) 0 (some t60)) 1 (some t65)) 2 (some t70)) 3 (some t75))))))), (t50, .inr (0, [.int 0, .int 0, .ref t51, .ref t52, .ref t53])), (t60, .inr (7, [.ref t61, .ref t62, .ref t63, .ref t64, .int 0, .int 0, .int 0])), (t65, .inr (7, [.ref t66, .ref t67, .ref t68, .ref t69, .int 0, .int 0, .int 0])), (t70, .inr (7, [.ref t71, .ref t72, .ref t73, .ref t74, .int 0, .int 0, .int 0])), (t75, .inr (7, [.ref t76, .ref t77, .ref t78, .ref t79, .int 0, .int 0, .int 0])), (t2, .inr (8, [.ref t3, .int 0, .int 0, .int 0, .int 0, .int 0])), (t4, .inr (1, [.int 0, .int 0, .ref t5, .ref t6, .ref t7])), (t16, .inl (cyI, 12, .inl (fun _ => 0))), (t1, .inr (5, [.ref t2, .ref t4, .ref t8, .ref t9, .ref t21, .int 0, .int 0])), (t32, .inr (7, [.ref t33, .ref t34, .ref t35, .ref t36, .int 0, .int 0, .int 0])), (t33, .inl (cyI, 12, .inl (fun _ => (-1)))), (t10, .inr (9, [.int 0, .int 0, .int 0, .ref t11, .ref t12, .ref t13, .ref t14, .ref t15, .ref t16, .int 0, .int 0, .ref t17, .ref t18, .ref t19, .ref t20])), (t17, .inl (cyI, 12, .inl (fun _ => 0))), (t45, .inr (3, [.int 0, .ref t46, .ref t47, .int 0, .int 0, .int 0, .ref t48, .ref t49])), (t46, .inl (cyI, 12, .inl (va_cpy (fun _ => 0) (fun _ => 0) 0 0 12)))]) C inw_0 2 rfl rfl 0 (by decide) wd_257 rfl tyX0_ok nmX0 rfl (tyX0_ok 0 (by decide)) rfl rfl (Nat.le_of_ble_eq_true rfl) dX10_cupboard_75 rfl ?_
  refine j_iconst (pc := 78) (v := 0) C dX10_cupboard_78 (by decide) ?_
  exact j_iret (pc := 79) C hr hk (fun i => [].getD i 0, fun _ => 0, fun _ _ => 0) rfl trivial [] (by decide) rfl (by decide) (by decide) dX10_cupboard_79
end
section
theorem wd_258 : Cond.fieldLink RX3 60 "BowlShelf$Order" "fewest" "I" ∈ WALL := wl_in (by decide +kernel) (by decide +kernel)
theorem wd_259 : Cond.fieldLink RX3 63 "BowlShelf$Order" "apart" "I" ∈ WALL := wl_in (by decide +kernel) (by decide +kernel)
theorem wd_260 : Cond.code yX3_findKin cX3_findKin 3 none ∈ WALL := wl_in (by decide +kernel) (by decide +kernel)
theorem wd_261 : Cond.methodLink RX3 44 yX3_findKin ∈ WALL := wl_in (by decide +kernel) (by decide +kernel)
theorem wd_262 : Cond.instanceMethod yX3_findKin ∈ WALL := wl_in (by decide +kernel) (by decide +kernel)
theorem wd_263 : Cond.selects RX3 yX3_findKin yX3_findKin ∈ WALL := wl_in (by decide +kernel) (by decide +kernel)
theorem wd_264 : Cond.code yX3_findApart cX3_findApart 3 none ∈ WALL := wl_in (by decide +kernel) (by decide +kernel)
theorem wd_265 : Cond.methodLink RX3 47 yX3_findApart ∈ WALL := wl_in (by decide +kernel) (by decide +kernel)
theorem wd_266 : Cond.instanceMethod yX3_findApart ∈ WALL := wl_in (by decide +kernel) (by decide +kernel)
theorem wd_267 : Cond.selects RX3 yX3_findApart yX3_findApart ∈ WALL := wl_in (by decide +kernel) (by decide +kernel)
theorem wd_268 : Cond.methodLink RX3 50 yJ7_fill_53178 ∈ WALL := wl_in (by decide +kernel) (by decide +kernel)
theorem wd_269 : Cond.code yX3_give cX3_give 4 (some .boolean) ∈ WALL := wl_in (by decide +kernel) (by decide +kernel)
theorem wd_270 : Cond.methodLink RX3 56 yX3_give ∈ WALL := wl_in (by decide +kernel) (by decide +kernel)
theorem wd_271 : Cond.instanceMethod yX3_give ∈ WALL := wl_in (by decide +kernel) (by decide +kernel)
theorem wd_272 : Cond.selects RX3 yX3_give yX3_give ∈ WALL := wl_in (by decide +kernel) (by decide +kernel)
theorem wd_273 : Cond.code yX3_isRound cX3_isRound 2 (some .boolean) ∈ WALL := wl_in (by decide +kernel) (by decide +kernel)
theorem wd_274 : Cond.methodLink RX10 227 yX3_isRound ∈ WALL := wl_in (by decide +kernel) (by decide +kernel)
theorem wd_275 : Cond.instanceMethod yX3_isRound ∈ WALL := wl_in (by decide +kernel) (by decide +kernel)
theorem wd_276 : Cond.selects RX3 yX3_isRound yX3_isRound ∈ WALL := wl_in (by decide +kernel) (by decide +kernel)
theorem wd_277 : Cond.code yX3_settle cX3_settle 1 none ∈ WALL := wl_in (by decide +kernel) (by decide +kernel)
theorem wd_278 : Cond.methodLink RX10 231 yX3_settle ∈ WALL := wl_in (by decide +kernel) (by decide +kernel)
theorem wd_279 : Cond.instanceMethod yX3_settle ∈ WALL := wl_in (by decide +kernel) (by decide +kernel)
theorem wd_280 : Cond.selects RX3 yX3_settle yX3_settle ∈ WALL := wl_in (by decide +kernel) (by decide +kernel)
theorem wd_281 : Cond.fieldLink RX10 234 "BowlShelf$Order" "fewest" "I" ∈ WALL := wl_in (by decide +kernel) (by decide +kernel)
theorem wd_282 : Cond.fieldLink RX10 237 "BowlShelf$Order" "apart" "I" ∈ WALL := wl_in (by decide +kernel) (by decide +kernel)
theorem wd_283 : Cond.code yX10_isHeight cX10_isHeight 1 (some .boolean) ∈ WALL := wl_in (by decide +kernel) (by decide +kernel)
theorem wd_284 : Cond.methodLink RX10 243 yX10_isHeight ∈ WALL := wl_in (by decide +kernel) (by decide +kernel)
theorem wd_285 : Cond.static yX10_isHeight ∈ WALL := wl_in (by decide +kernel) (by decide +kernel)
theorem wd_286 : Cond.fieldLink RX10 246 "BowlShelf$Told" "wares" "I" ∈ WALL := wl_in (by decide +kernel) (by decide +kernel)
theorem wd_287 : Cond.fieldLink RX0 21 "BowlShelf$Heights" "known" "Z" ∈ WALL := wl_in (by decide +kernel) (by decide +kernel)
theorem wd_288 : Cond.fieldLink RX0 25 "BowlShelf$Told" "wares" "I" ∈ WALL := wl_in (by decide +kernel) (by decide +kernel)
theorem wd_289 : Cond.fieldLink RX0 31 "BowlShelf$Heights" "wares" "I" ∈ WALL := wl_in (by decide +kernel) (by decide +kernel)
theorem wd_290 : Cond.code yX0_settle cX0_settle 4 none ∈ WALL := wl_in (by decide +kernel) (by decide +kernel)
theorem wd_291 : Cond.methodLink RX10 249 yX0_settle ∈ WALL := wl_in (by decide +kernel) (by decide +kernel)
theorem wd_292 : Cond.instanceMethod yX0_settle ∈ WALL := wl_in (by decide +kernel) (by decide +kernel)
theorem wd_293 : Cond.selects RX0 yX0_settle yX0_settle ∈ WALL := wl_in (by decide +kernel) (by decide +kernel)
theorem wd_294 : Cond.code yX0_fewestStacks cX0_fewestStacks 4 (some .int) ∈ WALL := wl_in (by decide +kernel) (by decide +kernel)
theorem wd_295 : Cond.methodLink RX10 251 yX0_fewestStacks ∈ WALL := wl_in (by decide +kernel) (by decide +kernel)
theorem wd_296 : Cond.instanceMethod yX0_fewestStacks ∈ WALL := wl_in (by decide +kernel) (by decide +kernel)
theorem wd_297 : Cond.selects RX0 yX0_fewestStacks yX0_fewestStacks ∈ WALL := wl_in (by decide +kernel) (by decide +kernel)
theorem dX3_isRound_0 : decode cX3_isRound 0 = .ok (.iconst 0, 1) := by decide +kernel
theorem dX3_isRound_1 : decode cX3_isRound 1 = .ok (.istore_n 1, 1) := by decide +kernel
theorem dX3_isRound_2 : decode cX3_isRound 2 = .ok (.iload_n 1, 1) := by decide +kernel
theorem dX3_isRound_3 : decode cX3_isRound 3 = .ok (.aload_n 0, 1) := by decide +kernel
theorem dX3_isRound_4 : decode cX3_isRound 4 = .ok (.getfield 30, 3) := by decide +kernel
theorem dX3_isRound_7 : decode cX3_isRound 7 = .ok (.if_icmp .ge 25, 3) := by decide +kernel
theorem dX3_isRound_32 : decode cX3_isRound 32 = .ok (.iconst 0, 1) := by decide +kernel
theorem dX3_isRound_33 : decode cX3_isRound 33 = .ok (.ireturn, 1) := by decide +kernel
theorem dX3_findKin_0 : decode cX3_findKin 0 = .ok (.aload_n 0, 1) := by decide +kernel
theorem dX3_findKin_1 : decode cX3_findKin 1 = .ok (.getfield 9, 3) := by decide +kernel
theorem dX3_findKin_4 : decode cX3_findKin 4 = .ok (.iconst 0, 1) := by decide +kernel
theorem dX3_findKin_5 : decode cX3_findKin 5 = .ok (.aload_n 0, 1) := by decide +kernel
theorem dX3_findKin_6 : decode cX3_findKin 6 = .ok (.getfield 15, 3) := by decide +kernel
theorem dX3_findKin_9 : decode cX3_findKin 9 = .ok (.iconst 0, 1) := by decide +kernel
theorem dX3_findKin_10 : decode cX3_findKin 10 = .ok (.bipush 12, 2) := by decide +kernel
theorem dX3_findKin_12 : decode cX3_findKin 12 = .ok (.invokestatic 38, 3) := by decide +kernel
theorem dX3_findKin_15 : decode cX3_findKin 15 = .ok (.iconst 0, 1) := by decide +kernel
theorem dX3_findKin_16 : decode cX3_findKin 16 = .ok (.istore_n 1, 1) := by decide +kernel
theorem dX3_findKin_17 : decode cX3_findKin 17 = .ok (.iload_n 1, 1) := by decide +kernel
theorem dX3_findKin_18 : decode cX3_findKin 18 = .ok (.aload_n 0, 1) := by decide +kernel
theorem dX3_findKin_19 : decode cX3_findKin 19 = .ok (.getfield 30, 3) := by decide +kernel
theorem dX3_findKin_22 : decode cX3_findKin 22 = .ok (.if_icmp .ge 46, 3) := by decide +kernel
theorem dX3_findKin_68 : decode cX3_findKin 68 = .ok (.return_, 1) := by decide +kernel
theorem dX3_findApart_0 : decode cX3_findApart 0 = .ok (.aload_n 0, 1) := by decide +kernel
theorem dX3_findApart_1 : decode cX3_findApart 1 = .ok (.iconst 0, 1) := by decide +kernel
theorem dX3_findApart_2 : decode cX3_findApart 2 = .ok (.putfield 60, 3) := by decide +kernel
theorem dX3_findApart_5 : decode cX3_findApart 5 = .ok (.aload_n 0, 1) := by decide +kernel
theorem dX3_findApart_6 : decode cX3_findApart 6 = .ok (.iconst 0, 1) := by decide +kernel
theorem dX3_findApart_7 : decode cX3_findApart 7 = .ok (.putfield 63, 3) := by decide +kernel
theorem dX3_findApart_10 : decode cX3_findApart 10 = .ok (.iconst 1, 1) := by decide +kernel
theorem dX3_findApart_11 : decode cX3_findApart 11 = .ok (.istore_n 1, 1) := by decide +kernel
theorem dX3_findApart_12 : decode cX3_findApart 12 = .ok (.iload_n 1, 1) := by decide +kernel
theorem dX3_findApart_13 : decode cX3_findApart 13 = .ok (.iconst 1, 1) := by decide +kernel
theorem dX3_findApart_14 : decode cX3_findApart 14 = .ok (.aload_n 0, 1) := by decide +kernel
theorem dX3_findApart_15 : decode cX3_findApart 15 = .ok (.getfield 30, 3) := by decide +kernel
theorem dX3_findApart_18 : decode cX3_findApart 18 = .ok (.ishl, 1) := by decide +kernel
theorem dX3_findApart_19 : decode cX3_findApart 19 = .ok (.if_icmp .ge 40, 3) := by decide +kernel
theorem dX3_findApart_59 : decode cX3_findApart 59 = .ok (.return_, 1) := by decide +kernel
theorem dX3_give_0 : decode cX3_give 0 = .ok (.iload_n 1, 1) := by decide +kernel
theorem dX3_give_1 : decode cX3_give 1 = .ok (.aload_n 0, 1) := by decide +kernel
theorem dX3_give_2 : decode cX3_give 2 = .ok (.getfield 30, 3) := by decide +kernel
theorem dX3_give_5 : decode cX3_give 5 = .ok (.if_icmp .lt 5, 3) := by decide +kernel
theorem dX3_give_8 : decode cX3_give 8 = .ok (.iconst 1, 1) := by decide +kernel
theorem dX3_give_9 : decode cX3_give 9 = .ok (.ireturn, 1) := by decide +kernel
theorem dX3_settle_0 : decode cX3_settle 0 = .ok (.aload_n 0, 1) := by decide +kernel
theorem dX3_settle_1 : decode cX3_settle 1 = .ok (.getfield 31, 3) := by decide +kernel
theorem dX3_settle_4 : decode cX3_settle 4 = .ok (.ifCond .eq 4, 3) := by decide +kernel
theorem dX3_settle_8 : decode cX3_settle 8 = .ok (.aload_n 0, 1) := by decide +kernel
theorem dX3_settle_9 : decode cX3_settle 9 = .ok (.iconst 1, 1) := by decide +kernel
theorem dX3_settle_10 : decode cX3_settle 10 = .ok (.putfield 31, 3) := by decide +kernel
theorem dX3_settle_13 : decode cX3_settle 13 = .ok (.aload_n 0, 1) := by decide +kernel
theorem dX3_settle_14 : decode cX3_settle 14 = .ok (.invokevirtual 44, 3) := by decide +kernel
theorem dX3_settle_17 : decode cX3_settle 17 = .ok (.aload_n 0, 1) := by decide +kernel
theorem dX3_settle_18 : decode cX3_settle 18 = .ok (.invokevirtual 47, 3) := by decide +kernel
theorem dX3_settle_21 : decode cX3_settle 21 = .ok (.aload_n 0, 1) := by decide +kernel
theorem dX3_settle_22 : decode cX3_settle 22 = .ok (.getfield 21, 3) := by decide +kernel
theorem dX3_settle_25 : decode cX3_settle 25 = .ok (.iconst 0, 1) := by decide +kernel
theorem dX3_settle_26 : decode cX3_settle 26 = .ok (.invokestatic 50, 3) := by decide +kernel
theorem dX3_settle_29 : decode cX3_settle 29 = .ok (.aload_n 0, 1) := by decide +kernel
theorem dX3_settle_30 : decode cX3_settle 30 = .ok (.iconst 0, 1) := by decide +kernel
theorem dX3_settle_31 : decode cX3_settle 31 = .ok (.iconst 0, 1) := by decide +kernel
theorem dX3_settle_32 : decode cX3_settle 32 = .ok (.invokevirtual 56, 3) := by decide +kernel
theorem dX3_settle_35 : decode cX3_settle 35 = .ok (.pop, 1) := by decide +kernel
theorem dX3_settle_36 : decode cX3_settle 36 = .ok (.return_, 1) := by decide +kernel
theorem dX10_rows_0 : decode cX10_rows 0 = .ok (.aload_n 0, 1) := by decide +kernel
theorem dX10_rows_1 : decode cX10_rows 1 = .ok (.getfield 47, 3) := by decide +kernel
theorem dX10_rows_4 : decode cX10_rows 4 = .ok (.invokevirtual 227, 3) := by decide +kernel
theorem dX10_rows_7 : decode cX10_rows 7 = .ok (.ifCond .eq 5, 3) := by decide +kernel
theorem dX10_rows_12 : decode cX10_rows 12 = .ok (.aload_n 0, 1) := by decide +kernel
theorem dX10_rows_13 : decode cX10_rows 13 = .ok (.getfield 47, 3) := by decide +kernel
theorem dX10_rows_16 : decode cX10_rows 16 = .ok (.invokevirtual 231, 3) := by decide +kernel
theorem dX10_rows_19 : decode cX10_rows 19 = .ok (.iload_n 1, 1) := by decide +kernel
theorem dX10_rows_20 : decode cX10_rows 20 = .ok (.lookupswitch 44 #[(0, 28), (1, 36)], 28) := by decide +kernel
theorem dX10_rows_48 : decode cX10_rows 48 = .ok (.aload_n 0, 1) := by decide +kernel
theorem dX10_rows_49 : decode cX10_rows 49 = .ok (.getfield 47, 3) := by decide +kernel
theorem dX10_rows_52 : decode cX10_rows 52 = .ok (.getfield 234, 3) := by decide +kernel
theorem dX10_rows_55 : decode cX10_rows 55 = .ok (.ireturn, 1) := by decide +kernel
theorem dX10_rows_56 : decode cX10_rows 56 = .ok (.aload_n 0, 1) := by decide +kernel
theorem dX10_rows_57 : decode cX10_rows 57 = .ok (.getfield 47, 3) := by decide +kernel
theorem dX10_rows_60 : decode cX10_rows 60 = .ok (.getfield 237, 3) := by decide +kernel
theorem dX10_rows_63 : decode cX10_rows 63 = .ok (.ireturn, 1) := by decide +kernel
theorem dX10_rows_64 : decode cX10_rows 64 = .ok (.iconst (-1), 1) := by decide +kernel
theorem dX10_rows_65 : decode cX10_rows 65 = .ok (.ireturn, 1) := by decide +kernel
theorem dX10_isHeight_0 : decode cX10_isHeight 0 = .ok (.iload_n 0, 1) := by decide +kernel
theorem dX10_isHeight_1 : decode cX10_isHeight 1 = .ok (.iconst 1, 1) := by decide +kernel
theorem dX10_isHeight_2 : decode cX10_isHeight 2 = .ok (.if_icmp .lt 14, 3) := by decide +kernel
theorem dX10_isHeight_5 : decode cX10_isHeight 5 = .ok (.iload_n 0, 1) := by decide +kernel
theorem dX10_isHeight_6 : decode cX10_isHeight 6 = .ok (.sipush 999, 3) := by decide +kernel
theorem dX10_isHeight_9 : decode cX10_isHeight 9 = .ok (.if_icmp .gt 7, 3) := by decide +kernel
theorem dX10_isHeight_12 : decode cX10_isHeight 12 = .ok (.iconst 1, 1) := by decide +kernel
theorem dX10_isHeight_13 : decode cX10_isHeight 13 = .ok (.goto 4, 3) := by decide +kernel
theorem dX10_isHeight_16 : decode cX10_isHeight 16 = .ok (.iconst 0, 1) := by decide +kernel
theorem dX10_isHeight_17 : decode cX10_isHeight 17 = .ok (.ireturn, 1) := by decide +kernel
theorem dX10_sorted_0 : decode cX10_sorted 0 = .ok (.iload_n 2, 1) := by decide +kernel
theorem dX10_sorted_1 : decode cX10_sorted 1 = .ok (.invokestatic 243, 3) := by decide +kernel
theorem dX10_sorted_4 : decode cX10_sorted 4 = .ok (.ifCond .eq 33, 3) := by decide +kernel
theorem dX10_sorted_7 : decode cX10_sorted 7 = .ok (.iload_n 1, 1) := by decide +kernel
theorem dX10_sorted_8 : decode cX10_sorted 8 = .ok (.iconst 1, 1) := by decide +kernel
theorem dX10_sorted_9 : decode cX10_sorted 9 = .ok (.if_icmp .lt 28, 3) := by decide +kernel
theorem dX10_sorted_12 : decode cX10_sorted 12 = .ok (.iload_n 1, 1) := by decide +kernel
theorem dX10_sorted_13 : decode cX10_sorted 13 = .ok (.iconst 1, 1) := by decide +kernel
theorem dX10_sorted_14 : decode cX10_sorted 14 = .ok (.aload_n 0, 1) := by decide +kernel
theorem dX10_sorted_15 : decode cX10_sorted 15 = .ok (.getfield 19, 3) := by decide +kernel
theorem dX10_sorted_18 : decode cX10_sorted 18 = .ok (.getfield 246, 3) := by decide +kernel
theorem dX10_sorted_21 : decode cX10_sorted 21 = .ok (.ishl, 1) := by decide +kernel
theorem dX10_sorted_22 : decode cX10_sorted 22 = .ok (.if_icmp .ge 15, 3) := by decide +kernel
theorem dX10_sorted_37 : decode cX10_sorted 37 = .ok (.iconst (-1), 1) := by decide +kernel
theorem dX10_sorted_38 : decode cX10_sorted 38 = .ok (.ireturn, 1) := by decide +kernel
theorem dX0_settle_0 : decode cX0_settle 0 = .ok (.aload_n 0, 1) := by decide +kernel
theorem dX0_settle_1 : decode cX0_settle 1 = .ok (.getfield 21, 3) := by decide +kernel
theorem dX0_settle_4 : decode cX0_settle 4 = .ok (.ifCond .eq 4, 3) := by decide +kernel
theorem dX0_settle_8 : decode cX0_settle 8 = .ok (.aload_n 0, 1) := by decide +kernel
theorem dX0_settle_9 : decode cX0_settle 9 = .ok (.iconst 1, 1) := by decide +kernel
theorem dX0_settle_10 : decode cX0_settle 10 = .ok (.putfield 21, 3) := by decide +kernel
theorem dX0_settle_13 : decode cX0_settle 13 = .ok (.aload_n 0, 1) := by decide +kernel
theorem dX0_settle_14 : decode cX0_settle 14 = .ok (.aload_n 1, 1) := by decide +kernel
theorem dX0_settle_15 : decode cX0_settle 15 = .ok (.getfield 25, 3) := by decide +kernel
theorem dX0_settle_18 : decode cX0_settle 18 = .ok (.putfield 31, 3) := by decide +kernel
theorem dX0_settle_21 : decode cX0_settle 21 = .ok (.iconst 1, 1) := by decide +kernel
theorem dX0_settle_22 : decode cX0_settle 22 = .ok (.aload_n 0, 1) := by decide +kernel
theorem dX0_settle_23 : decode cX0_settle 23 = .ok (.getfield 31, 3) := by decide +kernel
theorem dX0_settle_26 : decode cX0_settle 26 = .ok (.ishl, 1) := by decide +kernel
theorem dX0_settle_27 : decode cX0_settle 27 = .ok (.istore_n 2, 1) := by decide +kernel
theorem dX0_settle_28 : decode cX0_settle 28 = .ok (.aload_n 0, 1) := by decide +kernel
theorem dX0_settle_29 : decode cX0_settle 29 = .ok (.getfield 15, 3) := by decide +kernel
theorem dX0_settle_32 : decode cX0_settle 32 = .ok (.arraylength, 1) := by decide +kernel
theorem dX0_settle_33 : decode cX0_settle 33 = .ok (.iload_n 2, 1) := by decide +kernel
theorem dX0_settle_34 : decode cX0_settle 34 = .ok (.if_icmp .ge 29, 3) := by decide +kernel
theorem dX0_settle_37 : decode cX0_settle 37 = .ok (.aload_n 0, 1) := by decide +kernel
theorem dX0_settle_38 : decode cX0_settle 38 = .ok (.iload_n 2, 1) := by decide +kernel
theorem dX0_settle_39 : decode cX0_settle 39 = .ok (.newarray .int, 2) := by decide +kernel
theorem dX0_settle_41 : decode cX0_settle 41 = .ok (.putfield 15, 3) := by decide +kernel
theorem dX0_settle_44 : decode cX0_settle 44 = .ok (.aload_n 0, 1) := by decide +kernel
theorem dX0_settle_45 : decode cX0_settle 45 = .ok (.iload_n 2, 1) := by decide +kernel
theorem dX0_settle_46 : decode cX0_settle 46 = .ok (.newarray .int, 2) := by decide +kernel
theorem dX0_settle_48 : decode cX0_settle 48 = .ok (.putfield 18, 3) := by decide +kernel
theorem dX0_settle_51 : decode cX0_settle 51 = .ok (.aload_n 0, 1) := by decide +kernel
theorem dX0_settle_52 : decode cX0_settle 52 = .ok (.iload_n 2, 1) := by decide +kernel
theorem dX0_settle_53 : decode cX0_settle 53 = .ok (.aload_n 0, 1) := by decide +kernel
theorem dX0_settle_54 : decode cX0_settle 54 = .ok (.getfield 31, 3) := by decide +kernel
theorem dX0_settle_57 : decode cX0_settle 57 = .ok (.imul, 1) := by decide +kernel
theorem dX0_settle_58 : decode cX0_settle 58 = .ok (.newarray .int, 2) := by decide +kernel
theorem dX0_settle_60 : decode cX0_settle 60 = .ok (.putfield 9, 3) := by decide +kernel
theorem dX0_settle_63 : decode cX0_settle 63 = .ok (.iconst 1, 1) := by decide +kernel
theorem dX0_settle_64 : decode cX0_settle 64 = .ok (.istore_n 3, 1) := by decide +kernel
theorem dX0_settle_65 : decode cX0_settle 65 = .ok (.iload_n 3, 1) := by decide +kernel
theorem dX0_settle_66 : decode cX0_settle 66 = .ok (.iload_n 2, 1) := by decide +kernel
theorem dX0_settle_67 : decode cX0_settle 67 = .ok (.if_icmp .ge 15, 3) := by decide +kernel
theorem dX0_settle_82 : decode cX0_settle 82 = .ok (.return_, 1) := by decide +kernel
theorem dX0_fewestStacks_0 : decode cX0_fewestStacks 0 = .ok (.iconst 1, 1) := by decide +kernel
theorem dX0_fewestStacks_1 : decode cX0_fewestStacks 1 = .ok (.aload_n 0, 1) := by decide +kernel
theorem dX0_fewestStacks_2 : decode cX0_fewestStacks 2 = .ok (.getfield 31, 3) := by decide +kernel
theorem dX0_fewestStacks_5 : decode cX0_fewestStacks 5 = .ok (.ishl, 1) := by decide +kernel
theorem dX0_fewestStacks_6 : decode cX0_fewestStacks 6 = .ok (.iconst 1, 1) := by decide +kernel
theorem dX0_fewestStacks_7 : decode cX0_fewestStacks 7 = .ok (.isub, 1) := by decide +kernel
theorem dX0_fewestStacks_8 : decode cX0_fewestStacks 8 = .ok (.istore_n 2, 1) := by decide +kernel
theorem dX0_fewestStacks_9 : decode cX0_fewestStacks 9 = .ok (.aload_n 0, 1) := by decide +kernel
theorem dX0_fewestStacks_10 : decode cX0_fewestStacks 10 = .ok (.getfield 18, 3) := by decide +kernel
theorem dX0_fewestStacks_13 : decode cX0_fewestStacks 13 = .ok (.iconst 0, 1) := by decide +kernel
theorem dX0_fewestStacks_14 : decode cX0_fewestStacks 14 = .ok (.iconst 0, 1) := by decide +kernel
theorem dX0_fewestStacks_15 : decode cX0_fewestStacks 15 = .ok (.iastore, 1) := by decide +kernel
theorem dX0_fewestStacks_16 : decode cX0_fewestStacks 16 = .ok (.iconst 1, 1) := by decide +kernel
theorem dX0_fewestStacks_17 : decode cX0_fewestStacks 17 = .ok (.istore_n 3, 1) := by decide +kernel
theorem dX0_fewestStacks_18 : decode cX0_fewestStacks 18 = .ok (.iload_n 3, 1) := by decide +kernel
theorem dX0_fewestStacks_19 : decode cX0_fewestStacks 19 = .ok (.iload_n 2, 1) := by decide +kernel
theorem dX0_fewestStacks_20 : decode cX0_fewestStacks 20 = .ok (.if_icmp .gt 32, 3) := by decide +kernel
theorem dX0_fewestStacks_52 : decode cX0_fewestStacks 52 = .ok (.aload_n 0, 1) := by decide +kernel
theorem dX0_fewestStacks_53 : decode cX0_fewestStacks 53 = .ok (.getfield 18, 3) := by decide +kernel
theorem dX0_fewestStacks_56 : decode cX0_fewestStacks 56 = .ok (.iload_n 2, 1) := by decide +kernel
theorem dX0_fewestStacks_57 : decode cX0_fewestStacks 57 = .ok (.iaload, 1) := by decide +kernel
theorem dX0_fewestStacks_58 : decode cX0_fewestStacks 58 = .ok (.ireturn, 1) := by decide +kernel
theorem dX10_needed_0 : decode cX10_needed 0 = .ok (.iload_n 1, 1) := by decide +kernel
theorem dX10_needed_1 : decode cX10_needed 1 = .ok (.invokestatic 243, 3) := by decide +kernel
theorem dX10_needed_4 : decode cX10_needed 4 = .ok (.ifCond .ne 5, 3) := by decide +kernel
theorem dX10_needed_7 : decode cX10_needed 7 = .ok (.iconst (-1), 1) := by decide +kernel
theorem dX10_needed_8 : decode cX10_needed 8 = .ok (.ireturn, 1) := by decide +kernel
theorem dX10_needed_9 : decode cX10_needed 9 = .ok (.iconst 0, 1) := by decide +kernel
theorem dX10_needed_10 : decode cX10_needed 10 = .ok (.istore_n 2, 1) := by decide +kernel
theorem dX10_needed_11 : decode cX10_needed 11 = .ok (.iload_n 2, 1) := by decide +kernel
theorem dX10_needed_12 : decode cX10_needed 12 = .ok (.aload_n 0, 1) := by decide +kernel
theorem dX10_needed_13 : decode cX10_needed 13 = .ok (.getfield 19, 3) := by decide +kernel
theorem dX10_needed_16 : decode cX10_needed 16 = .ok (.getfield 246, 3) := by decide +kernel
theorem dX10_needed_19 : decode cX10_needed 19 = .ok (.if_icmp .ge 24, 3) := by decide +kernel
theorem dX10_needed_43 : decode cX10_needed 43 = .ok (.aload_n 0, 1) := by decide +kernel
theorem dX10_needed_44 : decode cX10_needed 44 = .ok (.getfield 54, 3) := by decide +kernel
theorem dX10_needed_47 : decode cX10_needed 47 = .ok (.aload_n 0, 1) := by decide +kernel
theorem dX10_needed_48 : decode cX10_needed 48 = .ok (.getfield 19, 3) := by decide +kernel
theorem dX10_needed_51 : decode cX10_needed 51 = .ok (.invokevirtual 249, 3) := by decide +kernel
theorem dX10_needed_54 : decode cX10_needed 54 = .ok (.aload_n 0, 1) := by decide +kernel
theorem dX10_needed_55 : decode cX10_needed 55 = .ok (.getfield 54, 3) := by decide +kernel
theorem dX10_needed_58 : decode cX10_needed 58 = .ok (.iload_n 1, 1) := by decide +kernel
theorem dX10_needed_59 : decode cX10_needed 59 = .ok (.invokevirtual 251, 3) := by decide +kernel
theorem dX10_needed_62 : decode cX10_needed 62 = .ok (.ireturn, 1) := by decide +kernel
set_option maxHeartbeats 4000000 in
set_option maxRecDepth 100000 in
theorem c_X3_isRound (l : Launch) (D : va_G) (cyC cyI cyJ cyZ cyO : ClassId) (t45 : Nat) (t46 : Nat) (t47 : Nat) (t48 : Nat) (t49 : Nat) : KK l D (TY cyC cyI cyJ cyZ cyO) yX3_isRound cX3_isRound 2 (some .boolean) ({ frames := 0, cells := 0, slots := 0, locals := 0 } : Room) 0 0 [.ref t45] [(t45, .inr (3, [.int 0, .ref t46, .ref t47, .int 0, .int 0, .int 0, .ref t48, .ref t49]))] (fun u => some (.int 0)) (fun u => True) (fun u => [(t45, .inr (3, [.int 0, .ref t46, .ref t47, .int 0, .int 0, .int 0, .ref t48, .ref t49]))]) := by
  refine KK.of (lv0 := [(0, .ref t45)]) (by decide) rfl (Nat.le_of_ble_eq_true rfl) ?_
  intro p e s m args below meth c A C hr hk hin
  refine j_iconst (pc := 0) (v := 0) C dX3_isRound_0 (by decide) ?_
  refine j_istore_n (pc := 1) (lv' := [(1, .int 0), (0, .ref t45)]) C dX3_isRound_1 rfl (by decide) rfl ?_
  refine j_iload_n (pc := 2) C dX3_isRound_2 rfl 0 rfl ?_
  refine j_aload_n (pc := 3) C dX3_isRound_3 rfl 1 rfl ?_
  refine j_get (pc := 4) (ci := 3) (v := .int 0) C inw_3 0 rfl rfl 0 (by decide) wd_233 rfl rfl dX3_isRound_4 ?_
  refine j_icmp_ge_t (pc := 7) (tgt := 32) C dX3_isRound_7 (by decide) (by decide) ?_
  refine j_iconst (pc := 32) (v := 0) C dX3_isRound_32 (by decide) ?_
  exact j_zret (pc := 33) C hr rfl hk (fun i => [].getD i 0, fun _ => 0, fun _ _ => 0) rfl trivial [0] (by decide) rfl (by decide) (by decide) dX3_isRound_33
set_option maxHeartbeats 4000000 in
set_option maxRecDepth 100000 in
theorem c_X3_findKin (l : Launch) (D : va_G) (cyC cyI cyJ cyZ cyO : ClassId) (t45 : Nat) (t46 : Nat) (t47 : Nat) (t48 : Nat) (t49 : Nat) : KK l D (TY cyC cyI cyJ cyZ cyO) yX3_findKin cX3_findKin 3 none ({ frames := 1, cells := 0, slots := 0, locals := 18 } : Room) 0 0 [.ref t45] [(t45, .inr (3, [.int 0, .ref t46, .ref t47, .int 1, .int 0, .int 0, .ref t48, .ref t49])), (t46, .inl (cyI, 12, .inl (fun _ => 0))), (t47, .inl (cyI, 12, .inl (fun _ => 0)))] (fun u => none) (fun u => True) (fun u => [(t45, .inr (3, [.int 0, .ref t46, .ref t47, .int 1, .int 0, .int 0, .ref t48, .ref t49])), (t46, .inl (cyI, 12, .inl (fun _ => 0))), (t47, .inl (cyI, 12, .inl (va_cpy (fun _ => 0) (fun _ => 0) 0 0 12)))]) := by
  refine KK.of (lv0 := [(0, .ref t45)]) (by decide) rfl (Nat.le_of_ble_eq_true rfl) ?_
  intro p e s m args below meth c A C hr hk hin
  refine j_aload_n (pc := 0) C dX3_findKin_0 rfl 0 rfl ?_
  refine j_get (pc := 1) (ci := 3) (v := .ref t46) C inw_3 0 rfl rfl 1 (by decide) wd_55 rfl rfl dX3_findKin_1 ?_
  refine j_iconst (pc := 4) (v := 0) C dX3_findKin_4 (by decide) ?_
  refine j_aload_n (pc := 5) C dX3_findKin_5 rfl 0 rfl ?_
  refine j_get (pc := 6) (ci := 3) (v := .ref t47) C inw_3 0 rfl rfl 2 (by decide) wd_56 rfl rfl dX3_findKin_6 ?_
  refine j_iconst (pc := 9) (v := 0) C dX3_findKin_9 (by decide) ?_
  refine j_bipush (pc := 10) (v := 12) C dX3_findKin_10 (by decide) ?_
  refine j_acpy (pc := 12) (ks := 0) (kd := 0) (kn := 12) (ws' := [(t45, .inr (3, [.int 0, .ref t46, .ref t47, .int 1, .int 0, .int 0, .ref t48, .ref t49])), (t46, .inl (cyI, 12, .inl (fun _ => 0))), (t47, .inl (cyI, 12, .inl (va_cpy (fun _ => 0) (fun _ => 0) 0 0 12)))]) C wd_236 wd_237 wd_238 wd_239 1 2 1 rfl rfl rfl (by decide) (by decide) (by decide) (by decide) (by decide) (by decide) (by decide) (by decide) (by decide) (Nat.le_of_ble_eq_true rfl) dX3_findKin_12 rfl ?_
  refine j_iconst (pc := 15) (v := 0) C dX3_findKin_15 (by decide) ?_
  refine j_istore_n (pc := 16) (lv' := [(1, .int 0), (0, .ref t45)]) C dX3_findKin_16 rfl (by decide) rfl ?_
  refine j_iload_n (pc := 17) C dX3_findKin_17 rfl 0 rfl ?_
  refine j_aload_n (pc := 18) C dX3_findKin_18 rfl 1 rfl ?_
  refine j_get (pc := 19) (ci := 3) (v := .int 0) C inw_3 0 rfl rfl 0 (by decide) wd_233 rfl rfl dX3_findKin_19 ?_
  refine j_icmp_ge_t (pc := 22) (tgt := 68) C dX3_findKin_22 (by decide) (by decide) ?_
  exact j_vret (pc := 68) C hr hk (fun i => [].getD i 0, fun _ => 0, fun _ _ => 0) rfl trivial [0, 1, 2] (by decide) rfl (by decide) (by decide) dX3_findKin_68
set_option maxHeartbeats 4000000 in
set_option maxRecDepth 100000 in
theorem c_X3_findApart (l : Launch) (D : va_G) (cyC cyI cyJ cyZ cyO : ClassId) (t45 : Nat) (t46 : Nat) (t47 : Nat) (t48 : Nat) (t49 : Nat) : KK l D (TY cyC cyI cyJ cyZ cyO) yX3_findApart cX3_findApart 3 none ({ frames := 0, cells := 0, slots := 0, locals := 0 } : Room) 0 0 [.ref t45] [(t45, .inr (3, [.int 0, .ref t46, .ref t47, .int 1, .int 0, .int 0, .ref t48, .ref t49]))] (fun u => none) (fun u => True) (fun u => [(t45, .inr (3, [.int 0, .ref t46, .ref t47, .int 1, .int 0, .int 0, .ref t48, .ref t49]))]) := by
  refine KK.of (lv0 := [(0, .ref t45)]) (by decide) rfl (Nat.le_of_ble_eq_true rfl) ?_
  intro p e s m args below meth c A C hr hk hin
  refine j_aload_n (pc := 0) C dX3_findApart_0 rfl 0 rfl ?_
  refine j_iconst (pc := 1) (v := 0) C dX3_findApart_1 (by decide) ?_
  refine j_put (pc := 2) (ci := 3) (v := .int 0) (ws' := [(t45, .inr (3, [.int 0, .ref t46, .ref t47, .int 1, .int 0, .int 0, .ref t48, .ref t49]))]) C inw_3 0 rfl rfl 4 (by decide) wd_258 rfl tyX3_ok nmX3 rfl (tyX3_ok 4 (by decide)) rfl rfl (Nat.le_of_ble_eq_true rfl) dX3_findApart_2 rfl ?_
  refine j_aload_n (pc := 5) C dX3_findApart_5 rfl 0 rfl ?_
  refine j_iconst (pc := 6) (v := 0) C dX3_findApart_6 (by decide) ?_
  refine j_put (pc := 7) (ci := 3) (v := .int 0) (ws' := [(t45, .inr (3, [.int 0, .ref t46, .ref t47, .int 1, .int 0, .int 0, .ref t48, .ref t49]))]) C inw_3 0 rfl rfl 5 (by decide) wd_259 rfl tyX3_ok nmX3 rfl (tyX3_ok 5 (by decide)) rfl rfl (Nat.le_of_ble_eq_true rfl) dX3_findApart_7 rfl ?_
  refine j_iconst (pc := 10) (v := 1) C dX3_findApart_10 (by decide) ?_
  refine j_istore_n (pc := 11) (lv' := [(1, .int 1), (0, .ref t45)]) C dX3_findApart_11 rfl (by decide) rfl ?_
  refine j_iload_n (pc := 12) C dX3_findApart_12 rfl 0 rfl ?_
  refine j_iconst (pc := 13) (v := 1) C dX3_findApart_13 (by decide) ?_
  refine j_aload_n (pc := 14) C dX3_findApart_14 rfl 1 rfl ?_
  refine j_get (pc := 15) (ci := 3) (v := .int 0) C inw_3 0 rfl rfl 0 (by decide) wd_233 rfl rfl dX3_findApart_15 ?_
  refine j_ishl (pc := 18) (v := 1) C dX3_findApart_18 (by decide) ?_
  refine j_icmp_ge_t (pc := 19) (tgt := 59) C dX3_findApart_19 (by decide) (by decide) ?_
  exact j_vret (pc := 59) C hr hk (fun i => [].getD i 0, fun _ => 0, fun _ _ => 0) rfl trivial [0] (by decide) rfl (by decide) (by decide) dX3_findApart_59
set_option maxHeartbeats 4000000 in
set_option maxRecDepth 100000 in
theorem c_X3_give (l : Launch) (D : va_G) (cyC cyI cyJ cyZ cyO : ClassId) (t45 : Nat) (t46 : Nat) (t47 : Nat) (t48 : Nat) (t49 : Nat) : KK l D (TY cyC cyI cyJ cyZ cyO) yX3_give cX3_give 4 (some .boolean) ({ frames := 0, cells := 0, slots := 0, locals := 0 } : Room) 0 0 [.ref t45, .int 0, .int 0] [(t45, .inr (3, [.int 0, .ref t46, .ref t47, .int 1, .int 0, .int 0, .ref t48, .ref t49]))] (fun u => some (.int 1)) (fun u => True) (fun u => [(t45, .inr (3, [.int 0, .ref t46, .ref t47, .int 1, .int 0, .int 0, .ref t48, .ref t49]))]) := by
  refine KK.of (lv0 := [(0, .ref t45), (1, .int 0), (2, .int 0)]) (by decide) rfl (Nat.le_of_ble_eq_true rfl) ?_
  intro p e s m args below meth c A C hr hk hin
  refine j_iload_n (pc := 0) C dX3_give_0 rfl 1 rfl ?_
  refine j_aload_n (pc := 1) C dX3_give_1 rfl 0 rfl ?_
  refine j_get (pc := 2) (ci := 3) (v := .int 0) C inw_3 0 rfl rfl 0 (by decide) wd_233 rfl rfl dX3_give_2 ?_
  refine j_icmp_lt_f (pc := 5) (tgt := 10) C dX3_give_5 (by decide) (by decide) ?_
  refine j_iconst (pc := 8) (v := 1) C dX3_give_8 (by decide) ?_
  exact j_zret (pc := 9) C hr rfl hk (fun i => [].getD i 0, fun _ => 0, fun _ _ => 0) rfl trivial [0] (by decide) rfl (by decide) (by decide) dX3_give_9
set_option maxHeartbeats 4000000 in
set_option maxRecDepth 100000 in
theorem c_X3_settle (l : Launch) (D : va_G) (cyC cyI cyJ cyZ cyO : ClassId) (t45 : Nat) (t46 : Nat) (t47 : Nat) (t48 : Nat) (t49 : Nat) : KK l D (TY cyC cyI cyJ cyZ cyO) yX3_settle cX3_settle 1 none ({ frames := 2, cells := 0, slots := 0, locals := 40 } : Room) 0 0 [.ref t45] [(t45, .inr (3, [.int 0, .ref t46, .ref t47, .int 0, .int 0, .int 0, .ref t48, .ref t49])), (t46, .inl (cyI, 12, .inl (fun _ => 0))), (t47, .inl (cyI, 12, .inl (fun _ => 0))), (t49, .inl (cyI, 12, .inl (fun _ => 0)))] (fun u => none) (fun u => True) (fun u => [(t45, .inr (3, [.int 0, .ref t46, .ref t47, .int 1, .int 0, .int 0, .ref t48, .ref t49])), (t46, .inl (cyI, 12, .inl (fun _ => 0))), (t47, .inl (cyI, 12, .inl (va_cpy (fun _ => 0) (fun _ => 0) 0 0 12))), (t49, .inl (cyI, 12, .inl (fun _ => 0)))]) := by
  refine KK.of (lv0 := [(0, .ref t45)]) (by decide) rfl (Nat.le_of_ble_eq_true rfl) ?_
  intro p e s m args below meth c A C hr hk hin
  refine j_aload_n (pc := 0) C dX3_settle_0 rfl 0 rfl ?_
  refine j_get (pc := 1) (ci := 3) (v := .int 0) C inw_3 0 rfl rfl 3 (by decide) wd_234 rfl rfl dX3_settle_1 ?_
  refine j_if_eq_t (pc := 4) (tgt := 8) C dX3_settle_4 (by decide) (by decide) ?_
  refine j_aload_n (pc := 8) C dX3_settle_8 rfl 0 rfl ?_
  refine j_iconst (pc := 9) (v := 1) C dX3_settle_9 (by decide) ?_
  refine j_put (pc := 10) (ci := 3) (v := .int 1) (ws' := [(t45, .inr (3, [.int 0, .ref t46, .ref t47, .int 1, .int 0, .int 0, .ref t48, .ref t49])), (t46, .inl (cyI, 12, .inl (fun _ => 0))), (t47, .inl (cyI, 12, .inl (fun _ => 0))), (t49, .inl (cyI, 12, .inl (fun _ => 0)))]) C inw_3 0 rfl rfl 3 (by decide) wd_234 rfl tyX3_ok nmX3 rfl (tyX3_ok 3 (by decide)) rfl rfl (Nat.le_of_ble_eq_true rfl) dX3_settle_10 rfl ?_
  refine j_aload_n (pc := 13) C dX3_settle_13 rfl 0 rfl ?_
  refine j_callV (pc := 14) (As := []) (rest := []) (wr := [(t49, .inl (cyI, 12, .inl (fun _ => 0)))]) C (c_X3_findKin l D cyC cyI cyJ cyZ cyO t45 t46 t47 t48 t49) wd_260 wd_95 wd_261 wd_262 wd_263 ⟨by decide, by decide, rfl⟩ rfl ⟨rfl, rfl, by decide, by decide⟩ ⟨by decide, by decide⟩ [0, 1, 2] [3] rfl rfl ⟨by decide, by decide, by decide⟩ 0 rfl rfl rfl (Nat.le_of_ble_eq_true rfl) dX3_settle_14 (fun u_1 hw_2 => ?_)
  refine j_eq (ws2 := [(t49, .inl (cyI, 12, .inl (fun _ => 0))), (t45, .inr (3, [.int 0, .ref t46, .ref t47, .int 1, .int 0, .int 0, .ref t48, .ref t49])), (t46, .inl (cyI, 12, .inl (fun _ => 0))), (t47, .inl (cyI, 12, .inl (va_cpy (fun _ => 0) (fun _ => 0) 0 0 12)))]) (pc2 := 17) (lv2 := [(0, .ref t45)]) (st2 := []) rfl rfl rfl rfl ?_
  refine j_aload_n (pc := 17) C dX3_settle_17 rfl 0 rfl ?_
  refine j_callV (pc := 18) (As := []) (rest := []) (wr := [(t49, .inl (cyI, 12, .inl (fun _ => 0))), (t46, .inl (cyI, 12, .inl (fun _ => 0))), (t47, .inl (cyI, 12, .inl (va_cpy (fun _ => 0) (fun _ => 0) 0 0 12)))]) C (c_X3_findApart l D cyC cyI cyJ cyZ cyO t45 t46 t47 t48 t49) wd_264 wd_95 wd_265 wd_266 wd_267 ⟨by decide, by decide, rfl⟩ rfl ⟨rfl, rfl, by decide, by decide⟩ ⟨by decide, by decide⟩ [1] [0, 2, 3] rfl rfl ⟨by decide, by decide, by decide⟩ 1 rfl rfl rfl (Nat.le_of_ble_eq_true rfl) dX3_settle_18 (fun u_3 hw_4 => ?_)
  refine j_eq (ws2 := [(t49, .inl (cyI, 12, .inl (fun _ => 0))), (t46, .inl (cyI, 12, .inl (fun _ => 0))), (t47, .inl (cyI, 12, .inl (va_cpy (fun _ => 0) (fun _ => 0) 0 0 12))), (t45, .inr (3, [.int 0, .ref t46, .ref t47, .int 1, .int 0, .int 0, .ref t48, .ref t49]))]) (pc2 := 21) (lv2 := [(0, .ref t45)]) (st2 := []) rfl rfl rfl rfl ?_
  refine j_aload_n (pc := 21) C dX3_settle_21 rfl 0 rfl ?_
  refine j_get (pc := 22) (ci := 3) (v := .ref t49) C inw_3 3 rfl rfl 7 (by decide) wd_58 rfl rfl dX3_settle_22 ?_
  refine j_iconst (pc := 25) (v := 0) C dX3_settle_25 (by decide) ?_
  refine j_callS (pc := 26) (As := [.ref t49, .int 0]) (rest := []) (wr := [(t46, .inl (cyI, 12, .inl (fun _ => 0))), (t47, .inl (cyI, 12, .inl (va_cpy (fun _ => 0) (fun _ => 0) 0 0 12))), (t45, .inr (3, [.int 0, .ref t46, .ref t47, .int 1, .int 0, .int 0, .ref t48, .ref t49]))]) C (c_fill l D cyC cyI cyJ cyZ cyO t49 0 (fun _ => 0)) wd_48 wd_49 wd_268 wd_51 ⟨by decide, by decide, rfl⟩ rfl ⟨rfl, rfl, by decide, by decide⟩ ⟨by decide, by decide⟩ [0] [1, 2, 3] rfl rfl ⟨by decide, by decide, by decide⟩ rfl (Nat.le_of_ble_eq_true rfl) dX3_settle_26 (fun u_5 hw_6 => ?_)
  refine j_eq (ws2 := [(t46, .inl (cyI, 12, .inl (fun _ => 0))), (t47, .inl (cyI, 12, .inl (va_cpy (fun _ => 0) (fun _ => 0) 0 0 12))), (t45, .inr (3, [.int 0, .ref t46, .ref t47, .int 1, .int 0, .int 0, .ref t48, .ref t49])), (t49, .inl (cyI, 12, .inl (fun _ => 0)))]) (pc2 := 29) (lv2 := [(0, .ref t45)]) (st2 := []) rfl rfl rfl rfl ?_
  refine j_aload_n (pc := 29) C dX3_settle_29 rfl 0 rfl ?_
  refine j_iconst (pc := 30) (v := 0) C dX3_settle_30 (by decide) ?_
  refine j_iconst (pc := 31) (v := 0) C dX3_settle_31 (by decide) ?_
  refine j_callV (pc := 32) (As := [.int 0, .int 0]) (rest := []) (wr := [(t46, .inl (cyI, 12, .inl (fun _ => 0))), (t47, .inl (cyI, 12, .inl (va_cpy (fun _ => 0) (fun _ => 0) 0 0 12))), (t49, .inl (cyI, 12, .inl (fun _ => 0)))]) C (c_X3_give l D cyC cyI cyJ cyZ cyO t45 t46 t47 t48 t49) wd_269 wd_95 wd_270 wd_271 wd_272 ⟨by decide, by decide, rfl⟩ rfl ⟨rfl, rfl, by decide, by decide⟩ ⟨by decide, by decide⟩ [2] [0, 1, 3] rfl rfl ⟨by decide, by decide, by decide⟩ 2 rfl rfl rfl (Nat.le_of_ble_eq_true rfl) dX3_settle_32 (fun u_7 hw_8 => ?_)
  refine j_eq (ws2 := [(t46, .inl (cyI, 12, .inl (fun _ => 0))), (t47, .inl (cyI, 12, .inl (va_cpy (fun _ => 0) (fun _ => 0) 0 0 12))), (t49, .inl (cyI, 12, .inl (fun _ => 0))), (t45, .inr (3, [.int 0, .ref t46, .ref t47, .int 1, .int 0, .int 0, .ref t48, .ref t49]))]) (pc2 := 35) (lv2 := [(0, .ref t45)]) (st2 := [.int 1]) rfl rfl rfl rfl ?_
  refine j_pop (pc := 35) C dX3_settle_35 rfl ?_
  exact j_vret (pc := 36) C hr hk (fun i => [].getD i 0, fun _ => 0, fun _ _ => 0) rfl trivial [3, 0, 1, 2] (by decide) rfl (by decide) (by decide) dX3_settle_36
set_option maxHeartbeats 4000000 in
set_option maxRecDepth 100000 in
theorem c_X10_rows (l : Launch) (D : va_G) (cyC cyI cyJ cyZ cyO : ClassId) (p0 : Int32) (t0 : Nat) (t1 : Nat) (t21 : Nat) (t32 : Nat) (t37 : Nat) (t42 : Nat) (t43 : Nat) (t45 : Nat) (t50 : Nat) (t54 : Nat) (t58 : Nat) (t46 : Nat) (t47 : Nat) (t48 : Nat) (t49 : Nat) : KK l D (TY cyC cyI cyJ cyZ cyO) yX10_rows cX10_rows 2 (some .int) ({ frames := 3, cells := 0, slots := 0, locals := 60 } : Room) 0 0 [.ref t0, .int p0] [(t0, .inr (10, [.ref t1, .ref t21, .ref t32, .ref t37, .ref t42, .ref t43, .ref t45, .ref t50, .ref t54, .ref t58])), (t45, .inr (3, [.int 0, .ref t46, .ref t47, .int 0, .int 0, .int 0, .ref t48, .ref t49])), (t46, .inl (cyI, 12, .inl (fun _ => 0))), (t47, .inl (cyI, 12, .inl (fun _ => 0))), (t49, .inl (cyI, 12, .inl (fun _ => 0)))] (fun u => some (.int (u.2.1 0))) (fun u => u.2.1 0 = (if 0 ≤ p0 ∧ p0 ≤ 1 then 0 else -1)) (fun u => []) := by
  refine KK.of (lv0 := [(0, .ref t0), (1, .int p0)]) (by decide) rfl (Nat.le_of_ble_eq_true rfl) ?_
  intro p e s m args below meth c A C hr hk hin
  refine j_aload_n (pc := 0) C dX10_rows_0 rfl 0 rfl ?_
  refine j_get (pc := 1) (ci := 10) (v := .ref t45) C inw_10 0 rfl rfl 6 (by decide) wd_98 rfl rfl dX10_rows_1 ?_
  refine j_callV (pc := 4) (As := []) (rest := []) (wr := [(t0, .inr (10, [.ref t1, .ref t21, .ref t32, .ref t37, .ref t42, .ref t43, .ref t45, .ref t50, .ref t54, .ref t58])), (t46, .inl (cyI, 12, .inl (fun _ => 0))), (t47, .inl (cyI, 12, .inl (fun _ => 0))), (t49, .inl (cyI, 12, .inl (fun _ => 0)))]) C (c_X3_isRound l D cyC cyI cyJ cyZ cyO t45 t46 t47 t48 t49) wd_273 wd_95 wd_274 wd_275 wd_276 ⟨by decide, by decide, rfl⟩ rfl ⟨rfl, rfl, by decide, by decide⟩ ⟨by decide, by decide⟩ [1] [0, 2, 3, 4] rfl rfl ⟨by decide, by decide, by decide⟩ 1 rfl rfl rfl (Nat.le_of_ble_eq_true rfl) dX10_rows_4 (fun u_1 hw_2 => ?_)
  refine j_eq (ws2 := [(t0, .inr (10, [.ref t1, .ref t21, .ref t32, .ref t37, .ref t42, .ref t43, .ref t45, .ref t50, .ref t54, .ref t58])), (t46, .inl (cyI, 12, .inl (fun _ => 0))), (t47, .inl (cyI, 12, .inl (fun _ => 0))), (t49, .inl (cyI, 12, .inl (fun _ => 0))), (t45, .inr (3, [.int 0, .ref t46, .ref t47, .int 0, .int 0, .int 0, .ref t48, .ref t49]))]) (pc2 := 7) (lv2 := [(0, .ref t0), (1, .int p0)]) (st2 := [.int 0]) rfl rfl rfl rfl ?_
  refine j_if_eq_t (pc := 7) (tgt := 12) C dX10_rows_7 (by decide) (by decide) ?_
  refine j_aload_n (pc := 12) C dX10_rows_12 rfl 0 rfl ?_
  refine j_get (pc := 13) (ci := 10) (v := .ref t45) C inw_10 0 rfl rfl 6 (by decide) wd_98 rfl rfl dX10_rows_13 ?_
  refine j_callV (pc := 16) (As := []) (rest := []) (wr := [(t0, .inr (10, [.ref t1, .ref t21, .ref t32, .ref t37, .ref t42, .ref t43, .ref t45, .ref t50, .ref t54, .ref t58]))]) C (c_X3_settle l D cyC cyI cyJ cyZ cyO t45 t46 t47 t48 t49) wd_277 wd_95 wd_278 wd_279 wd_280 ⟨by decide, by decide, rfl⟩ rfl ⟨rfl, rfl, by decide, by decide⟩ ⟨by decide, by decide⟩ [4, 1, 2, 3] [0] rfl rfl ⟨by decide, by decide, by decide⟩ 4 rfl rfl rfl (Nat.le_of_ble_eq_true rfl) dX10_rows_16 (fun u_3 hw_4 => ?_)
  refine j_eq (ws2 := [(t0, .inr (10, [.ref t1, .ref t21, .ref t32, .ref t37, .ref t42, .ref t43, .ref t45, .ref t50, .ref t54, .ref t58])), (t45, .inr (3, [.int 0, .ref t46, .ref t47, .int 1, .int 0, .int 0, .ref t48, .ref t49])), (t46, .inl (cyI, 12, .inl (fun _ => 0))), (t47, .inl (cyI, 12, .inl (va_cpy (fun _ => 0) (fun _ => 0) 0 0 12))), (t49, .inl (cyI, 12, .inl (fun _ => 0)))]) (pc2 := 19) (lv2 := [(0, .ref t0), (1, .int p0)]) (st2 := []) rfl rfl rfl rfl ?_
  refine j_iload_n (pc := 19) C dX10_rows_19 rfl 1 rfl ?_
  rcases sw_2 p0 with sw_5 | sw_5 | sw_5
  · skip
    refine j_lk (pc := 20) (off := 44) (tgt := 64) C dX10_rows_20 (by decide) (by show Op.lookupswitch.offset [(0, 28), (1, 36)] 44 _ = 44; rw [Op.lookupswitch.offset_cons, if_neg (by omega), Op.lookupswitch.offset_cons, if_neg (by omega), Op.lookupswitch.offset_nil]) (by decide) ?_
    refine j_iconst (pc := 64) (v := (-1)) C dX10_rows_64 (by decide) ?_
    exact j_iret (pc := 65) C hr hk (fun _ => 0, fun _ => (-1), fun _ _ => 0) rfl (by show ((-1) : Int32) = (if 0 ≤ p0 ∧ p0 ≤ 1 then 0 else -1); have e0 : (0 : Int32).toInt = 0 := rfl; have e1 : (1 : Int32).toInt = 1 := rfl; exact if hE : 0 ≤ p0 ∧ p0 ≤ 1 then (by first | exact (if_pos hE).symm | (exfalso; simp only [i_lt, i_le, i_eq] at hE sw_5; omega)) else (by first | exact (if_neg hE).symm | (exfalso; simp only [i_lt, i_le, i_eq] at hE sw_5; omega))) [] (by decide) rfl (by decide) (by decide) dX10_rows_65
  · skip
    refine j_lk (pc := 20) (off := 28) (tgt := 48) C dX10_rows_20 (by decide) (by rw [sw_5]; decide) (by decide) ?_
    refine j_aload_n (pc := 48) C dX10_rows_48 rfl 0 rfl ?_
    refine j_get (pc := 49) (ci := 10) (v := .ref t45) C inw_10 0 rfl rfl 6 (by decide) wd_98 rfl rfl dX10_rows_49 ?_
    refine j_get (pc := 52) (ci := 3) (v := .int 0) C inw_3 1 rfl rfl 4 (by decide) wd_281 rfl rfl dX10_rows_52 ?_
    exact j_iret (pc := 55) C hr hk (fun _ => 0, fun _ => 0, fun _ _ => 0) rfl (by show (0 : Int32) = (if 0 ≤ p0 ∧ p0 ≤ 1 then 0 else -1); have e0 : (0 : Int32).toInt = 0 := rfl; have e1 : (1 : Int32).toInt = 1 := rfl; exact if hE : 0 ≤ p0 ∧ p0 ≤ 1 then (by first | exact (if_pos hE).symm | (exfalso; simp only [i_lt, i_le, i_eq] at hE sw_5; omega)) else (by first | exact (if_neg hE).symm | (exfalso; simp only [i_lt, i_le, i_eq] at hE sw_5; omega))) [] (by decide) rfl (by decide) (by decide) dX10_rows_55
  · skip
    refine j_lk (pc := 20) (off := 36) (tgt := 56) C dX10_rows_20 (by decide) (by rw [sw_5]; decide) (by decide) ?_
    refine j_aload_n (pc := 56) C dX10_rows_56 rfl 0 rfl ?_
    refine j_get (pc := 57) (ci := 10) (v := .ref t45) C inw_10 0 rfl rfl 6 (by decide) wd_98 rfl rfl dX10_rows_57 ?_
    refine j_get (pc := 60) (ci := 3) (v := .int 0) C inw_3 1 rfl rfl 5 (by decide) wd_282 rfl rfl dX10_rows_60 ?_
    exact j_iret (pc := 63) C hr hk (fun _ => 0, fun _ => 0, fun _ _ => 0) rfl (by show (0 : Int32) = (if 0 ≤ p0 ∧ p0 ≤ 1 then 0 else -1); have e0 : (0 : Int32).toInt = 0 := rfl; have e1 : (1 : Int32).toInt = 1 := rfl; exact if hE : 0 ≤ p0 ∧ p0 ≤ 1 then (by first | exact (if_pos hE).symm | (exfalso; simp only [i_lt, i_le, i_eq] at hE sw_5; omega)) else (by first | exact (if_neg hE).symm | (exfalso; simp only [i_lt, i_le, i_eq] at hE sw_5; omega))) [] (by decide) rfl (by decide) (by decide) dX10_rows_63
set_option maxHeartbeats 4000000 in
set_option maxRecDepth 100000 in
theorem c_X10_isHeight (l : Launch) (D : va_G) (cyC cyI cyJ cyZ cyO : ClassId) (p0 : Int32) : KK l D (TY cyC cyI cyJ cyZ cyO) yX10_isHeight cX10_isHeight 1 (some .boolean) ({ frames := 0, cells := 0, slots := 0, locals := 0 } : Room) 0 0 [.int p0] [] (fun u => some (.int (u.2.1 0))) (fun u => u.2.1 0 = (if 1 ≤ p0 ∧ p0 ≤ 999 then 1 else 0)) (fun u => []) := by
  refine KK.of (lv0 := [(0, .int p0)]) (by decide) rfl (Nat.le_of_ble_eq_true rfl) ?_
  intro p e s m args below meth c A C hr hk hin
  refine j_iload_n (pc := 0) C dX10_isHeight_0 rfl 0 rfl ?_
  refine j_iconst (pc := 1) (v := 1) C dX10_isHeight_1 (by decide) ?_
  refine j_icmp_lt (pc := 2) (tgt := 16) C dX10_isHeight_2 (by decide) (fun c_1 => ?_) (fun c_1 => ?_)
  · skip
    refine j_iconst (pc := 16) (v := 0) C dX10_isHeight_16 (by decide) ?_
    exact j_zret (pc := 17) C hr rfl hk (fun _ => 0, fun _ => 0, fun _ _ => 0) rfl (by show (0 : Int32) = (if 1 ≤ p0 ∧ p0 ≤ 999 then 1 else 0); have e1 : (1 : Int32).toInt = 1 := rfl; have e999 : (999 : Int32).toInt = 999 := rfl; exact if hE : 1 ≤ p0 ∧ p0 ≤ 999 then (by first | exact (if_pos hE).symm | (exfalso; simp only [i_lt, i_le, i_eq] at hE c_1; omega)) else (by first | exact (if_neg hE).symm | (exfalso; simp only [i_lt, i_le, i_eq] at hE c_1; omega))) [] (by decide) rfl (by decide) (by decide) dX10_isHeight_17
  · skip
    refine j_iload_n (pc := 5) C dX10_isHeight_5 rfl 0 rfl ?_
    refine j_sipush (pc := 6) (v := 999) C dX10_isHeight_6 (by decide) ?_
    refine j_icmp_gt (pc := 9) (tgt := 16) C dX10_isHeight_9 (by decide) (fun c_2 => ?_) (fun c_2 => ?_)
    · skip
      refine j_iconst (pc := 16) (v := 0) C dX10_isHeight_16 (by decide) ?_
      exact j_zret (pc := 17) C hr rfl hk (fun _ => 0, fun _ => 0, fun _ _ => 0) rfl (by show (0 : Int32) = (if 1 ≤ p0 ∧ p0 ≤ 999 then 1 else 0); have e1 : (1 : Int32).toInt = 1 := rfl; have e999 : (999 : Int32).toInt = 999 := rfl; exact if hE : 1 ≤ p0 ∧ p0 ≤ 999 then (by first | exact (if_pos hE).symm | (exfalso; simp only [i_lt, i_le, i_eq] at hE c_1 c_2; omega)) else (by first | exact (if_neg hE).symm | (exfalso; simp only [i_lt, i_le, i_eq] at hE c_1 c_2; omega))) [] (by decide) rfl (by decide) (by decide) dX10_isHeight_17
    · skip
      refine j_iconst (pc := 12) (v := 1) C dX10_isHeight_12 (by decide) ?_
      refine j_goto (pc := 13) (tgt := 17) C dX10_isHeight_13 (by decide) ?_
      exact j_zret (pc := 17) C hr rfl hk (fun _ => 0, fun _ => 1, fun _ _ => 0) rfl (by show (1 : Int32) = (if 1 ≤ p0 ∧ p0 ≤ 999 then 1 else 0); have e1 : (1 : Int32).toInt = 1 := rfl; have e999 : (999 : Int32).toInt = 999 := rfl; exact if hE : 1 ≤ p0 ∧ p0 ≤ 999 then (by first | exact (if_pos hE).symm | (exfalso; simp only [i_lt, i_le, i_eq] at hE c_1 c_2; omega)) else (by first | exact (if_neg hE).symm | (exfalso; simp only [i_lt, i_le, i_eq] at hE c_1 c_2; omega))) [] (by decide) rfl (by decide) (by decide) dX10_isHeight_17
set_option maxHeartbeats 4000000 in
set_option maxRecDepth 100000 in
theorem c_X10_sorted (l : Launch) (D : va_G) (cyC cyI cyJ cyZ cyO : ClassId) (p0 : Int32) (p1 : Int32) (p2 : Int32) (t0 : Nat) (t1 : Nat) (t21 : Nat) (t32 : Nat) (t37 : Nat) (t42 : Nat) (t43 : Nat) (t45 : Nat) (t50 : Nat) (t54 : Nat) (t58 : Nat) (t22 : Nat) (t23 : Nat) (t24 : Nat) (t25 : Nat) (t26 : Nat) (t27 : Nat) (t28 : Nat) (t29 : Nat) (t30 : Nat) (t31 : Nat) : KK l D (TY cyC cyI cyJ cyZ cyO) yX10_sorted cX10_sorted 4 (some .int) ({ frames := 1, cells := 0, slots := 0, locals := 20 } : Room) 0 0 [.ref t0, .int p0, .int p1, .int p2] [(t0, .inr (10, [.ref t1, .ref t21, .ref t32, .ref t37, .ref t42, .ref t43, .ref t45, .ref t50, .ref t54, .ref t58])), (t21, .inr (9, [.int 0, .int 0, .int 0, .ref t22, .ref t23, .ref t24, .ref t25, .ref t26, .ref t27, .int 0, .int 0, .ref t28, .ref t29, .ref t30, .ref t31]))] (fun u => some (.int (-1))) (fun u => True) (fun u => []) := by
  refine KK.of (lv0 := [(0, .ref t0), (1, .int p0), (2, .int p1), (3, .int p2)]) (by decide) rfl (Nat.le_of_ble_eq_true rfl) ?_
  intro p e s m args below meth c A C hr hk hin
  refine j_iload_n (pc := 0) C dX10_sorted_0 rfl 2 rfl ?_
  refine j_callS (pc := 1) (As := [.int p1]) (rest := []) (wr := [(t0, .inr (10, [.ref t1, .ref t21, .ref t32, .ref t37, .ref t42, .ref t43, .ref t45, .ref t50, .ref t54, .ref t58])), (t21, .inr (9, [.int 0, .int 0, .int 0, .ref t22, .ref t23, .ref t24, .ref t25, .ref t26, .ref t27, .int 0, .int 0, .ref t28, .ref t29, .ref t30, .ref t31]))]) C (c_X10_isHeight l D cyC cyI cyJ cyZ cyO p1) wd_283 wd_180 wd_284 wd_285 ⟨by decide, by decide, rfl⟩ rfl ⟨rfl, rfl, by decide, by decide⟩ ⟨by decide, by decide⟩ [] [0, 1] rfl rfl ⟨by decide, by decide, by decide⟩ rfl (Nat.le_of_ble_eq_true rfl) dX10_sorted_1 (fun u_1 hw_2 => ?_)
  refine j_eq (ws2 := [(t0, .inr (10, [.ref t1, .ref t21, .ref t32, .ref t37, .ref t42, .ref t43, .ref t45, .ref t50, .ref t54, .ref t58])), (t21, .inr (9, [.int 0, .int 0, .int 0, .ref t22, .ref t23, .ref t24, .ref t25, .ref t26, .ref t27, .int 0, .int 0, .ref t28, .ref t29, .ref t30, .ref t31]))]) (pc2 := 4) (lv2 := [(0, .ref t0), (1, .int p0), (2, .int p1), (3, .int p2)]) (st2 := [.int (u_1.2.1 0)]) rfl rfl rfl rfl ?_
  rcases ite_two hw_2 with ⟨hc_3, hr_4⟩ | ⟨hc_3, hr_4⟩
  · skip
    refine j_eq (ws2 := [(t0, .inr (10, [.ref t1, .ref t21, .ref t32, .ref t37, .ref t42, .ref t43, .ref t45, .ref t50, .ref t54, .ref t58])), (t21, .inr (9, [.int 0, .int 0, .int 0, .ref t22, .ref t23, .ref t24, .ref t25, .ref t26, .ref t27, .int 0, .int 0, .ref t28, .ref t29, .ref t30, .ref t31]))]) (pc2 := 4) (lv2 := [(0, .ref t0), (1, .int p0), (2, .int p1), (3, .int p2)]) (st2 := [.int 1]) rfl rfl rfl (by rw [hr_4]) ?_
    refine j_if_eq_f (pc := 4) (tgt := 37) C dX10_sorted_4 (by decide) (by decide) ?_
    refine j_iload_n (pc := 7) C dX10_sorted_7 rfl 1 rfl ?_
    refine j_iconst (pc := 8) (v := 1) C dX10_sorted_8 (by decide) ?_
    refine j_icmp_lt (pc := 9) (tgt := 37) C dX10_sorted_9 (by decide) (fun c_5 => ?_) (fun c_5 => ?_)
    · skip
      refine j_iconst (pc := 37) (v := (-1)) C dX10_sorted_37 (by decide) ?_
      exact j_iret (pc := 38) C hr hk (fun i => [].getD i 0, fun _ => 0, fun _ _ => 0) rfl trivial [] (by decide) rfl (by decide) (by decide) dX10_sorted_38
    · skip
      refine j_iload_n (pc := 12) C dX10_sorted_12 rfl 1 rfl ?_
      refine j_iconst (pc := 13) (v := 1) C dX10_sorted_13 (by decide) ?_
      refine j_aload_n (pc := 14) C dX10_sorted_14 rfl 0 rfl ?_
      refine j_get (pc := 15) (ci := 10) (v := .ref t21) C inw_10 0 rfl rfl 1 (by decide) wd_77 rfl rfl dX10_sorted_15 ?_
      refine j_get (pc := 18) (ci := 9) (v := .int 0) C inw_9 1 rfl rfl 0 (by decide) wd_286 rfl rfl dX10_sorted_18 ?_
      refine j_ishl (pc := 21) (v := 1) C dX10_sorted_21 (by decide) ?_
      refine j_icmp_ge_t (pc := 22) (tgt := 37) C dX10_sorted_22 (by decide) (br_ltf_ge c_5) ?_
      refine j_iconst (pc := 37) (v := (-1)) C dX10_sorted_37 (by decide) ?_
      exact j_iret (pc := 38) C hr hk (fun i => [].getD i 0, fun _ => 0, fun _ _ => 0) rfl trivial [] (by decide) rfl (by decide) (by decide) dX10_sorted_38
  · skip
    refine j_eq (ws2 := [(t0, .inr (10, [.ref t1, .ref t21, .ref t32, .ref t37, .ref t42, .ref t43, .ref t45, .ref t50, .ref t54, .ref t58])), (t21, .inr (9, [.int 0, .int 0, .int 0, .ref t22, .ref t23, .ref t24, .ref t25, .ref t26, .ref t27, .int 0, .int 0, .ref t28, .ref t29, .ref t30, .ref t31]))]) (pc2 := 4) (lv2 := [(0, .ref t0), (1, .int p0), (2, .int p1), (3, .int p2)]) (st2 := [.int 0]) rfl rfl rfl (by rw [hr_4]) ?_
    refine j_if_eq_t (pc := 4) (tgt := 37) C dX10_sorted_4 (by decide) (by decide) ?_
    refine j_iconst (pc := 37) (v := (-1)) C dX10_sorted_37 (by decide) ?_
    exact j_iret (pc := 38) C hr hk (fun i => [].getD i 0, fun _ => 0, fun _ _ => 0) rfl trivial [] (by decide) rfl (by decide) (by decide) dX10_sorted_38
set_option maxHeartbeats 4000000 in
set_option maxRecDepth 100000 in
theorem c_X0_settle (l : Launch) (D : va_G) (cyC cyI cyJ cyZ cyO : ClassId) (t50 : Nat) (t21 : Nat) (t22 : Nat) (t23 : Nat) (t24 : Nat) (t25 : Nat) (t26 : Nat) (t27 : Nat) (t28 : Nat) (t29 : Nat) (t30 : Nat) (t31 : Nat) (t51 : Nat) (t52 : Nat) (t53 : Nat) : KK l D (TY cyC cyI cyJ cyZ cyO) yX0_settle cX0_settle 4 none ({ frames := 0, cells := 3, slots := 2, locals := 0 } : Room) 3 2 [.ref t50, .ref t21] [(t21, .inr (9, [.int 0, .int 0, .int 0, .ref t22, .ref t23, .ref t24, .ref t25, .ref t26, .ref t27, .int 0, .int 0, .ref t28, .ref t29, .ref t30, .ref t31])), (t50, .inr (0, [.int 0, .int 0, .ref t51, .ref t52, .ref t53])), (t52, .inl (cyI, 0, .inl (fun _ => 0)))] (fun u => none) (fun u => True) (fun u => [(t21, .inr (9, [.int 0, .int 0, .int 0, .ref t22, .ref t23, .ref t24, .ref t25, .ref t26, .ref t27, .int 0, .int 0, .ref t28, .ref t29, .ref t30, .ref t31])), (t50, .inr (0, [.int 1, .int 0, .ref (u.1 2), .ref (u.1 0), .ref (u.1 1)])), (t52, .inl (cyI, 0, .inl (fun _ => 0))), ((u.1 0), .inl (cyI, 1, .inl (fun _ => 0))), ((u.1 1), .inl (cyI, 1, .inl (fun _ => 0))), ((u.1 2), .inl (cyI, 0, .inl (fun _ => 0)))]) := by
  refine KK.of (lv0 := [(0, .ref t50), (1, .ref t21)]) (by decide) rfl (Nat.le_of_ble_eq_true rfl) ?_
  intro p e s m args below meth c A C hr hk hin
  refine j_aload_n (pc := 0) C dX0_settle_0 rfl 0 rfl ?_
  refine j_get (pc := 1) (ci := 0) (v := .int 0) C inw_0 1 rfl rfl 0 (by decide) wd_287 rfl rfl dX0_settle_1 ?_
  refine j_if_eq_t (pc := 4) (tgt := 8) C dX0_settle_4 (by decide) (by decide) ?_
  refine j_aload_n (pc := 8) C dX0_settle_8 rfl 0 rfl ?_
  refine j_iconst (pc := 9) (v := 1) C dX0_settle_9 (by decide) ?_
  refine j_put (pc := 10) (ci := 0) (v := .int 1) (ws' := [(t21, .inr (9, [.int 0, .int 0, .int 0, .ref t22, .ref t23, .ref t24, .ref t25, .ref t26, .ref t27, .int 0, .int 0, .ref t28, .ref t29, .ref t30, .ref t31])), (t50, .inr (0, [.int 1, .int 0, .ref t51, .ref t52, .ref t53])), (t52, .inl (cyI, 0, .inl (fun _ => 0)))]) C inw_0 1 rfl rfl 0 (by decide) wd_287 rfl tyX0_ok nmX0 rfl (tyX0_ok 0 (by decide)) rfl rfl (Nat.le_of_ble_eq_true rfl) dX0_settle_10 rfl ?_
  refine j_aload_n (pc := 13) C dX0_settle_13 rfl 0 rfl ?_
  refine j_aload_n (pc := 14) C dX0_settle_14 rfl 1 rfl ?_
  refine j_get (pc := 15) (ci := 9) (v := .int 0) C inw_9 0 rfl rfl 0 (by decide) wd_288 rfl rfl dX0_settle_15 ?_
  refine j_put (pc := 18) (ci := 0) (v := .int 0) (ws' := [(t21, .inr (9, [.int 0, .int 0, .int 0, .ref t22, .ref t23, .ref t24, .ref t25, .ref t26, .ref t27, .int 0, .int 0, .ref t28, .ref t29, .ref t30, .ref t31])), (t50, .inr (0, [.int 1, .int 0, .ref t51, .ref t52, .ref t53])), (t52, .inl (cyI, 0, .inl (fun _ => 0)))]) C inw_0 1 rfl rfl 1 (by decide) wd_289 rfl tyX0_ok nmX0 rfl (tyX0_ok 1 (by decide)) rfl rfl (Nat.le_of_ble_eq_true rfl) dX0_settle_18 rfl ?_
  refine j_iconst (pc := 21) (v := 1) C dX0_settle_21 (by decide) ?_
  refine j_aload_n (pc := 22) C dX0_settle_22 rfl 0 rfl ?_
  refine j_get (pc := 23) (ci := 0) (v := .int 0) C inw_0 1 rfl rfl 1 (by decide) wd_289 rfl rfl dX0_settle_23 ?_
  refine j_ishl (pc := 26) (v := 1) C dX0_settle_26 (by decide) ?_
  refine j_istore_n (pc := 27) (lv' := [(2, .int 1), (0, .ref t50), (1, .ref t21)]) C dX0_settle_27 rfl (by decide) rfl ?_
  refine j_aload_n (pc := 28) C dX0_settle_28 rfl 1 rfl ?_
  refine j_get (pc := 29) (ci := 0) (v := .ref t52) C inw_0 1 rfl rfl 3 (by decide) wd_61 rfl rfl dX0_settle_29 ?_
  refine j_alen (pc := 32) (v := 0) C 2 1 rfl rfl rfl dX0_settle_32 ?_
  refine j_iload_n (pc := 33) C dX0_settle_33 rfl 0 rfl ?_
  refine j_icmp_ge_f (pc := 34) (tgt := 63) C dX0_settle_34 (by decide) (by decide) ?_
  refine j_aload_n (pc := 37) C dX0_settle_37 rfl 1 rfl ?_
  refine j_iload_n (pc := 38) C dX0_settle_38 rfl 0 rfl ?_
  refine j_newa (pc := 39) (at1 := .int) (ty := .int) (N := 1) (a0 := (1, .inl (fun _ => 0))) C wd_6 rfl 1 rfl (fun _ _ h => h) (fun _ => rfl) (by decide) (by decide) (by decide) (by decide) (by decide) dX0_settle_39 (fun q_1 => ?_)
  refine j_widen (k := 1) (n := 1) (by decide) (by decide) ?_
  refine j_put (pc := 41) (ci := 0) (v := .ref q_1) (ws' := [(t21, .inr (9, [.int 0, .int 0, .int 0, .ref t22, .ref t23, .ref t24, .ref t25, .ref t26, .ref t27, .int 0, .int 0, .ref t28, .ref t29, .ref t30, .ref t31])), (t50, .inr (0, [.int 1, .int 0, .ref t51, .ref q_1, .ref t53])), (t52, .inl (cyI, 0, .inl (fun _ => 0))), (q_1, .inl (cyI, 1, .inl (fun _ => 0)))]) C inw_0 1 rfl rfl 3 (by decide) wd_61 rfl tyX0_ok nmX0 rfl (tyX0_ok 3 (by decide)) rfl rfl (Nat.le_of_ble_eq_true rfl) dX0_settle_41 rfl ?_
  refine j_aload_n (pc := 44) C dX0_settle_44 rfl 1 rfl ?_
  refine j_iload_n (pc := 45) C dX0_settle_45 rfl 0 rfl ?_
  refine j_newa (pc := 46) (at1 := .int) (ty := .int) (N := 1) (a0 := (1, .inl (fun _ => 0))) C wd_6 rfl 1 rfl (fun _ _ h => h) (fun _ => rfl) (by decide) (by decide) (by decide) (by decide) (by decide) dX0_settle_46 (fun q_2 => ?_)
  refine j_widen (k := 2) (n := 2) (by decide) (by decide) ?_
  refine j_put (pc := 48) (ci := 0) (v := .ref q_2) (ws' := [(t21, .inr (9, [.int 0, .int 0, .int 0, .ref t22, .ref t23, .ref t24, .ref t25, .ref t26, .ref t27, .int 0, .int 0, .ref t28, .ref t29, .ref t30, .ref t31])), (t50, .inr (0, [.int 1, .int 0, .ref t51, .ref q_1, .ref q_2])), (t52, .inl (cyI, 0, .inl (fun _ => 0))), (q_1, .inl (cyI, 1, .inl (fun _ => 0))), (q_2, .inl (cyI, 1, .inl (fun _ => 0)))]) C inw_0 1 rfl rfl 4 (by decide) wd_62 rfl tyX0_ok nmX0 rfl (tyX0_ok 4 (by decide)) rfl rfl (Nat.le_of_ble_eq_true rfl) dX0_settle_48 rfl ?_
  refine j_aload_n (pc := 51) C dX0_settle_51 rfl 1 rfl ?_
  refine j_iload_n (pc := 52) C dX0_settle_52 rfl 0 rfl ?_
  refine j_aload_n (pc := 53) C dX0_settle_53 rfl 1 rfl ?_
  refine j_get (pc := 54) (ci := 0) (v := .int 0) C inw_0 1 rfl rfl 1 (by decide) wd_289 rfl rfl dX0_settle_54 ?_
  refine j_imul (pc := 57) (v := 0) C dX0_settle_57 (by decide) ?_
  refine j_newa (pc := 58) (at1 := .int) (ty := .int) (N := 0) (a0 := (0, .inl (fun _ => 0))) C wd_6 rfl 1 rfl (fun _ _ h => h) (fun _ => rfl) (by decide) (by decide) (by decide) (by decide) (by decide) dX0_settle_58 (fun q_3 => ?_)
  refine j_widen (k := 3) (n := 2) (by decide) (by decide) ?_
  refine j_put (pc := 60) (ci := 0) (v := .ref q_3) (ws' := [(t21, .inr (9, [.int 0, .int 0, .int 0, .ref t22, .ref t23, .ref t24, .ref t25, .ref t26, .ref t27, .int 0, .int 0, .ref t28, .ref t29, .ref t30, .ref t31])), (t50, .inr (0, [.int 1, .int 0, .ref q_3, .ref q_1, .ref q_2])), (t52, .inl (cyI, 0, .inl (fun _ => 0))), (q_1, .inl (cyI, 1, .inl (fun _ => 0))), (q_2, .inl (cyI, 1, .inl (fun _ => 0))), (q_3, .inl (cyI, 0, .inl (fun _ => 0)))]) C inw_0 1 rfl rfl 2 (by decide) wd_60 rfl tyX0_ok nmX0 rfl (tyX0_ok 2 (by decide)) rfl rfl (Nat.le_of_ble_eq_true rfl) dX0_settle_60 rfl ?_
  refine j_iconst (pc := 63) (v := 1) C dX0_settle_63 (by decide) ?_
  refine j_istore_n (pc := 64) (lv' := [(3, .int 1), (2, .int 1), (0, .ref t50), (1, .ref t21)]) C dX0_settle_64 rfl (by decide) rfl ?_
  refine j_iload_n (pc := 65) C dX0_settle_65 rfl 0 rfl ?_
  refine j_iload_n (pc := 66) C dX0_settle_66 rfl 1 rfl ?_
  refine j_icmp_ge_t (pc := 67) (tgt := 82) C dX0_settle_67 (by decide) (by decide) ?_
  exact j_vret (pc := 82) C hr hk (fun i => [q_1, q_2, q_3].getD i 0, fun _ => 0, fun _ _ => 0) rfl trivial [0, 1, 2, 3, 4, 5] (by decide) rfl (by decide) (by decide) dX0_settle_82
set_option maxHeartbeats 4000000 in
set_option maxRecDepth 100000 in
theorem c_X0_fewestStacks (l : Launch) (D : va_G) (cyC cyI cyJ cyZ cyO : ClassId) (p0 : Int32) (x0 : Nat) (x1 : Nat) (x2 : Nat) (x3 : Nat) : KK l D (TY cyC cyI cyJ cyZ cyO) yX0_fewestStacks cX0_fewestStacks 4 (some .int) ({ frames := 0, cells := 0, slots := 0, locals := 0 } : Room) 0 0 [.ref x0, .int p0] [(x0, .inr (0, [.int 1, .int 0, .ref x1, .ref x2, .ref x3])), (x3, .inl (cyI, 1, .inl (fun _ => 0)))] (fun u => some (.int 0)) (fun u => True) (fun u => [(x0, .inr (0, [.int 1, .int 0, .ref x1, .ref x2, .ref x3])), (x3, .inl (cyI, 1, .inl (upd (fun _ => 0) 0 0)))]) := by
  refine KK.of (lv0 := [(0, .ref x0), (1, .int p0)]) (by decide) rfl (Nat.le_of_ble_eq_true rfl) ?_
  intro p e s m args below meth c A C hr hk hin
  refine j_iconst (pc := 0) (v := 1) C dX0_fewestStacks_0 (by decide) ?_
  refine j_aload_n (pc := 1) C dX0_fewestStacks_1 rfl 0 rfl ?_
  refine j_get (pc := 2) (ci := 0) (v := .int 0) C inw_0 0 rfl rfl 1 (by decide) wd_289 rfl rfl dX0_fewestStacks_2 ?_
  refine j_ishl (pc := 5) (v := 1) C dX0_fewestStacks_5 (by decide) ?_
  refine j_iconst (pc := 6) (v := 1) C dX0_fewestStacks_6 (by decide) ?_
  refine j_isub (pc := 7) (v := 0) C dX0_fewestStacks_7 (by decide) ?_
  refine j_istore_n (pc := 8) (lv' := [(2, .int 0), (0, .ref x0), (1, .int p0)]) C dX0_fewestStacks_8 rfl (by decide) rfl ?_
  refine j_aload_n (pc := 9) C dX0_fewestStacks_9 rfl 1 rfl ?_
  refine j_get (pc := 10) (ci := 0) (v := .ref x3) C inw_0 0 rfl rfl 4 (by decide) wd_62 rfl rfl dX0_fewestStacks_10 ?_
  refine j_iconst (pc := 13) (v := 0) C dX0_fewestStacks_13 (by decide) ?_
  refine j_iconst (pc := 14) (v := 0) C dX0_fewestStacks_14 (by decide) ?_
  refine j_iast (pc := 15) (k := 0) (ws' := [(x0, .inr (0, [.int 1, .int 0, .ref x1, .ref x2, .ref x3])), (x3, .inl (cyI, 1, .inl (upd (fun _ => 0) 0 0)))]) C 1 1 rfl rfl (by decide) (by decide) (by decide) dX0_fewestStacks_15 rfl ?_
  refine j_iconst (pc := 16) (v := 1) C dX0_fewestStacks_16 (by decide) ?_
  refine j_istore_n (pc := 17) (lv' := [(3, .int 1), (2, .int 0), (0, .ref x0), (1, .int p0)]) C dX0_fewestStacks_17 rfl (by decide) rfl ?_
  refine j_iload_n (pc := 18) C dX0_fewestStacks_18 rfl 0 rfl ?_
  refine j_iload_n (pc := 19) C dX0_fewestStacks_19 rfl 1 rfl ?_
  refine j_icmp_gt_t (pc := 20) (tgt := 52) C dX0_fewestStacks_20 (by decide) (by decide) ?_
  refine j_aload_n (pc := 52) C dX0_fewestStacks_52 rfl 2 rfl ?_
  refine j_get (pc := 53) (ci := 0) (v := .ref x3) C inw_0 0 rfl rfl 4 (by decide) wd_62 rfl rfl dX0_fewestStacks_53 ?_
  refine j_iload_n (pc := 56) C dX0_fewestStacks_56 rfl 1 rfl ?_
  refine j_iald (pc := 57) (v := 0) (k := 0) C 1 1 rfl rfl (by decide) (by decide) (by decide) rfl dX0_fewestStacks_57 ?_
  exact j_iret (pc := 58) C hr hk (fun i => [].getD i 0, fun _ => 0, fun _ _ => 0) rfl trivial [0, 1] (by decide) rfl (by decide) (by decide) dX0_fewestStacks_58
set_option maxHeartbeats 4000000 in
set_option maxRecDepth 100000 in
theorem c_X10_needed (l : Launch) (D : va_G) (cyC cyI cyJ cyZ cyO : ClassId) (p0 : Int32) (t0 : Nat) (t1 : Nat) (t21 : Nat) (t32 : Nat) (t37 : Nat) (t42 : Nat) (t43 : Nat) (t45 : Nat) (t50 : Nat) (t54 : Nat) (t58 : Nat) (t22 : Nat) (t23 : Nat) (t24 : Nat) (t25 : Nat) (t26 : Nat) (t27 : Nat) (t28 : Nat) (t29 : Nat) (t30 : Nat) (t31 : Nat) (t51 : Nat) (t52 : Nat) (t53 : Nat) : KK l D (TY cyC cyI cyJ cyZ cyO) yX10_needed cX10_needed 3 (some .int) ({ frames := 1, cells := 3, slots := 2, locals := 23 } : Room) 3 2 [.ref t0, .int p0] [(t0, .inr (10, [.ref t1, .ref t21, .ref t32, .ref t37, .ref t42, .ref t43, .ref t45, .ref t50, .ref t54, .ref t58])), (t21, .inr (9, [.int 0, .int 0, .int 0, .ref t22, .ref t23, .ref t24, .ref t25, .ref t26, .ref t27, .int 0, .int 0, .ref t28, .ref t29, .ref t30, .ref t31])), (t50, .inr (0, [.int 0, .int 0, .ref t51, .ref t52, .ref t53])), (t52, .inl (cyI, 0, .inl (fun _ => 0)))] (fun u => some (.int (u.2.1 0))) (fun u => u.2.1 0 = (if 1 ≤ p0 ∧ p0 ≤ 999 then 0 else -1)) (fun u => []) := by
  refine KK.of (lv0 := [(0, .ref t0), (1, .int p0)]) (by decide) rfl (Nat.le_of_ble_eq_true rfl) ?_
  intro p e s m args below meth c A C hr hk hin
  refine j_iload_n (pc := 0) C dX10_needed_0 rfl 1 rfl ?_
  refine j_callS (pc := 1) (As := [.int p0]) (rest := []) (wr := [(t0, .inr (10, [.ref t1, .ref t21, .ref t32, .ref t37, .ref t42, .ref t43, .ref t45, .ref t50, .ref t54, .ref t58])), (t21, .inr (9, [.int 0, .int 0, .int 0, .ref t22, .ref t23, .ref t24, .ref t25, .ref t26, .ref t27, .int 0, .int 0, .ref t28, .ref t29, .ref t30, .ref t31])), (t50, .inr (0, [.int 0, .int 0, .ref t51, .ref t52, .ref t53])), (t52, .inl (cyI, 0, .inl (fun _ => 0)))]) C (c_X10_isHeight l D cyC cyI cyJ cyZ cyO p0) wd_283 wd_180 wd_284 wd_285 ⟨by decide, by decide, rfl⟩ rfl ⟨rfl, rfl, by decide, by decide⟩ ⟨by decide, by decide⟩ [] [0, 1, 2, 3] rfl rfl ⟨by decide, by decide, by decide⟩ rfl (Nat.le_of_ble_eq_true rfl) dX10_needed_1 (fun u_1 hw_2 => ?_)
  refine j_eq (ws2 := [(t0, .inr (10, [.ref t1, .ref t21, .ref t32, .ref t37, .ref t42, .ref t43, .ref t45, .ref t50, .ref t54, .ref t58])), (t21, .inr (9, [.int 0, .int 0, .int 0, .ref t22, .ref t23, .ref t24, .ref t25, .ref t26, .ref t27, .int 0, .int 0, .ref t28, .ref t29, .ref t30, .ref t31])), (t50, .inr (0, [.int 0, .int 0, .ref t51, .ref t52, .ref t53])), (t52, .inl (cyI, 0, .inl (fun _ => 0)))]) (pc2 := 4) (lv2 := [(0, .ref t0), (1, .int p0)]) (st2 := [.int (u_1.2.1 0)]) rfl rfl rfl rfl ?_
  rcases ite_two hw_2 with ⟨hc_3, hr_4⟩ | ⟨hc_3, hr_4⟩
  · skip
    refine j_eq (ws2 := [(t0, .inr (10, [.ref t1, .ref t21, .ref t32, .ref t37, .ref t42, .ref t43, .ref t45, .ref t50, .ref t54, .ref t58])), (t21, .inr (9, [.int 0, .int 0, .int 0, .ref t22, .ref t23, .ref t24, .ref t25, .ref t26, .ref t27, .int 0, .int 0, .ref t28, .ref t29, .ref t30, .ref t31])), (t50, .inr (0, [.int 0, .int 0, .ref t51, .ref t52, .ref t53])), (t52, .inl (cyI, 0, .inl (fun _ => 0)))]) (pc2 := 4) (lv2 := [(0, .ref t0), (1, .int p0)]) (st2 := [.int 1]) rfl rfl rfl (by rw [hr_4]) ?_
    refine j_if_ne_t (pc := 4) (tgt := 9) C dX10_needed_4 (by decide) (by decide) ?_
    refine j_iconst (pc := 9) (v := 0) C dX10_needed_9 (by decide) ?_
    refine j_istore_n (pc := 10) (lv' := [(2, .int 0), (0, .ref t0), (1, .int p0)]) C dX10_needed_10 rfl (by decide) rfl ?_
    refine j_iload_n (pc := 11) C dX10_needed_11 rfl 0 rfl ?_
    refine j_aload_n (pc := 12) C dX10_needed_12 rfl 1 rfl ?_
    refine j_get (pc := 13) (ci := 10) (v := .ref t21) C inw_10 0 rfl rfl 1 (by decide) wd_77 rfl rfl dX10_needed_13 ?_
    refine j_get (pc := 16) (ci := 9) (v := .int 0) C inw_9 1 rfl rfl 0 (by decide) wd_286 rfl rfl dX10_needed_16 ?_
    refine j_icmp_ge_t (pc := 19) (tgt := 43) C dX10_needed_19 (by decide) (by decide) ?_
    refine j_aload_n (pc := 43) C dX10_needed_43 rfl 1 rfl ?_
    refine j_get (pc := 44) (ci := 10) (v := .ref t50) C inw_10 0 rfl rfl 7 (by decide) wd_104 rfl rfl dX10_needed_44 ?_
    refine j_aload_n (pc := 47) C dX10_needed_47 rfl 1 rfl ?_
    refine j_get (pc := 48) (ci := 10) (v := .ref t21) C inw_10 0 rfl rfl 1 (by decide) wd_77 rfl rfl dX10_needed_48 ?_
    refine j_callV (pc := 51) (As := [.ref t21]) (rest := []) (wr := [(t0, .inr (10, [.ref t1, .ref t21, .ref t32, .ref t37, .ref t42, .ref t43, .ref t45, .ref t50, .ref t54, .ref t58]))]) C (c_X0_settle l D cyC cyI cyJ cyZ cyO t50 t21 t22 t23 t24 t25 t26 t27 t28 t29 t30 t31 t51 t52 t53) wd_290 wd_101 wd_291 wd_292 wd_293 ⟨by decide, by decide, rfl⟩ rfl ⟨rfl, rfl, by decide, by decide⟩ ⟨by decide, by decide⟩ [1, 2, 3] [0] rfl rfl ⟨by decide, by decide, by decide⟩ 2 rfl rfl rfl (Nat.le_of_ble_eq_true rfl) dX10_needed_51 (fun u_5 hw_6 => ?_)
    refine j_eq (ws2 := [(t0, .inr (10, [.ref t1, .ref t21, .ref t32, .ref t37, .ref t42, .ref t43, .ref t45, .ref t50, .ref t54, .ref t58])), (t21, .inr (9, [.int 0, .int 0, .int 0, .ref t22, .ref t23, .ref t24, .ref t25, .ref t26, .ref t27, .int 0, .int 0, .ref t28, .ref t29, .ref t30, .ref t31])), (t50, .inr (0, [.int 1, .int 0, .ref (u_5.1 2), .ref (u_5.1 0), .ref (u_5.1 1)])), (t52, .inl (cyI, 0, .inl (fun _ => 0))), ((u_5.1 0), .inl (cyI, 1, .inl (fun _ => 0))), ((u_5.1 1), .inl (cyI, 1, .inl (fun _ => 0))), ((u_5.1 2), .inl (cyI, 0, .inl (fun _ => 0)))]) (pc2 := 54) (lv2 := [(2, .int 0), (0, .ref t0), (1, .int p0)]) (st2 := []) rfl rfl rfl rfl ?_
    refine j_widen (k := 3) (n := 2) (by decide) (by decide) ?_
    refine j_aload_n (pc := 54) C dX10_needed_54 rfl 1 rfl ?_
    refine j_get (pc := 55) (ci := 10) (v := .ref t50) C inw_10 0 rfl rfl 7 (by decide) wd_104 rfl rfl dX10_needed_55 ?_
    refine j_iload_n (pc := 58) C dX10_needed_58 rfl 2 rfl ?_
    refine j_callV (pc := 59) (As := [.int p0]) (rest := []) (wr := [(t0, .inr (10, [.ref t1, .ref t21, .ref t32, .ref t37, .ref t42, .ref t43, .ref t45, .ref t50, .ref t54, .ref t58])), (t21, .inr (9, [.int 0, .int 0, .int 0, .ref t22, .ref t23, .ref t24, .ref t25, .ref t26, .ref t27, .int 0, .int 0, .ref t28, .ref t29, .ref t30, .ref t31])), (t52, .inl (cyI, 0, .inl (fun _ => 0))), ((u_5.1 0), .inl (cyI, 1, .inl (fun _ => 0))), ((u_5.1 2), .inl (cyI, 0, .inl (fun _ => 0)))]) C (c_X0_fewestStacks l D cyC cyI cyJ cyZ cyO p0 t50 (u_5.1 2) (u_5.1 0) (u_5.1 1)) wd_294 wd_101 wd_295 wd_296 wd_297 ⟨by decide, by decide, rfl⟩ rfl ⟨rfl, rfl, by decide, by decide⟩ ⟨by decide, by decide⟩ [2, 5] [0, 1, 3, 4, 6] rfl rfl ⟨by decide, by decide, by decide⟩ 2 rfl rfl rfl (Nat.le_of_ble_eq_true rfl) dX10_needed_59 (fun u_7 hw_8 => ?_)
    refine j_eq (ws2 := [(t0, .inr (10, [.ref t1, .ref t21, .ref t32, .ref t37, .ref t42, .ref t43, .ref t45, .ref t50, .ref t54, .ref t58])), (t21, .inr (9, [.int 0, .int 0, .int 0, .ref t22, .ref t23, .ref t24, .ref t25, .ref t26, .ref t27, .int 0, .int 0, .ref t28, .ref t29, .ref t30, .ref t31])), (t52, .inl (cyI, 0, .inl (fun _ => 0))), ((u_5.1 0), .inl (cyI, 1, .inl (fun _ => 0))), ((u_5.1 2), .inl (cyI, 0, .inl (fun _ => 0))), (t50, .inr (0, [.int 1, .int 0, .ref (u_5.1 2), .ref (u_5.1 0), .ref (u_5.1 1)])), ((u_5.1 1), .inl (cyI, 1, .inl (upd (fun _ => 0) 0 0)))]) (pc2 := 62) (lv2 := [(2, .int 0), (0, .ref t0), (1, .int p0)]) (st2 := [.int 0]) rfl rfl rfl rfl ?_
    exact j_iret (pc := 62) C hr hk (fun _ => 0, fun _ => 0, fun _ _ => 0) rfl (by show (0 : Int32) = (if 1 ≤ p0 ∧ p0 ≤ 999 then 0 else -1); have e1 : (1 : Int32).toInt = 1 := rfl; have e999 : (999 : Int32).toInt = 999 := rfl; exact if hE : 1 ≤ p0 ∧ p0 ≤ 999 then (by first | exact (if_pos hE).symm | (exfalso; simp only [i_lt, i_le, i_eq] at hE hc_3; omega)) else (by first | exact (if_neg hE).symm | (exfalso; simp only [i_lt, i_le, i_eq] at hE hc_3; omega))) [] (by decide) rfl (by decide) (by decide) dX10_needed_62
  · skip
    refine j_eq (ws2 := [(t0, .inr (10, [.ref t1, .ref t21, .ref t32, .ref t37, .ref t42, .ref t43, .ref t45, .ref t50, .ref t54, .ref t58])), (t21, .inr (9, [.int 0, .int 0, .int 0, .ref t22, .ref t23, .ref t24, .ref t25, .ref t26, .ref t27, .int 0, .int 0, .ref t28, .ref t29, .ref t30, .ref t31])), (t50, .inr (0, [.int 0, .int 0, .ref t51, .ref t52, .ref t53])), (t52, .inl (cyI, 0, .inl (fun _ => 0)))]) (pc2 := 4) (lv2 := [(0, .ref t0), (1, .int p0)]) (st2 := [.int 0]) rfl rfl rfl (by rw [hr_4]) ?_
    refine j_if_ne_f (pc := 4) (tgt := 9) C dX10_needed_4 (by decide) (by decide) ?_
    refine j_iconst (pc := 7) (v := (-1)) C dX10_needed_7 (by decide) ?_
    exact j_iret (pc := 8) C hr hk (fun _ => 0, fun _ => (-1), fun _ _ => 0) rfl (by show ((-1) : Int32) = (if 1 ≤ p0 ∧ p0 ≤ 999 then 0 else -1); have e1 : (1 : Int32).toInt = 1 := rfl; have e999 : (999 : Int32).toInt = 999 := rfl; exact if hE : 1 ≤ p0 ∧ p0 ≤ 999 then (by first | exact (if_pos hE).symm | (exfalso; simp only [i_lt, i_le, i_eq] at hE hc_3; omega)) else (by first | exact (if_neg hE).symm | (exfalso; simp only [i_lt, i_le, i_eq] at hE hc_3; omega))) [] (by decide) rfl (by decide) (by decide) dX10_needed_8
end
section
theorem wd_298 : Cond.methodLink RX7 34 arraycopyName ∈ WALL := wl_in (by decide +kernel) (by decide +kernel)
theorem wd_299 : Cond.fieldLink RX7 40 "BowlShelf$Standing" "cost" "I" ∈ WALL := wl_in (by decide +kernel) (by decide +kernel)
theorem wd_300 : Cond.code yX7_copy cX7_copy 2 none ∈ WALL := wl_in (by decide +kernel) (by decide +kernel)
theorem wd_301 : Cond.methodLink RX10 269 yX7_copy ∈ WALL := wl_in (by decide +kernel) (by decide +kernel)
theorem wd_302 : Cond.instanceMethod yX7_copy ∈ WALL := wl_in (by decide +kernel) (by decide +kernel)
theorem wd_303 : Cond.selects RX7 yX7_copy yX7_copy ∈ WALL := wl_in (by decide +kernel) (by decide +kernel)
theorem wd_304 : Cond.fieldLink RX10 266 "BowlShelf$Told" "shelves" "I" ∈ WALL := wl_in (by decide +kernel) (by decide +kernel)
theorem wd_305 : Cond.fieldLink RX10 322 "BowlShelf$Told" "nests" "I" ∈ WALL := wl_in (by decide +kernel) (by decide +kernel)
theorem wd_306 : Cond.code yX7_outOf cX7_outOf 4 (some .int) ∈ WALL := wl_in (by decide +kernel) (by decide +kernel)
theorem wd_307 : Cond.methodLink RX10 325 yX7_outOf ∈ WALL := wl_in (by decide +kernel) (by decide +kernel)
theorem wd_308 : Cond.instanceMethod yX7_outOf ∈ WALL := wl_in (by decide +kernel) (by decide +kernel)
theorem wd_309 : Cond.selects RX7 yX7_outOf yX7_outOf ∈ WALL := wl_in (by decide +kernel) (by decide +kernel)
theorem wd_310 : Cond.fieldLink RX10 76 "BowlShelf$Reader" "tape" "LBowlShelf$Tape;" ∈ WALL := wl_in (by decide +kernel) (by decide +kernel)
theorem wd_311 : Cond.fieldLink RX10 80 "BowlShelf$Tape" "length" "I" ∈ WALL := wl_in (by decide +kernel) (by decide +kernel)
theorem dX7_copy_0 : decode cX7_copy 0 = .ok (.aload_n 1, 1) := by decide +kernel
theorem dX7_copy_1 : decode cX7_copy 1 = .ok (.getfield 9, 3) := by decide +kernel
theorem dX7_copy_4 : decode cX7_copy 4 = .ok (.iconst 0, 1) := by decide +kernel
theorem dX7_copy_5 : decode cX7_copy 5 = .ok (.aload_n 0, 1) := by decide +kernel
theorem dX7_copy_6 : decode cX7_copy 6 = .ok (.getfield 9, 3) := by decide +kernel
theorem dX7_copy_9 : decode cX7_copy 9 = .ok (.iconst 0, 1) := by decide +kernel
theorem dX7_copy_10 : decode cX7_copy 10 = .ok (.bipush 12, 2) := by decide +kernel
theorem dX7_copy_12 : decode cX7_copy 12 = .ok (.invokestatic 34, 3) := by decide +kernel
theorem dX7_copy_15 : decode cX7_copy 15 = .ok (.aload_n 1, 1) := by decide +kernel
theorem dX7_copy_16 : decode cX7_copy 16 = .ok (.getfield 15, 3) := by decide +kernel
theorem dX7_copy_19 : decode cX7_copy 19 = .ok (.iconst 0, 1) := by decide +kernel
theorem dX7_copy_20 : decode cX7_copy 20 = .ok (.aload_n 0, 1) := by decide +kernel
theorem dX7_copy_21 : decode cX7_copy 21 = .ok (.getfield 15, 3) := by decide +kernel
theorem dX7_copy_24 : decode cX7_copy 24 = .ok (.iconst 0, 1) := by decide +kernel
theorem dX7_copy_25 : decode cX7_copy 25 = .ok (.bipush 12, 2) := by decide +kernel
theorem dX7_copy_27 : decode cX7_copy 27 = .ok (.invokestatic 34, 3) := by decide +kernel
theorem dX7_copy_30 : decode cX7_copy 30 = .ok (.aload_n 1, 1) := by decide +kernel
theorem dX7_copy_31 : decode cX7_copy 31 = .ok (.getfield 18, 3) := by decide +kernel
theorem dX7_copy_34 : decode cX7_copy 34 = .ok (.iconst 0, 1) := by decide +kernel
theorem dX7_copy_35 : decode cX7_copy 35 = .ok (.aload_n 0, 1) := by decide +kernel
theorem dX7_copy_36 : decode cX7_copy 36 = .ok (.getfield 18, 3) := by decide +kernel
theorem dX7_copy_39 : decode cX7_copy 39 = .ok (.iconst 0, 1) := by decide +kernel
theorem dX7_copy_40 : decode cX7_copy 40 = .ok (.bipush 12, 2) := by decide +kernel
theorem dX7_copy_42 : decode cX7_copy 42 = .ok (.invokestatic 34, 3) := by decide +kernel
theorem dX7_copy_45 : decode cX7_copy 45 = .ok (.aload_n 1, 1) := by decide +kernel
theorem dX7_copy_46 : decode cX7_copy 46 = .ok (.getfield 21, 3) := by decide +kernel
theorem dX7_copy_49 : decode cX7_copy 49 = .ok (.iconst 0, 1) := by decide +kernel
theorem dX7_copy_50 : decode cX7_copy 50 = .ok (.aload_n 0, 1) := by decide +kernel
theorem dX7_copy_51 : decode cX7_copy 51 = .ok (.getfield 21, 3) := by decide +kernel
theorem dX7_copy_54 : decode cX7_copy 54 = .ok (.iconst 0, 1) := by decide +kernel
theorem dX7_copy_55 : decode cX7_copy 55 = .ok (.bipush 30, 2) := by decide +kernel
theorem dX7_copy_57 : decode cX7_copy 57 = .ok (.invokestatic 34, 3) := by decide +kernel
theorem dX7_copy_60 : decode cX7_copy 60 = .ok (.aload_n 0, 1) := by decide +kernel
theorem dX7_copy_61 : decode cX7_copy 61 = .ok (.aload_n 1, 1) := by decide +kernel
theorem dX7_copy_62 : decode cX7_copy 62 = .ok (.getfield 30, 3) := by decide +kernel
theorem dX7_copy_65 : decode cX7_copy 65 = .ok (.putfield 30, 3) := by decide +kernel
theorem dX7_copy_68 : decode cX7_copy 68 = .ok (.aload_n 0, 1) := by decide +kernel
theorem dX7_copy_69 : decode cX7_copy 69 = .ok (.aload_n 1, 1) := by decide +kernel
theorem dX7_copy_70 : decode cX7_copy 70 = .ok (.getfield 40, 3) := by decide +kernel
theorem dX7_copy_73 : decode cX7_copy 73 = .ok (.putfield 40, 3) := by decide +kernel
theorem dX7_copy_76 : decode cX7_copy 76 = .ok (.return_, 1) := by decide +kernel
theorem dX10_onTop_0 : decode cX10_onTop 0 = .ok (.aload_n 0, 1) := by decide +kernel
theorem dX10_onTop_1 : decode cX10_onTop 1 = .ok (.getfield 30, 3) := by decide +kernel
theorem dX10_onTop_4 : decode cX10_onTop 4 = .ok (.aload_n 0, 1) := by decide +kernel
theorem dX10_onTop_5 : decode cX10_onTop 5 = .ok (.getfield 26, 3) := by decide +kernel
theorem dX10_onTop_8 : decode cX10_onTop 8 = .ok (.invokevirtual 269, 3) := by decide +kernel
theorem dX10_onTop_11 : decode cX10_onTop 11 = .ok (.iconst 0, 1) := by decide +kernel
theorem dX10_onTop_12 : decode cX10_onTop 12 = .ok (.istore_n 1, 1) := by decide +kernel
theorem dX10_onTop_13 : decode cX10_onTop 13 = .ok (.iconst 0, 1) := by decide +kernel
theorem dX10_onTop_14 : decode cX10_onTop 14 = .ok (.istore_n 2, 1) := by decide +kernel
theorem dX10_onTop_15 : decode cX10_onTop 15 = .ok (.iload_n 2, 1) := by decide +kernel
theorem dX10_onTop_16 : decode cX10_onTop 16 = .ok (.aload_n 0, 1) := by decide +kernel
theorem dX10_onTop_17 : decode cX10_onTop 17 = .ok (.getfield 30, 3) := by decide +kernel
theorem dX10_onTop_20 : decode cX10_onTop 20 = .ok (.getfield 281, 3) := by decide +kernel
theorem dX10_onTop_23 : decode cX10_onTop 23 = .ok (.if_icmp .ge 47, 3) := by decide +kernel
theorem dX10_onTop_70 : decode cX10_onTop 70 = .ok (.iload_n 1, 1) := by decide +kernel
theorem dX10_onTop_71 : decode cX10_onTop 71 = .ok (.ireturn, 1) := by decide +kernel
theorem dX10_habit_0 : decode cX10_habit 0 = .ok (.iconst 0, 1) := by decide +kernel
theorem dX10_habit_1 : decode cX10_habit 1 = .ok (.istore_n 2, 1) := by decide +kernel
theorem dX10_habit_2 : decode cX10_habit 2 = .ok (.iconst 0, 1) := by decide +kernel
theorem dX10_habit_3 : decode cX10_habit 3 = .ok (.istore_n 3, 1) := by decide +kernel
theorem dX10_habit_4 : decode cX10_habit 4 = .ok (.iconst 0, 1) := by decide +kernel
theorem dX10_habit_5 : decode cX10_habit 5 = .ok (.istore 4, 2) := by decide +kernel
theorem dX10_habit_7 : decode cX10_habit 7 = .ok (.iload 4, 2) := by decide +kernel
theorem dX10_habit_9 : decode cX10_habit 9 = .ok (.aload_n 0, 1) := by decide +kernel
theorem dX10_habit_10 : decode cX10_habit 10 = .ok (.getfield 19, 3) := by decide +kernel
theorem dX10_habit_13 : decode cX10_habit 13 = .ok (.getfield 246, 3) := by decide +kernel
theorem dX10_habit_16 : decode cX10_habit 16 = .ok (.if_icmp .ge 58, 3) := by decide +kernel
theorem dX10_habit_74 : decode cX10_habit 74 = .ok (.iload_n 3, 1) := by decide +kernel
theorem dX10_habit_75 : decode cX10_habit 75 = .ok (.ifCond .eq 12, 3) := by decide +kernel
theorem dX10_habit_87 : decode cX10_habit 87 = .ok (.iconst (-1), 1) := by decide +kernel
theorem dX10_habit_88 : decode cX10_habit 88 = .ok (.ireturn, 1) := by decide +kernel
theorem dX7_outOf_0 : decode cX7_outOf 0 = .ok (.iconst 0, 1) := by decide +kernel
theorem dX7_outOf_1 : decode cX7_outOf 1 = .ok (.istore_n 2, 1) := by decide +kernel
theorem dX7_outOf_2 : decode cX7_outOf 2 = .ok (.iconst 0, 1) := by decide +kernel
theorem dX7_outOf_3 : decode cX7_outOf 3 = .ok (.istore_n 3, 1) := by decide +kernel
theorem dX7_outOf_4 : decode cX7_outOf 4 = .ok (.iload_n 3, 1) := by decide +kernel
theorem dX7_outOf_5 : decode cX7_outOf 5 = .ok (.iload_n 1, 1) := by decide +kernel
theorem dX7_outOf_6 : decode cX7_outOf 6 = .ok (.if_icmp .ge 25, 3) := by decide +kernel
theorem dX7_outOf_31 : decode cX7_outOf 31 = .ok (.iload_n 2, 1) := by decide +kernel
theorem dX7_outOf_32 : decode cX7_outOf 32 = .ok (.ireturn, 1) := by decide +kernel
theorem dX10_count_0 : decode cX10_count 0 = .ok (.iload_n 1, 1) := by decide +kernel
theorem dX10_count_1 : decode cX10_count 1 = .ok (.tableswitch 97 0 5 #[39, 47, 55, 63, 78, 86], 39) := by decide +kernel
theorem dX10_count_40 : decode cX10_count 40 = .ok (.aload_n 0, 1) := by decide +kernel
theorem dX10_count_41 : decode cX10_count 41 = .ok (.getfield 19, 3) := by decide +kernel
theorem dX10_count_44 : decode cX10_count 44 = .ok (.getfield 246, 3) := by decide +kernel
theorem dX10_count_47 : decode cX10_count 47 = .ok (.ireturn, 1) := by decide +kernel
theorem dX10_count_48 : decode cX10_count 48 = .ok (.aload_n 0, 1) := by decide +kernel
theorem dX10_count_49 : decode cX10_count 49 = .ok (.getfield 19, 3) := by decide +kernel
theorem dX10_count_52 : decode cX10_count 52 = .ok (.getfield 266, 3) := by decide +kernel
theorem dX10_count_55 : decode cX10_count 55 = .ok (.ireturn, 1) := by decide +kernel
theorem dX10_count_56 : decode cX10_count 56 = .ok (.aload_n 0, 1) := by decide +kernel
theorem dX10_count_57 : decode cX10_count 57 = .ok (.getfield 19, 3) := by decide +kernel
theorem dX10_count_60 : decode cX10_count 60 = .ok (.getfield 322, 3) := by decide +kernel
theorem dX10_count_63 : decode cX10_count 63 = .ok (.ireturn, 1) := by decide +kernel
theorem dX10_count_64 : decode cX10_count 64 = .ok (.aload_n 0, 1) := by decide +kernel
theorem dX10_count_65 : decode cX10_count 65 = .ok (.getfield 26, 3) := by decide +kernel
theorem dX10_count_68 : decode cX10_count 68 = .ok (.aload_n 0, 1) := by decide +kernel
theorem dX10_count_69 : decode cX10_count 69 = .ok (.getfield 19, 3) := by decide +kernel
theorem dX10_count_72 : decode cX10_count 72 = .ok (.getfield 246, 3) := by decide +kernel
theorem dX10_count_75 : decode cX10_count 75 = .ok (.invokevirtual 325, 3) := by decide +kernel
theorem dX10_count_78 : decode cX10_count 78 = .ok (.ireturn, 1) := by decide +kernel
theorem dX10_count_79 : decode cX10_count 79 = .ok (.aload_n 0, 1) := by decide +kernel
theorem dX10_count_80 : decode cX10_count 80 = .ok (.getfield 26, 3) := by decide +kernel
theorem dX10_count_83 : decode cX10_count 83 = .ok (.getfield 281, 3) := by decide +kernel
theorem dX10_count_86 : decode cX10_count 86 = .ok (.ireturn, 1) := by decide +kernel
theorem dX10_count_87 : decode cX10_count 87 = .ok (.aload_n 0, 1) := by decide +kernel
theorem dX10_count_88 : decode cX10_count 88 = .ok (.getfield 10, 3) := by decide +kernel
theorem dX10_count_91 : decode cX10_count 91 = .ok (.getfield 76, 3) := by decide +kernel
theorem dX10_count_94 : decode cX10_count 94 = .ok (.getfield 80, 3) := by decide +kernel
theorem dX10_count_97 : decode cX10_count 97 = .ok (.ireturn, 1) := by decide +kernel
theorem dX10_count_98 : decode cX10_count 98 = .ok (.iconst (-1), 1) := by decide +kernel
theorem dX10_count_99 : decode cX10_count 99 = .ok (.ireturn, 1) := by decide +kernel
theorem dX10_mark_0 : decode cX10_mark 0 = .ok (.iload_n 1, 1) := by decide +kernel
theorem dX10_mark_1 : decode cX10_mark 1 = .ok (.ifCond .lt 24, 3) := by decide +kernel
theorem dX10_mark_4 : decode cX10_mark 4 = .ok (.iload_n 1, 1) := by decide +kernel
theorem dX10_mark_5 : decode cX10_mark 5 = .ok (.iconst 4, 1) := by decide +kernel
theorem dX10_mark_6 : decode cX10_mark 6 = .ok (.if_icmp .ge 19, 3) := by decide +kernel
theorem dX10_mark_9 : decode cX10_mark 9 = .ok (.iload_n 2, 1) := by decide +kernel
theorem dX10_mark_10 : decode cX10_mark 10 = .ok (.ifCond .eq 17, 3) := by decide +kernel
theorem dX10_mark_13 : decode cX10_mark 13 = .ok (.aload_n 0, 1) := by decide +kernel
theorem dX10_mark_14 : decode cX10_mark 14 = .ok (.getfield 33, 3) := by decide +kernel
theorem dX10_mark_17 : decode cX10_mark 17 = .ok (.iload_n 1, 1) := by decide +kernel
theorem dX10_mark_18 : decode cX10_mark 18 = .ok (.aaload, 1) := by decide +kernel
theorem dX10_mark_19 : decode cX10_mark 19 = .ok (.getfield 101, 3) := by decide +kernel
theorem dX10_mark_22 : decode cX10_mark 22 = .ok (.ifCond .ne 5, 3) := by decide +kernel
theorem dX10_mark_25 : decode cX10_mark 25 = .ok (.iconst 0, 1) := by decide +kernel
theorem dX10_mark_26 : decode cX10_mark 26 = .ok (.ireturn, 1) := by decide +kernel
theorem dX10_mark_27 : decode cX10_mark 27 = .ok (.iload_n 2, 1) := by decide +kernel
theorem dX10_mark_28 : decode cX10_mark 28 = .ok (.ifCond .eq 19, 3) := by decide +kernel
theorem dX10_mark_47 : decode cX10_mark 47 = .ok (.aload_n 0, 1) := by decide +kernel
theorem dX10_mark_48 : decode cX10_mark 48 = .ok (.getfield 33, 3) := by decide +kernel
theorem dX10_mark_51 : decode cX10_mark 51 = .ok (.iload_n 1, 1) := by decide +kernel
theorem dX10_mark_52 : decode cX10_mark 52 = .ok (.aaload, 1) := by decide +kernel
theorem dX10_mark_53 : decode cX10_mark 53 = .ok (.aload_n 0, 1) := by decide +kernel
theorem dX10_mark_54 : decode cX10_mark 54 = .ok (.getfield 26, 3) := by decide +kernel
theorem dX10_mark_57 : decode cX10_mark 57 = .ok (.invokevirtual 269, 3) := by decide +kernel
theorem dX10_mark_60 : decode cX10_mark 60 = .ok (.aload_n 0, 1) := by decide +kernel
theorem dX10_mark_61 : decode cX10_mark 61 = .ok (.getfield 33, 3) := by decide +kernel
theorem dX10_mark_64 : decode cX10_mark 64 = .ok (.iload_n 1, 1) := by decide +kernel
theorem dX10_mark_65 : decode cX10_mark 65 = .ok (.aaload, 1) := by decide +kernel
theorem dX10_mark_66 : decode cX10_mark 66 = .ok (.iconst 1, 1) := by decide +kernel
theorem dX10_mark_67 : decode cX10_mark 67 = .ok (.putfield 101, 3) := by decide +kernel
theorem dX10_mark_70 : decode cX10_mark 70 = .ok (.iconst 1, 1) := by decide +kernel
theorem dX10_mark_71 : decode cX10_mark 71 = .ok (.ireturn, 1) := by decide +kernel
set_option maxHeartbeats 4000000 in
set_option maxRecDepth 100000 in
theorem c_X7_copy (l : Launch) (D : va_G) (cyC cyI cyJ cyZ cyO : ClassId) (t37 : Nat) (t32 : Nat) (t33 : Nat) (t34 : Nat) (t35 : Nat) (t36 : Nat) (t38 : Nat) (t39 : Nat) (t40 : Nat) (t41 : Nat) : KK l D (TY cyC cyI cyJ cyZ cyO) yX7_copy cX7_copy 2 none ({ frames := 1, cells := 0, slots := 0, locals := 18 } : Room) 0 0 [.ref t37, .ref t32] [(t32, .inr (7, [.ref t33, .ref t34, .ref t35, .ref t36, .int 0, .int 0, .int 0])), (t33, .inl (cyI, 12, .inl (fun _ => (-1)))), (t34, .inl (cyI, 12, .inl (fun _ => 0))), (t35, .inl (cyI, 12, .inl (fun _ => 0))), (t36, .inl (cyI, 30, .inl (fun _ => 0))), (t37, .inr (7, [.ref t38, .ref t39, .ref t40, .ref t41, .int 0, .int 0, .int 0])), (t38, .inl (cyI, 12, .inl (fun _ => (-1)))), (t39, .inl (cyI, 12, .inl (fun _ => 0))), (t40, .inl (cyI, 12, .inl (fun _ => 0))), (t41, .inl (cyI, 30, .inl (fun _ => 0)))] (fun u => none) (fun u => True) (fun u => [(t32, .inr (7, [.ref t33, .ref t34, .ref t35, .ref t36, .int 0, .int 0, .int 0])), (t33, .inl (cyI, 12, .inl (fun _ => (-1)))), (t34, .inl (cyI, 12, .inl (fun _ => 0))), (t35, .inl (cyI, 12, .inl (fun _ => 0))), (t36, .inl (cyI, 30, .inl (fun _ => 0))), (t37, .inr (7, [.ref t38, .ref t39, .ref t40, .ref t41, .int 0, .int 0, .int 0])), (t38, .inl (cyI, 12, .inl (va_cpy (fun _ => (-1)) (fun _ => (-1)) 0 0 12))), (t39, .inl (cyI, 12, .inl (va_cpy (fun _ => 0) (fun _ => 0) 0 0 12))), (t40, .inl (cyI, 12, .inl (va_cpy (fun _ => 0) (fun _ => 0) 0 0 12))), (t41, .inl (cyI, 30, .inl (va_cpy (fun _ => 0) (fun _ => 0) 0 0 30)))]) := by
  refine KK.of (lv0 := [(0, .ref t37), (1, .ref t32)]) (by decide) rfl (Nat.le_of_ble_eq_true rfl) ?_
  intro p e s m args below meth c A C hr hk hin
  refine j_aload_n (pc := 0) C dX7_copy_0 rfl 1 rfl ?_
  refine j_get (pc := 1) (ci := 7) (v := .ref t33) C inw_7 0 rfl rfl 0 (by decide) wd_44 rfl rfl dX7_copy_1 ?_
  refine j_iconst (pc := 4) (v := 0) C dX7_copy_4 (by decide) ?_
  refine j_aload_n (pc := 5) C dX7_copy_5 rfl 0 rfl ?_
  refine j_get (pc := 6) (ci := 7) (v := .ref t38) C inw_7 5 rfl rfl 0 (by decide) wd_44 rfl rfl dX7_copy_6 ?_
  refine j_iconst (pc := 9) (v := 0) C dX7_copy_9 (by decide) ?_
  refine j_bipush (pc := 10) (v := 12) C dX7_copy_10 (by decide) ?_
  refine j_acpy (pc := 12) (ks := 0) (kd := 0) (kn := 12) (ws' := [(t32, .inr (7, [.ref t33, .ref t34, .ref t35, .ref t36, .int 0, .int 0, .int 0])), (t33, .inl (cyI, 12, .inl (fun _ => (-1)))), (t34, .inl (cyI, 12, .inl (fun _ => 0))), (t35, .inl (cyI, 12, .inl (fun _ => 0))), (t36, .inl (cyI, 30, .inl (fun _ => 0))), (t37, .inr (7, [.ref t38, .ref t39, .ref t40, .ref t41, .int 0, .int 0, .int 0])), (t38, .inl (cyI, 12, .inl (va_cpy (fun _ => (-1)) (fun _ => (-1)) 0 0 12))), (t39, .inl (cyI, 12, .inl (fun _ => 0))), (t40, .inl (cyI, 12, .inl (fun _ => 0))), (t41, .inl (cyI, 30, .inl (fun _ => 0)))]) C wd_298 wd_237 wd_238 wd_239 1 6 1 rfl rfl rfl (by decide) (by decide) (by decide) (by decide) (by decide) (by decide) (by decide) (by decide) (by decide) (Nat.le_of_ble_eq_true rfl) dX7_copy_12 rfl ?_
  refine j_aload_n (pc := 15) C dX7_copy_15 rfl 1 rfl ?_
  refine j_get (pc := 16) (ci := 7) (v := .ref t34) C inw_7 0 rfl rfl 1 (by decide) wd_45 rfl rfl dX7_copy_16 ?_
  refine j_iconst (pc := 19) (v := 0) C dX7_copy_19 (by decide) ?_
  refine j_aload_n (pc := 20) C dX7_copy_20 rfl 0 rfl ?_
  refine j_get (pc := 21) (ci := 7) (v := .ref t39) C inw_7 5 rfl rfl 1 (by decide) wd_45 rfl rfl dX7_copy_21 ?_
  refine j_iconst (pc := 24) (v := 0) C dX7_copy_24 (by decide) ?_
  refine j_bipush (pc := 25) (v := 12) C dX7_copy_25 (by decide) ?_
  refine j_acpy (pc := 27) (ks := 0) (kd := 0) (kn := 12) (ws' := [(t32, .inr (7, [.ref t33, .ref t34, .ref t35, .ref t36, .int 0, .int 0, .int 0])), (t33, .inl (cyI, 12, .inl (fun _ => (-1)))), (t34, .inl (cyI, 12, .inl (fun _ => 0))), (t35, .inl (cyI, 12, .inl (fun _ => 0))), (t36, .inl (cyI, 30, .inl (fun _ => 0))), (t37, .inr (7, [.ref t38, .ref t39, .ref t40, .ref t41, .int 0, .int 0, .int 0])), (t38, .inl (cyI, 12, .inl (va_cpy (fun _ => (-1)) (fun _ => (-1)) 0 0 12))), (t39, .inl (cyI, 12, .inl (va_cpy (fun _ => 0) (fun _ => 0) 0 0 12))), (t40, .inl (cyI, 12, .inl (fun _ => 0))), (t41, .inl (cyI, 30, .inl (fun _ => 0)))]) C wd_298 wd_237 wd_238 wd_239 2 7 1 rfl rfl rfl (by decide) (by decide) (by decide) (by decide) (by decide) (by decide) (by decide) (by decide) (by decide) (Nat.le_of_ble_eq_true rfl) dX7_copy_27 rfl ?_
  refine j_aload_n (pc := 30) C dX7_copy_30 rfl 1 rfl ?_
  refine j_get (pc := 31) (ci := 7) (v := .ref t35) C inw_7 0 rfl rfl 2 (by decide) wd_46 rfl rfl dX7_copy_31 ?_
  refine j_iconst (pc := 34) (v := 0) C dX7_copy_34 (by decide) ?_
  refine j_aload_n (pc := 35) C dX7_copy_35 rfl 0 rfl ?_
  refine j_get (pc := 36) (ci := 7) (v := .ref t40) C inw_7 5 rfl rfl 2 (by decide) wd_46 rfl rfl dX7_copy_36 ?_
  refine j_iconst (pc := 39) (v := 0) C dX7_copy_39 (by decide) ?_
  refine j_bipush (pc := 40) (v := 12) C dX7_copy_40 (by decide) ?_
  refine j_acpy (pc := 42) (ks := 0) (kd := 0) (kn := 12) (ws' := [(t32, .inr (7, [.ref t33, .ref t34, .ref t35, .ref t36, .int 0, .int 0, .int 0])), (t33, .inl (cyI, 12, .inl (fun _ => (-1)))), (t34, .inl (cyI, 12, .inl (fun _ => 0))), (t35, .inl (cyI, 12, .inl (fun _ => 0))), (t36, .inl (cyI, 30, .inl (fun _ => 0))), (t37, .inr (7, [.ref t38, .ref t39, .ref t40, .ref t41, .int 0, .int 0, .int 0])), (t38, .inl (cyI, 12, .inl (va_cpy (fun _ => (-1)) (fun _ => (-1)) 0 0 12))), (t39, .inl (cyI, 12, .inl (va_cpy (fun _ => 0) (fun _ => 0) 0 0 12))), (t40, .inl (cyI, 12, .inl (va_cpy (fun _ => 0) (fun _ => 0) 0 0 12))), (t41, .inl (cyI, 30, .inl (fun _ => 0)))]) C wd_298 wd_237 wd_238 wd_239 3 8 1 rfl rfl rfl (by decide) (by decide) (by decide) (by decide) (by decide) (by decide) (by decide) (by decide) (by decide) (Nat.le_of_ble_eq_true rfl) dX7_copy_42 rfl ?_
  refine j_aload_n (pc := 45) C dX7_copy_45 rfl 1 rfl ?_
  refine j_get (pc := 46) (ci := 7) (v := .ref t36) C inw_7 0 rfl rfl 3 (by decide) wd_47 rfl rfl dX7_copy_46 ?_
  refine j_iconst (pc := 49) (v := 0) C dX7_copy_49 (by decide) ?_
  refine j_aload_n (pc := 50) C dX7_copy_50 rfl 0 rfl ?_
  refine j_get (pc := 51) (ci := 7) (v := .ref t41) C inw_7 5 rfl rfl 3 (by decide) wd_47 rfl rfl dX7_copy_51 ?_
  refine j_iconst (pc := 54) (v := 0) C dX7_copy_54 (by decide) ?_
  refine j_bipush (pc := 55) (v := 30) C dX7_copy_55 (by decide) ?_
  refine j_acpy (pc := 57) (ks := 0) (kd := 0) (kn := 30) (ws' := [(t32, .inr (7, [.ref t33, .ref t34, .ref t35, .ref t36, .int 0, .int 0, .int 0])), (t33, .inl (cyI, 12, .inl (fun _ => (-1)))), (t34, .inl (cyI, 12, .inl (fun _ => 0))), (t35, .inl (cyI, 12, .inl (fun _ => 0))), (t36, .inl (cyI, 30, .inl (fun _ => 0))), (t37, .inr (7, [.ref t38, .ref t39, .ref t40, .ref t41, .int 0, .int 0, .int 0])), (t38, .inl (cyI, 12, .inl (va_cpy (fun _ => (-1)) (fun _ => (-1)) 0 0 12))), (t39, .inl (cyI, 12, .inl (va_cpy (fun _ => 0) (fun _ => 0) 0 0 12))), (t40, .inl (cyI, 12, .inl (va_cpy (fun _ => 0) (fun _ => 0) 0 0 12))), (t41, .inl (cyI, 30, .inl (va_cpy (fun _ => 0) (fun _ => 0) 0 0 30)))]) C wd_298 wd_237 wd_238 wd_239 4 9 1 rfl rfl rfl (by decide) (by decide) (by decide) (by decide) (by decide) (by decide) (by decide) (by decide) (by decide) (Nat.le_of_ble_eq_true rfl) dX7_copy_57 rfl ?_
  refine j_aload_n (pc := 60) C dX7_copy_60 rfl 0 rfl ?_
  refine j_aload_n (pc := 61) C dX7_copy_61 rfl 1 rfl ?_
  refine j_get (pc := 62) (ci := 7) (v := .int 0) C inw_7 0 rfl rfl 4 (by decide) wd_231 rfl rfl dX7_copy_62 ?_
  refine j_put (pc := 65) (ci := 7) (v := .int 0) (ws' := [(t32, .inr (7, [.ref t33, .ref t34, .ref t35, .ref t36, .int 0, .int 0, .int 0])), (t33, .inl (cyI, 12, .inl (fun _ => (-1)))), (t34, .inl (cyI, 12, .inl (fun _ => 0))), (t35, .inl (cyI, 12, .inl (fun _ => 0))), (t36, .inl (cyI, 30, .inl (fun _ => 0))), (t37, .inr (7, [.ref t38, .ref t39, .ref t40, .ref t41, .int 0, .int 0, .int 0])), (t38, .inl (cyI, 12, .inl (va_cpy (fun _ => (-1)) (fun _ => (-1)) 0 0 12))), (t39, .inl (cyI, 12, .inl (va_cpy (fun _ => 0) (fun _ => 0) 0 0 12))), (t40, .inl (cyI, 12, .inl (va_cpy (fun _ => 0) (fun _ => 0) 0 0 12))), (t41, .inl (cyI, 30, .inl (va_cpy (fun _ => 0) (fun _ => 0) 0 0 30)))]) C inw_7 5 rfl rfl 4 (by decide) wd_231 rfl tyX7_ok nmX7 rfl (tyX7_ok 4 (by decide)) rfl rfl (Nat.le_of_ble_eq_true rfl) dX7_copy_65 rfl ?_
  refine j_aload_n (pc := 68) C dX7_copy_68 rfl 0 rfl ?_
  refine j_aload_n (pc := 69) C dX7_copy_69 rfl 1 rfl ?_
  refine j_get (pc := 70) (ci := 7) (v := .int 0) C inw_7 0 rfl rfl 5 (by decide) wd_299 rfl rfl dX7_copy_70 ?_
  refine j_put (pc := 73) (ci := 7) (v := .int 0) (ws' := [(t32, .inr (7, [.ref t33, .ref t34, .ref t35, .ref t36, .int 0, .int 0, .int 0])), (t33, .inl (cyI, 12, .inl (fun _ => (-1)))), (t34, .inl (cyI, 12, .inl (fun _ => 0))), (t35, .inl (cyI, 12, .inl (fun _ => 0))), (t36, .inl (cyI, 30, .inl (fun _ => 0))), (t37, .inr (7, [.ref t38, .ref t39, .ref t40, .ref t41, .int 0, .int 0, .int 0])), (t38, .inl (cyI, 12, .inl (va_cpy (fun _ => (-1)) (fun _ => (-1)) 0 0 12))), (t39, .inl (cyI, 12, .inl (va_cpy (fun _ => 0) (fun _ => 0) 0 0 12))), (t40, .inl (cyI, 12, .inl (va_cpy (fun _ => 0) (fun _ => 0) 0 0 12))), (t41, .inl (cyI, 30, .inl (va_cpy (fun _ => 0) (fun _ => 0) 0 0 30)))]) C inw_7 5 rfl rfl 5 (by decide) wd_299 rfl tyX7_ok nmX7 rfl (tyX7_ok 5 (by decide)) rfl rfl (Nat.le_of_ble_eq_true rfl) dX7_copy_73 rfl ?_
  exact j_vret (pc := 76) C hr hk (fun i => [].getD i 0, fun _ => 0, fun _ _ => 0) rfl trivial [0, 1, 2, 3, 4, 5, 6, 7, 8, 9] (by decide) rfl (by decide) (by decide) dX7_copy_76
set_option maxHeartbeats 4000000 in
set_option maxRecDepth 100000 in
theorem c_X10_onTop (l : Launch) (D : va_G) (cyC cyI cyJ cyZ cyO : ClassId) (t0 : Nat) (t1 : Nat) (t21 : Nat) (t32 : Nat) (t37 : Nat) (t42 : Nat) (t43 : Nat) (t45 : Nat) (t50 : Nat) (t54 : Nat) (t58 : Nat) (t33 : Nat) (t34 : Nat) (t35 : Nat) (t36 : Nat) (t38 : Nat) (t39 : Nat) (t40 : Nat) (t41 : Nat) : KK l D (TY cyC cyI cyJ cyZ cyO) yX10_onTop cX10_onTop 4 (some .int) ({ frames := 2, cells := 0, slots := 0, locals := 39 } : Room) 0 0 [.ref t0] [(t0, .inr (10, [.ref t1, .ref t21, .ref t32, .ref t37, .ref t42, .ref t43, .ref t45, .ref t50, .ref t54, .ref t58])), (t32, .inr (7, [.ref t33, .ref t34, .ref t35, .ref t36, .int 0, .int 0, .int 0])), (t33, .inl (cyI, 12, .inl (fun _ => (-1)))), (t34, .inl (cyI, 12, .inl (fun _ => 0))), (t35, .inl (cyI, 12, .inl (fun _ => 0))), (t36, .inl (cyI, 30, .inl (fun _ => 0))), (t37, .inr (7, [.ref t38, .ref t39, .ref t40, .ref t41, .int 0, .int 0, .int 0])), (t38, .inl (cyI, 12, .inl (fun _ => (-1)))), (t39, .inl (cyI, 12, .inl (fun _ => 0))), (t40, .inl (cyI, 12, .inl (fun _ => 0))), (t41, .inl (cyI, 30, .inl (fun _ => 0)))] (fun u => some (.int 0)) (fun u => True) (fun u => []) := by
  refine KK.of (lv0 := [(0, .ref t0)]) (by decide) rfl (Nat.le_of_ble_eq_true rfl) ?_
  intro p e s m args below meth c A C hr hk hin
  refine j_aload_n (pc := 0) C dX10_onTop_0 rfl 0 rfl ?_
  refine j_get (pc := 1) (ci := 10) (v := .ref t37) C inw_10 0 rfl rfl 3 (by decide) wd_85 rfl rfl dX10_onTop_1 ?_
  refine j_aload_n (pc := 4) C dX10_onTop_4 rfl 0 rfl ?_
  refine j_get (pc := 5) (ci := 10) (v := .ref t32) C inw_10 0 rfl rfl 2 (by decide) wd_84 rfl rfl dX10_onTop_5 ?_
  refine j_callV (pc := 8) (As := [.ref t32]) (rest := []) (wr := [(t0, .inr (10, [.ref t1, .ref t21, .ref t32, .ref t37, .ref t42, .ref t43, .ref t45, .ref t50, .ref t54, .ref t58]))]) C (c_X7_copy l D cyC cyI cyJ cyZ cyO t37 t32 t33 t34 t35 t36 t38 t39 t40 t41) wd_300 wd_80 wd_301 wd_302 wd_303 ⟨by decide, by decide, rfl⟩ rfl ⟨rfl, rfl, by decide, by decide⟩ ⟨by decide, by decide⟩ [1, 2, 3, 4, 5, 6, 7, 8, 9, 10] [0] rfl rfl ⟨by decide, by decide, by decide⟩ 6 rfl rfl rfl (Nat.le_of_ble_eq_true rfl) dX10_onTop_8 (fun u_1 hw_2 => ?_)
  refine j_eq (ws2 := [(t0, .inr (10, [.ref t1, .ref t21, .ref t32, .ref t37, .ref t42, .ref t43, .ref t45, .ref t50, .ref t54, .ref t58])), (t32, .inr (7, [.ref t33, .ref t34, .ref t35, .ref t36, .int 0, .int 0, .int 0])), (t33, .inl (cyI, 12, .inl (fun _ => (-1)))), (t34, .inl (cyI, 12, .inl (fun _ => 0))), (t35, .inl (cyI, 12, .inl (fun _ => 0))), (t36, .inl (cyI, 30, .inl (fun _ => 0))), (t37, .inr (7, [.ref t38, .ref t39, .ref t40, .ref t41, .int 0, .int 0, .int 0])), (t38, .inl (cyI, 12, .inl (va_cpy (fun _ => (-1)) (fun _ => (-1)) 0 0 12))), (t39, .inl (cyI, 12, .inl (va_cpy (fun _ => 0) (fun _ => 0) 0 0 12))), (t40, .inl (cyI, 12, .inl (va_cpy (fun _ => 0) (fun _ => 0) 0 0 12))), (t41, .inl (cyI, 30, .inl (va_cpy (fun _ => 0) (fun _ => 0) 0 0 30)))]) (pc2 := 11) (lv2 := [(0, .ref t0)]) (st2 := []) rfl rfl rfl rfl ?_
  refine j_iconst (pc := 11) (v := 0) C dX10_onTop_11 (by decide) ?_
  refine j_istore_n (pc := 12) (lv' := [(1, .int 0), (0, .ref t0)]) C dX10_onTop_12 rfl (by decide) rfl ?_
  refine j_iconst (pc := 13) (v := 0) C dX10_onTop_13 (by decide) ?_
  refine j_istore_n (pc := 14) (lv' := [(2, .int 0), (1, .int 0), (0, .ref t0)]) C dX10_onTop_14 rfl (by decide) rfl ?_
  refine j_iload_n (pc := 15) C dX10_onTop_15 rfl 0 rfl ?_
  refine j_aload_n (pc := 16) C dX10_onTop_16 rfl 2 rfl ?_
  refine j_get (pc := 17) (ci := 10) (v := .ref t37) C inw_10 0 rfl rfl 3 (by decide) wd_85 rfl rfl dX10_onTop_17 ?_
  refine j_get (pc := 20) (ci := 7) (v := .int 0) C inw_7 6 rfl rfl 4 (by decide) wd_185 rfl rfl dX10_onTop_20 ?_
  refine j_icmp_ge_t (pc := 23) (tgt := 70) C dX10_onTop_23 (by decide) (by decide) ?_
  refine j_iload_n (pc := 70) C dX10_onTop_70 rfl 1 rfl ?_
  exact j_iret (pc := 71) C hr hk (fun i => [].getD i 0, fun _ => 0, fun _ _ => 0) rfl trivial [] (by decide) rfl (by decide) (by decide) dX10_onTop_71
set_option maxHeartbeats 4000000 in
set_option maxRecDepth 100000 in
theorem c_X10_habit (l : Launch) (D : va_G) (cyC cyI cyJ cyZ cyO : ClassId) (p0 : Int32) (t0 : Nat) (t1 : Nat) (t21 : Nat) (t32 : Nat) (t37 : Nat) (t42 : Nat) (t43 : Nat) (t45 : Nat) (t50 : Nat) (t54 : Nat) (t58 : Nat) (t22 : Nat) (t23 : Nat) (t24 : Nat) (t25 : Nat) (t26 : Nat) (t27 : Nat) (t28 : Nat) (t29 : Nat) (t30 : Nat) (t31 : Nat) : KK l D (TY cyC cyI cyJ cyZ cyO) yX10_habit cX10_habit 5 (some .int) ({ frames := 0, cells := 0, slots := 0, locals := 0 } : Room) 0 0 [.ref t0, .int p0] [(t0, .inr (10, [.ref t1, .ref t21, .ref t32, .ref t37, .ref t42, .ref t43, .ref t45, .ref t50, .ref t54, .ref t58])), (t21, .inr (9, [.int 0, .int 0, .int 0, .ref t22, .ref t23, .ref t24, .ref t25, .ref t26, .ref t27, .int 0, .int 0, .ref t28, .ref t29, .ref t30, .ref t31]))] (fun u => some (.int (-1))) (fun u => True) (fun u => []) := by
  refine KK.of (lv0 := [(0, .ref t0), (1, .int p0)]) (by decide) rfl (Nat.le_of_ble_eq_true rfl) ?_
  intro p e s m args below meth c A C hr hk hin
  refine j_iconst (pc := 0) (v := 0) C dX10_habit_0 (by decide) ?_
  refine j_istore_n (pc := 1) (lv' := [(2, .int 0), (0, .ref t0), (1, .int p0)]) C dX10_habit_1 rfl (by decide) rfl ?_
  refine j_iconst (pc := 2) (v := 0) C dX10_habit_2 (by decide) ?_
  refine j_istore_n (pc := 3) (lv' := [(3, .int 0), (2, .int 0), (0, .ref t0), (1, .int p0)]) C dX10_habit_3 rfl (by decide) rfl ?_
  refine j_iconst (pc := 4) (v := 0) C dX10_habit_4 (by decide) ?_
  refine j_istore (pc := 5) (lv' := [(4, .int 0), (3, .int 0), (2, .int 0), (0, .ref t0), (1, .int p0)]) C dX10_habit_5 (by decide) rfl ?_
  refine j_iload (pc := 7) C dX10_habit_7 0 rfl ?_
  refine j_aload_n (pc := 9) C dX10_habit_9 rfl 3 rfl ?_
  refine j_get (pc := 10) (ci := 10) (v := .ref t21) C inw_10 0 rfl rfl 1 (by decide) wd_77 rfl rfl dX10_habit_10 ?_
  refine j_get (pc := 13) (ci := 9) (v := .int 0) C inw_9 1 rfl rfl 0 (by decide) wd_286 rfl rfl dX10_habit_13 ?_
  refine j_icmp_ge_t (pc := 16) (tgt := 74) C dX10_habit_16 (by decide) (by decide) ?_
  refine j_iload_n (pc := 74) C dX10_habit_74 rfl 1 rfl ?_
  refine j_if_eq_t (pc := 75) (tgt := 87) C dX10_habit_75 (by decide) (by decide) ?_
  refine j_iconst (pc := 87) (v := (-1)) C dX10_habit_87 (by decide) ?_
  exact j_iret (pc := 88) C hr hk (fun i => [].getD i 0, fun _ => 0, fun _ _ => 0) rfl trivial [] (by decide) rfl (by decide) (by decide) dX10_habit_88
set_option maxHeartbeats 4000000 in
set_option maxRecDepth 100000 in
theorem c_X7_outOf (l : Launch) (D : va_G) (cyC cyI cyJ cyZ cyO : ClassId) (t32 : Nat) : KK l D (TY cyC cyI cyJ cyZ cyO) yX7_outOf cX7_outOf 4 (some .int) ({ frames := 0, cells := 0, slots := 0, locals := 0 } : Room) 0 0 [.ref t32, .int 0] [] (fun u => some (.int 0)) (fun u => True) (fun u => []) := by
  refine KK.of (lv0 := [(0, .ref t32), (1, .int 0)]) (by decide) rfl (Nat.le_of_ble_eq_true rfl) ?_
  intro p e s m args below meth c A C hr hk hin
  refine j_iconst (pc := 0) (v := 0) C dX7_outOf_0 (by decide) ?_
  refine j_istore_n (pc := 1) (lv' := [(2, .int 0), (0, .ref t32), (1, .int 0)]) C dX7_outOf_1 rfl (by decide) rfl ?_
  refine j_iconst (pc := 2) (v := 0) C dX7_outOf_2 (by decide) ?_
  refine j_istore_n (pc := 3) (lv' := [(3, .int 0), (2, .int 0), (0, .ref t32), (1, .int 0)]) C dX7_outOf_3 rfl (by decide) rfl ?_
  refine j_iload_n (pc := 4) C dX7_outOf_4 rfl 0 rfl ?_
  refine j_iload_n (pc := 5) C dX7_outOf_5 rfl 3 rfl ?_
  refine j_icmp_ge_t (pc := 6) (tgt := 31) C dX7_outOf_6 (by decide) (by decide) ?_
  refine j_iload_n (pc := 31) C dX7_outOf_31 rfl 1 rfl ?_
  exact j_iret (pc := 32) C hr hk (fun i => [].getD i 0, fun _ => 0, fun _ _ => 0) rfl trivial [] (by decide) rfl (by decide) (by decide) dX7_outOf_32
set_option maxHeartbeats 4000000 in
set_option maxRecDepth 100000 in
theorem c_X10_count (l : Launch) (D : va_G) (cyC cyI cyJ cyZ cyO : ClassId) (p0 : Int32) (t0 : Nat) (t1 : Nat) (t21 : Nat) (t32 : Nat) (t37 : Nat) (t42 : Nat) (t43 : Nat) (t45 : Nat) (t50 : Nat) (t54 : Nat) (t58 : Nat) (t2 : Nat) (t4 : Nat) (t8 : Nat) (t9 : Nat) (t10 : Nat) (t3 : Nat) (t22 : Nat) (t23 : Nat) (t24 : Nat) (t25 : Nat) (t26 : Nat) (t27 : Nat) (t28 : Nat) (t29 : Nat) (t30 : Nat) (t31 : Nat) (t33 : Nat) (t34 : Nat) (t35 : Nat) (t36 : Nat) : KK l D (TY cyC cyI cyJ cyZ cyO) yX10_count cX10_count 2 (some .int) ({ frames := 1, cells := 0, slots := 0, locals := 23 } : Room) 0 0 [.ref t0, .int p0] [(t0, .inr (10, [.ref t1, .ref t21, .ref t32, .ref t37, .ref t42, .ref t43, .ref t45, .ref t50, .ref t54, .ref t58])), (t1, .inr (5, [.ref t2, .ref t4, .ref t8, .ref t9, .ref t10, .int 0, .int 0])), (t2, .inr (8, [.ref t3, .int 0, .int 0, .int 0, .int 0, .int 0])), (t21, .inr (9, [.int 0, .int 0, .int 0, .ref t22, .ref t23, .ref t24, .ref t25, .ref t26, .ref t27, .int 0, .int 0, .ref t28, .ref t29, .ref t30, .ref t31])), (t32, .inr (7, [.ref t33, .ref t34, .ref t35, .ref t36, .int 0, .int 0, .int 0]))] (fun u => some (.int (u.2.1 0))) (fun u => u.2.1 0 = (if 0 ≤ p0 ∧ p0 ≤ 5 then 0 else -1)) (fun u => []) := by
  refine KK.of (lv0 := [(0, .ref t0), (1, .int p0)]) (by decide) rfl (Nat.le_of_ble_eq_true rfl) ?_
  intro p e s m args below meth c A C hr hk hin
  refine j_iload_n (pc := 0) C dX10_count_0 rfl 1 rfl ?_
  rcases sw_6 p0 with sw_1 | sw_1 | sw_1 | sw_1 | sw_1 | sw_1 | sw_1
  · skip
    refine j_tout (pc := 1) (tgt := 98) C dX10_count_1 sw_1 (by decide) ?_
    refine j_iconst (pc := 98) (v := (-1)) C dX10_count_98 (by decide) ?_
    exact j_iret (pc := 99) C hr hk (fun _ => 0, fun _ => (-1), fun _ _ => 0) rfl (by show ((-1) : Int32) = (if 0 ≤ p0 ∧ p0 ≤ 5 then 0 else -1); have e0 : (0 : Int32).toInt = 0 := rfl; have e5 : (5 : Int32).toInt = 5 := rfl; exact if hE : 0 ≤ p0 ∧ p0 ≤ 5 then (by first | exact (if_pos hE).symm | (exfalso; simp only [i_lt, i_le, i_eq] at hE sw_1; omega)) else (by first | exact (if_neg hE).symm | (exfalso; simp only [i_lt, i_le, i_eq] at hE sw_1; omega))) [] (by decide) rfl (by decide) (by decide) dX10_count_99
  · skip
    refine j_tin (pc := 1) (off := 39) (tgt := 40) C dX10_count_1 (by rw [sw_1]; decide) (by rw [sw_1]; decide) (by rw [sw_1]; decide) (by decide) ?_
    refine j_aload_n (pc := 40) C dX10_count_40 rfl 0 rfl ?_
    refine j_get (pc := 41) (ci := 10) (v := .ref t21) C inw_10 0 rfl rfl 1 (by decide) wd_77 rfl rfl dX10_count_41 ?_
    refine j_get (pc := 44) (ci := 9) (v := .int 0) C inw_9 3 rfl rfl 0 (by decide) wd_286 rfl rfl dX10_count_44 ?_
    exact j_iret (pc := 47) C hr hk (fun _ => 0, fun _ => 0, fun _ _ => 0) rfl (by show (0 : Int32) = (if 0 ≤ p0 ∧ p0 ≤ 5 then 0 else -1); have e0 : (0 : Int32).toInt = 0 := rfl; have e5 : (5 : Int32).toInt = 5 := rfl; exact if hE : 0 ≤ p0 ∧ p0 ≤ 5 then (by first | exact (if_pos hE).symm | (exfalso; simp only [i_lt, i_le, i_eq] at hE sw_1; omega)) else (by first | exact (if_neg hE).symm | (exfalso; simp only [i_lt, i_le, i_eq] at hE sw_1; omega))) [] (by decide) rfl (by decide) (by decide) dX10_count_47
  · skip
    refine j_tin (pc := 1) (off := 47) (tgt := 48) C dX10_count_1 (by rw [sw_1]; decide) (by rw [sw_1]; decide) (by rw [sw_1]; decide) (by decide) ?_
    refine j_aload_n (pc := 48) C dX10_count_48 rfl 0 rfl ?_
    refine j_get (pc := 49) (ci := 10) (v := .ref t21) C inw_10 0 rfl rfl 1 (by decide) wd_77 rfl rfl dX10_count_49 ?_
    refine j_get (pc := 52) (ci := 9) (v := .int 0) C inw_9 3 rfl rfl 1 (by decide) wd_304 rfl rfl dX10_count_52 ?_
    exact j_iret (pc := 55) C hr hk (fun _ => 0, fun _ => 0, fun _ _ => 0) rfl (by show (0 : Int32) = (if 0 ≤ p0 ∧ p0 ≤ 5 then 0 else -1); have e0 : (0 : Int32).toInt = 0 := rfl; have e1 : (1 : Int32).toInt = 1 := rfl; have e5 : (5 : Int32).toInt = 5 := rfl; exact if hE : 0 ≤ p0 ∧ p0 ≤ 5 then (by first | exact (if_pos hE).symm | (exfalso; simp only [i_lt, i_le, i_eq] at hE sw_1; omega)) else (by first | exact (if_neg hE).symm | (exfalso; simp only [i_lt, i_le, i_eq] at hE sw_1; omega))) [] (by decide) rfl (by decide) (by decide) dX10_count_55
  · skip
    refine j_tin (pc := 1) (off := 55) (tgt := 56) C dX10_count_1 (by rw [sw_1]; decide) (by rw [sw_1]; decide) (by rw [sw_1]; decide) (by decide) ?_
    refine j_aload_n (pc := 56) C dX10_count_56 rfl 0 rfl ?_
    refine j_get (pc := 57) (ci := 10) (v := .ref t21) C inw_10 0 rfl rfl 1 (by decide) wd_77 rfl rfl dX10_count_57 ?_
    refine j_get (pc := 60) (ci := 9) (v := .int 0) C inw_9 3 rfl rfl 2 (by decide) wd_305 rfl rfl dX10_count_60 ?_
    exact j_iret (pc := 63) C hr hk (fun _ => 0, fun _ => 0, fun _ _ => 0) rfl (by show (0 : Int32) = (if 0 ≤ p0 ∧ p0 ≤ 5 then 0 else -1); have e0 : (0 : Int32).toInt = 0 := rfl; have e2 : (2 : Int32).toInt = 2 := rfl; have e5 : (5 : Int32).toInt = 5 := rfl; exact if hE : 0 ≤ p0 ∧ p0 ≤ 5 then (by first | exact (if_pos hE).symm | (exfalso; simp only [i_lt, i_le, i_eq] at hE sw_1; omega)) else (by first | exact (if_neg hE).symm | (exfalso; simp only [i_lt, i_le, i_eq] at hE sw_1; omega))) [] (by decide) rfl (by decide) (by decide) dX10_count_63
  · skip
    refine j_tin (pc := 1) (off := 63) (tgt := 64) C dX10_count_1 (by rw [sw_1]; decide) (by rw [sw_1]; decide) (by rw [sw_1]; decide) (by decide) ?_
    refine j_aload_n (pc := 64) C dX10_count_64 rfl 0 rfl ?_
    refine j_get (pc := 65) (ci := 10) (v := .ref t32) C inw_10 0 rfl rfl 2 (by decide) wd_84 rfl rfl dX10_count_65 ?_
    refine j_aload_n (pc := 68) C dX10_count_68 rfl 0 rfl ?_
    refine j_get (pc := 69) (ci := 10) (v := .ref t21) C inw_10 0 rfl rfl 1 (by decide) wd_77 rfl rfl dX10_count_69 ?_
    refine j_get (pc := 72) (ci := 9) (v := .int 0) C inw_9 3 rfl rfl 0 (by decide) wd_286 rfl rfl dX10_count_72 ?_
    refine j_callV (pc := 75) (As := [.int 0]) (rest := []) (wr := [(t0, .inr (10, [.ref t1, .ref t21, .ref t32, .ref t37, .ref t42, .ref t43, .ref t45, .ref t50, .ref t54, .ref t58])), (t1, .inr (5, [.ref t2, .ref t4, .ref t8, .ref t9, .ref t10, .int 0, .int 0])), (t2, .inr (8, [.ref t3, .int 0, .int 0, .int 0, .int 0, .int 0])), (t21, .inr (9, [.int 0, .int 0, .int 0, .ref t22, .ref t23, .ref t24, .ref t25, .ref t26, .ref t27, .int 0, .int 0, .ref t28, .ref t29, .ref t30, .ref t31])), (t32, .inr (7, [.ref t33, .ref t34, .ref t35, .ref t36, .int 0, .int 0, .int 0]))]) C (c_X7_outOf l D cyC cyI cyJ cyZ cyO t32) wd_306 wd_80 wd_307 wd_308 wd_309 ⟨by decide, by decide, rfl⟩ rfl ⟨rfl, rfl, by decide, by decide⟩ ⟨by decide, by decide⟩ [] [0, 1, 2, 3, 4] rfl rfl ⟨by decide, by decide, by decide⟩ 4 rfl rfl rfl (Nat.le_of_ble_eq_true rfl) dX10_count_75 (fun u_2 hw_3 => ?_)
    refine j_eq (ws2 := [(t0, .inr (10, [.ref t1, .ref t21, .ref t32, .ref t37, .ref t42, .ref t43, .ref t45, .ref t50, .ref t54, .ref t58])), (t1, .inr (5, [.ref t2, .ref t4, .ref t8, .ref t9, .ref t10, .int 0, .int 0])), (t2, .inr (8, [.ref t3, .int 0, .int 0, .int 0, .int 0, .int 0])), (t21, .inr (9, [.int 0, .int 0, .int 0, .ref t22, .ref t23, .ref t24, .ref t25, .ref t26, .ref t27, .int 0, .int 0, .ref t28, .ref t29, .ref t30, .ref t31])), (t32, .inr (7, [.ref t33, .ref t34, .ref t35, .ref t36, .int 0, .int 0, .int 0]))]) (pc2 := 78) (lv2 := [(0, .ref t0), (1, .int p0)]) (st2 := [.int 0]) rfl rfl rfl rfl ?_
    exact j_iret (pc := 78) C hr hk (fun _ => 0, fun _ => 0, fun _ _ => 0) rfl (by show (0 : Int32) = (if 0 ≤ p0 ∧ p0 ≤ 5 then 0 else -1); have e0 : (0 : Int32).toInt = 0 := rfl; have e3 : (3 : Int32).toInt = 3 := rfl; have e5 : (5 : Int32).toInt = 5 := rfl; exact if hE : 0 ≤ p0 ∧ p0 ≤ 5 then (by first | exact (if_pos hE).symm | (exfalso; simp only [i_lt, i_le, i_eq] at hE sw_1; omega)) else (by first | exact (if_neg hE).symm | (exfalso; simp only [i_lt, i_le, i_eq] at hE sw_1; omega))) [] (by decide) rfl (by decide) (by decide) dX10_count_78
  · skip
    refine j_tin (pc := 1) (off := 78) (tgt := 79) C dX10_count_1 (by rw [sw_1]; decide) (by rw [sw_1]; decide) (by rw [sw_1]; decide) (by decide) ?_
    refine j_aload_n (pc := 79) C dX10_count_79 rfl 0 rfl ?_
    refine j_get (pc := 80) (ci := 10) (v := .ref t32) C inw_10 0 rfl rfl 2 (by decide) wd_84 rfl rfl dX10_count_80 ?_
    refine j_get (pc := 83) (ci := 7) (v := .int 0) C inw_7 4 rfl rfl 4 (by decide) wd_185 rfl rfl dX10_count_83 ?_
    exact j_iret (pc := 86) C hr hk (fun _ => 0, fun _ => 0, fun _ _ => 0) rfl (by show (0 : Int32) = (if 0 ≤ p0 ∧ p0 ≤ 5 then 0 else -1); have e0 : (0 : Int32).toInt = 0 := rfl; have e4 : (4 : Int32).toInt = 4 := rfl; have e5 : (5 : Int32).toInt = 5 := rfl; exact if hE : 0 ≤ p0 ∧ p0 ≤ 5 then (by first | exact (if_pos hE).symm | (exfalso; simp only [i_lt, i_le, i_eq] at hE sw_1; omega)) else (by first | exact (if_neg hE).symm | (exfalso; simp only [i_lt, i_le, i_eq] at hE sw_1; omega))) [] (by decide) rfl (by decide) (by decide) dX10_count_86
  · skip
    refine j_tin (pc := 1) (off := 86) (tgt := 87) C dX10_count_1 (by rw [sw_1]; decide) (by rw [sw_1]; decide) (by rw [sw_1]; decide) (by decide) ?_
    refine j_aload_n (pc := 87) C dX10_count_87 rfl 0 rfl ?_
    refine j_get (pc := 88) (ci := 10) (v := .ref t1) C inw_10 0 rfl rfl 0 (by decide) wd_75 rfl rfl dX10_count_88 ?_
    refine j_get (pc := 91) (ci := 5) (v := .ref t2) C inw_5 1 rfl rfl 0 (by decide) wd_310 rfl rfl dX10_count_91 ?_
    refine j_get (pc := 94) (ci := 8) (v := .int 0) C inw_8 2 rfl rfl 1 (by decide) wd_311 rfl rfl dX10_count_94 ?_
    exact j_iret (pc := 97) C hr hk (fun _ => 0, fun _ => 0, fun _ _ => 0) rfl (by show (0 : Int32) = (if 0 ≤ p0 ∧ p0 ≤ 5 then 0 else -1); have e0 : (0 : Int32).toInt = 0 := rfl; have e5 : (5 : Int32).toInt = 5 := rfl; exact if hE : 0 ≤ p0 ∧ p0 ≤ 5 then (by first | exact (if_pos hE).symm | (exfalso; simp only [i_lt, i_le, i_eq] at hE sw_1; omega)) else (by first | exact (if_neg hE).symm | (exfalso; simp only [i_lt, i_le, i_eq] at hE sw_1; omega))) [] (by decide) rfl (by decide) (by decide) dX10_count_97
set_option maxHeartbeats 4000000 in
set_option maxRecDepth 100000 in
theorem c_X7_copy_0 (l : Launch) (D : va_G) (cyC cyI cyJ cyZ cyO : ClassId) (t60 : Nat) (t32 : Nat) (t33 : Nat) (t34 : Nat) (t35 : Nat) (t36 : Nat) (t61 : Nat) (t62 : Nat) (t63 : Nat) (t64 : Nat) : KK l D (TY cyC cyI cyJ cyZ cyO) yX7_copy cX7_copy 2 none ({ frames := 1, cells := 0, slots := 0, locals := 18 } : Room) 0 0 [.ref t60, .ref t32] [(t32, .inr (7, [.ref t33, .ref t34, .ref t35, .ref t36, .int 0, .int 0, .int 0])), (t33, .inl (cyI, 12, .inl (fun _ => (-1)))), (t34, .inl (cyI, 12, .inl (fun _ => 0))), (t35, .inl (cyI, 12, .inl (fun _ => 0))), (t36, .inl (cyI, 30, .inl (fun _ => 0))), (t60, .inr (7, [.ref t61, .ref t62, .ref t63, .ref t64, .int 0, .int 0, .int 0])), (t61, .inl (cyI, 12, .inl (fun _ => (-1)))), (t62, .inl (cyI, 12, .inl (fun _ => 0))), (t63, .inl (cyI, 12, .inl (fun _ => 0))), (t64, .inl (cyI, 30, .inl (fun _ => 0)))] (fun u => none) (fun u => True) (fun u => [(t32, .inr (7, [.ref t33, .ref t34, .ref t35, .ref t36, .int 0, .int 0, .int 0])), (t33, .inl (cyI, 12, .inl (fun _ => (-1)))), (t34, .inl (cyI, 12, .inl (fun _ => 0))), (t35, .inl (cyI, 12, .inl (fun _ => 0))), (t36, .inl (cyI, 30, .inl (fun _ => 0))), (t60, .inr (7, [.ref t61, .ref t62, .ref t63, .ref t64, .int 0, .int 0, .int 0])), (t61, .inl (cyI, 12, .inl (va_cpy (fun _ => (-1)) (fun _ => (-1)) 0 0 12))), (t62, .inl (cyI, 12, .inl (va_cpy (fun _ => 0) (fun _ => 0) 0 0 12))), (t63, .inl (cyI, 12, .inl (va_cpy (fun _ => 0) (fun _ => 0) 0 0 12))), (t64, .inl (cyI, 30, .inl (va_cpy (fun _ => 0) (fun _ => 0) 0 0 30)))]) := by
  refine KK.of (lv0 := [(0, .ref t60), (1, .ref t32)]) (by decide) rfl (Nat.le_of_ble_eq_true rfl) ?_
  intro p e s m args below meth c A C hr hk hin
  refine j_aload_n (pc := 0) C dX7_copy_0 rfl 1 rfl ?_
  refine j_get (pc := 1) (ci := 7) (v := .ref t33) C inw_7 0 rfl rfl 0 (by decide) wd_44 rfl rfl dX7_copy_1 ?_
  refine j_iconst (pc := 4) (v := 0) C dX7_copy_4 (by decide) ?_
  refine j_aload_n (pc := 5) C dX7_copy_5 rfl 0 rfl ?_
  refine j_get (pc := 6) (ci := 7) (v := .ref t61) C inw_7 5 rfl rfl 0 (by decide) wd_44 rfl rfl dX7_copy_6 ?_
  refine j_iconst (pc := 9) (v := 0) C dX7_copy_9 (by decide) ?_
  refine j_bipush (pc := 10) (v := 12) C dX7_copy_10 (by decide) ?_
  refine j_acpy (pc := 12) (ks := 0) (kd := 0) (kn := 12) (ws' := [(t32, .inr (7, [.ref t33, .ref t34, .ref t35, .ref t36, .int 0, .int 0, .int 0])), (t33, .inl (cyI, 12, .inl (fun _ => (-1)))), (t34, .inl (cyI, 12, .inl (fun _ => 0))), (t35, .inl (cyI, 12, .inl (fun _ => 0))), (t36, .inl (cyI, 30, .inl (fun _ => 0))), (t60, .inr (7, [.ref t61, .ref t62, .ref t63, .ref t64, .int 0, .int 0, .int 0])), (t61, .inl (cyI, 12, .inl (va_cpy (fun _ => (-1)) (fun _ => (-1)) 0 0 12))), (t62, .inl (cyI, 12, .inl (fun _ => 0))), (t63, .inl (cyI, 12, .inl (fun _ => 0))), (t64, .inl (cyI, 30, .inl (fun _ => 0)))]) C wd_298 wd_237 wd_238 wd_239 1 6 1 rfl rfl rfl (by decide) (by decide) (by decide) (by decide) (by decide) (by decide) (by decide) (by decide) (by decide) (Nat.le_of_ble_eq_true rfl) dX7_copy_12 rfl ?_
  refine j_aload_n (pc := 15) C dX7_copy_15 rfl 1 rfl ?_
  refine j_get (pc := 16) (ci := 7) (v := .ref t34) C inw_7 0 rfl rfl 1 (by decide) wd_45 rfl rfl dX7_copy_16 ?_
  refine j_iconst (pc := 19) (v := 0) C dX7_copy_19 (by decide) ?_
  refine j_aload_n (pc := 20) C dX7_copy_20 rfl 0 rfl ?_
  refine j_get (pc := 21) (ci := 7) (v := .ref t62) C inw_7 5 rfl rfl 1 (by decide) wd_45 rfl rfl dX7_copy_21 ?_
  refine j_iconst (pc := 24) (v := 0) C dX7_copy_24 (by decide) ?_
  refine j_bipush (pc := 25) (v := 12) C dX7_copy_25 (by decide) ?_
  refine j_acpy (pc := 27) (ks := 0) (kd := 0) (kn := 12) (ws' := [(t32, .inr (7, [.ref t33, .ref t34, .ref t35, .ref t36, .int 0, .int 0, .int 0])), (t33, .inl (cyI, 12, .inl (fun _ => (-1)))), (t34, .inl (cyI, 12, .inl (fun _ => 0))), (t35, .inl (cyI, 12, .inl (fun _ => 0))), (t36, .inl (cyI, 30, .inl (fun _ => 0))), (t60, .inr (7, [.ref t61, .ref t62, .ref t63, .ref t64, .int 0, .int 0, .int 0])), (t61, .inl (cyI, 12, .inl (va_cpy (fun _ => (-1)) (fun _ => (-1)) 0 0 12))), (t62, .inl (cyI, 12, .inl (va_cpy (fun _ => 0) (fun _ => 0) 0 0 12))), (t63, .inl (cyI, 12, .inl (fun _ => 0))), (t64, .inl (cyI, 30, .inl (fun _ => 0)))]) C wd_298 wd_237 wd_238 wd_239 2 7 1 rfl rfl rfl (by decide) (by decide) (by decide) (by decide) (by decide) (by decide) (by decide) (by decide) (by decide) (Nat.le_of_ble_eq_true rfl) dX7_copy_27 rfl ?_
  refine j_aload_n (pc := 30) C dX7_copy_30 rfl 1 rfl ?_
  refine j_get (pc := 31) (ci := 7) (v := .ref t35) C inw_7 0 rfl rfl 2 (by decide) wd_46 rfl rfl dX7_copy_31 ?_
  refine j_iconst (pc := 34) (v := 0) C dX7_copy_34 (by decide) ?_
  refine j_aload_n (pc := 35) C dX7_copy_35 rfl 0 rfl ?_
  refine j_get (pc := 36) (ci := 7) (v := .ref t63) C inw_7 5 rfl rfl 2 (by decide) wd_46 rfl rfl dX7_copy_36 ?_
  refine j_iconst (pc := 39) (v := 0) C dX7_copy_39 (by decide) ?_
  refine j_bipush (pc := 40) (v := 12) C dX7_copy_40 (by decide) ?_
  refine j_acpy (pc := 42) (ks := 0) (kd := 0) (kn := 12) (ws' := [(t32, .inr (7, [.ref t33, .ref t34, .ref t35, .ref t36, .int 0, .int 0, .int 0])), (t33, .inl (cyI, 12, .inl (fun _ => (-1)))), (t34, .inl (cyI, 12, .inl (fun _ => 0))), (t35, .inl (cyI, 12, .inl (fun _ => 0))), (t36, .inl (cyI, 30, .inl (fun _ => 0))), (t60, .inr (7, [.ref t61, .ref t62, .ref t63, .ref t64, .int 0, .int 0, .int 0])), (t61, .inl (cyI, 12, .inl (va_cpy (fun _ => (-1)) (fun _ => (-1)) 0 0 12))), (t62, .inl (cyI, 12, .inl (va_cpy (fun _ => 0) (fun _ => 0) 0 0 12))), (t63, .inl (cyI, 12, .inl (va_cpy (fun _ => 0) (fun _ => 0) 0 0 12))), (t64, .inl (cyI, 30, .inl (fun _ => 0)))]) C wd_298 wd_237 wd_238 wd_239 3 8 1 rfl rfl rfl (by decide) (by decide) (by decide) (by decide) (by decide) (by decide) (by decide) (by decide) (by decide) (Nat.le_of_ble_eq_true rfl) dX7_copy_42 rfl ?_
  refine j_aload_n (pc := 45) C dX7_copy_45 rfl 1 rfl ?_
  refine j_get (pc := 46) (ci := 7) (v := .ref t36) C inw_7 0 rfl rfl 3 (by decide) wd_47 rfl rfl dX7_copy_46 ?_
  refine j_iconst (pc := 49) (v := 0) C dX7_copy_49 (by decide) ?_
  refine j_aload_n (pc := 50) C dX7_copy_50 rfl 0 rfl ?_
  refine j_get (pc := 51) (ci := 7) (v := .ref t64) C inw_7 5 rfl rfl 3 (by decide) wd_47 rfl rfl dX7_copy_51 ?_
  refine j_iconst (pc := 54) (v := 0) C dX7_copy_54 (by decide) ?_
  refine j_bipush (pc := 55) (v := 30) C dX7_copy_55 (by decide) ?_
  refine j_acpy (pc := 57) (ks := 0) (kd := 0) (kn := 30) (ws' := [(t32, .inr (7, [.ref t33, .ref t34, .ref t35, .ref t36, .int 0, .int 0, .int 0])), (t33, .inl (cyI, 12, .inl (fun _ => (-1)))), (t34, .inl (cyI, 12, .inl (fun _ => 0))), (t35, .inl (cyI, 12, .inl (fun _ => 0))), (t36, .inl (cyI, 30, .inl (fun _ => 0))), (t60, .inr (7, [.ref t61, .ref t62, .ref t63, .ref t64, .int 0, .int 0, .int 0])), (t61, .inl (cyI, 12, .inl (va_cpy (fun _ => (-1)) (fun _ => (-1)) 0 0 12))), (t62, .inl (cyI, 12, .inl (va_cpy (fun _ => 0) (fun _ => 0) 0 0 12))), (t63, .inl (cyI, 12, .inl (va_cpy (fun _ => 0) (fun _ => 0) 0 0 12))), (t64, .inl (cyI, 30, .inl (va_cpy (fun _ => 0) (fun _ => 0) 0 0 30)))]) C wd_298 wd_237 wd_238 wd_239 4 9 1 rfl rfl rfl (by decide) (by decide) (by decide) (by decide) (by decide) (by decide) (by decide) (by decide) (by decide) (Nat.le_of_ble_eq_true rfl) dX7_copy_57 rfl ?_
  refine j_aload_n (pc := 60) C dX7_copy_60 rfl 0 rfl ?_
  refine j_aload_n (pc := 61) C dX7_copy_61 rfl 1 rfl ?_
  refine j_get (pc := 62) (ci := 7) (v := .int 0) C inw_7 0 rfl rfl 4 (by decide) wd_231 rfl rfl dX7_copy_62 ?_
  refine j_put (pc := 65) (ci := 7) (v := .int 0) (ws' := [(t32, .inr (7, [.ref t33, .ref t34, .ref t35, .ref t36, .int 0, .int 0, .int 0])), (t33, .inl (cyI, 12, .inl (fun _ => (-1)))), (t34, .inl (cyI, 12, .inl (fun _ => 0))), (t35, .inl (cyI, 12, .inl (fun _ => 0))), (t36, .inl (cyI, 30, .inl (fun _ => 0))), (t60, .inr (7, [.ref t61, .ref t62, .ref t63, .ref t64, .int 0, .int 0, .int 0])), (t61, .inl (cyI, 12, .inl (va_cpy (fun _ => (-1)) (fun _ => (-1)) 0 0 12))), (t62, .inl (cyI, 12, .inl (va_cpy (fun _ => 0) (fun _ => 0) 0 0 12))), (t63, .inl (cyI, 12, .inl (va_cpy (fun _ => 0) (fun _ => 0) 0 0 12))), (t64, .inl (cyI, 30, .inl (va_cpy (fun _ => 0) (fun _ => 0) 0 0 30)))]) C inw_7 5 rfl rfl 4 (by decide) wd_231 rfl tyX7_ok nmX7 rfl (tyX7_ok 4 (by decide)) rfl rfl (Nat.le_of_ble_eq_true rfl) dX7_copy_65 rfl ?_
  refine j_aload_n (pc := 68) C dX7_copy_68 rfl 0 rfl ?_
  refine j_aload_n (pc := 69) C dX7_copy_69 rfl 1 rfl ?_
  refine j_get (pc := 70) (ci := 7) (v := .int 0) C inw_7 0 rfl rfl 5 (by decide) wd_299 rfl rfl dX7_copy_70 ?_
  refine j_put (pc := 73) (ci := 7) (v := .int 0) (ws' := [(t32, .inr (7, [.ref t33, .ref t34, .ref t35, .ref t36, .int 0, .int 0, .int 0])), (t33, .inl (cyI, 12, .inl (fun _ => (-1)))), (t34, .inl (cyI, 12, .inl (fun _ => 0))), (t35, .inl (cyI, 12, .inl (fun _ => 0))), (t36, .inl (cyI, 30, .inl (fun _ => 0))), (t60, .inr (7, [.ref t61, .ref t62, .ref t63, .ref t64, .int 0, .int 0, .int 0])), (t61, .inl (cyI, 12, .inl (va_cpy (fun _ => (-1)) (fun _ => (-1)) 0 0 12))), (t62, .inl (cyI, 12, .inl (va_cpy (fun _ => 0) (fun _ => 0) 0 0 12))), (t63, .inl (cyI, 12, .inl (va_cpy (fun _ => 0) (fun _ => 0) 0 0 12))), (t64, .inl (cyI, 30, .inl (va_cpy (fun _ => 0) (fun _ => 0) 0 0 30)))]) C inw_7 5 rfl rfl 5 (by decide) wd_299 rfl tyX7_ok nmX7 rfl (tyX7_ok 5 (by decide)) rfl rfl (Nat.le_of_ble_eq_true rfl) dX7_copy_73 rfl ?_
  exact j_vret (pc := 76) C hr hk (fun i => [].getD i 0, fun _ => 0, fun _ _ => 0) rfl trivial [0, 1, 2, 3, 4, 5, 6, 7, 8, 9] (by decide) rfl (by decide) (by decide) dX7_copy_76
set_option maxHeartbeats 4000000 in
set_option maxRecDepth 100000 in
theorem c_X7_copy_1 (l : Launch) (D : va_G) (cyC cyI cyJ cyZ cyO : ClassId) (t65 : Nat) (t32 : Nat) (t33 : Nat) (t34 : Nat) (t35 : Nat) (t36 : Nat) (t66 : Nat) (t67 : Nat) (t68 : Nat) (t69 : Nat) : KK l D (TY cyC cyI cyJ cyZ cyO) yX7_copy cX7_copy 2 none ({ frames := 1, cells := 0, slots := 0, locals := 18 } : Room) 0 0 [.ref t65, .ref t32] [(t32, .inr (7, [.ref t33, .ref t34, .ref t35, .ref t36, .int 0, .int 0, .int 0])), (t33, .inl (cyI, 12, .inl (fun _ => (-1)))), (t34, .inl (cyI, 12, .inl (fun _ => 0))), (t35, .inl (cyI, 12, .inl (fun _ => 0))), (t36, .inl (cyI, 30, .inl (fun _ => 0))), (t65, .inr (7, [.ref t66, .ref t67, .ref t68, .ref t69, .int 0, .int 0, .int 0])), (t66, .inl (cyI, 12, .inl (fun _ => (-1)))), (t67, .inl (cyI, 12, .inl (fun _ => 0))), (t68, .inl (cyI, 12, .inl (fun _ => 0))), (t69, .inl (cyI, 30, .inl (fun _ => 0)))] (fun u => none) (fun u => True) (fun u => [(t32, .inr (7, [.ref t33, .ref t34, .ref t35, .ref t36, .int 0, .int 0, .int 0])), (t33, .inl (cyI, 12, .inl (fun _ => (-1)))), (t34, .inl (cyI, 12, .inl (fun _ => 0))), (t35, .inl (cyI, 12, .inl (fun _ => 0))), (t36, .inl (cyI, 30, .inl (fun _ => 0))), (t65, .inr (7, [.ref t66, .ref t67, .ref t68, .ref t69, .int 0, .int 0, .int 0])), (t66, .inl (cyI, 12, .inl (va_cpy (fun _ => (-1)) (fun _ => (-1)) 0 0 12))), (t67, .inl (cyI, 12, .inl (va_cpy (fun _ => 0) (fun _ => 0) 0 0 12))), (t68, .inl (cyI, 12, .inl (va_cpy (fun _ => 0) (fun _ => 0) 0 0 12))), (t69, .inl (cyI, 30, .inl (va_cpy (fun _ => 0) (fun _ => 0) 0 0 30)))]) := by
  refine KK.of (lv0 := [(0, .ref t65), (1, .ref t32)]) (by decide) rfl (Nat.le_of_ble_eq_true rfl) ?_
  intro p e s m args below meth c A C hr hk hin
  refine j_aload_n (pc := 0) C dX7_copy_0 rfl 1 rfl ?_
  refine j_get (pc := 1) (ci := 7) (v := .ref t33) C inw_7 0 rfl rfl 0 (by decide) wd_44 rfl rfl dX7_copy_1 ?_
  refine j_iconst (pc := 4) (v := 0) C dX7_copy_4 (by decide) ?_
  refine j_aload_n (pc := 5) C dX7_copy_5 rfl 0 rfl ?_
  refine j_get (pc := 6) (ci := 7) (v := .ref t66) C inw_7 5 rfl rfl 0 (by decide) wd_44 rfl rfl dX7_copy_6 ?_
  refine j_iconst (pc := 9) (v := 0) C dX7_copy_9 (by decide) ?_
  refine j_bipush (pc := 10) (v := 12) C dX7_copy_10 (by decide) ?_
  refine j_acpy (pc := 12) (ks := 0) (kd := 0) (kn := 12) (ws' := [(t32, .inr (7, [.ref t33, .ref t34, .ref t35, .ref t36, .int 0, .int 0, .int 0])), (t33, .inl (cyI, 12, .inl (fun _ => (-1)))), (t34, .inl (cyI, 12, .inl (fun _ => 0))), (t35, .inl (cyI, 12, .inl (fun _ => 0))), (t36, .inl (cyI, 30, .inl (fun _ => 0))), (t65, .inr (7, [.ref t66, .ref t67, .ref t68, .ref t69, .int 0, .int 0, .int 0])), (t66, .inl (cyI, 12, .inl (va_cpy (fun _ => (-1)) (fun _ => (-1)) 0 0 12))), (t67, .inl (cyI, 12, .inl (fun _ => 0))), (t68, .inl (cyI, 12, .inl (fun _ => 0))), (t69, .inl (cyI, 30, .inl (fun _ => 0)))]) C wd_298 wd_237 wd_238 wd_239 1 6 1 rfl rfl rfl (by decide) (by decide) (by decide) (by decide) (by decide) (by decide) (by decide) (by decide) (by decide) (Nat.le_of_ble_eq_true rfl) dX7_copy_12 rfl ?_
  refine j_aload_n (pc := 15) C dX7_copy_15 rfl 1 rfl ?_
  refine j_get (pc := 16) (ci := 7) (v := .ref t34) C inw_7 0 rfl rfl 1 (by decide) wd_45 rfl rfl dX7_copy_16 ?_
  refine j_iconst (pc := 19) (v := 0) C dX7_copy_19 (by decide) ?_
  refine j_aload_n (pc := 20) C dX7_copy_20 rfl 0 rfl ?_
  refine j_get (pc := 21) (ci := 7) (v := .ref t67) C inw_7 5 rfl rfl 1 (by decide) wd_45 rfl rfl dX7_copy_21 ?_
  refine j_iconst (pc := 24) (v := 0) C dX7_copy_24 (by decide) ?_
  refine j_bipush (pc := 25) (v := 12) C dX7_copy_25 (by decide) ?_
  refine j_acpy (pc := 27) (ks := 0) (kd := 0) (kn := 12) (ws' := [(t32, .inr (7, [.ref t33, .ref t34, .ref t35, .ref t36, .int 0, .int 0, .int 0])), (t33, .inl (cyI, 12, .inl (fun _ => (-1)))), (t34, .inl (cyI, 12, .inl (fun _ => 0))), (t35, .inl (cyI, 12, .inl (fun _ => 0))), (t36, .inl (cyI, 30, .inl (fun _ => 0))), (t65, .inr (7, [.ref t66, .ref t67, .ref t68, .ref t69, .int 0, .int 0, .int 0])), (t66, .inl (cyI, 12, .inl (va_cpy (fun _ => (-1)) (fun _ => (-1)) 0 0 12))), (t67, .inl (cyI, 12, .inl (va_cpy (fun _ => 0) (fun _ => 0) 0 0 12))), (t68, .inl (cyI, 12, .inl (fun _ => 0))), (t69, .inl (cyI, 30, .inl (fun _ => 0)))]) C wd_298 wd_237 wd_238 wd_239 2 7 1 rfl rfl rfl (by decide) (by decide) (by decide) (by decide) (by decide) (by decide) (by decide) (by decide) (by decide) (Nat.le_of_ble_eq_true rfl) dX7_copy_27 rfl ?_
  refine j_aload_n (pc := 30) C dX7_copy_30 rfl 1 rfl ?_
  refine j_get (pc := 31) (ci := 7) (v := .ref t35) C inw_7 0 rfl rfl 2 (by decide) wd_46 rfl rfl dX7_copy_31 ?_
  refine j_iconst (pc := 34) (v := 0) C dX7_copy_34 (by decide) ?_
  refine j_aload_n (pc := 35) C dX7_copy_35 rfl 0 rfl ?_
  refine j_get (pc := 36) (ci := 7) (v := .ref t68) C inw_7 5 rfl rfl 2 (by decide) wd_46 rfl rfl dX7_copy_36 ?_
  refine j_iconst (pc := 39) (v := 0) C dX7_copy_39 (by decide) ?_
  refine j_bipush (pc := 40) (v := 12) C dX7_copy_40 (by decide) ?_
  refine j_acpy (pc := 42) (ks := 0) (kd := 0) (kn := 12) (ws' := [(t32, .inr (7, [.ref t33, .ref t34, .ref t35, .ref t36, .int 0, .int 0, .int 0])), (t33, .inl (cyI, 12, .inl (fun _ => (-1)))), (t34, .inl (cyI, 12, .inl (fun _ => 0))), (t35, .inl (cyI, 12, .inl (fun _ => 0))), (t36, .inl (cyI, 30, .inl (fun _ => 0))), (t65, .inr (7, [.ref t66, .ref t67, .ref t68, .ref t69, .int 0, .int 0, .int 0])), (t66, .inl (cyI, 12, .inl (va_cpy (fun _ => (-1)) (fun _ => (-1)) 0 0 12))), (t67, .inl (cyI, 12, .inl (va_cpy (fun _ => 0) (fun _ => 0) 0 0 12))), (t68, .inl (cyI, 12, .inl (va_cpy (fun _ => 0) (fun _ => 0) 0 0 12))), (t69, .inl (cyI, 30, .inl (fun _ => 0)))]) C wd_298 wd_237 wd_238 wd_239 3 8 1 rfl rfl rfl (by decide) (by decide) (by decide) (by decide) (by decide) (by decide) (by decide) (by decide) (by decide) (Nat.le_of_ble_eq_true rfl) dX7_copy_42 rfl ?_
  refine j_aload_n (pc := 45) C dX7_copy_45 rfl 1 rfl ?_
  refine j_get (pc := 46) (ci := 7) (v := .ref t36) C inw_7 0 rfl rfl 3 (by decide) wd_47 rfl rfl dX7_copy_46 ?_
  refine j_iconst (pc := 49) (v := 0) C dX7_copy_49 (by decide) ?_
  refine j_aload_n (pc := 50) C dX7_copy_50 rfl 0 rfl ?_
  refine j_get (pc := 51) (ci := 7) (v := .ref t69) C inw_7 5 rfl rfl 3 (by decide) wd_47 rfl rfl dX7_copy_51 ?_
  refine j_iconst (pc := 54) (v := 0) C dX7_copy_54 (by decide) ?_
  refine j_bipush (pc := 55) (v := 30) C dX7_copy_55 (by decide) ?_
  refine j_acpy (pc := 57) (ks := 0) (kd := 0) (kn := 30) (ws' := [(t32, .inr (7, [.ref t33, .ref t34, .ref t35, .ref t36, .int 0, .int 0, .int 0])), (t33, .inl (cyI, 12, .inl (fun _ => (-1)))), (t34, .inl (cyI, 12, .inl (fun _ => 0))), (t35, .inl (cyI, 12, .inl (fun _ => 0))), (t36, .inl (cyI, 30, .inl (fun _ => 0))), (t65, .inr (7, [.ref t66, .ref t67, .ref t68, .ref t69, .int 0, .int 0, .int 0])), (t66, .inl (cyI, 12, .inl (va_cpy (fun _ => (-1)) (fun _ => (-1)) 0 0 12))), (t67, .inl (cyI, 12, .inl (va_cpy (fun _ => 0) (fun _ => 0) 0 0 12))), (t68, .inl (cyI, 12, .inl (va_cpy (fun _ => 0) (fun _ => 0) 0 0 12))), (t69, .inl (cyI, 30, .inl (va_cpy (fun _ => 0) (fun _ => 0) 0 0 30)))]) C wd_298 wd_237 wd_238 wd_239 4 9 1 rfl rfl rfl (by decide) (by decide) (by decide) (by decide) (by decide) (by decide) (by decide) (by decide) (by decide) (Nat.le_of_ble_eq_true rfl) dX7_copy_57 rfl ?_
  refine j_aload_n (pc := 60) C dX7_copy_60 rfl 0 rfl ?_
  refine j_aload_n (pc := 61) C dX7_copy_61 rfl 1 rfl ?_
  refine j_get (pc := 62) (ci := 7) (v := .int 0) C inw_7 0 rfl rfl 4 (by decide) wd_231 rfl rfl dX7_copy_62 ?_
  refine j_put (pc := 65) (ci := 7) (v := .int 0) (ws' := [(t32, .inr (7, [.ref t33, .ref t34, .ref t35, .ref t36, .int 0, .int 0, .int 0])), (t33, .inl (cyI, 12, .inl (fun _ => (-1)))), (t34, .inl (cyI, 12, .inl (fun _ => 0))), (t35, .inl (cyI, 12, .inl (fun _ => 0))), (t36, .inl (cyI, 30, .inl (fun _ => 0))), (t65, .inr (7, [.ref t66, .ref t67, .ref t68, .ref t69, .int 0, .int 0, .int 0])), (t66, .inl (cyI, 12, .inl (va_cpy (fun _ => (-1)) (fun _ => (-1)) 0 0 12))), (t67, .inl (cyI, 12, .inl (va_cpy (fun _ => 0) (fun _ => 0) 0 0 12))), (t68, .inl (cyI, 12, .inl (va_cpy (fun _ => 0) (fun _ => 0) 0 0 12))), (t69, .inl (cyI, 30, .inl (va_cpy (fun _ => 0) (fun _ => 0) 0 0 30)))]) C inw_7 5 rfl rfl 4 (by decide) wd_231 rfl tyX7_ok nmX7 rfl (tyX7_ok 4 (by decide)) rfl rfl (Nat.le_of_ble_eq_true rfl) dX7_copy_65 rfl ?_
  refine j_aload_n (pc := 68) C dX7_copy_68 rfl 0 rfl ?_
  refine j_aload_n (pc := 69) C dX7_copy_69 rfl 1 rfl ?_
  refine j_get (pc := 70) (ci := 7) (v := .int 0) C inw_7 0 rfl rfl 5 (by decide) wd_299 rfl rfl dX7_copy_70 ?_
  refine j_put (pc := 73) (ci := 7) (v := .int 0) (ws' := [(t32, .inr (7, [.ref t33, .ref t34, .ref t35, .ref t36, .int 0, .int 0, .int 0])), (t33, .inl (cyI, 12, .inl (fun _ => (-1)))), (t34, .inl (cyI, 12, .inl (fun _ => 0))), (t35, .inl (cyI, 12, .inl (fun _ => 0))), (t36, .inl (cyI, 30, .inl (fun _ => 0))), (t65, .inr (7, [.ref t66, .ref t67, .ref t68, .ref t69, .int 0, .int 0, .int 0])), (t66, .inl (cyI, 12, .inl (va_cpy (fun _ => (-1)) (fun _ => (-1)) 0 0 12))), (t67, .inl (cyI, 12, .inl (va_cpy (fun _ => 0) (fun _ => 0) 0 0 12))), (t68, .inl (cyI, 12, .inl (va_cpy (fun _ => 0) (fun _ => 0) 0 0 12))), (t69, .inl (cyI, 30, .inl (va_cpy (fun _ => 0) (fun _ => 0) 0 0 30)))]) C inw_7 5 rfl rfl 5 (by decide) wd_299 rfl tyX7_ok nmX7 rfl (tyX7_ok 5 (by decide)) rfl rfl (Nat.le_of_ble_eq_true rfl) dX7_copy_73 rfl ?_
  exact j_vret (pc := 76) C hr hk (fun i => [].getD i 0, fun _ => 0, fun _ _ => 0) rfl trivial [0, 1, 2, 3, 4, 5, 6, 7, 8, 9] (by decide) rfl (by decide) (by decide) dX7_copy_76
set_option maxHeartbeats 4000000 in
set_option maxRecDepth 100000 in
theorem c_X7_copy_2 (l : Launch) (D : va_G) (cyC cyI cyJ cyZ cyO : ClassId) (t70 : Nat) (t32 : Nat) (t33 : Nat) (t34 : Nat) (t35 : Nat) (t36 : Nat) (t71 : Nat) (t72 : Nat) (t73 : Nat) (t74 : Nat) : KK l D (TY cyC cyI cyJ cyZ cyO) yX7_copy cX7_copy 2 none ({ frames := 1, cells := 0, slots := 0, locals := 18 } : Room) 0 0 [.ref t70, .ref t32] [(t32, .inr (7, [.ref t33, .ref t34, .ref t35, .ref t36, .int 0, .int 0, .int 0])), (t33, .inl (cyI, 12, .inl (fun _ => (-1)))), (t34, .inl (cyI, 12, .inl (fun _ => 0))), (t35, .inl (cyI, 12, .inl (fun _ => 0))), (t36, .inl (cyI, 30, .inl (fun _ => 0))), (t70, .inr (7, [.ref t71, .ref t72, .ref t73, .ref t74, .int 0, .int 0, .int 0])), (t71, .inl (cyI, 12, .inl (fun _ => (-1)))), (t72, .inl (cyI, 12, .inl (fun _ => 0))), (t73, .inl (cyI, 12, .inl (fun _ => 0))), (t74, .inl (cyI, 30, .inl (fun _ => 0)))] (fun u => none) (fun u => True) (fun u => [(t32, .inr (7, [.ref t33, .ref t34, .ref t35, .ref t36, .int 0, .int 0, .int 0])), (t33, .inl (cyI, 12, .inl (fun _ => (-1)))), (t34, .inl (cyI, 12, .inl (fun _ => 0))), (t35, .inl (cyI, 12, .inl (fun _ => 0))), (t36, .inl (cyI, 30, .inl (fun _ => 0))), (t70, .inr (7, [.ref t71, .ref t72, .ref t73, .ref t74, .int 0, .int 0, .int 0])), (t71, .inl (cyI, 12, .inl (va_cpy (fun _ => (-1)) (fun _ => (-1)) 0 0 12))), (t72, .inl (cyI, 12, .inl (va_cpy (fun _ => 0) (fun _ => 0) 0 0 12))), (t73, .inl (cyI, 12, .inl (va_cpy (fun _ => 0) (fun _ => 0) 0 0 12))), (t74, .inl (cyI, 30, .inl (va_cpy (fun _ => 0) (fun _ => 0) 0 0 30)))]) := by
  refine KK.of (lv0 := [(0, .ref t70), (1, .ref t32)]) (by decide) rfl (Nat.le_of_ble_eq_true rfl) ?_
  intro p e s m args below meth c A C hr hk hin
  refine j_aload_n (pc := 0) C dX7_copy_0 rfl 1 rfl ?_
  refine j_get (pc := 1) (ci := 7) (v := .ref t33) C inw_7 0 rfl rfl 0 (by decide) wd_44 rfl rfl dX7_copy_1 ?_
  refine j_iconst (pc := 4) (v := 0) C dX7_copy_4 (by decide) ?_
  refine j_aload_n (pc := 5) C dX7_copy_5 rfl 0 rfl ?_
  refine j_get (pc := 6) (ci := 7) (v := .ref t71) C inw_7 5 rfl rfl 0 (by decide) wd_44 rfl rfl dX7_copy_6 ?_
  refine j_iconst (pc := 9) (v := 0) C dX7_copy_9 (by decide) ?_
  refine j_bipush (pc := 10) (v := 12) C dX7_copy_10 (by decide) ?_
  refine j_acpy (pc := 12) (ks := 0) (kd := 0) (kn := 12) (ws' := [(t32, .inr (7, [.ref t33, .ref t34, .ref t35, .ref t36, .int 0, .int 0, .int 0])), (t33, .inl (cyI, 12, .inl (fun _ => (-1)))), (t34, .inl (cyI, 12, .inl (fun _ => 0))), (t35, .inl (cyI, 12, .inl (fun _ => 0))), (t36, .inl (cyI, 30, .inl (fun _ => 0))), (t70, .inr (7, [.ref t71, .ref t72, .ref t73, .ref t74, .int 0, .int 0, .int 0])), (t71, .inl (cyI, 12, .inl (va_cpy (fun _ => (-1)) (fun _ => (-1)) 0 0 12))), (t72, .inl (cyI, 12, .inl (fun _ => 0))), (t73, .inl (cyI, 12, .inl (fun _ => 0))), (t74, .inl (cyI, 30, .inl (fun _ => 0)))]) C wd_298 wd_237 wd_238 wd_239 1 6 1 rfl rfl rfl (by decide) (by decide) (by decide) (by decide) (by decide) (by decide) (by decide) (by decide) (by decide) (Nat.le_of_ble_eq_true rfl) dX7_copy_12 rfl ?_
  refine j_aload_n (pc := 15) C dX7_copy_15 rfl 1 rfl ?_
  refine j_get (pc := 16) (ci := 7) (v := .ref t34) C inw_7 0 rfl rfl 1 (by decide) wd_45 rfl rfl dX7_copy_16 ?_
  refine j_iconst (pc := 19) (v := 0) C dX7_copy_19 (by decide) ?_
  refine j_aload_n (pc := 20) C dX7_copy_20 rfl 0 rfl ?_
  refine j_get (pc := 21) (ci := 7) (v := .ref t72) C inw_7 5 rfl rfl 1 (by decide) wd_45 rfl rfl dX7_copy_21 ?_
  refine j_iconst (pc := 24) (v := 0) C dX7_copy_24 (by decide) ?_
  refine j_bipush (pc := 25) (v := 12) C dX7_copy_25 (by decide) ?_
  refine j_acpy (pc := 27) (ks := 0) (kd := 0) (kn := 12) (ws' := [(t32, .inr (7, [.ref t33, .ref t34, .ref t35, .ref t36, .int 0, .int 0, .int 0])), (t33, .inl (cyI, 12, .inl (fun _ => (-1)))), (t34, .inl (cyI, 12, .inl (fun _ => 0))), (t35, .inl (cyI, 12, .inl (fun _ => 0))), (t36, .inl (cyI, 30, .inl (fun _ => 0))), (t70, .inr (7, [.ref t71, .ref t72, .ref t73, .ref t74, .int 0, .int 0, .int 0])), (t71, .inl (cyI, 12, .inl (va_cpy (fun _ => (-1)) (fun _ => (-1)) 0 0 12))), (t72, .inl (cyI, 12, .inl (va_cpy (fun _ => 0) (fun _ => 0) 0 0 12))), (t73, .inl (cyI, 12, .inl (fun _ => 0))), (t74, .inl (cyI, 30, .inl (fun _ => 0)))]) C wd_298 wd_237 wd_238 wd_239 2 7 1 rfl rfl rfl (by decide) (by decide) (by decide) (by decide) (by decide) (by decide) (by decide) (by decide) (by decide) (Nat.le_of_ble_eq_true rfl) dX7_copy_27 rfl ?_
  refine j_aload_n (pc := 30) C dX7_copy_30 rfl 1 rfl ?_
  refine j_get (pc := 31) (ci := 7) (v := .ref t35) C inw_7 0 rfl rfl 2 (by decide) wd_46 rfl rfl dX7_copy_31 ?_
  refine j_iconst (pc := 34) (v := 0) C dX7_copy_34 (by decide) ?_
  refine j_aload_n (pc := 35) C dX7_copy_35 rfl 0 rfl ?_
  refine j_get (pc := 36) (ci := 7) (v := .ref t73) C inw_7 5 rfl rfl 2 (by decide) wd_46 rfl rfl dX7_copy_36 ?_
  refine j_iconst (pc := 39) (v := 0) C dX7_copy_39 (by decide) ?_
  refine j_bipush (pc := 40) (v := 12) C dX7_copy_40 (by decide) ?_
  refine j_acpy (pc := 42) (ks := 0) (kd := 0) (kn := 12) (ws' := [(t32, .inr (7, [.ref t33, .ref t34, .ref t35, .ref t36, .int 0, .int 0, .int 0])), (t33, .inl (cyI, 12, .inl (fun _ => (-1)))), (t34, .inl (cyI, 12, .inl (fun _ => 0))), (t35, .inl (cyI, 12, .inl (fun _ => 0))), (t36, .inl (cyI, 30, .inl (fun _ => 0))), (t70, .inr (7, [.ref t71, .ref t72, .ref t73, .ref t74, .int 0, .int 0, .int 0])), (t71, .inl (cyI, 12, .inl (va_cpy (fun _ => (-1)) (fun _ => (-1)) 0 0 12))), (t72, .inl (cyI, 12, .inl (va_cpy (fun _ => 0) (fun _ => 0) 0 0 12))), (t73, .inl (cyI, 12, .inl (va_cpy (fun _ => 0) (fun _ => 0) 0 0 12))), (t74, .inl (cyI, 30, .inl (fun _ => 0)))]) C wd_298 wd_237 wd_238 wd_239 3 8 1 rfl rfl rfl (by decide) (by decide) (by decide) (by decide) (by decide) (by decide) (by decide) (by decide) (by decide) (Nat.le_of_ble_eq_true rfl) dX7_copy_42 rfl ?_
  refine j_aload_n (pc := 45) C dX7_copy_45 rfl 1 rfl ?_
  refine j_get (pc := 46) (ci := 7) (v := .ref t36) C inw_7 0 rfl rfl 3 (by decide) wd_47 rfl rfl dX7_copy_46 ?_
  refine j_iconst (pc := 49) (v := 0) C dX7_copy_49 (by decide) ?_
  refine j_aload_n (pc := 50) C dX7_copy_50 rfl 0 rfl ?_
  refine j_get (pc := 51) (ci := 7) (v := .ref t74) C inw_7 5 rfl rfl 3 (by decide) wd_47 rfl rfl dX7_copy_51 ?_
  refine j_iconst (pc := 54) (v := 0) C dX7_copy_54 (by decide) ?_
  refine j_bipush (pc := 55) (v := 30) C dX7_copy_55 (by decide) ?_
  refine j_acpy (pc := 57) (ks := 0) (kd := 0) (kn := 30) (ws' := [(t32, .inr (7, [.ref t33, .ref t34, .ref t35, .ref t36, .int 0, .int 0, .int 0])), (t33, .inl (cyI, 12, .inl (fun _ => (-1)))), (t34, .inl (cyI, 12, .inl (fun _ => 0))), (t35, .inl (cyI, 12, .inl (fun _ => 0))), (t36, .inl (cyI, 30, .inl (fun _ => 0))), (t70, .inr (7, [.ref t71, .ref t72, .ref t73, .ref t74, .int 0, .int 0, .int 0])), (t71, .inl (cyI, 12, .inl (va_cpy (fun _ => (-1)) (fun _ => (-1)) 0 0 12))), (t72, .inl (cyI, 12, .inl (va_cpy (fun _ => 0) (fun _ => 0) 0 0 12))), (t73, .inl (cyI, 12, .inl (va_cpy (fun _ => 0) (fun _ => 0) 0 0 12))), (t74, .inl (cyI, 30, .inl (va_cpy (fun _ => 0) (fun _ => 0) 0 0 30)))]) C wd_298 wd_237 wd_238 wd_239 4 9 1 rfl rfl rfl (by decide) (by decide) (by decide) (by decide) (by decide) (by decide) (by decide) (by decide) (by decide) (Nat.le_of_ble_eq_true rfl) dX7_copy_57 rfl ?_
  refine j_aload_n (pc := 60) C dX7_copy_60 rfl 0 rfl ?_
  refine j_aload_n (pc := 61) C dX7_copy_61 rfl 1 rfl ?_
  refine j_get (pc := 62) (ci := 7) (v := .int 0) C inw_7 0 rfl rfl 4 (by decide) wd_231 rfl rfl dX7_copy_62 ?_
  refine j_put (pc := 65) (ci := 7) (v := .int 0) (ws' := [(t32, .inr (7, [.ref t33, .ref t34, .ref t35, .ref t36, .int 0, .int 0, .int 0])), (t33, .inl (cyI, 12, .inl (fun _ => (-1)))), (t34, .inl (cyI, 12, .inl (fun _ => 0))), (t35, .inl (cyI, 12, .inl (fun _ => 0))), (t36, .inl (cyI, 30, .inl (fun _ => 0))), (t70, .inr (7, [.ref t71, .ref t72, .ref t73, .ref t74, .int 0, .int 0, .int 0])), (t71, .inl (cyI, 12, .inl (va_cpy (fun _ => (-1)) (fun _ => (-1)) 0 0 12))), (t72, .inl (cyI, 12, .inl (va_cpy (fun _ => 0) (fun _ => 0) 0 0 12))), (t73, .inl (cyI, 12, .inl (va_cpy (fun _ => 0) (fun _ => 0) 0 0 12))), (t74, .inl (cyI, 30, .inl (va_cpy (fun _ => 0) (fun _ => 0) 0 0 30)))]) C inw_7 5 rfl rfl 4 (by decide) wd_231 rfl tyX7_ok nmX7 rfl (tyX7_ok 4 (by decide)) rfl rfl (Nat.le_of_ble_eq_true rfl) dX7_copy_65 rfl ?_
  refine j_aload_n (pc := 68) C dX7_copy_68 rfl 0 rfl ?_
  refine j_aload_n (pc := 69) C dX7_copy_69 rfl 1 rfl ?_
  refine j_get (pc := 70) (ci := 7) (v := .int 0) C inw_7 0 rfl rfl 5 (by decide) wd_299 rfl rfl dX7_copy_70 ?_
  refine j_put (pc := 73) (ci := 7) (v := .int 0) (ws' := [(t32, .inr (7, [.ref t33, .ref t34, .ref t35, .ref t36, .int 0, .int 0, .int 0])), (t33, .inl (cyI, 12, .inl (fun _ => (-1)))), (t34, .inl (cyI, 12, .inl (fun _ => 0))), (t35, .inl (cyI, 12, .inl (fun _ => 0))), (t36, .inl (cyI, 30, .inl (fun _ => 0))), (t70, .inr (7, [.ref t71, .ref t72, .ref t73, .ref t74, .int 0, .int 0, .int 0])), (t71, .inl (cyI, 12, .inl (va_cpy (fun _ => (-1)) (fun _ => (-1)) 0 0 12))), (t72, .inl (cyI, 12, .inl (va_cpy (fun _ => 0) (fun _ => 0) 0 0 12))), (t73, .inl (cyI, 12, .inl (va_cpy (fun _ => 0) (fun _ => 0) 0 0 12))), (t74, .inl (cyI, 30, .inl (va_cpy (fun _ => 0) (fun _ => 0) 0 0 30)))]) C inw_7 5 rfl rfl 5 (by decide) wd_299 rfl tyX7_ok nmX7 rfl (tyX7_ok 5 (by decide)) rfl rfl (Nat.le_of_ble_eq_true rfl) dX7_copy_73 rfl ?_
  exact j_vret (pc := 76) C hr hk (fun i => [].getD i 0, fun _ => 0, fun _ _ => 0) rfl trivial [0, 1, 2, 3, 4, 5, 6, 7, 8, 9] (by decide) rfl (by decide) (by decide) dX7_copy_76
set_option maxHeartbeats 4000000 in
set_option maxRecDepth 100000 in
theorem c_X7_copy_3 (l : Launch) (D : va_G) (cyC cyI cyJ cyZ cyO : ClassId) (t75 : Nat) (t32 : Nat) (t33 : Nat) (t34 : Nat) (t35 : Nat) (t36 : Nat) (t76 : Nat) (t77 : Nat) (t78 : Nat) (t79 : Nat) : KK l D (TY cyC cyI cyJ cyZ cyO) yX7_copy cX7_copy 2 none ({ frames := 1, cells := 0, slots := 0, locals := 18 } : Room) 0 0 [.ref t75, .ref t32] [(t32, .inr (7, [.ref t33, .ref t34, .ref t35, .ref t36, .int 0, .int 0, .int 0])), (t33, .inl (cyI, 12, .inl (fun _ => (-1)))), (t34, .inl (cyI, 12, .inl (fun _ => 0))), (t35, .inl (cyI, 12, .inl (fun _ => 0))), (t36, .inl (cyI, 30, .inl (fun _ => 0))), (t75, .inr (7, [.ref t76, .ref t77, .ref t78, .ref t79, .int 0, .int 0, .int 0])), (t76, .inl (cyI, 12, .inl (fun _ => (-1)))), (t77, .inl (cyI, 12, .inl (fun _ => 0))), (t78, .inl (cyI, 12, .inl (fun _ => 0))), (t79, .inl (cyI, 30, .inl (fun _ => 0)))] (fun u => none) (fun u => True) (fun u => [(t32, .inr (7, [.ref t33, .ref t34, .ref t35, .ref t36, .int 0, .int 0, .int 0])), (t33, .inl (cyI, 12, .inl (fun _ => (-1)))), (t34, .inl (cyI, 12, .inl (fun _ => 0))), (t35, .inl (cyI, 12, .inl (fun _ => 0))), (t36, .inl (cyI, 30, .inl (fun _ => 0))), (t75, .inr (7, [.ref t76, .ref t77, .ref t78, .ref t79, .int 0, .int 0, .int 0])), (t76, .inl (cyI, 12, .inl (va_cpy (fun _ => (-1)) (fun _ => (-1)) 0 0 12))), (t77, .inl (cyI, 12, .inl (va_cpy (fun _ => 0) (fun _ => 0) 0 0 12))), (t78, .inl (cyI, 12, .inl (va_cpy (fun _ => 0) (fun _ => 0) 0 0 12))), (t79, .inl (cyI, 30, .inl (va_cpy (fun _ => 0) (fun _ => 0) 0 0 30)))]) := by
  refine KK.of (lv0 := [(0, .ref t75), (1, .ref t32)]) (by decide) rfl (Nat.le_of_ble_eq_true rfl) ?_
  intro p e s m args below meth c A C hr hk hin
  refine j_aload_n (pc := 0) C dX7_copy_0 rfl 1 rfl ?_
  refine j_get (pc := 1) (ci := 7) (v := .ref t33) C inw_7 0 rfl rfl 0 (by decide) wd_44 rfl rfl dX7_copy_1 ?_
  refine j_iconst (pc := 4) (v := 0) C dX7_copy_4 (by decide) ?_
  refine j_aload_n (pc := 5) C dX7_copy_5 rfl 0 rfl ?_
  refine j_get (pc := 6) (ci := 7) (v := .ref t76) C inw_7 5 rfl rfl 0 (by decide) wd_44 rfl rfl dX7_copy_6 ?_
  refine j_iconst (pc := 9) (v := 0) C dX7_copy_9 (by decide) ?_
  refine j_bipush (pc := 10) (v := 12) C dX7_copy_10 (by decide) ?_
  refine j_acpy (pc := 12) (ks := 0) (kd := 0) (kn := 12) (ws' := [(t32, .inr (7, [.ref t33, .ref t34, .ref t35, .ref t36, .int 0, .int 0, .int 0])), (t33, .inl (cyI, 12, .inl (fun _ => (-1)))), (t34, .inl (cyI, 12, .inl (fun _ => 0))), (t35, .inl (cyI, 12, .inl (fun _ => 0))), (t36, .inl (cyI, 30, .inl (fun _ => 0))), (t75, .inr (7, [.ref t76, .ref t77, .ref t78, .ref t79, .int 0, .int 0, .int 0])), (t76, .inl (cyI, 12, .inl (va_cpy (fun _ => (-1)) (fun _ => (-1)) 0 0 12))), (t77, .inl (cyI, 12, .inl (fun _ => 0))), (t78, .inl (cyI, 12, .inl (fun _ => 0))), (t79, .inl (cyI, 30, .inl (fun _ => 0)))]) C wd_298 wd_237 wd_238 wd_239 1 6 1 rfl rfl rfl (by decide) (by decide) (by decide) (by decide) (by decide) (by decide) (by decide) (by decide) (by decide) (Nat.le_of_ble_eq_true rfl) dX7_copy_12 rfl ?_
  refine j_aload_n (pc := 15) C dX7_copy_15 rfl 1 rfl ?_
  refine j_get (pc := 16) (ci := 7) (v := .ref t34) C inw_7 0 rfl rfl 1 (by decide) wd_45 rfl rfl dX7_copy_16 ?_
  refine j_iconst (pc := 19) (v := 0) C dX7_copy_19 (by decide) ?_
  refine j_aload_n (pc := 20) C dX7_copy_20 rfl 0 rfl ?_
  refine j_get (pc := 21) (ci := 7) (v := .ref t77) C inw_7 5 rfl rfl 1 (by decide) wd_45 rfl rfl dX7_copy_21 ?_
  refine j_iconst (pc := 24) (v := 0) C dX7_copy_24 (by decide) ?_
  refine j_bipush (pc := 25) (v := 12) C dX7_copy_25 (by decide) ?_
  refine j_acpy (pc := 27) (ks := 0) (kd := 0) (kn := 12) (ws' := [(t32, .inr (7, [.ref t33, .ref t34, .ref t35, .ref t36, .int 0, .int 0, .int 0])), (t33, .inl (cyI, 12, .inl (fun _ => (-1)))), (t34, .inl (cyI, 12, .inl (fun _ => 0))), (t35, .inl (cyI, 12, .inl (fun _ => 0))), (t36, .inl (cyI, 30, .inl (fun _ => 0))), (t75, .inr (7, [.ref t76, .ref t77, .ref t78, .ref t79, .int 0, .int 0, .int 0])), (t76, .inl (cyI, 12, .inl (va_cpy (fun _ => (-1)) (fun _ => (-1)) 0 0 12))), (t77, .inl (cyI, 12, .inl (va_cpy (fun _ => 0) (fun _ => 0) 0 0 12))), (t78, .inl (cyI, 12, .inl (fun _ => 0))), (t79, .inl (cyI, 30, .inl (fun _ => 0)))]) C wd_298 wd_237 wd_238 wd_239 2 7 1 rfl rfl rfl (by decide) (by decide) (by decide) (by decide) (by decide) (by decide) (by decide) (by decide) (by decide) (Nat.le_of_ble_eq_true rfl) dX7_copy_27 rfl ?_
  refine j_aload_n (pc := 30) C dX7_copy_30 rfl 1 rfl ?_
  refine j_get (pc := 31) (ci := 7) (v := .ref t35) C inw_7 0 rfl rfl 2 (by decide) wd_46 rfl rfl dX7_copy_31 ?_
  refine j_iconst (pc := 34) (v := 0) C dX7_copy_34 (by decide) ?_
  refine j_aload_n (pc := 35) C dX7_copy_35 rfl 0 rfl ?_
  refine j_get (pc := 36) (ci := 7) (v := .ref t78) C inw_7 5 rfl rfl 2 (by decide) wd_46 rfl rfl dX7_copy_36 ?_
  refine j_iconst (pc := 39) (v := 0) C dX7_copy_39 (by decide) ?_
  refine j_bipush (pc := 40) (v := 12) C dX7_copy_40 (by decide) ?_
  refine j_acpy (pc := 42) (ks := 0) (kd := 0) (kn := 12) (ws' := [(t32, .inr (7, [.ref t33, .ref t34, .ref t35, .ref t36, .int 0, .int 0, .int 0])), (t33, .inl (cyI, 12, .inl (fun _ => (-1)))), (t34, .inl (cyI, 12, .inl (fun _ => 0))), (t35, .inl (cyI, 12, .inl (fun _ => 0))), (t36, .inl (cyI, 30, .inl (fun _ => 0))), (t75, .inr (7, [.ref t76, .ref t77, .ref t78, .ref t79, .int 0, .int 0, .int 0])), (t76, .inl (cyI, 12, .inl (va_cpy (fun _ => (-1)) (fun _ => (-1)) 0 0 12))), (t77, .inl (cyI, 12, .inl (va_cpy (fun _ => 0) (fun _ => 0) 0 0 12))), (t78, .inl (cyI, 12, .inl (va_cpy (fun _ => 0) (fun _ => 0) 0 0 12))), (t79, .inl (cyI, 30, .inl (fun _ => 0)))]) C wd_298 wd_237 wd_238 wd_239 3 8 1 rfl rfl rfl (by decide) (by decide) (by decide) (by decide) (by decide) (by decide) (by decide) (by decide) (by decide) (Nat.le_of_ble_eq_true rfl) dX7_copy_42 rfl ?_
  refine j_aload_n (pc := 45) C dX7_copy_45 rfl 1 rfl ?_
  refine j_get (pc := 46) (ci := 7) (v := .ref t36) C inw_7 0 rfl rfl 3 (by decide) wd_47 rfl rfl dX7_copy_46 ?_
  refine j_iconst (pc := 49) (v := 0) C dX7_copy_49 (by decide) ?_
  refine j_aload_n (pc := 50) C dX7_copy_50 rfl 0 rfl ?_
  refine j_get (pc := 51) (ci := 7) (v := .ref t79) C inw_7 5 rfl rfl 3 (by decide) wd_47 rfl rfl dX7_copy_51 ?_
  refine j_iconst (pc := 54) (v := 0) C dX7_copy_54 (by decide) ?_
  refine j_bipush (pc := 55) (v := 30) C dX7_copy_55 (by decide) ?_
  refine j_acpy (pc := 57) (ks := 0) (kd := 0) (kn := 30) (ws' := [(t32, .inr (7, [.ref t33, .ref t34, .ref t35, .ref t36, .int 0, .int 0, .int 0])), (t33, .inl (cyI, 12, .inl (fun _ => (-1)))), (t34, .inl (cyI, 12, .inl (fun _ => 0))), (t35, .inl (cyI, 12, .inl (fun _ => 0))), (t36, .inl (cyI, 30, .inl (fun _ => 0))), (t75, .inr (7, [.ref t76, .ref t77, .ref t78, .ref t79, .int 0, .int 0, .int 0])), (t76, .inl (cyI, 12, .inl (va_cpy (fun _ => (-1)) (fun _ => (-1)) 0 0 12))), (t77, .inl (cyI, 12, .inl (va_cpy (fun _ => 0) (fun _ => 0) 0 0 12))), (t78, .inl (cyI, 12, .inl (va_cpy (fun _ => 0) (fun _ => 0) 0 0 12))), (t79, .inl (cyI, 30, .inl (va_cpy (fun _ => 0) (fun _ => 0) 0 0 30)))]) C wd_298 wd_237 wd_238 wd_239 4 9 1 rfl rfl rfl (by decide) (by decide) (by decide) (by decide) (by decide) (by decide) (by decide) (by decide) (by decide) (Nat.le_of_ble_eq_true rfl) dX7_copy_57 rfl ?_
  refine j_aload_n (pc := 60) C dX7_copy_60 rfl 0 rfl ?_
  refine j_aload_n (pc := 61) C dX7_copy_61 rfl 1 rfl ?_
  refine j_get (pc := 62) (ci := 7) (v := .int 0) C inw_7 0 rfl rfl 4 (by decide) wd_231 rfl rfl dX7_copy_62 ?_
  refine j_put (pc := 65) (ci := 7) (v := .int 0) (ws' := [(t32, .inr (7, [.ref t33, .ref t34, .ref t35, .ref t36, .int 0, .int 0, .int 0])), (t33, .inl (cyI, 12, .inl (fun _ => (-1)))), (t34, .inl (cyI, 12, .inl (fun _ => 0))), (t35, .inl (cyI, 12, .inl (fun _ => 0))), (t36, .inl (cyI, 30, .inl (fun _ => 0))), (t75, .inr (7, [.ref t76, .ref t77, .ref t78, .ref t79, .int 0, .int 0, .int 0])), (t76, .inl (cyI, 12, .inl (va_cpy (fun _ => (-1)) (fun _ => (-1)) 0 0 12))), (t77, .inl (cyI, 12, .inl (va_cpy (fun _ => 0) (fun _ => 0) 0 0 12))), (t78, .inl (cyI, 12, .inl (va_cpy (fun _ => 0) (fun _ => 0) 0 0 12))), (t79, .inl (cyI, 30, .inl (va_cpy (fun _ => 0) (fun _ => 0) 0 0 30)))]) C inw_7 5 rfl rfl 4 (by decide) wd_231 rfl tyX7_ok nmX7 rfl (tyX7_ok 4 (by decide)) rfl rfl (Nat.le_of_ble_eq_true rfl) dX7_copy_65 rfl ?_
  refine j_aload_n (pc := 68) C dX7_copy_68 rfl 0 rfl ?_
  refine j_aload_n (pc := 69) C dX7_copy_69 rfl 1 rfl ?_
  refine j_get (pc := 70) (ci := 7) (v := .int 0) C inw_7 0 rfl rfl 5 (by decide) wd_299 rfl rfl dX7_copy_70 ?_
  refine j_put (pc := 73) (ci := 7) (v := .int 0) (ws' := [(t32, .inr (7, [.ref t33, .ref t34, .ref t35, .ref t36, .int 0, .int 0, .int 0])), (t33, .inl (cyI, 12, .inl (fun _ => (-1)))), (t34, .inl (cyI, 12, .inl (fun _ => 0))), (t35, .inl (cyI, 12, .inl (fun _ => 0))), (t36, .inl (cyI, 30, .inl (fun _ => 0))), (t75, .inr (7, [.ref t76, .ref t77, .ref t78, .ref t79, .int 0, .int 0, .int 0])), (t76, .inl (cyI, 12, .inl (va_cpy (fun _ => (-1)) (fun _ => (-1)) 0 0 12))), (t77, .inl (cyI, 12, .inl (va_cpy (fun _ => 0) (fun _ => 0) 0 0 12))), (t78, .inl (cyI, 12, .inl (va_cpy (fun _ => 0) (fun _ => 0) 0 0 12))), (t79, .inl (cyI, 30, .inl (va_cpy (fun _ => 0) (fun _ => 0) 0 0 30)))]) C inw_7 5 rfl rfl 5 (by decide) wd_299 rfl tyX7_ok nmX7 rfl (tyX7_ok 5 (by decide)) rfl rfl (Nat.le_of_ble_eq_true rfl) dX7_copy_73 rfl ?_
  exact j_vret (pc := 76) C hr hk (fun i => [].getD i 0, fun _ => 0, fun _ _ => 0) rfl trivial [0, 1, 2, 3, 4, 5, 6, 7, 8, 9] (by decide) rfl (by decide) (by decide) dX7_copy_76
theorem br_lef_le2 {x : Int32} (h : ¬ 4 ≤ x) : x ≤ 3 := by
  simp only [i_le] at *; have h4 : (4 : Int32).toInt = 4 := rfl; have h3 : (3 : Int32).toInt = 3 := rfl; omega
set_option maxHeartbeats 4000000 in
set_option maxRecDepth 100000 in
theorem c_X10_mark (l : Launch) (D : va_G) (cyC cyI cyJ cyZ cyO : ClassId) (p0 : Int32) (p1 : Int32) (t0 : Nat) (t1 : Nat) (t21 : Nat) (t32 : Nat) (t37 : Nat) (t42 : Nat) (t43 : Nat) (t45 : Nat) (t50 : Nat) (t54 : Nat) (t58 : Nat) (t33 : Nat) (t34 : Nat) (t35 : Nat) (t36 : Nat) (t60 : Nat) (t65 : Nat) (t70 : Nat) (t75 : Nat) (t61 : Nat) (t62 : Nat) (t63 : Nat) (t64 : Nat) (t66 : Nat) (t67 : Nat) (t68 : Nat) (t69 : Nat) (t71 : Nat) (t72 : Nat) (t73 : Nat) (t74 : Nat) (t76 : Nat) (t77 : Nat) (t78 : Nat) (t79 : Nat) : KK l D (TY cyC cyI cyJ cyZ cyO) yX10_mark cX10_mark 3 (some .boolean) ({ frames := 2, cells := 0, slots := 0, locals := 39 } : Room) 0 0 [.ref t0, .int p0, .int p1] [(t0, .inr (10, [.ref t1, .ref t21, .ref t32, .ref t37, .ref t42, .ref t43, .ref t45, .ref t50, .ref t54, .ref t58])), (t32, .inr (7, [.ref t33, .ref t34, .ref t35, .ref t36, .int 0, .int 0, .int 0])), (t33, .inl (cyI, 12, .inl (fun _ => (-1)))), (t34, .inl (cyI, 12, .inl (fun _ => 0))), (t35, .inl (cyI, 12, .inl (fun _ => 0))), (t36, .inl (cyI, 30, .inl (fun _ => 0))), (t42, .inl (cyO, 4, .inr (.inr (.inr (.inr (va_up (va_up (va_up (va_up (fun _ => none) 0 (some t60)) 1 (some t65)) 2 (some t70)) 3 (some t75))))))), (t60, .inr (7, [.ref t61, .ref t62, .ref t63, .ref t64, .int 0, .int 0, .int 0])), (t61, .inl (cyI, 12, .inl (fun _ => (-1)))), (t62, .inl (cyI, 12, .inl (fun _ => 0))), (t63, .inl (cyI, 12, .inl (fun _ => 0))), (t64, .inl (cyI, 30, .inl (fun _ => 0))), (t65, .inr (7, [.ref t66, .ref t67, .ref t68, .ref t69, .int 0, .int 0, .int 0])), (t66, .inl (cyI, 12, .inl (fun _ => (-1)))), (t67, .inl (cyI, 12, .inl (fun _ => 0))), (t68, .inl (cyI, 12, .inl (fun _ => 0))), (t69, .inl (cyI, 30, .inl (fun _ => 0))), (t70, .inr (7, [.ref t71, .ref t72, .ref t73, .ref t74, .int 0, .int 0, .int 0])), (t71, .inl (cyI, 12, .inl (fun _ => (-1)))), (t72, .inl (cyI, 12, .inl (fun _ => 0))), (t73, .inl (cyI, 12, .inl (fun _ => 0))), (t74, .inl (cyI, 30, .inl (fun _ => 0))), (t75, .inr (7, [.ref t76, .ref t77, .ref t78, .ref t79, .int 0, .int 0, .int 0])), (t76, .inl (cyI, 12, .inl (fun _ => (-1)))), (t77, .inl (cyI, 12, .inl (fun _ => 0))), (t78, .inl (cyI, 12, .inl (fun _ => 0))), (t79, .inl (cyI, 30, .inl (fun _ => 0)))] (fun u => some (.int (u.2.1 0))) (fun u => u.2.1 0 = (if 0 ≤ p0 ∧ p0 ≤ 3 ∧ p1 = 0 then 1 else 0)) (fun u => []) := by
  refine KK.of (lv0 := [(0, .ref t0), (1, .int p0), (2, .int p1)]) (by decide) rfl (Nat.le_of_ble_eq_true rfl) ?_
  intro p e s m args below meth c A C hr hk hin
  refine j_iload_n (pc := 0) C dX10_mark_0 rfl 1 rfl ?_
  refine j_if_lt (pc := 1) (tgt := 25) C dX10_mark_1 (by decide) (fun c_1 => ?_) (fun c_1 => ?_)
  · skip
    refine j_iconst (pc := 25) (v := 0) C dX10_mark_25 (by decide) ?_
    exact j_zret (pc := 26) C hr rfl hk (fun _ => 0, fun _ => 0, fun _ _ => 0) rfl (by show (0 : Int32) = (if 0 ≤ p0 ∧ p0 ≤ 3 ∧ p1 = 0 then 1 else 0); have e0 : (0 : Int32).toInt = 0 := rfl; have e3 : (3 : Int32).toInt = 3 := rfl; exact if hE : 0 ≤ p0 ∧ p0 ≤ 3 ∧ p1 = 0 then (by first | exact (if_pos hE).symm | (exfalso; simp only [i_lt, i_le, i_eq] at hE c_1; omega)) else (by first | exact (if_neg hE).symm | (exfalso; simp only [i_lt, i_le, i_eq] at hE c_1; omega))) [] (by decide) rfl (by decide) (by decide) dX10_mark_26
  · skip
    refine j_iload_n (pc := 4) C dX10_mark_4 rfl 1 rfl ?_
    refine j_iconst (pc := 5) (v := 4) C dX10_mark_5 (by decide) ?_
    refine j_icmp_ge (pc := 6) (tgt := 25) C dX10_mark_6 (by decide) (fun c_2 => ?_) (fun c_2 => ?_)
    · skip
      refine j_iconst (pc := 25) (v := 0) C dX10_mark_25 (by decide) ?_
      exact j_zret (pc := 26) C hr rfl hk (fun _ => 0, fun _ => 0, fun _ _ => 0) rfl (by show (0 : Int32) = (if 0 ≤ p0 ∧ p0 ≤ 3 ∧ p1 = 0 then 1 else 0); have e0 : (0 : Int32).toInt = 0 := rfl; have e3 : (3 : Int32).toInt = 3 := rfl; have e4 : (4 : Int32).toInt = 4 := rfl; exact if hE : 0 ≤ p0 ∧ p0 ≤ 3 ∧ p1 = 0 then (by first | exact (if_pos hE).symm | (exfalso; simp only [i_lt, i_le, i_eq] at hE c_1 c_2; omega)) else (by first | exact (if_neg hE).symm | (exfalso; simp only [i_lt, i_le, i_eq] at hE c_1 c_2; omega))) [] (by decide) rfl (by decide) (by decide) dX10_mark_26
    · skip
      rcases four p0 ⟨br_ltf_ge c_1, br_lef_le2 c_2⟩ with rfl | rfl | rfl | rfl
      · skip
        refine j_iload_n (pc := 9) C dX10_mark_9 rfl 2 rfl ?_
        refine j_if_eq (pc := 10) (tgt := 27) C dX10_mark_10 (by decide) (fun c_3 => ?_) (fun c_3 => ?_)
        · skip
          refine j_iload_n (pc := 27) C dX10_mark_27 rfl 2 rfl ?_
          refine j_if_eq_t (pc := 28) (tgt := 47) C dX10_mark_28 (by decide) (br_eqt_eq c_3) ?_
          refine j_aload_n (pc := 47) C dX10_mark_47 rfl 0 rfl ?_
          refine j_get (pc := 48) (ci := 10) (v := .ref t42) C inw_10 0 rfl rfl 4 (by decide) wd_86 rfl rfl dX10_mark_48 ?_
          refine j_iload_n (pc := 51) C dX10_mark_51 rfl 1 rfl ?_
          refine j_aald (pc := 52) (v := .ref t60) (k := 0) C 6 4 rfl rfl (by decide) (by decide) (by decide) rfl dX10_mark_52 ?_
          refine j_aload_n (pc := 53) C dX10_mark_53 rfl 0 rfl ?_
          refine j_get (pc := 54) (ci := 10) (v := .ref t32) C inw_10 0 rfl rfl 2 (by decide) wd_84 rfl rfl dX10_mark_54 ?_
          refine j_callV (pc := 57) (As := [.ref t32]) (rest := []) (wr := [(t0, .inr (10, [.ref t1, .ref t21, .ref t32, .ref t37, .ref t42, .ref t43, .ref t45, .ref t50, .ref t54, .ref t58])), (t42, .inl (cyO, 4, .inr (.inr (.inr (.inr (va_up (va_up (va_up (va_up (fun _ => none) 0 (some t60)) 1 (some t65)) 2 (some t70)) 3 (some t75))))))), (t65, .inr (7, [.ref t66, .ref t67, .ref t68, .ref t69, .int 0, .int 0, .int 0])), (t66, .inl (cyI, 12, .inl (fun _ => (-1)))), (t67, .inl (cyI, 12, .inl (fun _ => 0))), (t68, .inl (cyI, 12, .inl (fun _ => 0))), (t69, .inl (cyI, 30, .inl (fun _ => 0))), (t70, .inr (7, [.ref t71, .ref t72, .ref t73, .ref t74, .int 0, .int 0, .int 0])), (t71, .inl (cyI, 12, .inl (fun _ => (-1)))), (t72, .inl (cyI, 12, .inl (fun _ => 0))), (t73, .inl (cyI, 12, .inl (fun _ => 0))), (t74, .inl (cyI, 30, .inl (fun _ => 0))), (t75, .inr (7, [.ref t76, .ref t77, .ref t78, .ref t79, .int 0, .int 0, .int 0])), (t76, .inl (cyI, 12, .inl (fun _ => (-1)))), (t77, .inl (cyI, 12, .inl (fun _ => 0))), (t78, .inl (cyI, 12, .inl (fun _ => 0))), (t79, .inl (cyI, 30, .inl (fun _ => 0)))]) C (c_X7_copy_3 l D cyC cyI cyJ cyZ cyO t60 t32 t33 t34 t35 t36 t61 t62 t63 t64) wd_300 wd_80 wd_301 wd_302 wd_303 ⟨by decide, by decide, rfl⟩ rfl ⟨rfl, rfl, by decide, by decide⟩ ⟨by decide, by decide⟩ [1, 2, 3, 4, 5, 7, 8, 9, 10, 11] [0, 6, 12, 13, 14, 15, 16, 17, 18, 19, 20, 21, 22, 23, 24, 25, 26] rfl rfl ⟨by decide, by decide, by decide⟩ 7 rfl rfl rfl (Nat.le_of_ble_eq_true rfl) dX10_mark_57 (fun u_4 hw_5 => ?_)
          refine j_eq (ws2 := [(t0, .inr (10, [.ref t1, .ref t21, .ref t32, .ref t37, .ref t42, .ref t43, .ref t45, .ref t50, .ref t54, .ref t58])), (t42, .inl (cyO, 4, .inr (.inr (.inr (.inr (va_up (va_up (va_up (va_up (fun _ => none) 0 (some t60)) 1 (some t65)) 2 (some t70)) 3 (some t75))))))), (t65, .inr (7, [.ref t66, .ref t67, .ref t68, .ref t69, .int 0, .int 0, .int 0])), (t66, .inl (cyI, 12, .inl (fun _ => (-1)))), (t67, .inl (cyI, 12, .inl (fun _ => 0))), (t68, .inl (cyI, 12, .inl (fun _ => 0))), (t69, .inl (cyI, 30, .inl (fun _ => 0))), (t70, .inr (7, [.ref t71, .ref t72, .ref t73, .ref t74, .int 0, .int 0, .int 0])), (t71, .inl (cyI, 12, .inl (fun _ => (-1)))), (t72, .inl (cyI, 12, .inl (fun _ => 0))), (t73, .inl (cyI, 12, .inl (fun _ => 0))), (t74, .inl (cyI, 30, .inl (fun _ => 0))), (t75, .inr (7, [.ref t76, .ref t77, .ref t78, .ref t79, .int 0, .int 0, .int 0])), (t76, .inl (cyI, 12, .inl (fun _ => (-1)))), (t77, .inl (cyI, 12, .inl (fun _ => 0))), (t78, .inl (cyI, 12, .inl (fun _ => 0))), (t79, .inl (cyI, 30, .inl (fun _ => 0))), (t32, .inr (7, [.ref t33, .ref t34, .ref t35, .ref t36, .int 0, .int 0, .int 0])), (t33, .inl (cyI, 12, .inl (fun _ => (-1)))), (t34, .inl (cyI, 12, .inl (fun _ => 0))), (t35, .inl (cyI, 12, .inl (fun _ => 0))), (t36, .inl (cyI, 30, .inl (fun _ => 0))), (t60, .inr (7, [.ref t61, .ref t62, .ref t63, .ref t64, .int 0, .int 0, .int 0])), (t61, .inl (cyI, 12, .inl (va_cpy (fun _ => (-1)) (fun _ => (-1)) 0 0 12))), (t62, .inl (cyI, 12, .inl (va_cpy (fun _ => 0) (fun _ => 0) 0 0 12))), (t63, .inl (cyI, 12, .inl (va_cpy (fun _ => 0) (fun _ => 0) 0 0 12))), (t64, .inl (cyI, 30, .inl (va_cpy (fun _ => 0) (fun _ => 0) 0 0 30)))]) (pc2 := 60) (lv2 := [(0, .ref t0), (1, .int 0), (2, .int p1)]) (st2 := []) rfl rfl rfl rfl ?_
          refine j_aload_n (pc := 60) C dX10_mark_60 rfl 0 rfl ?_
          refine j_get (pc := 61) (ci := 10) (v := .ref t42) C inw_10 0 rfl rfl 4 (by decide) wd_86 rfl rfl dX10_mark_61 ?_
          refine j_iload_n (pc := 64) C dX10_mark_64 rfl 1 rfl ?_
          refine j_aald (pc := 65) (v := .ref t60) (k := 0) C 1 4 rfl rfl (by decide) (by decide) (by decide) rfl dX10_mark_65 ?_
          refine j_iconst (pc := 66) (v := 1) C dX10_mark_66 (by decide) ?_
          refine j_put (pc := 67) (ci := 7) (v := .int 1) (ws' := [(t0, .inr (10, [.ref t1, .ref t21, .ref t32, .ref t37, .ref t42, .ref t43, .ref t45, .ref t50, .ref t54, .ref t58])), (t42, .inl (cyO, 4, .inr (.inr (.inr (.inr (va_up (va_up (va_up (va_up (fun _ => none) 0 (some t60)) 1 (some t65)) 2 (some t70)) 3 (some t75))))))), (t65, .inr (7, [.ref t66, .ref t67, .ref t68, .ref t69, .int 0, .int 0, .int 0])), (t66, .inl (cyI, 12, .inl (fun _ => (-1)))), (t67, .inl (cyI, 12, .inl (fun _ => 0))), (t68, .inl (cyI, 12, .inl (fun _ => 0))), (t69, .inl (cyI, 30, .inl (fun _ => 0))), (t70, .inr (7, [.ref t71, .ref t72, .ref t73, .ref t74, .int 0, .int 0, .int 0])), (t71, .inl (cyI, 12, .inl (fun _ => (-1)))), (t72, .inl (cyI, 12, .inl (fun _ => 0))), (t73, .inl (cyI, 12, .inl (fun _ => 0))), (t74, .inl (cyI, 30, .inl (fun _ => 0))), (t75, .inr (7, [.ref t76, .ref t77, .ref t78, .ref t79, .int 0, .int 0, .int 0])), (t76, .inl (cyI, 12, .inl (fun _ => (-1)))), (t77, .inl (cyI, 12, .inl (fun _ => 0))), (t78, .inl (cyI, 12, .inl (fun _ => 0))), (t79, .inl (cyI, 30, .inl (fun _ => 0))), (t32, .inr (7, [.ref t33, .ref t34, .ref t35, .ref t36, .int 0, .int 0, .int 0])), (t33, .inl (cyI, 12, .inl (fun _ => (-1)))), (t34, .inl (cyI, 12, .inl (fun _ => 0))), (t35, .inl (cyI, 12, .inl (fun _ => 0))), (t36, .inl (cyI, 30, .inl (fun _ => 0))), (t60, .inr (7, [.ref t61, .ref t62, .ref t63, .ref t64, .int 0, .int 0, .int 1])), (t61, .inl (cyI, 12, .inl (va_cpy (fun _ => (-1)) (fun _ => (-1)) 0 0 12))), (t62, .inl (cyI, 12, .inl (va_cpy (fun _ => 0) (fun _ => 0) 0 0 12))), (t63, .inl (cyI, 12, .inl (va_cpy (fun _ => 0) (fun _ => 0) 0 0 12))), (t64, .inl (cyI, 30, .inl (va_cpy (fun _ => 0) (fun _ => 0) 0 0 30)))]) C inw_7 22 rfl rfl 6 (by decide) wd_252 rfl tyX7_ok nmX7 rfl (tyX7_ok 6 (by decide)) rfl rfl (Nat.le_of_ble_eq_true rfl) dX10_mark_67 rfl ?_
          refine j_iconst (pc := 70) (v := 1) C dX10_mark_70 (by decide) ?_
          exact j_zret (pc := 71) C hr rfl hk (fun _ => 0, fun _ => 1, fun _ _ => 0) rfl (by show (1 : Int32) = (if 0 ≤ (0 : Int32) ∧ (0 : Int32) ≤ 3 ∧ p1 = 0 then 1 else 0); have e0 : (0 : Int32).toInt = 0 := rfl; have e3 : (3 : Int32).toInt = 3 := rfl; exact if hE : 0 ≤ (0 : Int32) ∧ (0 : Int32) ≤ 3 ∧ p1 = 0 then (by first | exact (if_pos hE).symm | (exfalso; simp only [i_lt, i_le, i_eq] at hE c_3; omega)) else (by first | exact (if_neg hE).symm | (exfalso; simp only [i_lt, i_le, i_eq] at hE c_3; omega))) [] (by decide) rfl (by decide) (by decide) dX10_mark_71
        · skip
          refine j_aload_n (pc := 13) C dX10_mark_13 rfl 0 rfl ?_
          refine j_get (pc := 14) (ci := 10) (v := .ref t42) C inw_10 0 rfl rfl 4 (by decide) wd_86 rfl rfl dX10_mark_14 ?_
          refine j_iload_n (pc := 17) C dX10_mark_17 rfl 1 rfl ?_
          refine j_aald (pc := 18) (v := .ref t60) (k := 0) C 6 4 rfl rfl (by decide) (by decide) (by decide) rfl dX10_mark_18 ?_
          refine j_get (pc := 19) (ci := 7) (v := .int 0) C inw_7 7 rfl rfl 6 (by decide) wd_252 rfl rfl dX10_mark_19 ?_
          refine j_if_ne_f (pc := 22) (tgt := 27) C dX10_mark_22 (by decide) (by decide) ?_
          refine j_iconst (pc := 25) (v := 0) C dX10_mark_25 (by decide) ?_
          exact j_zret (pc := 26) C hr rfl hk (fun _ => 0, fun _ => 0, fun _ _ => 0) rfl (by show (0 : Int32) = (if 0 ≤ (0 : Int32) ∧ (0 : Int32) ≤ 3 ∧ p1 = 0 then 1 else 0); have e0 : (0 : Int32).toInt = 0 := rfl; have e3 : (3 : Int32).toInt = 3 := rfl; exact if hE : 0 ≤ (0 : Int32) ∧ (0 : Int32) ≤ 3 ∧ p1 = 0 then (by first | exact (if_pos hE).symm | (exfalso; simp only [i_lt, i_le, i_eq] at hE c_3; omega)) else (by first | exact (if_neg hE).symm | (exfalso; simp only [i_lt, i_le, i_eq] at hE c_3; omega))) [] (by decide) rfl (by decide) (by decide) dX10_mark_26
      · skip
        refine j_iload_n (pc := 9) C dX10_mark_9 rfl 2 rfl ?_
        refine j_if_eq (pc := 10) (tgt := 27) C dX10_mark_10 (by decide) (fun c_6 => ?_) (fun c_6 => ?_)
        · skip
          refine j_iload_n (pc := 27) C dX10_mark_27 rfl 2 rfl ?_
          refine j_if_eq_t (pc := 28) (tgt := 47) C dX10_mark_28 (by decide) (br_eqt_eq c_6) ?_
          refine j_aload_n (pc := 47) C dX10_mark_47 rfl 0 rfl ?_
          refine j_get (pc := 48) (ci := 10) (v := .ref t42) C inw_10 0 rfl rfl 4 (by decide) wd_86 rfl rfl dX10_mark_48 ?_
          refine j_iload_n (pc := 51) C dX10_mark_51 rfl 1 rfl ?_
          refine j_aald (pc := 52) (v := .ref t65) (k := 1) C 6 4 rfl rfl (by decide) (by decide) (by decide) rfl dX10_mark_52 ?_
          refine j_aload_n (pc := 53) C dX10_mark_53 rfl 0 rfl ?_
          refine j_get (pc := 54) (ci := 10) (v := .ref t32) C inw_10 0 rfl rfl 2 (by decide) wd_84 rfl rfl dX10_mark_54 ?_
          refine j_callV (pc := 57) (As := [.ref t32]) (rest := []) (wr := [(t0, .inr (10, [.ref t1, .ref t21, .ref t32, .ref t37, .ref t42, .ref t43, .ref t45, .ref t50, .ref t54, .ref t58])), (t42, .inl (cyO, 4, .inr (.inr (.inr (.inr (va_up (va_up (va_up (va_up (fun _ => none) 0 (some t60)) 1 (some t65)) 2 (some t70)) 3 (some t75))))))), (t60, .inr (7, [.ref t61, .ref t62, .ref t63, .ref t64, .int 0, .int 0, .int 0])), (t61, .inl (cyI, 12, .inl (fun _ => (-1)))), (t62, .inl (cyI, 12, .inl (fun _ => 0))), (t63, .inl (cyI, 12, .inl (fun _ => 0))), (t64, .inl (cyI, 30, .inl (fun _ => 0))), (t70, .inr (7, [.ref t71, .ref t72, .ref t73, .ref t74, .int 0, .int 0, .int 0])), (t71, .inl (cyI, 12, .inl (fun _ => (-1)))), (t72, .inl (cyI, 12, .inl (fun _ => 0))), (t73, .inl (cyI, 12, .inl (fun _ => 0))), (t74, .inl (cyI, 30, .inl (fun _ => 0))), (t75, .inr (7, [.ref t76, .ref t77, .ref t78, .ref t79, .int 0, .int 0, .int 0])), (t76, .inl (cyI, 12, .inl (fun _ => (-1)))), (t77, .inl (cyI, 12, .inl (fun _ => 0))), (t78, .inl (cyI, 12, .inl (fun _ => 0))), (t79, .inl (cyI, 30, .inl (fun _ => 0)))]) C (c_X7_copy_3 l D cyC cyI cyJ cyZ cyO t65 t32 t33 t34 t35 t36 t66 t67 t68 t69) wd_300 wd_80 wd_301 wd_302 wd_303 ⟨by decide, by decide, rfl⟩ rfl ⟨rfl, rfl, by decide, by decide⟩ ⟨by decide, by decide⟩ [1, 2, 3, 4, 5, 12, 13, 14, 15, 16] [0, 6, 7, 8, 9, 10, 11, 17, 18, 19, 20, 21, 22, 23, 24, 25, 26] rfl rfl ⟨by decide, by decide, by decide⟩ 12 rfl rfl rfl (Nat.le_of_ble_eq_true rfl) dX10_mark_57 (fun u_7 hw_8 => ?_)
          refine j_eq (ws2 := [(t0, .inr (10, [.ref t1, .ref t21, .ref t32, .ref t37, .ref t42, .ref t43, .ref t45, .ref t50, .ref t54, .ref t58])), (t42, .inl (cyO, 4, .inr (.inr (.inr (.inr (va_up (va_up (va_up (va_up (fun _ => none) 0 (some t60)) 1 (some t65)) 2 (some t70)) 3 (some t75))))))), (t60, .inr (7, [.ref t61, .ref t62, .ref t63, .ref t64, .int 0, .int 0, .int 0])), (t61, .inl (cyI, 12, .inl (fun _ => (-1)))), (t62, .inl (cyI, 12, .inl (fun _ => 0))), (t63, .inl (cyI, 12, .inl (fun _ => 0))), (t64, .inl (cyI, 30, .inl (fun _ => 0))), (t70, .inr (7, [.ref t71, .ref t72, .ref t73, .ref t74, .int 0, .int 0, .int 0])), (t71, .inl (cyI, 12, .inl (fun _ => (-1)))), (t72, .inl (cyI, 12, .inl (fun _ => 0))), (t73, .inl (cyI, 12, .inl (fun _ => 0))), (t74, .inl (cyI, 30, .inl (fun _ => 0))), (t75, .inr (7, [.ref t76, .ref t77, .ref t78, .ref t79, .int 0, .int 0, .int 0])), (t76, .inl (cyI, 12, .inl (fun _ => (-1)))), (t77, .inl (cyI, 12, .inl (fun _ => 0))), (t78, .inl (cyI, 12, .inl (fun _ => 0))), (t79, .inl (cyI, 30, .inl (fun _ => 0))), (t32, .inr (7, [.ref t33, .ref t34, .ref t35, .ref t36, .int 0, .int 0, .int 0])), (t33, .inl (cyI, 12, .inl (fun _ => (-1)))), (t34, .inl (cyI, 12, .inl (fun _ => 0))), (t35, .inl (cyI, 12, .inl (fun _ => 0))), (t36, .inl (cyI, 30, .inl (fun _ => 0))), (t65, .inr (7, [.ref t66, .ref t67, .ref t68, .ref t69, .int 0, .int 0, .int 0])), (t66, .inl (cyI, 12, .inl (va_cpy (fun _ => (-1)) (fun _ => (-1)) 0 0 12))), (t67, .inl (cyI, 12, .inl (va_cpy (fun _ => 0) (fun _ => 0) 0 0 12))), (t68, .inl (cyI, 12, .inl (va_cpy (fun _ => 0) (fun _ => 0) 0 0 12))), (t69, .inl (cyI, 30, .inl (va_cpy (fun _ => 0) (fun _ => 0) 0 0 30)))]) (pc2 := 60) (lv2 := [(0, .ref t0), (1, .int 1), (2, .int p1)]) (st2 := []) rfl rfl rfl rfl ?_
          refine j_aload_n (pc := 60) C dX10_mark_60 rfl 0 rfl ?_
          refine j_get (pc := 61) (ci := 10) (v := .ref t42) C inw_10 0 rfl rfl 4 (by decide) wd_86 rfl rfl dX10_mark_61 ?_
          refine j_iload_n (pc := 64) C dX10_mark_64 rfl 1 rfl ?_
          refine j_aald (pc := 65) (v := .ref t65) (k := 1) C 1 4 rfl rfl (by decide) (by decide) (by decide) rfl dX10_mark_65 ?_
          refine j_iconst (pc := 66) (v := 1) C dX10_mark_66 (by decide) ?_
          refine j_put (pc := 67) (ci := 7) (v := .int 1) (ws' := [(t0, .inr (10, [.ref t1, .ref t21, .ref t32, .ref t37, .ref t42, .ref t43, .ref t45, .ref t50, .ref t54, .ref t58])), (t42, .inl (cyO, 4, .inr (.inr (.inr (.inr (va_up (va_up (va_up (va_up (fun _ => none) 0 (some t60)) 1 (some t65)) 2 (some t70)) 3 (some t75))))))), (t60, .inr (7, [.ref t61, .ref t62, .ref t63, .ref t64, .int 0, .int 0, .int 0])), (t61, .inl (cyI, 12, .inl (fun _ => (-1)))), (t62, .inl (cyI, 12, .inl (fun _ => 0))), (t63, .inl (cyI, 12, .inl (fun _ => 0))), (t64, .inl (cyI, 30, .inl (fun _ => 0))), (t70, .inr (7, [.ref t71, .ref t72, .ref t73, .ref t74, .int 0, .int 0, .int 0])), (t71, .inl (cyI, 12, .inl (fun _ => (-1)))), (t72, .inl (cyI, 12, .inl (fun _ => 0))), (t73, .inl (cyI, 12, .inl (fun _ => 0))), (t74, .inl (cyI, 30, .inl (fun _ => 0))), (t75, .inr (7, [.ref t76, .ref t77, .ref t78, .ref t79, .int 0, .int 0, .int 0])), (t76, .inl (cyI, 12, .inl (fun _ => (-1)))), (t77, .inl (cyI, 12, .inl (fun _ => 0))), (t78, .inl (cyI, 12, .inl (fun _ => 0))), (t79, .inl (cyI, 30, .inl (fun _ => 0))), (t32, .inr (7, [.ref t33, .ref t34, .ref t35, .ref t36, .int 0, .int 0, .int 0])), (t33, .inl (cyI, 12, .inl (fun _ => (-1)))), (t34, .inl (cyI, 12, .inl (fun _ => 0))), (t35, .inl (cyI, 12, .inl (fun _ => 0))), (t36, .inl (cyI, 30, .inl (fun _ => 0))), (t65, .inr (7, [.ref t66, .ref t67, .ref t68, .ref t69, .int 0, .int 0, .int 1])), (t66, .inl (cyI, 12, .inl (va_cpy (fun _ => (-1)) (fun _ => (-1)) 0 0 12))), (t67, .inl (cyI, 12, .inl (va_cpy (fun _ => 0) (fun _ => 0) 0 0 12))), (t68, .inl (cyI, 12, .inl (va_cpy (fun _ => 0) (fun _ => 0) 0 0 12))), (t69, .inl (cyI, 30, .inl (va_cpy (fun _ => 0) (fun _ => 0) 0 0 30)))]) C inw_7 22 rfl rfl 6 (by decide) wd_252 rfl tyX7_ok nmX7 rfl (tyX7_ok 6 (by decide)) rfl rfl (Nat.le_of_ble_eq_true rfl) dX10_mark_67 rfl ?_
          refine j_iconst (pc := 70) (v := 1) C dX10_mark_70 (by decide) ?_
          exact j_zret (pc := 71) C hr rfl hk (fun _ => 0, fun _ => 1, fun _ _ => 0) rfl (by show (1 : Int32) = (if 0 ≤ (1 : Int32) ∧ (1 : Int32) ≤ 3 ∧ p1 = 0 then 1 else 0); have e0 : (0 : Int32).toInt = 0 := rfl; have e1 : (1 : Int32).toInt = 1 := rfl; have e3 : (3 : Int32).toInt = 3 := rfl; exact if hE : 0 ≤ (1 : Int32) ∧ (1 : Int32) ≤ 3 ∧ p1 = 0 then (by first | exact (if_pos hE).symm | (exfalso; simp only [i_lt, i_le, i_eq] at hE c_6; omega)) else (by first | exact (if_neg hE).symm | (exfalso; simp only [i_lt, i_le, i_eq] at hE c_6; omega))) [] (by decide) rfl (by decide) (by decide) dX10_mark_71
        · skip
          refine j_aload_n (pc := 13) C dX10_mark_13 rfl 0 rfl ?_
          refine j_get (pc := 14) (ci := 10) (v := .ref t42) C inw_10 0 rfl rfl 4 (by decide) wd_86 rfl rfl dX10_mark_14 ?_
          refine j_iload_n (pc := 17) C dX10_mark_17 rfl 1 rfl ?_
          refine j_aald (pc := 18) (v := .ref t65) (k := 1) C 6 4 rfl rfl (by decide) (by decide) (by decide) rfl dX10_mark_18 ?_
          refine j_get (pc := 19) (ci := 7) (v := .int 0) C inw_7 12 rfl rfl 6 (by decide) wd_252 rfl rfl dX10_mark_19 ?_
          refine j_if_ne_f (pc := 22) (tgt := 27) C dX10_mark_22 (by decide) (by decide) ?_
          refine j_iconst (pc := 25) (v := 0) C dX10_mark_25 (by decide) ?_
          exact j_zret (pc := 26) C hr rfl hk (fun _ => 0, fun _ => 0, fun _ _ => 0) rfl (by show (0 : Int32) = (if 0 ≤ (1 : Int32) ∧ (1 : Int32) ≤ 3 ∧ p1 = 0 then 1 else 0); have e0 : (0 : Int32).toInt = 0 := rfl; have e1 : (1 : Int32).toInt = 1 := rfl; have e3 : (3 : Int32).toInt = 3 := rfl; exact if hE : 0 ≤ (1 : Int32) ∧ (1 : Int32) ≤ 3 ∧ p1 = 0 then (by first | exact (if_pos hE).symm | (exfalso; simp only [i_lt, i_le, i_eq] at hE c_6; omega)) else (by first | exact (if_neg hE).symm | (exfalso; simp only [i_lt, i_le, i_eq] at hE c_6; omega))) [] (by decide) rfl (by decide) (by decide) dX10_mark_26
      · skip
        refine j_iload_n (pc := 9) C dX10_mark_9 rfl 2 rfl ?_
        refine j_if_eq (pc := 10) (tgt := 27) C dX10_mark_10 (by decide) (fun c_9 => ?_) (fun c_9 => ?_)
        · skip
          refine j_iload_n (pc := 27) C dX10_mark_27 rfl 2 rfl ?_
          refine j_if_eq_t (pc := 28) (tgt := 47) C dX10_mark_28 (by decide) (br_eqt_eq c_9) ?_
          refine j_aload_n (pc := 47) C dX10_mark_47 rfl 0 rfl ?_
          refine j_get (pc := 48) (ci := 10) (v := .ref t42) C inw_10 0 rfl rfl 4 (by decide) wd_86 rfl rfl dX10_mark_48 ?_
          refine j_iload_n (pc := 51) C dX10_mark_51 rfl 1 rfl ?_
          refine j_aald (pc := 52) (v := .ref t70) (k := 2) C 6 4 rfl rfl (by decide) (by decide) (by decide) rfl dX10_mark_52 ?_
          refine j_aload_n (pc := 53) C dX10_mark_53 rfl 0 rfl ?_
          refine j_get (pc := 54) (ci := 10) (v := .ref t32) C inw_10 0 rfl rfl 2 (by decide) wd_84 rfl rfl dX10_mark_54 ?_
          refine j_callV (pc := 57) (As := [.ref t32]) (rest := []) (wr := [(t0, .inr (10, [.ref t1, .ref t21, .ref t32, .ref t37, .ref t42, .ref t43, .ref t45, .ref t50, .ref t54, .ref t58])), (t42, .inl (cyO, 4, .inr (.inr (.inr (.inr (va_up (va_up (va_up (va_up (fun _ => none) 0 (some t60)) 1 (some t65)) 2 (some t70)) 3 (some t75))))))), (t60, .inr (7, [.ref t61, .ref t62, .ref t63, .ref t64, .int 0, .int 0, .int 0])), (t61, .inl (cyI, 12, .inl (fun _ => (-1)))), (t62, .inl (cyI, 12, .inl (fun _ => 0))), (t63, .inl (cyI, 12, .inl (fun _ => 0))), (t64, .inl (cyI, 30, .inl (fun _ => 0))), (t65, .inr (7, [.ref t66, .ref t67, .ref t68, .ref t69, .int 0, .int 0, .int 0])), (t66, .inl (cyI, 12, .inl (fun _ => (-1)))), (t67, .inl (cyI, 12, .inl (fun _ => 0))), (t68, .inl (cyI, 12, .inl (fun _ => 0))), (t69, .inl (cyI, 30, .inl (fun _ => 0))), (t75, .inr (7, [.ref t76, .ref t77, .ref t78, .ref t79, .int 0, .int 0, .int 0])), (t76, .inl (cyI, 12, .inl (fun _ => (-1)))), (t77, .inl (cyI, 12, .inl (fun _ => 0))), (t78, .inl (cyI, 12, .inl (fun _ => 0))), (t79, .inl (cyI, 30, .inl (fun _ => 0)))]) C (c_X7_copy_3 l D cyC cyI cyJ cyZ cyO t70 t32 t33 t34 t35 t36 t71 t72 t73 t74) wd_300 wd_80 wd_301 wd_302 wd_303 ⟨by decide, by decide, rfl⟩ rfl ⟨rfl, rfl, by decide, by decide⟩ ⟨by decide, by decide⟩ [1, 2, 3, 4, 5, 17, 18, 19, 20, 21] [0, 6, 7, 8, 9, 10, 11, 12, 13, 14, 15, 16, 22, 23, 24, 25, 26] rfl rfl ⟨by decide, by decide, by decide⟩ 17 rfl rfl rfl (Nat.le_of_ble_eq_true rfl) dX10_mark_57 (fun u_10 hw_11 => ?_)
          refine j_eq (ws2 := [(t0, .inr (10, [.ref t1, .ref t21, .ref t32, .ref t37, .ref t42, .ref t43, .ref t45, .ref t50, .ref t54, .ref t58])), (t42, .inl (cyO, 4, .inr (.inr (.inr (.inr (va_up (va_up (va_up (va_up (fun _ => none) 0 (some t60)) 1 (some t65)) 2 (some t70)) 3 (some t75))))))), (t60, .inr (7, [.ref t61, .ref t62, .ref t63, .ref t64, .int 0, .int 0, .int 0])), (t61, .inl (cyI, 12, .inl (fun _ => (-1)))), (t62, .inl (cyI, 12, .inl (fun _ => 0))), (t63, .inl (cyI, 12, .inl (fun _ => 0))), (t64, .inl (cyI, 30, .inl (fun _ => 0))), (t65, .inr (7, [.ref t66, .ref t67, .ref t68, .ref t69, .int 0, .int 0, .int 0])), (t66, .inl (cyI, 12, .inl (fun _ => (-1)))), (t67, .inl (cyI, 12, .inl (fun _ => 0))), (t68, .inl (cyI, 12, .inl (fun _ => 0))), (t69, .inl (cyI, 30, .inl (fun _ => 0))), (t75, .inr (7, [.ref t76, .ref t77, .ref t78, .ref t79, .int 0, .int 0, .int 0])), (t76, .inl (cyI, 12, .inl (fun _ => (-1)))), (t77, .inl (cyI, 12, .inl (fun _ => 0))), (t78, .inl (cyI, 12, .inl (fun _ => 0))), (t79, .inl (cyI, 30, .inl (fun _ => 0))), (t32, .inr (7, [.ref t33, .ref t34, .ref t35, .ref t36, .int 0, .int 0, .int 0])), (t33, .inl (cyI, 12, .inl (fun _ => (-1)))), (t34, .inl (cyI, 12, .inl (fun _ => 0))), (t35, .inl (cyI, 12, .inl (fun _ => 0))), (t36, .inl (cyI, 30, .inl (fun _ => 0))), (t70, .inr (7, [.ref t71, .ref t72, .ref t73, .ref t74, .int 0, .int 0, .int 0])), (t71, .inl (cyI, 12, .inl (va_cpy (fun _ => (-1)) (fun _ => (-1)) 0 0 12))), (t72, .inl (cyI, 12, .inl (va_cpy (fun _ => 0) (fun _ => 0) 0 0 12))), (t73, .inl (cyI, 12, .inl (va_cpy (fun _ => 0) (fun _ => 0) 0 0 12))), (t74, .inl (cyI, 30, .inl (va_cpy (fun _ => 0) (fun _ => 0) 0 0 30)))]) (pc2 := 60) (lv2 := [(0, .ref t0), (1, .int 2), (2, .int p1)]) (st2 := []) rfl rfl rfl rfl ?_
          refine j_aload_n (pc := 60) C dX10_mark_60 rfl 0 rfl ?_
          refine j_get (pc := 61) (ci := 10) (v := .ref t42) C inw_10 0 rfl rfl 4 (by decide) wd_86 rfl rfl dX10_mark_61 ?_
          refine j_iload_n (pc := 64) C dX10_mark_64 rfl 1 rfl ?_
          refine j_aald (pc := 65) (v := .ref t70) (k := 2) C 1 4 rfl rfl (by decide) (by decide) (by decide) rfl dX10_mark_65 ?_
          refine j_iconst (pc := 66) (v := 1) C dX10_mark_66 (by decide) ?_
          refine j_put (pc := 67) (ci := 7) (v := .int 1) (ws' := [(t0, .inr (10, [.ref t1, .ref t21, .ref t32, .ref t37, .ref t42, .ref t43, .ref t45, .ref t50, .ref t54, .ref t58])), (t42, .inl (cyO, 4, .inr (.inr (.inr (.inr (va_up (va_up (va_up (va_up (fun _ => none) 0 (some t60)) 1 (some t65)) 2 (some t70)) 3 (some t75))))))), (t60, .inr (7, [.ref t61, .ref t62, .ref t63, .ref t64, .int 0, .int 0, .int 0])), (t61, .inl (cyI, 12, .inl (fun _ => (-1)))), (t62, .inl (cyI, 12, .inl (fun _ => 0))), (t63, .inl (cyI, 12, .inl (fun _ => 0))), (t64, .inl (cyI, 30, .inl (fun _ => 0))), (t65, .inr (7, [.ref t66, .ref t67, .ref t68, .ref t69, .int 0, .int 0, .int 0])), (t66, .inl (cyI, 12, .inl (fun _ => (-1)))), (t67, .inl (cyI, 12, .inl (fun _ => 0))), (t68, .inl (cyI, 12, .inl (fun _ => 0))), (t69, .inl (cyI, 30, .inl (fun _ => 0))), (t75, .inr (7, [.ref t76, .ref t77, .ref t78, .ref t79, .int 0, .int 0, .int 0])), (t76, .inl (cyI, 12, .inl (fun _ => (-1)))), (t77, .inl (cyI, 12, .inl (fun _ => 0))), (t78, .inl (cyI, 12, .inl (fun _ => 0))), (t79, .inl (cyI, 30, .inl (fun _ => 0))), (t32, .inr (7, [.ref t33, .ref t34, .ref t35, .ref t36, .int 0, .int 0, .int 0])), (t33, .inl (cyI, 12, .inl (fun _ => (-1)))), (t34, .inl (cyI, 12, .inl (fun _ => 0))), (t35, .inl (cyI, 12, .inl (fun _ => 0))), (t36, .inl (cyI, 30, .inl (fun _ => 0))), (t70, .inr (7, [.ref t71, .ref t72, .ref t73, .ref t74, .int 0, .int 0, .int 1])), (t71, .inl (cyI, 12, .inl (va_cpy (fun _ => (-1)) (fun _ => (-1)) 0 0 12))), (t72, .inl (cyI, 12, .inl (va_cpy (fun _ => 0) (fun _ => 0) 0 0 12))), (t73, .inl (cyI, 12, .inl (va_cpy (fun _ => 0) (fun _ => 0) 0 0 12))), (t74, .inl (cyI, 30, .inl (va_cpy (fun _ => 0) (fun _ => 0) 0 0 30)))]) C inw_7 22 rfl rfl 6 (by decide) wd_252 rfl tyX7_ok nmX7 rfl (tyX7_ok 6 (by decide)) rfl rfl (Nat.le_of_ble_eq_true rfl) dX10_mark_67 rfl ?_
          refine j_iconst (pc := 70) (v := 1) C dX10_mark_70 (by decide) ?_
          exact j_zret (pc := 71) C hr rfl hk (fun _ => 0, fun _ => 1, fun _ _ => 0) rfl (by show (1 : Int32) = (if 0 ≤ (2 : Int32) ∧ (2 : Int32) ≤ 3 ∧ p1 = 0 then 1 else 0); have e0 : (0 : Int32).toInt = 0 := rfl; have e2 : (2 : Int32).toInt = 2 := rfl; have e3 : (3 : Int32).toInt = 3 := rfl; exact if hE : 0 ≤ (2 : Int32) ∧ (2 : Int32) ≤ 3 ∧ p1 = 0 then (by first | exact (if_pos hE).symm | (exfalso; simp only [i_lt, i_le, i_eq] at hE c_9; omega)) else (by first | exact (if_neg hE).symm | (exfalso; simp only [i_lt, i_le, i_eq] at hE c_9; omega))) [] (by decide) rfl (by decide) (by decide) dX10_mark_71
        · skip
          refine j_aload_n (pc := 13) C dX10_mark_13 rfl 0 rfl ?_
          refine j_get (pc := 14) (ci := 10) (v := .ref t42) C inw_10 0 rfl rfl 4 (by decide) wd_86 rfl rfl dX10_mark_14 ?_
          refine j_iload_n (pc := 17) C dX10_mark_17 rfl 1 rfl ?_
          refine j_aald (pc := 18) (v := .ref t70) (k := 2) C 6 4 rfl rfl (by decide) (by decide) (by decide) rfl dX10_mark_18 ?_
          refine j_get (pc := 19) (ci := 7) (v := .int 0) C inw_7 17 rfl rfl 6 (by decide) wd_252 rfl rfl dX10_mark_19 ?_
          refine j_if_ne_f (pc := 22) (tgt := 27) C dX10_mark_22 (by decide) (by decide) ?_
          refine j_iconst (pc := 25) (v := 0) C dX10_mark_25 (by decide) ?_
          exact j_zret (pc := 26) C hr rfl hk (fun _ => 0, fun _ => 0, fun _ _ => 0) rfl (by show (0 : Int32) = (if 0 ≤ (2 : Int32) ∧ (2 : Int32) ≤ 3 ∧ p1 = 0 then 1 else 0); have e0 : (0 : Int32).toInt = 0 := rfl; have e2 : (2 : Int32).toInt = 2 := rfl; have e3 : (3 : Int32).toInt = 3 := rfl; exact if hE : 0 ≤ (2 : Int32) ∧ (2 : Int32) ≤ 3 ∧ p1 = 0 then (by first | exact (if_pos hE).symm | (exfalso; simp only [i_lt, i_le, i_eq] at hE c_9; omega)) else (by first | exact (if_neg hE).symm | (exfalso; simp only [i_lt, i_le, i_eq] at hE c_9; omega))) [] (by decide) rfl (by decide) (by decide) dX10_mark_26
      · skip
        refine j_iload_n (pc := 9) C dX10_mark_9 rfl 2 rfl ?_
        refine j_if_eq (pc := 10) (tgt := 27) C dX10_mark_10 (by decide) (fun c_12 => ?_) (fun c_12 => ?_)
        · skip
          refine j_iload_n (pc := 27) C dX10_mark_27 rfl 2 rfl ?_
          refine j_if_eq_t (pc := 28) (tgt := 47) C dX10_mark_28 (by decide) (br_eqt_eq c_12) ?_
          refine j_aload_n (pc := 47) C dX10_mark_47 rfl 0 rfl ?_
          refine j_get (pc := 48) (ci := 10) (v := .ref t42) C inw_10 0 rfl rfl 4 (by decide) wd_86 rfl rfl dX10_mark_48 ?_
          refine j_iload_n (pc := 51) C dX10_mark_51 rfl 1 rfl ?_
          refine j_aald (pc := 52) (v := .ref t75) (k := 3) C 6 4 rfl rfl (by decide) (by decide) (by decide) rfl dX10_mark_52 ?_
          refine j_aload_n (pc := 53) C dX10_mark_53 rfl 0 rfl ?_
          refine j_get (pc := 54) (ci := 10) (v := .ref t32) C inw_10 0 rfl rfl 2 (by decide) wd_84 rfl rfl dX10_mark_54 ?_
          refine j_callV (pc := 57) (As := [.ref t32]) (rest := []) (wr := [(t0, .inr (10, [.ref t1, .ref t21, .ref t32, .ref t37, .ref t42, .ref t43, .ref t45, .ref t50, .ref t54, .ref t58])), (t42, .inl (cyO, 4, .inr (.inr (.inr (.inr (va_up (va_up (va_up (va_up (fun _ => none) 0 (some t60)) 1 (some t65)) 2 (some t70)) 3 (some t75))))))), (t60, .inr (7, [.ref t61, .ref t62, .ref t63, .ref t64, .int 0, .int 0, .int 0])), (t61, .inl (cyI, 12, .inl (fun _ => (-1)))), (t62, .inl (cyI, 12, .inl (fun _ => 0))), (t63, .inl (cyI, 12, .inl (fun _ => 0))), (t64, .inl (cyI, 30, .inl (fun _ => 0))), (t65, .inr (7, [.ref t66, .ref t67, .ref t68, .ref t69, .int 0, .int 0, .int 0])), (t66, .inl (cyI, 12, .inl (fun _ => (-1)))), (t67, .inl (cyI, 12, .inl (fun _ => 0))), (t68, .inl (cyI, 12, .inl (fun _ => 0))), (t69, .inl (cyI, 30, .inl (fun _ => 0))), (t70, .inr (7, [.ref t71, .ref t72, .ref t73, .ref t74, .int 0, .int 0, .int 0])), (t71, .inl (cyI, 12, .inl (fun _ => (-1)))), (t72, .inl (cyI, 12, .inl (fun _ => 0))), (t73, .inl (cyI, 12, .inl (fun _ => 0))), (t74, .inl (cyI, 30, .inl (fun _ => 0)))]) C (c_X7_copy_3 l D cyC cyI cyJ cyZ cyO t75 t32 t33 t34 t35 t36 t76 t77 t78 t79) wd_300 wd_80 wd_301 wd_302 wd_303 ⟨by decide, by decide, rfl⟩ rfl ⟨rfl, rfl, by decide, by decide⟩ ⟨by decide, by decide⟩ [1, 2, 3, 4, 5, 22, 23, 24, 25, 26] [0, 6, 7, 8, 9, 10, 11, 12, 13, 14, 15, 16, 17, 18, 19, 20, 21] rfl rfl ⟨by decide, by decide, by decide⟩ 22 rfl rfl rfl (Nat.le_of_ble_eq_true rfl) dX10_mark_57 (fun u_13 hw_14 => ?_)
          refine j_eq (ws2 := [(t0, .inr (10, [.ref t1, .ref t21, .ref t32, .ref t37, .ref t42, .ref t43, .ref t45, .ref t50, .ref t54, .ref t58])), (t42, .inl (cyO, 4, .inr (.inr (.inr (.inr (va_up (va_up (va_up (va_up (fun _ => none) 0 (some t60)) 1 (some t65)) 2 (some t70)) 3 (some t75))))))), (t60, .inr (7, [.ref t61, .ref t62, .ref t63, .ref t64, .int 0, .int 0, .int 0])), (t61, .inl (cyI, 12, .inl (fun _ => (-1)))), (t62, .inl (cyI, 12, .inl (fun _ => 0))), (t63, .inl (cyI, 12, .inl (fun _ => 0))), (t64, .inl (cyI, 30, .inl (fun _ => 0))), (t65, .inr (7, [.ref t66, .ref t67, .ref t68, .ref t69, .int 0, .int 0, .int 0])), (t66, .inl (cyI, 12, .inl (fun _ => (-1)))), (t67, .inl (cyI, 12, .inl (fun _ => 0))), (t68, .inl (cyI, 12, .inl (fun _ => 0))), (t69, .inl (cyI, 30, .inl (fun _ => 0))), (t70, .inr (7, [.ref t71, .ref t72, .ref t73, .ref t74, .int 0, .int 0, .int 0])), (t71, .inl (cyI, 12, .inl (fun _ => (-1)))), (t72, .inl (cyI, 12, .inl (fun _ => 0))), (t73, .inl (cyI, 12, .inl (fun _ => 0))), (t74, .inl (cyI, 30, .inl (fun _ => 0))), (t32, .inr (7, [.ref t33, .ref t34, .ref t35, .ref t36, .int 0, .int 0, .int 0])), (t33, .inl (cyI, 12, .inl (fun _ => (-1)))), (t34, .inl (cyI, 12, .inl (fun _ => 0))), (t35, .inl (cyI, 12, .inl (fun _ => 0))), (t36, .inl (cyI, 30, .inl (fun _ => 0))), (t75, .inr (7, [.ref t76, .ref t77, .ref t78, .ref t79, .int 0, .int 0, .int 0])), (t76, .inl (cyI, 12, .inl (va_cpy (fun _ => (-1)) (fun _ => (-1)) 0 0 12))), (t77, .inl (cyI, 12, .inl (va_cpy (fun _ => 0) (fun _ => 0) 0 0 12))), (t78, .inl (cyI, 12, .inl (va_cpy (fun _ => 0) (fun _ => 0) 0 0 12))), (t79, .inl (cyI, 30, .inl (va_cpy (fun _ => 0) (fun _ => 0) 0 0 30)))]) (pc2 := 60) (lv2 := [(0, .ref t0), (1, .int 3), (2, .int p1)]) (st2 := []) rfl rfl rfl rfl ?_
          refine j_aload_n (pc := 60) C dX10_mark_60 rfl 0 rfl ?_
          refine j_get (pc := 61) (ci := 10) (v := .ref t42) C inw_10 0 rfl rfl 4 (by decide) wd_86 rfl rfl dX10_mark_61 ?_
          refine j_iload_n (pc := 64) C dX10_mark_64 rfl 1 rfl ?_
          refine j_aald (pc := 65) (v := .ref t75) (k := 3) C 1 4 rfl rfl (by decide) (by decide) (by decide) rfl dX10_mark_65 ?_
          refine j_iconst (pc := 66) (v := 1) C dX10_mark_66 (by decide) ?_
          refine j_put (pc := 67) (ci := 7) (v := .int 1) (ws' := [(t0, .inr (10, [.ref t1, .ref t21, .ref t32, .ref t37, .ref t42, .ref t43, .ref t45, .ref t50, .ref t54, .ref t58])), (t42, .inl (cyO, 4, .inr (.inr (.inr (.inr (va_up (va_up (va_up (va_up (fun _ => none) 0 (some t60)) 1 (some t65)) 2 (some t70)) 3 (some t75))))))), (t60, .inr (7, [.ref t61, .ref t62, .ref t63, .ref t64, .int 0, .int 0, .int 0])), (t61, .inl (cyI, 12, .inl (fun _ => (-1)))), (t62, .inl (cyI, 12, .inl (fun _ => 0))), (t63, .inl (cyI, 12, .inl (fun _ => 0))), (t64, .inl (cyI, 30, .inl (fun _ => 0))), (t65, .inr (7, [.ref t66, .ref t67, .ref t68, .ref t69, .int 0, .int 0, .int 0])), (t66, .inl (cyI, 12, .inl (fun _ => (-1)))), (t67, .inl (cyI, 12, .inl (fun _ => 0))), (t68, .inl (cyI, 12, .inl (fun _ => 0))), (t69, .inl (cyI, 30, .inl (fun _ => 0))), (t70, .inr (7, [.ref t71, .ref t72, .ref t73, .ref t74, .int 0, .int 0, .int 0])), (t71, .inl (cyI, 12, .inl (fun _ => (-1)))), (t72, .inl (cyI, 12, .inl (fun _ => 0))), (t73, .inl (cyI, 12, .inl (fun _ => 0))), (t74, .inl (cyI, 30, .inl (fun _ => 0))), (t32, .inr (7, [.ref t33, .ref t34, .ref t35, .ref t36, .int 0, .int 0, .int 0])), (t33, .inl (cyI, 12, .inl (fun _ => (-1)))), (t34, .inl (cyI, 12, .inl (fun _ => 0))), (t35, .inl (cyI, 12, .inl (fun _ => 0))), (t36, .inl (cyI, 30, .inl (fun _ => 0))), (t75, .inr (7, [.ref t76, .ref t77, .ref t78, .ref t79, .int 0, .int 0, .int 1])), (t76, .inl (cyI, 12, .inl (va_cpy (fun _ => (-1)) (fun _ => (-1)) 0 0 12))), (t77, .inl (cyI, 12, .inl (va_cpy (fun _ => 0) (fun _ => 0) 0 0 12))), (t78, .inl (cyI, 12, .inl (va_cpy (fun _ => 0) (fun _ => 0) 0 0 12))), (t79, .inl (cyI, 30, .inl (va_cpy (fun _ => 0) (fun _ => 0) 0 0 30)))]) C inw_7 22 rfl rfl 6 (by decide) wd_252 rfl tyX7_ok nmX7 rfl (tyX7_ok 6 (by decide)) rfl rfl (Nat.le_of_ble_eq_true rfl) dX10_mark_67 rfl ?_
          refine j_iconst (pc := 70) (v := 1) C dX10_mark_70 (by decide) ?_
          exact j_zret (pc := 71) C hr rfl hk (fun _ => 0, fun _ => 1, fun _ _ => 0) rfl (by show (1 : Int32) = (if 0 ≤ (3 : Int32) ∧ (3 : Int32) ≤ 3 ∧ p1 = 0 then 1 else 0); have e0 : (0 : Int32).toInt = 0 := rfl; have e3 : (3 : Int32).toInt = 3 := rfl; exact if hE : 0 ≤ (3 : Int32) ∧ (3 : Int32) ≤ 3 ∧ p1 = 0 then (by first | exact (if_pos hE).symm | (exfalso; simp only [i_lt, i_le, i_eq] at hE c_12; omega)) else (by first | exact (if_neg hE).symm | (exfalso; simp only [i_lt, i_le, i_eq] at hE c_12; omega))) [] (by decide) rfl (by decide) (by decide) dX10_mark_71
        · skip
          refine j_aload_n (pc := 13) C dX10_mark_13 rfl 0 rfl ?_
          refine j_get (pc := 14) (ci := 10) (v := .ref t42) C inw_10 0 rfl rfl 4 (by decide) wd_86 rfl rfl dX10_mark_14 ?_
          refine j_iload_n (pc := 17) C dX10_mark_17 rfl 1 rfl ?_
          refine j_aald (pc := 18) (v := .ref t75) (k := 3) C 6 4 rfl rfl (by decide) (by decide) (by decide) rfl dX10_mark_18 ?_
          refine j_get (pc := 19) (ci := 7) (v := .int 0) C inw_7 22 rfl rfl 6 (by decide) wd_252 rfl rfl dX10_mark_19 ?_
          refine j_if_ne_f (pc := 22) (tgt := 27) C dX10_mark_22 (by decide) (by decide) ?_
          refine j_iconst (pc := 25) (v := 0) C dX10_mark_25 (by decide) ?_
          exact j_zret (pc := 26) C hr rfl hk (fun _ => 0, fun _ => 0, fun _ _ => 0) rfl (by show (0 : Int32) = (if 0 ≤ (3 : Int32) ∧ (3 : Int32) ≤ 3 ∧ p1 = 0 then 1 else 0); have e0 : (0 : Int32).toInt = 0 := rfl; have e3 : (3 : Int32).toInt = 3 := rfl; exact if hE : 0 ≤ (3 : Int32) ∧ (3 : Int32) ≤ 3 ∧ p1 = 0 then (by first | exact (if_pos hE).symm | (exfalso; simp only [i_lt, i_le, i_eq] at hE c_12; omega)) else (by first | exact (if_neg hE).symm | (exfalso; simp only [i_lt, i_le, i_eq] at hE c_12; omega))) [] (by decide) rfl (by decide) (by decide) dX10_mark_26
end
